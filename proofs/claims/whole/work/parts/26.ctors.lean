set_option maxHeartbeats 4000000 in
set_option maxRecDepth 100000 in
theorem c_X0_init (l : Launch) (dC : Nat → ClassId) (dI : Nat → Nat → Nat) (ha : Nat) (x : st_B) (sz : Nat)  : Met l yX0_init wX0_init ({ frames := 1, cells := 0, slots := 0, locals := 12 }) (sf_PV (dC, dI) vwCl [] ([wp_B ha x]) sz [.ref ha]) (sf_V (dC, dI) vwCl none ([wp_B ha x]) ([wp_B ha x])) 0 0 (va_A ([wp_B ha x]) sz) := by
  refine Met.ofW (cc := cX0_init) (maxL := 1) (ret := none) (by decide) rfl ?_
  intro p e s m args below meth c s₁ B hml hv
  have hx := B.exec
  have hb := B.bytes
  have hr := B.returns
  have hts := atoms_spec (ws := wX0_init) B.pre
  have hg : ∀ w ∈ gw_all, w.before args s = true := fun w h => hts w (List.mem_cons_of_mem _ h)
  have hown : s.vm.findClass RX0 = some m.cls := findClass_of_methodNamed B.named
  have hlocks := B.notSynchronized
  have hin : meth.name = "<init>" := (name_of_methodNamed B.named B.method).1
  obtain ⟨rfl, hsz, hP, hD0, hK, hZ⟩ := hv
  subst hsz
  have hl := lv_entry ([.ref ha]) (n := 1) (Nat.le_of_ble_eq_true rfl)
  rw [lg_entry_eq]
  generalize (lg_sl ([.ref ha]) ++ List.replicate (1 - (lg_sl ([.ref ha])).length) Slot.unset).toArray = ls at hl ⊢
  have hl : lv_has ls 1 [(0, .ref ha)] := hl
  obtain ⟨A, hAe⟩ : ∃ A : Nat → Prop, A = va_A ([wp_B ha x]) s.heap.size := ⟨_, rfl⟩
  have hD := hD0.self (sz := s.heap.size)
  rw [← hAe] at hD
  have hA : ∀ q : Nat, s.heap.size ≤ q → A q := fun q h => by rw [hAe]; exact Or.inr h
  have hS : va_S A s.heap s.heap [] := va_S.rf
  have hP : va_P (dC, dI) vwCl [(ha, .inr (0, [.int x.1, .int x.2.1, .int x.2.2.1, .int x.2.2.2.1, .double x.2.2.2.2.1, .int (sf_b x.2.2.2.2.2.1), .int x.2.2.2.2.2.2.1, .int (sf_b x.2.2.2.2.2.2.2.1), .double x.2.2.2.2.2.2.2.2.1, .double x.2.2.2.2.2.2.2.2.2.1, .int x.2.2.2.2.2.2.2.2.2.2.1, .int x.2.2.2.2.2.2.2.2.2.2.2]))] s.heap := hP
  have hD : va_D A [(ha, .inr (0, [.int x.1, .int x.2.1, .int x.2.2.1, .int x.2.2.2.1, .double x.2.2.2.2.1, .int (sf_b x.2.2.2.2.2.1), .int x.2.2.2.2.2.2.1, .int (sf_b x.2.2.2.2.2.2.2.1), .double x.2.2.2.2.2.2.2.2.1, .double x.2.2.2.2.2.2.2.2.2.1, .int x.2.2.2.2.2.2.2.2.2.2.1, .int x.2.2.2.2.2.2.2.2.2.2.2]))] := hD
  refine lv_aload_n hx hb dX0_init_0 rfl (lv_at hl 0 rfl) ?_
  refine W.objInit hx hb hown (hg (.methodLink RX0 3 objectInit) mw_80) (hg (.instanceMethod objectInit) mw_38) (hg _ mw_39) rfl (by rw [hml]; exact hl.1) rfl dX0_init_1 (Nat.le_of_ble_eq_true rfl) (Nat.le_of_ble_eq_true rfl) ?_
  refine W.eq (g2 := F0 m 4 ls []) rfl ?_
  have hP9 : va_P (dC, dI) vwCl ([wp_B ha x]) s.heap := by
    exact hP
  have hD9 : va_D A ([wp_B ha x]) := by
    exact hD
  exact W.vret hx hb hr (fun t ht _ => ⟨rfl, by rw [ht]; exact hP9, hAe ▸ hD9, hAe ▸ hS.F ht⟩) (fun q hq => by rw [← hAe]; exact hS.2.2 q hq) dX0_init_4
set_option maxHeartbeats 4000000 in
set_option maxRecDepth 100000 in
theorem c_X1_init (l : Launch) (dC : Nat → ClassId) (dI : Nat → Nat → Nat) (cI cZ : ClassId) (h0 sz : Nat) : Met l yX1_init wX1_init ({ frames := 1, cells := 7, slots := 65, locals := 12 }) (sf_PV (dC, dI) vwCl [(cI, .int), (cZ, .boolean)] ([(h0, .inr (1, [.null, .null, .null, .null, .null, .null, .null]))]) sz [.ref h0]) (sf_CQ (dC, dI) vwCl ([(h0, .inr (1, [.null, .null, .null, .null, .null, .null, .null]))]) (fun a : Nat → Nat => a 0 = h0) (fun a => wp_R cI cZ a st_R0)) 7 65 (va_A ([(h0, .inr (1, [.null, .null, .null, .null, .null, .null, .null]))]) sz) := by
  refine Met.ofW (cc := cX1_init) (maxL := 1) (ret := none) (by decide) rfl ?_
  intro p e s m args below meth c s₁ B hml hv
  have hx := B.exec
  have hb := B.bytes
  have hr := B.returns
  have hts := atoms_spec (ws := wX1_init) B.pre
  have hg : ∀ w ∈ gw_all, w.before args s = true := fun w h => hts w (List.mem_cons_of_mem _ h)
  have hown : s.vm.findClass RX1 = some m.cls := findClass_of_methodNamed B.named
  have hlocks := B.notSynchronized
  have hin : meth.name = "<init>" := (name_of_methodNamed B.named B.method).1
  obtain ⟨rfl, hsz, hP, hD0, hK, hZ⟩ := hv
  subst hsz
  have hl := lv_entry ([.ref h0]) (n := 1) (Nat.le_of_ble_eq_true rfl)
  rw [lg_entry_eq]
  generalize (lg_sl ([.ref h0]) ++ List.replicate (1 - (lg_sl ([.ref h0])).length) Slot.unset).toArray = ls at hl ⊢
  have hl : lv_has ls 1 [(0, .ref h0)] := hl
  obtain ⟨A, hAe⟩ : ∃ A : Nat → Prop, A = va_A ([(h0, .inr (1, [.null, .null, .null, .null, .null, .null, .null]))]) s.heap.size := ⟨_, rfl⟩
  have hD := hD0.self (sz := s.heap.size)
  rw [← hAe] at hD
  have hA : ∀ q : Nat, s.heap.size ≤ q → A q := fun q h => by rw [hAe]; exact Or.inr h
  have hS : va_S A s.heap s.heap [] := va_S.rf
  have hP : va_P (dC, dI) vwCl [(h0, .inr (1, [.null, .null, .null, .null, .null, .null, .null]))] s.heap := hP
  have hD : va_D A [(h0, .inr (1, [.null, .null, .null, .null, .null, .null, .null]))] := hD
  refine lv_aload_n hx hb dX1_init_0 rfl (lv_at hl 0 rfl) ?_
  refine W.objInit hx hb hown (hg (.methodLink RX1 3 objectInit) mw_46) (hg (.instanceMethod objectInit) mw_38) (hg _ mw_39) rfl (by rw [hml]; exact hl.1) rfl dX1_init_1 (Nat.le_of_ble_eq_true rfl) (Nat.le_of_ble_eq_true rfl) ?_
  refine W.eq (g2 := F0 m 4 ls []) rfl ?_
  refine lv_aload_n hx hb dX1_init_4 rfl (lv_at hl 0 rfl) ?_
  refine lv_bipush (v := 12) hx hb dX1_init_5 (by decide) ?_
  refine sf_newa (atype := .int) (a0 := (12, .inl (fun _ => 0))) hx hb (hg _ mw_73) rfl hK hP hD hS hA (fun _ => rfl) (by decide) (by decide) (by decide) (Nat.le_of_ble_eq_true rfl) (Nat.le_of_ble_eq_true rfl) dX1_init_7 0 rfl (fun _ h => h) (fun q1 H hP hD hS => ?_)
  have hP : va_P (dC, dI) vwCl [(h0, .inr (1, [.null, .null, .null, .null, .null, .null, .null])), (q1, .inl (cI, 12, .inl (fun _ => 0)))] H := hP
  have hD : va_D A [(h0, .inr (1, [.null, .null, .null, .null, .null, .null, .null])), (q1, .inl (cI, 12, .inl (fun _ => 0)))] := hD
  refine va_putF (D := (dC, dI)) (ci := 1) (v := .ref q1) (ty := .array .int) (C := RX1) (T := TX1) (N := 7) hx hb hg in_X1 tyX1 tyX1_ok nmX1 hown hK hP hD hS 0 rfl rfl 0 (by decide) (hg _ mw_47) (fun _ h9 => h9) rfl hin rfl (by decide +kernel) rfl rfl (Nat.le_of_ble_eq_true rfl) dX1_init_9 (fun H locs hP hD hS => ?_)
  have hP : va_P (dC, dI) vwCl [(h0, .inr (1, [.ref q1, .null, .null, .null, .null, .null, .null])), (q1, .inl (cI, 12, .inl (fun _ => 0)))] H := hP
  have hD : va_D A [(h0, .inr (1, [.ref q1, .null, .null, .null, .null, .null, .null])), (q1, .inl (cI, 12, .inl (fun _ => 0)))] := hD
  refine lv_aload_n hx hb dX1_init_12 rfl (lv_at hl 0 rfl) ?_
  refine lv_bipush (v := 12) hx hb dX1_init_13 (by decide) ?_
  refine sf_newa (atype := .int) (a0 := (12, .inl (fun _ => 0))) hx hb (hg _ mw_73) rfl hK hP hD hS hA (fun _ => rfl) (by decide) (by decide) (by decide) (Nat.le_of_ble_eq_true rfl) (Nat.le_of_ble_eq_true rfl) dX1_init_15 0 rfl (fun _ h => h) (fun q2 H hP hD hS => ?_)
  have hP : va_P (dC, dI) vwCl [(h0, .inr (1, [.ref q1, .null, .null, .null, .null, .null, .null])), (q1, .inl (cI, 12, .inl (fun _ => 0))), (q2, .inl (cI, 12, .inl (fun _ => 0)))] H := hP
  have hD : va_D A [(h0, .inr (1, [.ref q1, .null, .null, .null, .null, .null, .null])), (q1, .inl (cI, 12, .inl (fun _ => 0))), (q2, .inl (cI, 12, .inl (fun _ => 0)))] := hD
  refine va_putF (D := (dC, dI)) (ci := 1) (v := .ref q2) (ty := .array .int) (C := RX1) (T := TX1) (N := 7) hx hb hg in_X1 tyX1 tyX1_ok nmX1 hown hK hP hD hS 0 rfl rfl 1 (by decide) (hg _ mw_48) (fun _ h9 => h9) rfl hin rfl (by decide +kernel) rfl rfl (Nat.le_of_ble_eq_true rfl) dX1_init_17 (fun H locs hP hD hS => ?_)
  have hP : va_P (dC, dI) vwCl [(h0, .inr (1, [.ref q1, .ref q2, .null, .null, .null, .null, .null])), (q1, .inl (cI, 12, .inl (fun _ => 0))), (q2, .inl (cI, 12, .inl (fun _ => 0)))] H := hP
  have hD : va_D A [(h0, .inr (1, [.ref q1, .ref q2, .null, .null, .null, .null, .null])), (q1, .inl (cI, 12, .inl (fun _ => 0))), (q2, .inl (cI, 12, .inl (fun _ => 0)))] := hD
  refine lv_aload_n hx hb dX1_init_20 rfl (lv_at hl 0 rfl) ?_
  refine lv_bipush (v := 12) hx hb dX1_init_21 (by decide) ?_
  refine sf_newa (atype := .boolean) (a0 := (12, .inl (fun i9 => sf_b ((fun _ => false) i9)))) hx hb (hg _ mw_71) rfl hK hP hD hS hA (fun _ => rfl) (by decide) (by decide) (by decide) (Nat.le_of_ble_eq_true rfl) (Nat.le_of_ble_eq_true rfl) dX1_init_23 1 rfl (fun _ h => h) (fun q3 H hP hD hS => ?_)
  have hP : va_P (dC, dI) vwCl [(h0, .inr (1, [.ref q1, .ref q2, .null, .null, .null, .null, .null])), (q1, .inl (cI, 12, .inl (fun _ => 0))), (q2, .inl (cI, 12, .inl (fun _ => 0))), (q3, .inl (cZ, 12, .inl (fun i9 => sf_b ((fun _ => false) i9))))] H := hP
  have hD : va_D A [(h0, .inr (1, [.ref q1, .ref q2, .null, .null, .null, .null, .null])), (q1, .inl (cI, 12, .inl (fun _ => 0))), (q2, .inl (cI, 12, .inl (fun _ => 0))), (q3, .inl (cZ, 12, .inl (fun i9 => sf_b ((fun _ => false) i9))))] := hD
  refine va_putF (D := (dC, dI)) (ci := 1) (v := .ref q3) (ty := .array .boolean) (C := RX1) (T := TX1) (N := 7) hx hb hg in_X1 tyX1 tyX1_ok nmX1 hown hK hP hD hS 0 rfl rfl 2 (by decide) (hg _ mw_49) (fun _ h9 => h9) rfl hin rfl (by decide +kernel) rfl rfl (Nat.le_of_ble_eq_true rfl) dX1_init_25 (fun H locs hP hD hS => ?_)
  have hP : va_P (dC, dI) vwCl [(h0, .inr (1, [.ref q1, .ref q2, .ref q3, .null, .null, .null, .null])), (q1, .inl (cI, 12, .inl (fun _ => 0))), (q2, .inl (cI, 12, .inl (fun _ => 0))), (q3, .inl (cZ, 12, .inl (fun i9 => sf_b ((fun _ => false) i9))))] H := hP
  have hD : va_D A [(h0, .inr (1, [.ref q1, .ref q2, .ref q3, .null, .null, .null, .null])), (q1, .inl (cI, 12, .inl (fun _ => 0))), (q2, .inl (cI, 12, .inl (fun _ => 0))), (q3, .inl (cZ, 12, .inl (fun i9 => sf_b ((fun _ => false) i9))))] := hD
  refine lv_aload_n hx hb dX1_init_28 rfl (lv_at hl 0 rfl) ?_
  refine lv_bipush (v := 8) hx hb dX1_init_29 (by decide) ?_
  refine sf_newa (atype := .boolean) (a0 := (8, .inl (fun i9 => sf_b ((fun _ => false) i9)))) hx hb (hg _ mw_71) rfl hK hP hD hS hA (fun _ => rfl) (by decide) (by decide) (by decide) (Nat.le_of_ble_eq_true rfl) (Nat.le_of_ble_eq_true rfl) dX1_init_31 1 rfl (fun _ h => h) (fun q4 H hP hD hS => ?_)
  have hP : va_P (dC, dI) vwCl [(h0, .inr (1, [.ref q1, .ref q2, .ref q3, .null, .null, .null, .null])), (q1, .inl (cI, 12, .inl (fun _ => 0))), (q2, .inl (cI, 12, .inl (fun _ => 0))), (q3, .inl (cZ, 12, .inl (fun i9 => sf_b ((fun _ => false) i9)))), (q4, .inl (cZ, 8, .inl (fun i9 => sf_b ((fun _ => false) i9))))] H := hP
  have hD : va_D A [(h0, .inr (1, [.ref q1, .ref q2, .ref q3, .null, .null, .null, .null])), (q1, .inl (cI, 12, .inl (fun _ => 0))), (q2, .inl (cI, 12, .inl (fun _ => 0))), (q3, .inl (cZ, 12, .inl (fun i9 => sf_b ((fun _ => false) i9)))), (q4, .inl (cZ, 8, .inl (fun i9 => sf_b ((fun _ => false) i9))))] := hD
  refine va_putF (D := (dC, dI)) (ci := 1) (v := .ref q4) (ty := .array .boolean) (C := RX1) (T := TX1) (N := 7) hx hb hg in_X1 tyX1 tyX1_ok nmX1 hown hK hP hD hS 0 rfl rfl 3 (by decide) (hg _ mw_50) (fun _ h9 => h9) rfl hin rfl (by decide +kernel) rfl rfl (Nat.le_of_ble_eq_true rfl) dX1_init_33 (fun H locs hP hD hS => ?_)
  have hP : va_P (dC, dI) vwCl [(h0, .inr (1, [.ref q1, .ref q2, .ref q3, .ref q4, .null, .null, .null])), (q1, .inl (cI, 12, .inl (fun _ => 0))), (q2, .inl (cI, 12, .inl (fun _ => 0))), (q3, .inl (cZ, 12, .inl (fun i9 => sf_b ((fun _ => false) i9)))), (q4, .inl (cZ, 8, .inl (fun i9 => sf_b ((fun _ => false) i9))))] H := hP
  have hD : va_D A [(h0, .inr (1, [.ref q1, .ref q2, .ref q3, .ref q4, .null, .null, .null])), (q1, .inl (cI, 12, .inl (fun _ => 0))), (q2, .inl (cI, 12, .inl (fun _ => 0))), (q3, .inl (cZ, 12, .inl (fun i9 => sf_b ((fun _ => false) i9)))), (q4, .inl (cZ, 8, .inl (fun i9 => sf_b ((fun _ => false) i9))))] := hD
  refine lv_aload_n hx hb dX1_init_36 rfl (lv_at hl 0 rfl) ?_
  refine lv_bipush (v := 15) hx hb dX1_init_37 (by decide) ?_
  refine sf_newa (atype := .boolean) (a0 := (15, .inl (fun i9 => sf_b ((fun _ => false) i9)))) hx hb (hg _ mw_71) rfl hK hP hD hS hA (fun _ => rfl) (by decide) (by decide) (by decide) (Nat.le_of_ble_eq_true rfl) (Nat.le_of_ble_eq_true rfl) dX1_init_39 1 rfl (fun _ h => h) (fun q5 H hP hD hS => ?_)
  have hP : va_P (dC, dI) vwCl [(h0, .inr (1, [.ref q1, .ref q2, .ref q3, .ref q4, .null, .null, .null])), (q1, .inl (cI, 12, .inl (fun _ => 0))), (q2, .inl (cI, 12, .inl (fun _ => 0))), (q3, .inl (cZ, 12, .inl (fun i9 => sf_b ((fun _ => false) i9)))), (q4, .inl (cZ, 8, .inl (fun i9 => sf_b ((fun _ => false) i9)))), (q5, .inl (cZ, 15, .inl (fun i9 => sf_b ((fun _ => false) i9))))] H := hP
  have hD : va_D A [(h0, .inr (1, [.ref q1, .ref q2, .ref q3, .ref q4, .null, .null, .null])), (q1, .inl (cI, 12, .inl (fun _ => 0))), (q2, .inl (cI, 12, .inl (fun _ => 0))), (q3, .inl (cZ, 12, .inl (fun i9 => sf_b ((fun _ => false) i9)))), (q4, .inl (cZ, 8, .inl (fun i9 => sf_b ((fun _ => false) i9)))), (q5, .inl (cZ, 15, .inl (fun i9 => sf_b ((fun _ => false) i9))))] := hD
  refine va_putF (D := (dC, dI)) (ci := 1) (v := .ref q5) (ty := .array .boolean) (C := RX1) (T := TX1) (N := 7) hx hb hg in_X1 tyX1 tyX1_ok nmX1 hown hK hP hD hS 0 rfl rfl 4 (by decide) (hg _ mw_51) (fun _ h9 => h9) rfl hin rfl (by decide +kernel) rfl rfl (Nat.le_of_ble_eq_true rfl) dX1_init_41 (fun H locs hP hD hS => ?_)
  have hP : va_P (dC, dI) vwCl [(h0, .inr (1, [.ref q1, .ref q2, .ref q3, .ref q4, .ref q5, .null, .null])), (q1, .inl (cI, 12, .inl (fun _ => 0))), (q2, .inl (cI, 12, .inl (fun _ => 0))), (q3, .inl (cZ, 12, .inl (fun i9 => sf_b ((fun _ => false) i9)))), (q4, .inl (cZ, 8, .inl (fun i9 => sf_b ((fun _ => false) i9)))), (q5, .inl (cZ, 15, .inl (fun i9 => sf_b ((fun _ => false) i9))))] H := hP
  have hD : va_D A [(h0, .inr (1, [.ref q1, .ref q2, .ref q3, .ref q4, .ref q5, .null, .null])), (q1, .inl (cI, 12, .inl (fun _ => 0))), (q2, .inl (cI, 12, .inl (fun _ => 0))), (q3, .inl (cZ, 12, .inl (fun i9 => sf_b ((fun _ => false) i9)))), (q4, .inl (cZ, 8, .inl (fun i9 => sf_b ((fun _ => false) i9)))), (q5, .inl (cZ, 15, .inl (fun i9 => sf_b ((fun _ => false) i9))))] := hD
  refine lv_aload_n hx hb dX1_init_44 rfl (lv_at hl 0 rfl) ?_
  refine lv_iconst (v := 3) hx hb dX1_init_45 (by decide) ?_
  refine sf_newa (atype := .int) (a0 := (3, .inl (fun _ => 0))) hx hb (hg _ mw_73) rfl hK hP hD hS hA (fun _ => rfl) (by decide) (by decide) (by decide) (Nat.le_of_ble_eq_true rfl) (Nat.le_of_ble_eq_true rfl) dX1_init_46 0 rfl (fun _ h => h) (fun q6 H hP hD hS => ?_)
  have hP : va_P (dC, dI) vwCl [(h0, .inr (1, [.ref q1, .ref q2, .ref q3, .ref q4, .ref q5, .null, .null])), (q1, .inl (cI, 12, .inl (fun _ => 0))), (q2, .inl (cI, 12, .inl (fun _ => 0))), (q3, .inl (cZ, 12, .inl (fun i9 => sf_b ((fun _ => false) i9)))), (q4, .inl (cZ, 8, .inl (fun i9 => sf_b ((fun _ => false) i9)))), (q5, .inl (cZ, 15, .inl (fun i9 => sf_b ((fun _ => false) i9)))), (q6, .inl (cI, 3, .inl (fun _ => 0)))] H := hP
  have hD : va_D A [(h0, .inr (1, [.ref q1, .ref q2, .ref q3, .ref q4, .ref q5, .null, .null])), (q1, .inl (cI, 12, .inl (fun _ => 0))), (q2, .inl (cI, 12, .inl (fun _ => 0))), (q3, .inl (cZ, 12, .inl (fun i9 => sf_b ((fun _ => false) i9)))), (q4, .inl (cZ, 8, .inl (fun i9 => sf_b ((fun _ => false) i9)))), (q5, .inl (cZ, 15, .inl (fun i9 => sf_b ((fun _ => false) i9)))), (q6, .inl (cI, 3, .inl (fun _ => 0)))] := hD
  refine va_putF (D := (dC, dI)) (ci := 1) (v := .ref q6) (ty := .array .int) (C := RX1) (T := TX1) (N := 7) hx hb hg in_X1 tyX1 tyX1_ok nmX1 hown hK hP hD hS 0 rfl rfl 5 (by decide) (hg _ mw_52) (fun _ h9 => h9) rfl hin rfl (by decide +kernel) rfl rfl (Nat.le_of_ble_eq_true rfl) dX1_init_48 (fun H locs hP hD hS => ?_)
  have hP : va_P (dC, dI) vwCl [(h0, .inr (1, [.ref q1, .ref q2, .ref q3, .ref q4, .ref q5, .ref q6, .null])), (q1, .inl (cI, 12, .inl (fun _ => 0))), (q2, .inl (cI, 12, .inl (fun _ => 0))), (q3, .inl (cZ, 12, .inl (fun i9 => sf_b ((fun _ => false) i9)))), (q4, .inl (cZ, 8, .inl (fun i9 => sf_b ((fun _ => false) i9)))), (q5, .inl (cZ, 15, .inl (fun i9 => sf_b ((fun _ => false) i9)))), (q6, .inl (cI, 3, .inl (fun _ => 0)))] H := hP
  have hD : va_D A [(h0, .inr (1, [.ref q1, .ref q2, .ref q3, .ref q4, .ref q5, .ref q6, .null])), (q1, .inl (cI, 12, .inl (fun _ => 0))), (q2, .inl (cI, 12, .inl (fun _ => 0))), (q3, .inl (cZ, 12, .inl (fun i9 => sf_b ((fun _ => false) i9)))), (q4, .inl (cZ, 8, .inl (fun i9 => sf_b ((fun _ => false) i9)))), (q5, .inl (cZ, 15, .inl (fun i9 => sf_b ((fun _ => false) i9)))), (q6, .inl (cI, 3, .inl (fun _ => 0)))] := hD
  refine lv_aload_n hx hb dX1_init_51 rfl (lv_at hl 0 rfl) ?_
  refine lv_iconst (v := 3) hx hb dX1_init_52 (by decide) ?_
  refine sf_newa (atype := .int) (a0 := (3, .inl (fun _ => 0))) hx hb (hg _ mw_73) rfl hK hP hD hS hA (fun _ => rfl) (by decide) (by decide) (by decide) (Nat.le_of_ble_eq_true rfl) (Nat.le_of_ble_eq_true rfl) dX1_init_53 0 rfl (fun _ h => h) (fun q7 H hP hD hS => ?_)
  have hP : va_P (dC, dI) vwCl [(h0, .inr (1, [.ref q1, .ref q2, .ref q3, .ref q4, .ref q5, .ref q6, .null])), (q1, .inl (cI, 12, .inl (fun _ => 0))), (q2, .inl (cI, 12, .inl (fun _ => 0))), (q3, .inl (cZ, 12, .inl (fun i9 => sf_b ((fun _ => false) i9)))), (q4, .inl (cZ, 8, .inl (fun i9 => sf_b ((fun _ => false) i9)))), (q5, .inl (cZ, 15, .inl (fun i9 => sf_b ((fun _ => false) i9)))), (q6, .inl (cI, 3, .inl (fun _ => 0))), (q7, .inl (cI, 3, .inl (fun _ => 0)))] H := hP
  have hD : va_D A [(h0, .inr (1, [.ref q1, .ref q2, .ref q3, .ref q4, .ref q5, .ref q6, .null])), (q1, .inl (cI, 12, .inl (fun _ => 0))), (q2, .inl (cI, 12, .inl (fun _ => 0))), (q3, .inl (cZ, 12, .inl (fun i9 => sf_b ((fun _ => false) i9)))), (q4, .inl (cZ, 8, .inl (fun i9 => sf_b ((fun _ => false) i9)))), (q5, .inl (cZ, 15, .inl (fun i9 => sf_b ((fun _ => false) i9)))), (q6, .inl (cI, 3, .inl (fun _ => 0))), (q7, .inl (cI, 3, .inl (fun _ => 0)))] := hD
  refine va_putF (D := (dC, dI)) (ci := 1) (v := .ref q7) (ty := .array .int) (C := RX1) (T := TX1) (N := 7) hx hb hg in_X1 tyX1 tyX1_ok nmX1 hown hK hP hD hS 0 rfl rfl 6 (by decide) (hg _ mw_54) (fun _ h9 => h9) rfl hin rfl (by decide +kernel) rfl rfl (Nat.le_of_ble_eq_true rfl) dX1_init_55 (fun H locs hP hD hS => ?_)
  have hP : va_P (dC, dI) vwCl [(h0, .inr (1, [.ref q1, .ref q2, .ref q3, .ref q4, .ref q5, .ref q6, .ref q7])), (q1, .inl (cI, 12, .inl (fun _ => 0))), (q2, .inl (cI, 12, .inl (fun _ => 0))), (q3, .inl (cZ, 12, .inl (fun i9 => sf_b ((fun _ => false) i9)))), (q4, .inl (cZ, 8, .inl (fun i9 => sf_b ((fun _ => false) i9)))), (q5, .inl (cZ, 15, .inl (fun i9 => sf_b ((fun _ => false) i9)))), (q6, .inl (cI, 3, .inl (fun _ => 0))), (q7, .inl (cI, 3, .inl (fun _ => 0)))] H := hP
  have hD : va_D A [(h0, .inr (1, [.ref q1, .ref q2, .ref q3, .ref q4, .ref q5, .ref q6, .ref q7])), (q1, .inl (cI, 12, .inl (fun _ => 0))), (q2, .inl (cI, 12, .inl (fun _ => 0))), (q3, .inl (cZ, 12, .inl (fun i9 => sf_b ((fun _ => false) i9)))), (q4, .inl (cZ, 8, .inl (fun i9 => sf_b ((fun _ => false) i9)))), (q5, .inl (cZ, 15, .inl (fun i9 => sf_b ((fun _ => false) i9)))), (q6, .inl (cI, 3, .inl (fun _ => 0))), (q7, .inl (cI, 3, .inl (fun _ => 0)))] := hD
  refine W.widen (k := 7) (n := 65) (Nat.le_of_ble_eq_true rfl) (Nat.le_of_ble_eq_true rfl) ?_
  exact W.vret hx hb hr (fun t ht _ => ⟨rfl, (fun i => match i with | 0 => h0 | 1 => q1 | 2 => q2 | 3 => q3 | 4 => q4 | 5 => q5 | 6 => q6 | _ => q7), rfl, by rw [ht]; exact hP, hAe ▸ hD, hAe ▸ hS.F ht⟩) (fun q hq => by rw [← hAe]; exact hS.2.2 q hq) dX1_init_58
