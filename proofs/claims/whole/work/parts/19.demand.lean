set_option maxHeartbeats 4000000 in
set_option maxRecDepth 100000 in
theorem c_X2_demandNumbers (l : Launch) (hlt : l.stackTraces = false) (sx : Nat → Nat) (b : Bool) : vx_Met l yX2_demandNumbers wX2_demandNumbers ({ frames := 6, cells := 1, slots := 6, locals := 82 }) (sf_PD sx [.int (sf_b b)]) (sf_XR (b = true) none) (sf_XT ex_I (b = false)) 1 6 (fun _ => False) := by
  refine vx_ofW (cc := cX2_demandNumbers) (maxL := 1) (ret := none) (by decide) rfl ?_
  intro p e s m args below meth c s₁ B hml hEx hv
  have hx := B.exec
  have hb := B.bytes
  have hr := B.returns
  have hts := atoms_spec (ws := wX2_demandNumbers) B.pre
  have hg : ∀ w ∈ gw_all, w.before args s = true := fun w h => hts w (List.mem_cons_of_mem _ h)
  have hown : s.vm.findClass RX2 = some m.cls := findClass_of_methodNamed B.named
  have hlocks := B.notSynchronized
  obtain ⟨rfl, hE⟩ := hv
  have hS : va_S (fun _ => False) s.heap s.heap [] := va_S.rf
  have hl := lv_entry ([.int (sf_b b)]) (n := 1) (Nat.le_of_ble_eq_true rfl)
  rw [lg_entry_eq]
  generalize (lg_sl ([.int (sf_b b)]) ++ List.replicate (1 - (lg_sl ([.int (sf_b b)])).length) Slot.unset).toArray = ls at hl ⊢
  have hl : lv_has ls 1 [(0, .int (sf_b b))] := hl
  refine lv_iload_n hx hb dX2_demandNumbers_0 rfl (lv_at hl 0 rfl) ?_
  refine sf_ifne (tgt := 14) hx hb dX2_demandNumbers_1 (by decide) (fun c_1 => ?_) (fun c_1 => ?_)
  · refine W.widen (k := 1) (n := 6) (by decide) (by decide) ?_
    refine vx_ret ?_
    exact W.vret hx hb hr (fun t ht _ => ⟨rfl, c_1, ht⟩) (fun _ h => nomatch h) dX2_demandNumbers_14
  · refine vx_throwS (text := ev_t0) (names := ex_N) (ik := 123) (is := 125) (ic := 127) (A := (fun _ => False)) hx hb hlt hown (by decide) (by decide) (hg _ mw_169) (hg _ mw_28) hE.2.1.1 (ex_at hg hE.1 ex_I1 ex_I2) ex_I3 hE.2.2.1 hE.2.2.2 hS (by rw [hml]; exact hl.1) dX2_demandNumbers_4 dX2_demandNumbers_7 dX2_demandNumbers_8 dX2_demandNumbers_10 dX2_demandNumbers_13 (fun x hx => (hEx x hx).elim) (by decide) (by decide) (Nat.le_of_ble_eq_true rfl) (Nat.le_of_ble_eq_true rfl) hlocks ?_ (fun _ h => nomatch h) (Nat.le_of_ble_eq_true rfl) (Nat.le_of_ble_eq_true rfl)
    exact fun t _ h1 h2 => ⟨rfl, c_1, h1, h2⟩
set_option maxHeartbeats 4000000 in
set_option maxRecDepth 100000 in
theorem c_X2_demandPlace (l : Launch) (hlt : l.stackTraces = false) (sx : Nat → Nat) (b : Bool) : vx_Met l yX2_demandPlace wX2_demandPlace ({ frames := 6, cells := 1, slots := 6, locals := 82 }) (sf_PD sx [.int (sf_b b)]) (sf_XR (b = true) none) (sf_XT ex_O (b = false)) 1 6 (fun _ => False) := by
  refine vx_ofW (cc := cX2_demandPlace) (maxL := 1) (ret := none) (by decide) rfl ?_
  intro p e s m args below meth c s₁ B hml hEx hv
  have hx := B.exec
  have hb := B.bytes
  have hr := B.returns
  have hts := atoms_spec (ws := wX2_demandPlace) B.pre
  have hg : ∀ w ∈ gw_all, w.before args s = true := fun w h => hts w (List.mem_cons_of_mem _ h)
  have hown : s.vm.findClass RX2 = some m.cls := findClass_of_methodNamed B.named
  have hlocks := B.notSynchronized
  obtain ⟨rfl, hE⟩ := hv
  have hS : va_S (fun _ => False) s.heap s.heap [] := va_S.rf
  have hl := lv_entry ([.int (sf_b b)]) (n := 1) (Nat.le_of_ble_eq_true rfl)
  rw [lg_entry_eq]
  generalize (lg_sl ([.int (sf_b b)]) ++ List.replicate (1 - (lg_sl ([.int (sf_b b)])).length) Slot.unset).toArray = ls at hl ⊢
  have hl : lv_has ls 1 [(0, .int (sf_b b))] := hl
  refine lv_iload_n hx hb dX2_demandPlace_0 rfl (lv_at hl 0 rfl) ?_
  refine sf_ifne (tgt := 14) hx hb dX2_demandPlace_1 (by decide) (fun c_1 => ?_) (fun c_1 => ?_)
  · refine W.widen (k := 1) (n := 6) (by decide) (by decide) ?_
    refine vx_ret ?_
    exact W.vret hx hb hr (fun t ht _ => ⟨rfl, c_1, ht⟩) (fun _ h => nomatch h) dX2_demandPlace_14
  · refine vx_throwS (text := ev_t1) (names := ex_N) (ik := 128) (is := 130) (ic := 132) (A := (fun _ => False)) hx hb hlt hown (by decide) (by decide) (hg _ mw_244) (hg _ mw_29) hE.2.1.2.1 (ex_at hg hE.1 ex_O1 ex_O2) ex_O3 hE.2.2.1 hE.2.2.2 hS (by rw [hml]; exact hl.1) dX2_demandPlace_4 dX2_demandPlace_7 dX2_demandPlace_8 dX2_demandPlace_10 dX2_demandPlace_13 (fun x hx => (hEx x hx).elim) (by decide) (by decide) (Nat.le_of_ble_eq_true rfl) (Nat.le_of_ble_eq_true rfl) hlocks ?_ (fun _ h => nomatch h) (Nat.le_of_ble_eq_true rfl) (Nat.le_of_ble_eq_true rfl)
    exact fun t _ h1 h2 => ⟨rfl, c_1, h1, h2⟩
