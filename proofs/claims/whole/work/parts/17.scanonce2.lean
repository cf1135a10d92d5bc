set_option maxHeartbeats 4000000 in
set_option maxRecDepth 100000 in
theorem c_X2_scanOnce (l : Launch) (dC : Nat → ClassId) (dI : Nat → Nat → Nat) (cI cZ cD cR cB : ClassId) (o : Nat → Nat) (ra : Nat → Nat → Nat) (ba : Nat → Nat) (sc : Int32) (y : st_T × (Nat → st_R)) (sz : Nat) (hy9 : ok_Y y) : Met l yX2_scanOnce wX2_scanOnce ({ frames := 5, cells := 0, slots := 0, locals := 117 }) (sf_PV (dC, dI) vwCl [(cI, .int), (cZ, .boolean), (cD, .double), (cR, .object RX1), (cB, .object RX0)] (wp_S cI cZ cD cR cB o ra ba sc y) sz [.ref (o 0)]) (sf_V (dC, dI) vwCl none (wp_S cI cZ cD cR cB o ra ba sc y) (wp_S cI cZ cD cR cB o ra ba (sc + 1) (fs_scan y))) 0 0 (va_A (wp_S cI cZ cD cR cB o ra ba sc y) sz) := by
  refine Met.ofW (cc := cX2_scanOnce) (maxL := 3) (ret := none) (by decide) rfl ?_
  intro p e s m args below meth c s₁ B hml hv
  have hx := B.exec
  have hb := B.bytes
  have hr := B.returns
  have hts := atoms_spec (ws := wX2_scanOnce) B.pre
  have hg : ∀ w ∈ gw_all, w.before args s = true := fun w h => hts w (List.mem_cons_of_mem _ h)
  have hown : s.vm.findClass RX2 = some m.cls := findClass_of_methodNamed B.named
  have hlocks := B.notSynchronized
  obtain ⟨rfl, hsz, hP, hD0, hK, hZ⟩ := hv
  subst hsz
  have hl := lv_entry ([.ref (o 0)]) (n := 3) (Nat.le_of_ble_eq_true rfl)
  rw [lg_entry_eq]
  generalize (lg_sl ([.ref (o 0)]) ++ List.replicate (3 - (lg_sl ([.ref (o 0)])).length) Slot.unset).toArray = ls at hl ⊢
  have hl : lv_has ls 3 [(0, .ref (o 0))] := hl
  obtain ⟨A, hAe⟩ : ∃ A : Nat → Prop, A = va_A (wp_S cI cZ cD cR cB o ra ba sc y) s.heap.size := ⟨_, rfl⟩
  have hD := hD0.self (sz := s.heap.size)
  rw [← hAe] at hD
  have hA : ∀ q : Nat, s.heap.size ≤ q → A q := fun q h => by rw [hAe]; exact Or.inr h
  have hS : va_S A s.heap s.heap [] := va_S.rf
  have hP : va_P (dC, dI) vwCl ([(o 0, .inr (2, [.ref (o 1), .ref (o 2), .ref (o 3), .ref (o 4), .int sc, .int y.1.2.2.2.1, .int y.1.2.2.2.2])), (o 1, .inl (cZ, 24, .inl (fun i9 => sf_b (y.1.1 i9)))), (o 2, .inl (cD, 8, .inr (.inr (.inr (.inl y.1.2.1))))), (o 3, .inl (cR, 5, .inr (.inr (.inr (.inr (fun g => some (ra g 0))))))), (o 4, .inl (cB, 8, .inr (.inr (.inr (.inr (fun k => some (ba k)))))))] ++ (wp_rs cI cZ ra y.2 ++ (wp_bs ba y.1.2.2.1 ++ []))) s.heap := hP
  have hD : va_D A ([(o 0, .inr (2, [.ref (o 1), .ref (o 2), .ref (o 3), .ref (o 4), .int sc, .int y.1.2.2.2.1, .int y.1.2.2.2.2])), (o 1, .inl (cZ, 24, .inl (fun i9 => sf_b (y.1.1 i9)))), (o 2, .inl (cD, 8, .inr (.inr (.inr (.inl y.1.2.1))))), (o 3, .inl (cR, 5, .inr (.inr (.inr (.inr (fun g => some (ra g 0))))))), (o 4, .inl (cB, 8, .inr (.inr (.inr (.inr (fun k => some (ba k)))))))] ++ (wp_rs cI cZ ra y.2 ++ (wp_bs ba y.1.2.2.1 ++ []))) := hD
  refine lv_aload_n hx hb dX2_scanOnce_0 rfl (lv_at hl 0 rfl) ?_
  refine lv_dup hx hb dX2_scanOnce_1 rfl ?_
  refine va_get (D := (dC, dI)) (ci := 2) (v := .int sc) (C := RX2) (T := TX2) (N := 7) hx hb hg in_X2 hown hK hP 0 rfl rfl 4 (by decide) (hg _ mw_123) (fun _ h9 => h9) rfl dX2_scanOnce_2 ?_
  refine lv_iconst (v := 1) hx hb dX2_scanOnce_5 (by decide) ?_
  refine lv_iadd hx hb dX2_scanOnce_6 ?_
  refine va_put (D := (dC, dI)) (ci := 2) (v := .int (sc + 1)) (ty := .int) (C := RX2) (T := TX2) (N := 7) hx hb hg in_X2 tyX2 tyX2_ok nmX2 hown hK hP hD hS 0 rfl rfl 4 (by decide) (hg _ mw_123) (fun _ h9 => h9) rfl (by decide +kernel) rfl rfl (Nat.le_of_ble_eq_true rfl) dX2_scanOnce_7 (fun H locs hP hD hS => ?_)
  have hP : va_P (dC, dI) vwCl ([(o 0, .inr (2, [.ref (o 1), .ref (o 2), .ref (o 3), .ref (o 4), .int (sc + 1), .int y.1.2.2.2.1, .int y.1.2.2.2.2])), (o 1, .inl (cZ, 24, .inl (fun i9 => sf_b (y.1.1 i9)))), (o 2, .inl (cD, 8, .inr (.inr (.inr (.inl y.1.2.1))))), (o 3, .inl (cR, 5, .inr (.inr (.inr (.inr (fun g => some (ra g 0))))))), (o 4, .inl (cB, 8, .inr (.inr (.inr (.inr (fun k => some (ba k)))))))] ++ (wp_rs cI cZ ra y.2 ++ (wp_bs ba y.1.2.2.1 ++ []))) H := hP
  have hD : va_D A ([(o 0, .inr (2, [.ref (o 1), .ref (o 2), .ref (o 3), .ref (o 4), .int (sc + 1), .int y.1.2.2.2.1, .int y.1.2.2.2.2])), (o 1, .inl (cZ, 24, .inl (fun i9 => sf_b (y.1.1 i9)))), (o 2, .inl (cD, 8, .inr (.inr (.inr (.inl y.1.2.1))))), (o 3, .inl (cR, 5, .inr (.inr (.inr (.inr (fun g => some (ra g 0))))))), (o 4, .inl (cB, 8, .inr (.inr (.inr (.inr (fun k => some (ba k)))))))] ++ (wp_rs cI cZ ra y.2 ++ (wp_bs ba y.1.2.2.1 ++ []))) := hD
  refine lv_iconst (v := 0) hx hb dX2_scanOnce_10 (by decide) ?_
  refine lv_istore_n (lv' := [(1, .int 0), (0, .ref (o 0))]) hx hb dX2_scanOnce_11 rfl hl (by decide) rfl (fun ls hl => ?_)
  have hP : va_P (dC, dI) vwCl (wp_S cI cZ cD cR cB o ra ba (sc + 1) y) H := hP
  have hD : va_D A (wp_S cI cZ cD cR cB o ra ba (sc + 1) y) := hD
  obtain ⟨y0, e0⟩ : ∃ z, z = y := ⟨_, rfl⟩
  rw [← e0] at hP hD
  have q0 : ok_Y y0 := by rw [e0]; exact hy9
  obtain ⟨y1, e1⟩ : ∃ z, z = fs_rung y0 0 := ⟨_, rfl⟩
  have q1 : ok_Y y1 := by rw [e1]; exact rung_ok q0 (by decide)
  obtain ⟨y2, e2⟩ : ∃ z, z = fs_rung y1 1 := ⟨_, rfl⟩
  have q2 : ok_Y y2 := by rw [e2]; exact rung_ok q1 (by decide)
  obtain ⟨y3, e3⟩ : ∃ z, z = fs_rung y2 2 := ⟨_, rfl⟩
  have q3 : ok_Y y3 := by rw [e3]; exact rung_ok q2 (by decide)
  obtain ⟨y4, e4⟩ : ∃ z, z = fs_rung y3 3 := ⟨_, rfl⟩
  have q4 : ok_Y y4 := by rw [e4]; exact rung_ok q3 (by decide)
  obtain ⟨y5, e5⟩ : ∃ z, z = fs_rung y4 4 := ⟨_, rfl⟩
  have q5 : ok_Y y5 := by rw [e5]; exact rung_ok q4 (by decide)
  have eS : fs_scan y = y5 := by
    rw [e5, e4, e3, e2, e1, e0]
    rfl
  have hl : lv_has ls 3 [(0, .ref (o 0)), (1, .int (nI 0))] := lv_sub hl [1, 0] rfl
  refine so_rung l dC dI cI cZ cD cR cB o ra ba (sc + 1) hx hb hml hown hg hZ hK hA 0 (by decide) y0 q0 hP hD hS hl (fun h9 ls hl => ?_) (fun _ H locs ls hP hD hS hl => ?_)
  · have eR : fs_scan y = y0 := by
      rw [eS, e5, e4, e3, e2, e1, rung_h h9, rung_h h9, rung_h h9, rung_h h9, rung_h h9]
    have hP9 : va_P (dC, dI) vwCl (wp_S cI cZ cD cR cB o ra ba (sc + 1) (fs_scan y)) H := by rw [eR]; exact hP
    have hD9 : va_D A (wp_S cI cZ cD cR cB o ra ba (sc + 1) (fs_scan y)) := by rw [eR]; exact hD
    exact W.vret hx hb hr (fun t ht _ => ⟨rfl, by rw [ht]; exact hP9, hAe ▸ hD9, hAe ▸ hS.F ht⟩) (fun q hq => by rw [← hAe]; exact hS.2.2 q hq) dX2_scanOnce_100
  rw [← e1] at hP hD
  refine so_rung l dC dI cI cZ cD cR cB o ra ba (sc + 1) hx hb hml hown hg hZ hK hA 1 (by decide) y1 q1 hP hD hS hl (fun h9 ls hl => ?_) (fun _ H locs ls hP hD hS hl => ?_)
  · have eR : fs_scan y = y1 := by
      rw [eS, e5, e4, e3, e2, rung_h h9, rung_h h9, rung_h h9, rung_h h9]
    have hP9 : va_P (dC, dI) vwCl (wp_S cI cZ cD cR cB o ra ba (sc + 1) (fs_scan y)) H := by rw [eR]; exact hP
    have hD9 : va_D A (wp_S cI cZ cD cR cB o ra ba (sc + 1) (fs_scan y)) := by rw [eR]; exact hD
    exact W.vret hx hb hr (fun t ht _ => ⟨rfl, by rw [ht]; exact hP9, hAe ▸ hD9, hAe ▸ hS.F ht⟩) (fun q hq => by rw [← hAe]; exact hS.2.2 q hq) dX2_scanOnce_100
  rw [← e2] at hP hD
  refine so_rung l dC dI cI cZ cD cR cB o ra ba (sc + 1) hx hb hml hown hg hZ hK hA 2 (by decide) y2 q2 hP hD hS hl (fun h9 ls hl => ?_) (fun _ H locs ls hP hD hS hl => ?_)
  · have eR : fs_scan y = y2 := by
      rw [eS, e5, e4, e3, rung_h h9, rung_h h9, rung_h h9]
    have hP9 : va_P (dC, dI) vwCl (wp_S cI cZ cD cR cB o ra ba (sc + 1) (fs_scan y)) H := by rw [eR]; exact hP
    have hD9 : va_D A (wp_S cI cZ cD cR cB o ra ba (sc + 1) (fs_scan y)) := by rw [eR]; exact hD
    exact W.vret hx hb hr (fun t ht _ => ⟨rfl, by rw [ht]; exact hP9, hAe ▸ hD9, hAe ▸ hS.F ht⟩) (fun q hq => by rw [← hAe]; exact hS.2.2 q hq) dX2_scanOnce_100
  rw [← e3] at hP hD
  refine so_rung l dC dI cI cZ cD cR cB o ra ba (sc + 1) hx hb hml hown hg hZ hK hA 3 (by decide) y3 q3 hP hD hS hl (fun h9 ls hl => ?_) (fun _ H locs ls hP hD hS hl => ?_)
  · have eR : fs_scan y = y3 := by
      rw [eS, e5, e4, rung_h h9, rung_h h9]
    have hP9 : va_P (dC, dI) vwCl (wp_S cI cZ cD cR cB o ra ba (sc + 1) (fs_scan y)) H := by rw [eR]; exact hP
    have hD9 : va_D A (wp_S cI cZ cD cR cB o ra ba (sc + 1) (fs_scan y)) := by rw [eR]; exact hD
    exact W.vret hx hb hr (fun t ht _ => ⟨rfl, by rw [ht]; exact hP9, hAe ▸ hD9, hAe ▸ hS.F ht⟩) (fun q hq => by rw [← hAe]; exact hS.2.2 q hq) dX2_scanOnce_100
  rw [← e4] at hP hD
  refine so_rung l dC dI cI cZ cD cR cB o ra ba (sc + 1) hx hb hml hown hg hZ hK hA 4 (by decide) y4 q4 hP hD hS hl (fun h9 ls hl => ?_) (fun _ H locs ls hP hD hS hl => ?_)
  · have eR : fs_scan y = y4 := by
      rw [eS, e5, rung_h h9]
    have hP9 : va_P (dC, dI) vwCl (wp_S cI cZ cD cR cB o ra ba (sc + 1) (fs_scan y)) H := by rw [eR]; exact hP
    have hD9 : va_D A (wp_S cI cZ cD cR cB o ra ba (sc + 1) (fs_scan y)) := by rw [eR]; exact hD
    exact W.vret hx hb hr (fun t ht _ => ⟨rfl, by rw [ht]; exact hP9, hAe ▸ hD9, hAe ▸ hS.F ht⟩) (fun q hq => by rw [← hAe]; exact hS.2.2 q hq) dX2_scanOnce_100
  rw [← e5] at hP hD
  refine lv_iload_n hx hb dX2_scanOnce_12 rfl (lv_at hl 1 rfl) ?_
  refine lv_iconst (v := 5) hx hb dX2_scanOnce_13 (by decide) ?_
  refine lv_icmp_ge (tgt := 100) hx hb dX2_scanOnce_14 (by decide) (fun _ => ?_) (fun h => absurd (by decide) h)
  have hP9 : va_P (dC, dI) vwCl (wp_S cI cZ cD cR cB o ra ba (sc + 1) (fs_scan y)) H := by rw [eS]; exact hP
  have hD9 : va_D A (wp_S cI cZ cD cR cB o ra ba (sc + 1) (fs_scan y)) := by rw [eS]; exact hD
  exact W.vret hx hb hr (fun t ht _ => ⟨rfl, by rw [ht]; exact hP9, hAe ▸ hD9, hAe ▸ hS.F ht⟩) (fun q hq => by rw [← hAe]; exact hS.2.2 q hq) dX2_scanOnce_100
