set_option maxHeartbeats 4000000 in
set_option maxRecDepth 100000 in
theorem c_X2_drive (l : Launch) (dC : Nat → ClassId) (dI : Nat → Nat → Nat) (cI cZ cD cR cB : ClassId) (o : Nat → Nat) (ra : Nat → Nat → Nat) (ba : Nat → Nat) (sc : Int32) (x : st_T) (k n : Int32) (pw : Bool) (sz : Nat) (hcl : fc_isCoil k n = true) (hok : ∀ j, j < 8 → fb_ok (x.2.2.1 j)) (hrg : rg_ok x.2.1) : Met l yX2_drive wX2_drive ({ frames := 4, cells := 0, slots := 0, locals := 94 }) (sf_PV (dC, dI) vwCl [(cI, .int), (cZ, .boolean), (cD, .double), (cR, .object RX1), (cB, .object RX0)] (wp_T cZ cD cR cB o ra ba sc x) sz [.ref (o 0), .int k, .int n, .int (sf_b pw)]) (sf_V (dC, dI) vwCl none (wp_T cZ cD cR cB o ra ba sc x) (wp_T cZ cD cR cB o ra ba sc (fs_drive x k n pw))) 0 0 (va_A (wp_T cZ cD cR cB o ra ba sc x) sz) := by
  refine Met.ofW (cc := cX2_drive) (maxL := 4) (ret := none) (by decide) rfl ?_
  intro p e s m args below meth c s₁ B hml hv
  have hx := B.exec
  have hb := B.bytes
  have hr := B.returns
  have hts := atoms_spec (ws := wX2_drive) B.pre
  have hg : ∀ w ∈ gw_all, w.before args s = true := fun w h => hts w (List.mem_cons_of_mem _ h)
  have hown : s.vm.findClass RX2 = some m.cls := findClass_of_methodNamed B.named
  have hlocks := B.notSynchronized
  obtain ⟨rfl, hsz, hP, hD0, hK, hZ⟩ := hv
  subst hsz
  have hl := lv_entry ([.ref (o 0), .int k, .int n, .int (sf_b pw)]) (n := 4) (Nat.le_of_ble_eq_true rfl)
  rw [lg_entry_eq]
  generalize (lg_sl ([.ref (o 0), .int k, .int n, .int (sf_b pw)]) ++ List.replicate (4 - (lg_sl ([.ref (o 0), .int k, .int n, .int (sf_b pw)])).length) Slot.unset).toArray = ls at hl ⊢
  have hl : lv_has ls 4 [(0, .ref (o 0)), (1, .int k), (2, .int n), (3, .int (sf_b pw))] := hl
  obtain ⟨A, hAe⟩ : ∃ A : Nat → Prop, A = va_A (wp_T cZ cD cR cB o ra ba sc x) s.heap.size := ⟨_, rfl⟩
  have hD := hD0.self (sz := s.heap.size)
  rw [← hAe] at hD
  have hA : ∀ q : Nat, s.heap.size ≤ q → A q := fun q h => by rw [hAe]; exact Or.inr h
  have hS : va_S A s.heap s.heap [] := va_S.rf
  have hP : va_P (dC, dI) vwCl ([(o 0, .inr (2, [.ref (o 1), .ref (o 2), .ref (o 3), .ref (o 4), .int sc, .int x.2.2.2.1, .int x.2.2.2.2])), (o 1, .inl (cZ, 24, .inl (fun i9 => sf_b (x.1 i9)))), (o 2, .inl (cD, 8, .inr (.inr (.inr (.inl x.2.1))))), (o 3, .inl (cR, 5, .inr (.inr (.inr (.inr (fun g => some (ra g 0))))))), (o 4, .inl (cB, 8, .inr (.inr (.inr (.inr (fun k => some (ba k)))))))] ++ (wp_bs ba x.2.2.1 ++ [])) s.heap := hP
  have hD : va_D A ([(o 0, .inr (2, [.ref (o 1), .ref (o 2), .ref (o 3), .ref (o 4), .int sc, .int x.2.2.2.1, .int x.2.2.2.2])), (o 1, .inl (cZ, 24, .inl (fun i9 => sf_b (x.1 i9)))), (o 2, .inl (cD, 8, .inr (.inr (.inr (.inl x.2.1))))), (o 3, .inl (cR, 5, .inr (.inr (.inr (.inr (fun g => some (ra g 0))))))), (o 4, .inl (cB, 8, .inr (.inr (.inr (.inr (fun k => some (ba k)))))))] ++ (wp_bs ba x.2.2.1 ++ [])) := hD
  refine lv_iload_n hx hb dX2_drive_0 rfl (lv_at hl 1 rfl) ?_
  by_cases c_1 : k = 1
  · have hn9 := ix_nat (n := 24) rfl (by decide) (coil_b hcl (Or.inl c_1))
    refine lv_tableIn (off := 31) (tgt := 32) hx hb dX2_drive_1 (by rw [c_1]; decide) (by rw [c_1]; decide) (by rw [c_1]; decide) (by decide) ?_
    refine lv_aload_n hx hb dX2_drive_32 rfl (lv_at hl 0 rfl) ?_
    refine va_get (D := (dC, dI)) (ci := 2) (v := .ref (o 1)) (C := RX2) (T := TX2) (N := 7) hx hb hg in_X2 hown hK hP 0 rfl rfl 0 (by decide) (hg _ mw_119) (fun _ h9 => h9) rfl dX2_drive_33 ?_
    refine lv_iload_n hx hb dX2_drive_36 rfl (lv_at hl 2 rfl) ?_
    refine lv_iload_n hx hb dX2_drive_37 rfl (lv_at hl 3 rfl) ?_
    refine sf_zast hx hb hK hP hD hS 1 1 rfl rfl n.toNatClampNeg hn9.1 hn9.2 (by decide) dX2_drive_38 (fun H locs hP hD hS => ?_)
    have hP : va_P (dC, dI) vwCl ([(o 0, .inr (2, [.ref (o 1), .ref (o 2), .ref (o 3), .ref (o 4), .int sc, .int x.2.2.2.1, .int x.2.2.2.2])), (o 1, .inl (cZ, 24, .inl (fun i9 => sf_b ((va_up x.1 n.toNatClampNeg pw) i9)))), (o 2, .inl (cD, 8, .inr (.inr (.inr (.inl x.2.1))))), (o 3, .inl (cR, 5, .inr (.inr (.inr (.inr (fun g => some (ra g 0))))))), (o 4, .inl (cB, 8, .inr (.inr (.inr (.inr (fun k => some (ba k)))))))] ++ (wp_bs ba x.2.2.1 ++ [])) H := hP
    have hD : va_D A ([(o 0, .inr (2, [.ref (o 1), .ref (o 2), .ref (o 3), .ref (o 4), .int sc, .int x.2.2.2.1, .int x.2.2.2.2])), (o 1, .inl (cZ, 24, .inl (fun i9 => sf_b ((va_up x.1 n.toNatClampNeg pw) i9)))), (o 2, .inl (cD, 8, .inr (.inr (.inr (.inl x.2.1))))), (o 3, .inl (cR, 5, .inr (.inr (.inr (.inr (fun g => some (ra g 0))))))), (o 4, .inl (cB, 8, .inr (.inr (.inr (.inr (fun k => some (ba k)))))))] ++ (wp_bs ba x.2.2.1 ++ [])) := hD
    refine lv_goto (tgt := 125) hx hb dX2_drive_39 (by decide) ?_
    have hP9 : va_P (dC, dI) vwCl (wp_T cZ cD cR cB o ra ba sc (fs_drive x k n pw)) H := by
      rw [show fs_drive x k n pw = (va_up x.1 n.toNatClampNeg pw, x.2) from by first | rfl | (simp [fs_drive, c_1]; done)]
      exact hP
    have hD9 : va_D A (wp_T cZ cD cR cB o ra ba sc (fs_drive x k n pw)) := by
      rw [show fs_drive x k n pw = (va_up x.1 n.toNatClampNeg pw, x.2) from by first | rfl | (simp [fs_drive, c_1]; done)]
      exact hD
    exact W.vret hx hb hr (fun t ht _ => ⟨rfl, by rw [ht]; exact hP9, hAe ▸ hD9, hAe ▸ hS.F ht⟩) (fun q hq => by rw [← hAe]; exact hS.2.2 q hq) dX2_drive_125
  · skip
    by_cases c_2 : k = 2
    · have hn9 := ix_nat (n := 24) rfl (by decide) (coil_b hcl (Or.inr (Or.inl c_2)))
      refine lv_tableIn (off := 41) (tgt := 42) hx hb dX2_drive_1 (by rw [c_2]; decide) (by rw [c_2]; decide) (by rw [c_2]; decide) (by decide) ?_
      refine lv_aload_n hx hb dX2_drive_42 rfl (lv_at hl 0 rfl) ?_
      refine va_get (D := (dC, dI)) (ci := 2) (v := .ref (o 1)) (C := RX2) (T := TX2) (N := 7) hx hb hg in_X2 hown hK hP 0 rfl rfl 0 (by decide) (hg _ mw_119) (fun _ h9 => h9) rfl dX2_drive_43 ?_
      refine lv_iload_n hx hb dX2_drive_46 rfl (lv_at hl 2 rfl) ?_
      refine lv_aload_n hx hb dX2_drive_47 rfl (lv_at hl 0 rfl) ?_
      refine va_get (D := (dC, dI)) (ci := 2) (v := .ref (o 1)) (C := RX2) (T := TX2) (N := 7) hx hb hg in_X2 hown hK hP 0 rfl rfl 0 (by decide) (hg _ mw_119) (fun _ h9 => h9) rfl dX2_drive_48 ?_
      refine lv_iload_n hx hb dX2_drive_51 rfl (lv_at hl 2 rfl) ?_
      refine sf_zald hx hb hK hP 1 1 rfl rfl n.toNatClampNeg hn9.1 hn9.2 (by decide) dX2_drive_52 ?_
      refine sf_cutb 65 (x.1 n.toNatClampNeg || pw) (fun v => [.int (sf_b v), .int n, .ref (o 1)]) ?_ (fun k_3 => ?_)
      · refine sf_zast hx hb hK hP hD hS 1 1 rfl rfl n.toNatClampNeg hn9.1 hn9.2 (by decide) dX2_drive_65 (fun H locs hP hD hS => ?_)
        have hP : va_P (dC, dI) vwCl ([(o 0, .inr (2, [.ref (o 1), .ref (o 2), .ref (o 3), .ref (o 4), .int sc, .int x.2.2.2.1, .int x.2.2.2.2])), (o 1, .inl (cZ, 24, .inl (fun i9 => sf_b ((va_up x.1 n.toNatClampNeg (x.1 n.toNatClampNeg || pw)) i9)))), (o 2, .inl (cD, 8, .inr (.inr (.inr (.inl x.2.1))))), (o 3, .inl (cR, 5, .inr (.inr (.inr (.inr (fun g => some (ra g 0))))))), (o 4, .inl (cB, 8, .inr (.inr (.inr (.inr (fun k => some (ba k)))))))] ++ (wp_bs ba x.2.2.1 ++ [])) H := hP
        have hD : va_D A ([(o 0, .inr (2, [.ref (o 1), .ref (o 2), .ref (o 3), .ref (o 4), .int sc, .int x.2.2.2.1, .int x.2.2.2.2])), (o 1, .inl (cZ, 24, .inl (fun i9 => sf_b ((va_up x.1 n.toNatClampNeg (x.1 n.toNatClampNeg || pw)) i9)))), (o 2, .inl (cD, 8, .inr (.inr (.inr (.inl x.2.1))))), (o 3, .inl (cR, 5, .inr (.inr (.inr (.inr (fun g => some (ra g 0))))))), (o 4, .inl (cB, 8, .inr (.inr (.inr (.inr (fun k => some (ba k)))))))] ++ (wp_bs ba x.2.2.1 ++ [])) := hD
        refine lv_goto (tgt := 125) hx hb dX2_drive_66 (by decide) ?_
        have hP9 : va_P (dC, dI) vwCl (wp_T cZ cD cR cB o ra ba sc (fs_drive x k n pw)) H := by
          rw [show fs_drive x k n pw = (va_up x.1 n.toNatClampNeg (x.1 n.toNatClampNeg || pw), x.2) from by first | rfl | (simp [fs_drive, c_1, c_2]; done)]
          exact hP
        have hD9 : va_D A (wp_T cZ cD cR cB o ra ba sc (fs_drive x k n pw)) := by
          rw [show fs_drive x k n pw = (va_up x.1 n.toNatClampNeg (x.1 n.toNatClampNeg || pw), x.2) from by first | rfl | (simp [fs_drive, c_1, c_2]; done)]
          exact hD
        exact W.vret hx hb hr (fun t ht _ => ⟨rfl, by rw [ht]; exact hP9, hAe ▸ hD9, hAe ▸ hS.F ht⟩) (fun q hq => by rw [← hAe]; exact hS.2.2 q hq) dX2_drive_125
      · refine sf_ifne (tgt := 60) hx hb dX2_drive_53 (by decide) (fun c_4 => ?_) (fun c_4 => ?_)
        · refine lv_iconst (v := sf_b true) hx hb dX2_drive_60 (by decide) ?_
          refine lv_goto (tgt := 65) hx hb dX2_drive_61 (by decide) ?_
          exact k_3 true (by first | rfl | (simp [c_4]; done) | (simp [] at *; simp [*]; done))
        · refine lv_iload_n hx hb dX2_drive_56 rfl (lv_at hl 3 rfl) ?_
          refine sf_ifeq (tgt := 64) hx hb dX2_drive_57 (by decide) (fun c_5 => ?_) (fun c_5 => ?_)
          · refine lv_iconst (v := sf_b false) hx hb dX2_drive_64 (by decide) ?_
            exact k_3 false (by first | rfl | (simp [c_4, c_5]; done) | (simp [] at *; simp [*]; done))
          · refine lv_iconst (v := sf_b true) hx hb dX2_drive_60 (by decide) ?_
            refine lv_goto (tgt := 65) hx hb dX2_drive_61 (by decide) ?_
            exact k_3 true (by first | rfl | (simp [c_4, c_5]; done) | (simp [] at *; simp [*]; done))
    · skip
      by_cases c_6 : k = 3
      · have hn9 := ix_nat (n := 24) rfl (by decide) (coil_b hcl (Or.inr (Or.inr c_6)))
        refine lv_tableIn (off := 68) (tgt := 69) hx hb dX2_drive_1 (by rw [c_6]; decide) (by rw [c_6]; decide) (by rw [c_6]; decide) (by decide) ?_
        refine lv_aload_n hx hb dX2_drive_69 rfl (lv_at hl 0 rfl) ?_
        refine va_get (D := (dC, dI)) (ci := 2) (v := .ref (o 1)) (C := RX2) (T := TX2) (N := 7) hx hb hg in_X2 hown hK hP 0 rfl rfl 0 (by decide) (hg _ mw_119) (fun _ h9 => h9) rfl dX2_drive_70 ?_
        refine lv_iload_n hx hb dX2_drive_73 rfl (lv_at hl 2 rfl) ?_
        refine lv_aload_n hx hb dX2_drive_74 rfl (lv_at hl 0 rfl) ?_
        refine va_get (D := (dC, dI)) (ci := 2) (v := .ref (o 1)) (C := RX2) (T := TX2) (N := 7) hx hb hg in_X2 hown hK hP 0 rfl rfl 0 (by decide) (hg _ mw_119) (fun _ h9 => h9) rfl dX2_drive_75 ?_
        refine lv_iload_n hx hb dX2_drive_78 rfl (lv_at hl 2 rfl) ?_
        refine sf_zald hx hb hK hP 1 1 rfl rfl n.toNatClampNeg hn9.1 hn9.2 (by decide) dX2_drive_79 ?_
        refine sf_cutb 92 (x.1 n.toNatClampNeg && !pw) (fun v => [.int (sf_b v), .int n, .ref (o 1)]) ?_ (fun k_7 => ?_)
        · refine sf_zast hx hb hK hP hD hS 1 1 rfl rfl n.toNatClampNeg hn9.1 hn9.2 (by decide) dX2_drive_92 (fun H locs hP hD hS => ?_)
          have hP : va_P (dC, dI) vwCl ([(o 0, .inr (2, [.ref (o 1), .ref (o 2), .ref (o 3), .ref (o 4), .int sc, .int x.2.2.2.1, .int x.2.2.2.2])), (o 1, .inl (cZ, 24, .inl (fun i9 => sf_b ((va_up x.1 n.toNatClampNeg (x.1 n.toNatClampNeg && !pw)) i9)))), (o 2, .inl (cD, 8, .inr (.inr (.inr (.inl x.2.1))))), (o 3, .inl (cR, 5, .inr (.inr (.inr (.inr (fun g => some (ra g 0))))))), (o 4, .inl (cB, 8, .inr (.inr (.inr (.inr (fun k => some (ba k)))))))] ++ (wp_bs ba x.2.2.1 ++ [])) H := hP
          have hD : va_D A ([(o 0, .inr (2, [.ref (o 1), .ref (o 2), .ref (o 3), .ref (o 4), .int sc, .int x.2.2.2.1, .int x.2.2.2.2])), (o 1, .inl (cZ, 24, .inl (fun i9 => sf_b ((va_up x.1 n.toNatClampNeg (x.1 n.toNatClampNeg && !pw)) i9)))), (o 2, .inl (cD, 8, .inr (.inr (.inr (.inl x.2.1))))), (o 3, .inl (cR, 5, .inr (.inr (.inr (.inr (fun g => some (ra g 0))))))), (o 4, .inl (cB, 8, .inr (.inr (.inr (.inr (fun k => some (ba k)))))))] ++ (wp_bs ba x.2.2.1 ++ [])) := hD
          refine lv_goto (tgt := 125) hx hb dX2_drive_93 (by decide) ?_
          have hP9 : va_P (dC, dI) vwCl (wp_T cZ cD cR cB o ra ba sc (fs_drive x k n pw)) H := by
            rw [show fs_drive x k n pw = (va_up x.1 n.toNatClampNeg (x.1 n.toNatClampNeg && !pw), x.2) from by first | rfl | (simp [fs_drive, c_1, c_2, c_6]; done)]
            exact hP
          have hD9 : va_D A (wp_T cZ cD cR cB o ra ba sc (fs_drive x k n pw)) := by
            rw [show fs_drive x k n pw = (va_up x.1 n.toNatClampNeg (x.1 n.toNatClampNeg && !pw), x.2) from by first | rfl | (simp [fs_drive, c_1, c_2, c_6]; done)]
            exact hD
          exact W.vret hx hb hr (fun t ht _ => ⟨rfl, by rw [ht]; exact hP9, hAe ▸ hD9, hAe ▸ hS.F ht⟩) (fun q hq => by rw [← hAe]; exact hS.2.2 q hq) dX2_drive_125
        · refine sf_ifeq (tgt := 91) hx hb dX2_drive_80 (by decide) (fun c_8 => ?_) (fun c_8 => ?_)
          · refine lv_iconst (v := sf_b false) hx hb dX2_drive_91 (by decide) ?_
            exact k_7 false (by first | rfl | (simp [c_8]; done) | (simp [] at *; simp [*]; done))
          · refine lv_iload_n hx hb dX2_drive_83 rfl (lv_at hl 3 rfl) ?_
            refine sf_ifne (tgt := 91) hx hb dX2_drive_84 (by decide) (fun c_9 => ?_) (fun c_9 => ?_)
            · refine lv_iconst (v := sf_b false) hx hb dX2_drive_91 (by decide) ?_
              exact k_7 false (by first | rfl | (simp [c_8, c_9]; done) | (simp [] at *; simp [*]; done))
            · refine lv_iconst (v := sf_b true) hx hb dX2_drive_87 (by decide) ?_
              refine lv_goto (tgt := 92) hx hb dX2_drive_88 (by decide) ?_
              exact k_7 true (by first | rfl | (simp [c_8, c_9]; done) | (simp [] at *; simp [*]; done))
      · skip
        by_cases c_10 : k = 4
        · have hn9 := ix_nat (n := 8) rfl (by decide) (coil_4 hcl c_10)
          refine lv_tableIn (off := 95) (tgt := 96) hx hb dX2_drive_1 (by rw [c_10]; decide) (by rw [c_10]; decide) (by rw [c_10]; decide) (by decide) ?_
          have hP := sf_P_perm (pm_b (ba := ba) (bs := x.2.2.1) (k := n.toNatClampNeg) hn9.2 _ _) hP
          have hD := sf_D_perm (pm_b (ba := ba) (bs := x.2.2.1) (k := n.toNatClampNeg) hn9.2 _ _) hD
          have hP : va_P (dC, dI) vwCl ([(ba n.toNatClampNeg, .inr (0, [.int ((x.2.2.1 n.toNatClampNeg).1), .int ((x.2.2.1 n.toNatClampNeg).2.1), .int ((x.2.2.1 n.toNatClampNeg).2.2.1), .int ((x.2.2.1 n.toNatClampNeg).2.2.2.1), .double ((x.2.2.1 n.toNatClampNeg).2.2.2.2.1), .int (sf_b ((x.2.2.1 n.toNatClampNeg).2.2.2.2.2.1)), .int ((x.2.2.1 n.toNatClampNeg).2.2.2.2.2.2.1), .int (sf_b ((x.2.2.1 n.toNatClampNeg).2.2.2.2.2.2.2.1)), .double ((x.2.2.1 n.toNatClampNeg).2.2.2.2.2.2.2.2.1), .double ((x.2.2.1 n.toNatClampNeg).2.2.2.2.2.2.2.2.2.1), .int ((x.2.2.1 n.toNatClampNeg).2.2.2.2.2.2.2.2.2.2.1), .int ((x.2.2.1 n.toNatClampNeg).2.2.2.2.2.2.2.2.2.2.2)])), (o 0, .inr (2, [.ref (o 1), .ref (o 2), .ref (o 3), .ref (o 4), .int sc, .int x.2.2.2.1, .int x.2.2.2.2])), (o 1, .inl (cZ, 24, .inl (fun i9 => sf_b (x.1 i9)))), (o 2, .inl (cD, 8, .inr (.inr (.inr (.inl x.2.1))))), (o 3, .inl (cR, 5, .inr (.inr (.inr (.inr (fun g => some (ra g 0))))))), (o 4, .inl (cB, 8, .inr (.inr (.inr (.inr (fun k => some (ba k)))))))] ++ (wp_bx ba x.2.2.1 n.toNatClampNeg ++ [])) s.heap := hP
          have hD : va_D A ([(ba n.toNatClampNeg, .inr (0, [.int ((x.2.2.1 n.toNatClampNeg).1), .int ((x.2.2.1 n.toNatClampNeg).2.1), .int ((x.2.2.1 n.toNatClampNeg).2.2.1), .int ((x.2.2.1 n.toNatClampNeg).2.2.2.1), .double ((x.2.2.1 n.toNatClampNeg).2.2.2.2.1), .int (sf_b ((x.2.2.1 n.toNatClampNeg).2.2.2.2.2.1)), .int ((x.2.2.1 n.toNatClampNeg).2.2.2.2.2.2.1), .int (sf_b ((x.2.2.1 n.toNatClampNeg).2.2.2.2.2.2.2.1)), .double ((x.2.2.1 n.toNatClampNeg).2.2.2.2.2.2.2.2.1), .double ((x.2.2.1 n.toNatClampNeg).2.2.2.2.2.2.2.2.2.1), .int ((x.2.2.1 n.toNatClampNeg).2.2.2.2.2.2.2.2.2.2.1), .int ((x.2.2.1 n.toNatClampNeg).2.2.2.2.2.2.2.2.2.2.2)])), (o 0, .inr (2, [.ref (o 1), .ref (o 2), .ref (o 3), .ref (o 4), .int sc, .int x.2.2.2.1, .int x.2.2.2.2])), (o 1, .inl (cZ, 24, .inl (fun i9 => sf_b (x.1 i9)))), (o 2, .inl (cD, 8, .inr (.inr (.inr (.inl x.2.1))))), (o 3, .inl (cR, 5, .inr (.inr (.inr (.inr (fun g => some (ra g 0))))))), (o 4, .inl (cB, 8, .inr (.inr (.inr (.inr (fun k => some (ba k)))))))] ++ (wp_bx ba x.2.2.1 n.toNatClampNeg ++ [])) := hD
          refine lv_aload_n hx hb dX2_drive_96 rfl (lv_at hl 0 rfl) ?_
          refine va_get (D := (dC, dI)) (ci := 2) (v := .ref (o 4)) (C := RX2) (T := TX2) (N := 7) hx hb hg in_X2 hown hK hP 1 rfl rfl 3 (by decide) (hg _ mw_122) (fun _ h9 => h9) rfl dX2_drive_97 ?_
          refine lv_iload_n hx hb dX2_drive_100 rfl (lv_at hl 2 rfl) ?_
          refine sf_aald hx hb hK hP 5 4 rfl rfl n.toNatClampNeg hn9.1 hn9.2 (by decide) rfl dX2_drive_101 ?_
          refine lv_iload_n hx hb dX2_drive_102 rfl (lv_at hl 3 rfl) ?_
          refine lv_aload_n hx hb dX2_drive_103 rfl (lv_at hl 0 rfl) ?_
          refine va_get (D := (dC, dI)) (ci := 2) (v := .ref (o 1)) (C := RX2) (T := TX2) (N := 7) hx hb hg in_X2 hown hK hP 1 rfl rfl 0 (by decide) (hg _ mw_119) (fun _ h9 => h9) rfl dX2_drive_104 ?_
          refine lv_aload_n hx hb dX2_drive_107 rfl (lv_at hl 0 rfl) ?_
          refine va_get (D := (dC, dI)) (ci := 2) (v := .ref (o 2)) (C := RX2) (T := TX2) (N := 7) hx hb hg in_X2 hown hK hP 1 rfl rfl 1 (by decide) (hg _ mw_120) (fun _ h9 => h9) rfl dX2_drive_108 ?_
          have hPc : va_P (dC, dI) vwCl ([wp_B (ba n.toNatClampNeg) (x.2.2.1 n.toNatClampNeg), wp_Z (o 1) cZ 24 x.1, wp_D (o 2) cD 8 x.2.1] ++ ([(o 0, .inr (2, [.ref (o 1), .ref (o 2), .ref (o 3), .ref (o 4), .int sc, .int x.2.2.2.1, .int x.2.2.2.2])), (o 3, .inl (cR, 5, .inr (.inr (.inr (.inr (fun g => some (ra g 0))))))), (o 4, .inl (cB, 8, .inr (.inr (.inr (.inr (fun k => some (ba k)))))))] ++ (wp_bx ba x.2.2.1 n.toNatClampNeg ++ []))) s.heap := sf_P_subT (E' := [wp_B (ba n.toNatClampNeg) (x.2.2.1 n.toNatClampNeg), wp_Z (o 1) cZ 24 x.1, wp_D (o 2) cD 8 x.2.1] ++ [(o 0, .inr (2, [.ref (o 1), .ref (o 2), .ref (o 3), .ref (o 4), .int sc, .int x.2.2.2.1, .int x.2.2.2.2])), (o 3, .inl (cR, 5, .inr (.inr (.inr (.inr (fun g => some (ra g 0))))))), (o 4, .inl (cB, 8, .inr (.inr (.inr (.inr (fun k => some (ba k)))))))]) hP [0, 2, 3, 1, 4, 5] rfl
          have hDc : va_D A ([wp_B (ba n.toNatClampNeg) (x.2.2.1 n.toNatClampNeg), wp_Z (o 1) cZ 24 x.1, wp_D (o 2) cD 8 x.2.1] ++ ([(o 0, .inr (2, [.ref (o 1), .ref (o 2), .ref (o 3), .ref (o 4), .int sc, .int x.2.2.2.1, .int x.2.2.2.2])), (o 3, .inl (cR, 5, .inr (.inr (.inr (.inr (fun g => some (ra g 0))))))), (o 4, .inl (cB, 8, .inr (.inr (.inr (.inr (fun k => some (ba k)))))))] ++ (wp_bx ba x.2.2.1 n.toNatClampNeg ++ []))) := sf_D_subT (E' := [wp_B (ba n.toNatClampNeg) (x.2.2.1 n.toNatClampNeg), wp_Z (o 1) cZ 24 x.1, wp_D (o 2) cD 8 x.2.1] ++ [(o 0, .inr (2, [.ref (o 1), .ref (o 2), .ref (o 3), .ref (o 4), .int sc, .int x.2.2.2.1, .int x.2.2.2.2])), (o 3, .inl (cR, 5, .inr (.inr (.inr (.inr (fun g => some (ra g 0))))))), (o 4, .inl (cB, 8, .inr (.inr (.inr (.inr (fun k => some (ba k)))))))]) hD [0, 2, 3, 1, 4, 5] (by decide) rfl
          refine sf_callVi (va_runV (As := [.int (sf_b pw), .ref (o 1), .ref (o 2)]) (rest := []) ⟨hx, hb, hml, hown, hg⟩ (c_X0_run l dC dI cZ cD (ba n.toNatClampNeg) (o 1) (o 2) (x.2.2.1 n.toNatClampNeg) x.1 x.2.1 pw _ (hok _ hn9.2) hrg) (cwV 3 hg (gw_V mw_398 mw_399 mw_400 mw_23 mw_401) rfl rfl rfl (by decide +kernel) ⟨Nat.le_of_ble_eq_true rfl, Nat.le_of_ble_eq_true rfl⟩) (sf_preVV (va_recv hK hP (ci := 0) (q0 := 0) rfl rfl) (hK.sub [1, 2] rfl) hZ hPc hDc) rfl rfl hl.1 rfl (lv_room (Nat.le_of_ble_eq_true rfl)) dX2_drive_111 ⟨Nat.zero_le _, Nat.zero_le _⟩) hS hPc hDc hA (fun H locs hP hD hS => ?_)
          have hP : va_P (dC, dI) vwCl ([(ba n.toNatClampNeg, .inr (0, [.int ((fb_run (x.2.2.1 n.toNatClampNeg) pw x.1 x.2.1).1), .int ((fb_run (x.2.2.1 n.toNatClampNeg) pw x.1 x.2.1).2.1), .int ((fb_run (x.2.2.1 n.toNatClampNeg) pw x.1 x.2.1).2.2.1), .int ((fb_run (x.2.2.1 n.toNatClampNeg) pw x.1 x.2.1).2.2.2.1), .double ((fb_run (x.2.2.1 n.toNatClampNeg) pw x.1 x.2.1).2.2.2.2.1), .int (sf_b ((fb_run (x.2.2.1 n.toNatClampNeg) pw x.1 x.2.1).2.2.2.2.2.1)), .int ((fb_run (x.2.2.1 n.toNatClampNeg) pw x.1 x.2.1).2.2.2.2.2.2.1), .int (sf_b ((fb_run (x.2.2.1 n.toNatClampNeg) pw x.1 x.2.1).2.2.2.2.2.2.2.1)), .double ((fb_run (x.2.2.1 n.toNatClampNeg) pw x.1 x.2.1).2.2.2.2.2.2.2.2.1), .double ((fb_run (x.2.2.1 n.toNatClampNeg) pw x.1 x.2.1).2.2.2.2.2.2.2.2.2.1), .int ((fb_run (x.2.2.1 n.toNatClampNeg) pw x.1 x.2.1).2.2.2.2.2.2.2.2.2.2.1), .int ((fb_run (x.2.2.1 n.toNatClampNeg) pw x.1 x.2.1).2.2.2.2.2.2.2.2.2.2.2)])), (o 1, .inl (cZ, 24, .inl (fun i9 => sf_b ((fb_runz (x.2.2.1 n.toNatClampNeg) pw x.1 x.2.1) i9)))), (o 2, .inl (cD, 8, .inr (.inr (.inr (.inl (fb_rund (x.2.2.1 n.toNatClampNeg) pw x.2.1)))))), (o 0, .inr (2, [.ref (o 1), .ref (o 2), .ref (o 3), .ref (o 4), .int sc, .int x.2.2.2.1, .int x.2.2.2.2])), (o 3, .inl (cR, 5, .inr (.inr (.inr (.inr (fun g => some (ra g 0))))))), (o 4, .inl (cB, 8, .inr (.inr (.inr (.inr (fun k => some (ba k)))))))] ++ (wp_bx ba x.2.2.1 n.toNatClampNeg ++ [])) H := hP
          have hD : va_D A ([(ba n.toNatClampNeg, .inr (0, [.int ((fb_run (x.2.2.1 n.toNatClampNeg) pw x.1 x.2.1).1), .int ((fb_run (x.2.2.1 n.toNatClampNeg) pw x.1 x.2.1).2.1), .int ((fb_run (x.2.2.1 n.toNatClampNeg) pw x.1 x.2.1).2.2.1), .int ((fb_run (x.2.2.1 n.toNatClampNeg) pw x.1 x.2.1).2.2.2.1), .double ((fb_run (x.2.2.1 n.toNatClampNeg) pw x.1 x.2.1).2.2.2.2.1), .int (sf_b ((fb_run (x.2.2.1 n.toNatClampNeg) pw x.1 x.2.1).2.2.2.2.2.1)), .int ((fb_run (x.2.2.1 n.toNatClampNeg) pw x.1 x.2.1).2.2.2.2.2.2.1), .int (sf_b ((fb_run (x.2.2.1 n.toNatClampNeg) pw x.1 x.2.1).2.2.2.2.2.2.2.1)), .double ((fb_run (x.2.2.1 n.toNatClampNeg) pw x.1 x.2.1).2.2.2.2.2.2.2.2.1), .double ((fb_run (x.2.2.1 n.toNatClampNeg) pw x.1 x.2.1).2.2.2.2.2.2.2.2.2.1), .int ((fb_run (x.2.2.1 n.toNatClampNeg) pw x.1 x.2.1).2.2.2.2.2.2.2.2.2.2.1), .int ((fb_run (x.2.2.1 n.toNatClampNeg) pw x.1 x.2.1).2.2.2.2.2.2.2.2.2.2.2)])), (o 1, .inl (cZ, 24, .inl (fun i9 => sf_b ((fb_runz (x.2.2.1 n.toNatClampNeg) pw x.1 x.2.1) i9)))), (o 2, .inl (cD, 8, .inr (.inr (.inr (.inl (fb_rund (x.2.2.1 n.toNatClampNeg) pw x.2.1)))))), (o 0, .inr (2, [.ref (o 1), .ref (o 2), .ref (o 3), .ref (o 4), .int sc, .int x.2.2.2.1, .int x.2.2.2.2])), (o 3, .inl (cR, 5, .inr (.inr (.inr (.inr (fun g => some (ra g 0))))))), (o 4, .inl (cB, 8, .inr (.inr (.inr (.inr (fun k => some (ba k)))))))] ++ (wp_bx ba x.2.2.1 n.toNatClampNeg ++ [])) := hD
          refine sf_ifne (tgt := 125) hx hb dX2_drive_114 (by decide) (fun c_11 => ?_) (fun c_11 => ?_)
          · have hP := sf_P_subT (E' := [wp_B (ba n.toNatClampNeg) (fb_run (x.2.2.1 n.toNatClampNeg) pw x.1 x.2.1)] ++ [(o 0, .inr (2, [.ref (o 1), .ref (o 2), .ref (o 3), .ref (o 4), .int sc, .int x.2.2.2.1, .int x.2.2.2.2])), (o 1, .inl (cZ, 24, .inl (fun i9 => sf_b ((fb_runz (x.2.2.1 n.toNatClampNeg) pw x.1 x.2.1) i9)))), (o 2, .inl (cD, 8, .inr (.inr (.inr (.inl (fb_rund (x.2.2.1 n.toNatClampNeg) pw x.2.1)))))), (o 3, .inl (cR, 5, .inr (.inr (.inr (.inr (fun g => some (ra g 0))))))), (o 4, .inl (cB, 8, .inr (.inr (.inr (.inr (fun k => some (ba k)))))))]) hP [0, 3, 1, 2, 4, 5] rfl
            have hD := sf_D_subT (E' := [wp_B (ba n.toNatClampNeg) (fb_run (x.2.2.1 n.toNatClampNeg) pw x.1 x.2.1)] ++ [(o 0, .inr (2, [.ref (o 1), .ref (o 2), .ref (o 3), .ref (o 4), .int sc, .int x.2.2.2.1, .int x.2.2.2.2])), (o 1, .inl (cZ, 24, .inl (fun i9 => sf_b ((fb_runz (x.2.2.1 n.toNatClampNeg) pw x.1 x.2.1) i9)))), (o 2, .inl (cD, 8, .inr (.inr (.inr (.inl (fb_rund (x.2.2.1 n.toNatClampNeg) pw x.2.1)))))), (o 3, .inl (cR, 5, .inr (.inr (.inr (.inr (fun g => some (ra g 0))))))), (o 4, .inl (cB, 8, .inr (.inr (.inr (.inr (fun k => some (ba k)))))))]) hD [0, 3, 1, 2, 4, 5] (by decide) rfl
            have hP := sf_P_perm (pm_b' (ba := ba) (bs := x.2.2.1) (k := n.toNatClampNeg) (b := fb_run (x.2.2.1 n.toNatClampNeg) pw x.1 x.2.1) hn9.2 [(o 0, .inr (2, [.ref (o 1), .ref (o 2), .ref (o 3), .ref (o 4), .int sc, .int x.2.2.2.1, .int x.2.2.2.2])), (o 1, .inl (cZ, 24, .inl (fun i9 => sf_b ((fb_runz (x.2.2.1 n.toNatClampNeg) pw x.1 x.2.1) i9)))), (o 2, .inl (cD, 8, .inr (.inr (.inr (.inl (fb_rund (x.2.2.1 n.toNatClampNeg) pw x.2.1)))))), (o 3, .inl (cR, 5, .inr (.inr (.inr (.inr (fun g => some (ra g 0))))))), (o 4, .inl (cB, 8, .inr (.inr (.inr (.inr (fun k => some (ba k)))))))] []) hP
            have hD := sf_D_perm (pm_b' (ba := ba) (bs := x.2.2.1) (k := n.toNatClampNeg) (b := fb_run (x.2.2.1 n.toNatClampNeg) pw x.1 x.2.1) hn9.2 [(o 0, .inr (2, [.ref (o 1), .ref (o 2), .ref (o 3), .ref (o 4), .int sc, .int x.2.2.2.1, .int x.2.2.2.2])), (o 1, .inl (cZ, 24, .inl (fun i9 => sf_b ((fb_runz (x.2.2.1 n.toNatClampNeg) pw x.1 x.2.1) i9)))), (o 2, .inl (cD, 8, .inr (.inr (.inr (.inl (fb_rund (x.2.2.1 n.toNatClampNeg) pw x.2.1)))))), (o 3, .inl (cR, 5, .inr (.inr (.inr (.inr (fun g => some (ra g 0))))))), (o 4, .inl (cB, 8, .inr (.inr (.inr (.inr (fun k => some (ba k)))))))] []) hD
            have hP : va_P (dC, dI) vwCl (wp_T cZ cD cR cB o ra ba sc (fs_blk x n.toNatClampNeg pw)) H := hP
            have hD : va_D A (wp_T cZ cD cR cB o ra ba sc (fs_blk x n.toNatClampNeg pw)) := hD
            have hP9 : va_P (dC, dI) vwCl (wp_T cZ cD cR cB o ra ba sc (fs_drive x k n pw)) H := by
              rw [show fs_drive x k n pw = fs_blk x n.toNatClampNeg pw from by first | rfl | (simp [fs_drive, c_1, c_2, c_6, c_10, c_11]; done)]
              exact hP
            have hD9 : va_D A (wp_T cZ cD cR cB o ra ba sc (fs_drive x k n pw)) := by
              rw [show fs_drive x k n pw = fs_blk x n.toNatClampNeg pw from by first | rfl | (simp [fs_drive, c_1, c_2, c_6, c_10, c_11]; done)]
              exact hD
            exact W.vret hx hb hr (fun t ht _ => ⟨rfl, by rw [ht]; exact hP9, hAe ▸ hD9, hAe ▸ hS.F ht⟩) (fun q hq => by rw [← hAe]; exact hS.2.2 q hq) dX2_drive_125
          · refine lv_aload_n hx hb dX2_drive_117 rfl (lv_at hl 0 rfl) ?_
            refine lv_iload_n hx hb dX2_drive_118 rfl (lv_at hl 2 rfl) ?_
            refine sf_topi (y := nI n.toNatClampNeg) hn9.1 ?_
            have hP := sf_P_subT (E' := [wp_B (ba n.toNatClampNeg) (fb_run (x.2.2.1 n.toNatClampNeg) pw x.1 x.2.1)] ++ [(o 0, .inr (2, [.ref (o 1), .ref (o 2), .ref (o 3), .ref (o 4), .int sc, .int x.2.2.2.1, .int x.2.2.2.2])), (o 1, .inl (cZ, 24, .inl (fun i9 => sf_b ((fb_runz (x.2.2.1 n.toNatClampNeg) pw x.1 x.2.1) i9)))), (o 2, .inl (cD, 8, .inr (.inr (.inr (.inl (fb_rund (x.2.2.1 n.toNatClampNeg) pw x.2.1)))))), (o 3, .inl (cR, 5, .inr (.inr (.inr (.inr (fun g => some (ra g 0))))))), (o 4, .inl (cB, 8, .inr (.inr (.inr (.inr (fun k => some (ba k)))))))]) hP [0, 3, 1, 2, 4, 5] rfl
            have hD := sf_D_subT (E' := [wp_B (ba n.toNatClampNeg) (fb_run (x.2.2.1 n.toNatClampNeg) pw x.1 x.2.1)] ++ [(o 0, .inr (2, [.ref (o 1), .ref (o 2), .ref (o 3), .ref (o 4), .int sc, .int x.2.2.2.1, .int x.2.2.2.2])), (o 1, .inl (cZ, 24, .inl (fun i9 => sf_b ((fb_runz (x.2.2.1 n.toNatClampNeg) pw x.1 x.2.1) i9)))), (o 2, .inl (cD, 8, .inr (.inr (.inr (.inl (fb_rund (x.2.2.1 n.toNatClampNeg) pw x.2.1)))))), (o 3, .inl (cR, 5, .inr (.inr (.inr (.inr (fun g => some (ra g 0))))))), (o 4, .inl (cB, 8, .inr (.inr (.inr (.inr (fun k => some (ba k)))))))]) hD [0, 3, 1, 2, 4, 5] (by decide) rfl
            have hP := sf_P_perm (pm_b' (ba := ba) (bs := x.2.2.1) (k := n.toNatClampNeg) (b := fb_run (x.2.2.1 n.toNatClampNeg) pw x.1 x.2.1) hn9.2 [(o 0, .inr (2, [.ref (o 1), .ref (o 2), .ref (o 3), .ref (o 4), .int sc, .int x.2.2.2.1, .int x.2.2.2.2])), (o 1, .inl (cZ, 24, .inl (fun i9 => sf_b ((fb_runz (x.2.2.1 n.toNatClampNeg) pw x.1 x.2.1) i9)))), (o 2, .inl (cD, 8, .inr (.inr (.inr (.inl (fb_rund (x.2.2.1 n.toNatClampNeg) pw x.2.1)))))), (o 3, .inl (cR, 5, .inr (.inr (.inr (.inr (fun g => some (ra g 0))))))), (o 4, .inl (cB, 8, .inr (.inr (.inr (.inr (fun k => some (ba k)))))))] []) hP
            have hD := sf_D_perm (pm_b' (ba := ba) (bs := x.2.2.1) (k := n.toNatClampNeg) (b := fb_run (x.2.2.1 n.toNatClampNeg) pw x.1 x.2.1) hn9.2 [(o 0, .inr (2, [.ref (o 1), .ref (o 2), .ref (o 3), .ref (o 4), .int sc, .int x.2.2.2.1, .int x.2.2.2.2])), (o 1, .inl (cZ, 24, .inl (fun i9 => sf_b ((fb_runz (x.2.2.1 n.toNatClampNeg) pw x.1 x.2.1) i9)))), (o 2, .inl (cD, 8, .inr (.inr (.inr (.inl (fb_rund (x.2.2.1 n.toNatClampNeg) pw x.2.1)))))), (o 3, .inl (cR, 5, .inr (.inr (.inr (.inr (fun g => some (ra g 0))))))), (o 4, .inl (cB, 8, .inr (.inr (.inr (.inr (fun k => some (ba k)))))))] []) hD
            have hP : va_P (dC, dI) vwCl (wp_T cZ cD cR cB o ra ba sc (fs_blk x n.toNatClampNeg pw)) H := hP
            have hD : va_D A (wp_T cZ cD cR cB o ra ba sc (fs_blk x n.toNatClampNeg pw)) := hD
            have hPc : va_P (dC, dI) vwCl (wp_T cZ cD cR cB o ra ba sc (fs_blk x n.toNatClampNeg pw) ++ []) H := by rw [List.append_nil]; exact hP
            have hDc : va_D A (wp_T cZ cD cR cB o ra ba sc (fs_blk x n.toNatClampNeg pw) ++ []) := by rw [List.append_nil]; exact hD
            refine sf_callVv (va_runV (As := [.int (nI n.toNatClampNeg)]) (rest := []) ⟨hx, hb, hml, hown, hg⟩ (c_X2_takeFault l dC dI cI cZ cD cR cB o ra ba sc (fs_blk x n.toNatClampNeg pw) n.toNatClampNeg _ hn9.2) (cwV 1 hg (gw_V mw_430 mw_432 mw_11 mw_21 mw_433) rfl rfl rfl (by decide +kernel) ⟨Nat.le_of_ble_eq_true rfl, Nat.le_of_ble_eq_true rfl⟩) (sf_preVV (va_recv hK hP (ci := 2) (q0 := 0) rfl rfl) hK hZ hPc hDc) rfl rfl hl.1 rfl (lv_room (Nat.le_of_ble_eq_true rfl)) dX2_drive_119 ⟨Nat.zero_le _, Nat.zero_le _⟩) hS hPc hDc hA (fun H locs hP hD hS => ?_)
            rw [List.append_nil] at hP hD
            refine lv_goto (tgt := 125) hx hb dX2_drive_122 (by decide) ?_
            have hP9 : va_P (dC, dI) vwCl (wp_T cZ cD cR cB o ra ba sc (fs_drive x k n pw)) H := by
              rw [show fs_drive x k n pw = fs_fault (fs_blk x n.toNatClampNeg pw) n.toNatClampNeg from by first | rfl | (simp [fs_drive, c_1, c_2, c_6, c_10, c_11]; done)]
              exact hP
            have hD9 : va_D A (wp_T cZ cD cR cB o ra ba sc (fs_drive x k n pw)) := by
              rw [show fs_drive x k n pw = fs_fault (fs_blk x n.toNatClampNeg pw) n.toNatClampNeg from by first | rfl | (simp [fs_drive, c_1, c_2, c_6, c_10, c_11]; done)]
              exact hD
            exact W.vret hx hb hr (fun t ht _ => ⟨rfl, by rw [ht]; exact hP9, hAe ▸ hD9, hAe ▸ hS.F ht⟩) (fun q hq => by rw [← hAe]; exact hS.2.2 q hq) dX2_drive_125
        · skip
          have h_12 : k.toInt < 1 ∨ 4 < k.toInt := by
            have q0 : ¬ k.toInt = 1 := lv_neT c_1 (by decide)
            have q1 : ¬ k.toInt = 2 := lv_neT c_2 (by decide)
            have q2 : ¬ k.toInt = 3 := lv_neT c_6 (by decide)
            have q3 : ¬ k.toInt = 4 := lv_neT c_10 (by decide)
            omega
          refine lv_tableOut (tgt := 125) hx hb dX2_drive_1 h_12 (by decide) ?_
          have hP9 : va_P (dC, dI) vwCl (wp_T cZ cD cR cB o ra ba sc (fs_drive x k n pw)) s.heap := by
            rw [show fs_drive x k n pw = x from by first | rfl | (simp [fs_drive, c_1, c_2, c_6, c_10]; done)]
            exact hP
          have hD9 : va_D A (wp_T cZ cD cR cB o ra ba sc (fs_drive x k n pw)) := by
            rw [show fs_drive x k n pw = x from by first | rfl | (simp [fs_drive, c_1, c_2, c_6, c_10]; done)]
            exact hD
          exact W.vret hx hb hr (fun t ht _ => ⟨rfl, by rw [ht]; exact hP9, hAe ▸ hD9, hAe ▸ hS.F ht⟩) (fun q hq => by rw [← hAe]; exact hS.2.2 q hq) dX2_drive_125
