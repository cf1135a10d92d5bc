set_option maxHeartbeats 4000000 in
set_option maxRecDepth 100000 in
theorem sc_loop (l : Launch) (dC : Nat → ClassId) (dI : Nat → Nat → Nat) (cI cZ cD cR cB : ClassId) (o : Nat → Nat) (ra : Nat → Nat → Nat) (ba : Nat → Nat) {p : Program} {e : Env} {s : State} {m : MethodId} {args : Array Value} {below : List Frame} {meth : Method} {c : Code} {Q : State → Prop} (hx : p.tables.exec = Jvm.exec) (hb : c.code = cX2_scan) (hml : c.maxLocals = 3) (hown : s.vm.findClass RX2 = some m.cls) (hg : ∀ w ∈ gw_all, w.before args s = true) (hZ : nw_ok s) (hK : va_K (dC, dI) vwCl [(cI, .int), (cZ, .boolean), (cD, .double), (cR, .object RX1), (cB, .object RX0)] s) {A : Nat → Prop} (hA : ∀ q : Nat, s.heap.size ≤ q → A q) (M : Nat) (hM : M ≤ 50) : ∀ (k i : Nat), i + k = M → ∀ (q : Int32 × st_Y), ok_Y q.2 → fs_hlt q.2.1.2.2.2.2 = false → ∀ (H : Heap) (locs : List Loc) (ls : Array Slot), va_P (dC, dI) vwCl (wp_S cI cZ cD cR cB o ra ba q.1 q.2) H → va_D A (wp_S cI cZ cD cR cB o ra ba q.1 q.2) → va_S A s.heap H locs → lv_has ls 3 [(0, .ref (o 0)), (1, .int (nI M)), (2, .int (nI i))] → (∀ (q2 : Int32 × st_Y) (H : Heap) (locs : List Loc) (ls : Array Slot), fp_scan k q = q2 → fs_hlt q2.2.1.2.2.2.2 = true → va_P (dC, dI) vwCl (wp_S cI cZ cD cR cB o ra ba q2.1 q2.2) H → va_D A (wp_S cI cZ cD cR cB o ra ba q2.1 q2.2) → va_S A s.heap H locs → lv_has ls 3 [(0, .ref (o 0))] → W p l e (headSpec wX2_scan ({ frames := 7, cells := 2, slots := 12, locals := 139 })).room s m args below meth c H locs (0 + 1) (0 + 6) Q (F0 m 45 ls [])) → (∀ (q2 : Int32 × st_Y) (H : Heap) (locs : List Loc) (ls : Array Slot), fp_scan k q = q2 → fs_hlt q2.2.1.2.2.2.2 = false → va_P (dC, dI) vwCl (wp_S cI cZ cD cR cB o ra ba q2.1 q2.2) H → va_D A (wp_S cI cZ cD cR cB o ra ba q2.1 q2.2) → va_S A s.heap H locs → lv_has ls 3 [(0, .ref (o 0))] → W p l e (headSpec wX2_scan ({ frames := 7, cells := 2, slots := 12, locals := 139 })).room s m args below meth c H locs (0 + 1) (0 + 6) Q (F0 m 61 ls [])) → W p l e (headSpec wX2_scan ({ frames := 7, cells := 2, slots := 12, locals := 139 })).room s m args below meth c H locs (0 + 1) (0 + 6) Q (F0 m 29 ls []) := by
  intro k
  induction k with
  | zero =>
    intro i hi q hq hh H locs ls hP hD hS hl kx kr
    have hi : i = M := by omega
    subst hi
    refine lv_iload_n hx hb dX2_scan_29 rfl (lv_at hl 2 rfl) ?_
    refine lv_iload_n hx hb dX2_scan_30 rfl (lv_at hl 1 rfl) ?_
    refine lv_icmp_ge (tgt := 61) hx hb dX2_scan_31 (by decide) (fun _ => ?_) (fun h => absurd (Int32.le_refl _) h)
    exact kr q _ _ _ rfl hh hP hD hS (lv_sub hl [0] rfl)
  | succ k ih =>
    intro i hi q hq hh H locs ls hP hD hS hl kx kr
    have hP : va_P (dC, dI) vwCl ([(o 0, .inr (2, [.ref (o 1), .ref (o 2), .ref (o 3), .ref (o 4), .int q.1, .int q.2.1.2.2.2.1, .int q.2.1.2.2.2.2])), (o 1, .inl (cZ, 24, .inl (fun i9 => sf_b (q.2.1.1 i9)))), (o 2, .inl (cD, 8, .inr (.inr (.inr (.inl q.2.1.2.1))))), (o 3, .inl (cR, 5, .inr (.inr (.inr (.inr (fun g => some (ra g 0))))))), (o 4, .inl (cB, 8, .inr (.inr (.inr (.inr (fun k => some (ba k)))))))] ++ (wp_rs cI cZ ra q.2.2 ++ (wp_bs ba q.2.1.2.2.1 ++ []))) H := hP
    have hD : va_D A ([(o 0, .inr (2, [.ref (o 1), .ref (o 2), .ref (o 3), .ref (o 4), .int q.1, .int q.2.1.2.2.2.1, .int q.2.1.2.2.2.2])), (o 1, .inl (cZ, 24, .inl (fun i9 => sf_b (q.2.1.1 i9)))), (o 2, .inl (cD, 8, .inr (.inr (.inr (.inl q.2.1.2.1))))), (o 3, .inl (cR, 5, .inr (.inr (.inr (.inr (fun g => some (ra g 0))))))), (o 4, .inl (cB, 8, .inr (.inr (.inr (.inr (fun k => some (ba k)))))))] ++ (wp_rs cI cZ ra q.2.2 ++ (wp_bs ba q.2.1.2.2.1 ++ []))) := hD
    refine lv_iload_n hx hb dX2_scan_29 rfl (lv_at hl 2 rfl) ?_
    refine lv_iload_n hx hb dX2_scan_30 rfl (lv_at hl 1 rfl) ?_
    refine lv_icmp_ge (tgt := 61) hx hb dX2_scan_31 (by decide) (fun c_1 => ?_) (fun c_1 => ?_)
    · exact absurd c_1 (nI_ge (show i < M by omega) (by omega))
    · refine lv_aload_n hx hb dX2_scan_34 rfl (lv_at hl 0 rfl) ?_
      have hPc : va_P (dC, dI) vwCl (wp_S cI cZ cD cR cB o ra ba q.1 q.2 ++ []) H := by rw [List.append_nil]; exact hP
      have hDc : va_D A (wp_S cI cZ cD cR cB o ra ba q.1 q.2 ++ []) := by rw [List.append_nil]; exact hD
      refine sf_callVv (va_runV (As := []) (rest := []) ⟨hx, hb, hml, hown, hg⟩ (c_X2_scanOnce l dC dI cI cZ cD cR cB o ra ba q.1 q.2 _ hq) (cwV 0 hg (gw_V mw_373 mw_375 mw_2 mw_21 mw_376) rfl rfl rfl (by decide +kernel) ⟨Nat.le_of_ble_eq_true rfl, Nat.le_of_ble_eq_true rfl⟩) (sf_preVV (va_recv hK hP (ci := 2) (q0 := 0) rfl rfl) hK hZ hPc hDc) rfl rfl hl.1 rfl (lv_room (Nat.le_of_ble_eq_true rfl)) dX2_scan_35 ⟨Nat.le_of_ble_eq_true rfl, Nat.le_of_ble_eq_true rfl⟩) hS hPc hDc hA (fun H locs hP hD hS => ?_)
      rw [List.append_nil] at hP hD
      have hq1 := scan_ok hq
      obtain ⟨y1, ey⟩ : ∃ z, z = fs_scan q.2 := ⟨_, rfl⟩
      rw [← ey] at hP hD hq1
      have hP : va_P (dC, dI) vwCl ([(o 0, .inr (2, [.ref (o 1), .ref (o 2), .ref (o 3), .ref (o 4), .int (q.1 + 1), .int y1.1.2.2.2.1, .int y1.1.2.2.2.2])), (o 1, .inl (cZ, 24, .inl (fun i9 => sf_b (y1.1.1 i9)))), (o 2, .inl (cD, 8, .inr (.inr (.inr (.inl y1.1.2.1))))), (o 3, .inl (cR, 5, .inr (.inr (.inr (.inr (fun g => some (ra g 0))))))), (o 4, .inl (cB, 8, .inr (.inr (.inr (.inr (fun k => some (ba k)))))))] ++ (wp_rs cI cZ ra y1.2 ++ (wp_bs ba y1.1.2.2.1 ++ []))) H := hP
      have hD : va_D A ([(o 0, .inr (2, [.ref (o 1), .ref (o 2), .ref (o 3), .ref (o 4), .int (q.1 + 1), .int y1.1.2.2.2.1, .int y1.1.2.2.2.2])), (o 1, .inl (cZ, 24, .inl (fun i9 => sf_b (y1.1.1 i9)))), (o 2, .inl (cD, 8, .inr (.inr (.inr (.inl y1.1.2.1))))), (o 3, .inl (cR, 5, .inr (.inr (.inr (.inr (fun g => some (ra g 0))))))), (o 4, .inl (cB, 8, .inr (.inr (.inr (.inr (fun k => some (ba k)))))))] ++ (wp_rs cI cZ ra y1.2 ++ (wp_bs ba y1.1.2.2.1 ++ []))) := hD
      refine lv_aload_n hx hb dX2_scan_38 rfl (lv_at hl 0 rfl) ?_
      have hPr : va_P (dC, dI) vwCl [(o 0, .inr (2, [.ref (o 1), .ref (o 2), .ref (o 3), .ref (o 4), .int (q.1 + 1), .int y1.1.2.2.2.1, .int y1.1.2.2.2.2]))] H := hP.sub [0] rfl
      refine sf_callRi (va_runV (As := []) (rest := []) ⟨hx, hb, hml, hown, hg⟩ (c_X2_isHalted l dC dI o (q.1 + 1) y1.1.2.2.2.1 y1.1.2.2.2.2) (cwV 0 hg (gw_V mw_353 mw_355 mw_1 mw_21 mw_356) rfl rfl rfl (by decide +kernel) ⟨Nat.le_of_ble_eq_true rfl, Nat.le_of_ble_eq_true rfl⟩) (sf_preVR (va_recv hK hP (ci := 2) (q0 := 0) rfl rfl) (hK.sub [] rfl) hZ hPr) rfl rfl hl.1 rfl (lv_room (Nat.le_of_ble_eq_true rfl)) dX2_scan_39 ⟨Nat.le_of_ble_eq_true rfl, Nat.le_of_ble_eq_true rfl⟩) ?_
      refine sf_ifeq (tgt := 55) hx hb dX2_scan_42 (by decide) (fun c_2 => ?_) (fun c_2 => ?_)
      · refine lv_iinc (v := nI (i + 1)) (lv' := [(2, .int (nI (i + 1))), (0, .ref (o 0)), (1, .int (nI M))]) hx hb dX2_scan_55 hl (k := 2) rfl (nI_1 i) (by decide) rfl (fun ls hl => ?_)
        refine lv_goto (tgt := 29) hx hb dX2_scan_58 (by decide) ?_
        have eF : fp_scan (k + 1) q = fp_scan k (q.1 + 1, y1) := by
          rw [fp_scan, ← ey, if_neg (by rw [c_2]; decide)]
        rw [eF] at kx kr
        exact ih (i + 1) (by omega) (q.1 + 1, y1) hq1 c_2 _ _ _ hP hD hS (lv_sub hl [1, 2, 0] rfl) kx kr
      · refine kx (q.1 + 1, y1) _ _ _ (by rw [fp_scan, ← ey, if_pos c_2]) c_2 hP hD hS (lv_sub hl [0] rfl)
set_option maxHeartbeats 4000000 in
set_option maxRecDepth 100000 in
theorem c_X2_scan (l : Launch) (hlt : l.stackTraces = false) (sx : Nat → Nat) (dC : Nat → ClassId) (dI : Nat → Nat → Nat) (cI cZ cD cR cB : ClassId) (o : Nat → Nat) (ra : Nat → Nat → Nat) (ba : Nat → Nat) (sc : Int32) (y : st_Y) (n0 : Int32) (sz : Nat) (hy9 : ok_Y y) : vx_Met l yX2_scan wX2_scan ({ frames := 7, cells := 2, slots := 12, locals := 139 }) (sf_PX (dC, dI) vwCl [(cI, .int), (cZ, .boolean), (cD, .double), (cR, .object RX1), (cB, .object RX0)] sx (wp_S cI cZ cD cR cB o ra ba sc y) sz [.ref (o 0), .int n0]) (sf_XV (dC, dI) vwCl (fc_btw n0 1 50 = true ∧ fs_hlt y.1.2.2.2.2 = false ∧ fs_hlt (fp_scanY n0 (sc, y)).2.1.2.2.2.2 = false) (some (.int (fp_scanY n0 (sc, y)).1)) (wp_S cI cZ cD cR cB o ra ba sc y) (wp_S cI cZ cD cR cB o ra ba (fp_scanY n0 (sc, y)).1 (fp_scanY n0 (sc, y)).2)) (sf_XE (dC, dI) vwCl (fun E => (fc_btw n0 1 50 = false ∧ E = ex_I) ∨ (fc_btw n0 1 50 = true ∧ fs_hlt y.1.2.2.2.2 = true ∧ E = ex_S) ∨ (fc_btw n0 1 50 = true ∧ fs_hlt y.1.2.2.2.2 = false ∧ fs_hlt (fp_scanY n0 (sc, y)).2.1.2.2.2.2 = true ∧ E = ex_A)) (wp_S cI cZ cD cR cB o ra ba sc y) (wp_S cI cZ cD cR cB o ra ba (fp_scanY n0 (sc, y)).1 (fp_scanY n0 (sc, y)).2)) 2 12 (va_A (wp_S cI cZ cD cR cB o ra ba sc y) sz) := by
  refine vx_ofW (cc := cX2_scan) (maxL := 3) (ret := (some .int)) (by decide) rfl ?_
  intro p e s m args below meth c s₁ B hml hEx hv
  have hx := B.exec
  have hb := B.bytes
  have hr := B.returns
  have hts := atoms_spec (ws := wX2_scan) B.pre
  have hg : ∀ w ∈ gw_all, w.before args s = true := fun w h => hts w (List.mem_cons_of_mem _ h)
  have hown : s.vm.findClass RX2 = some m.cls := findClass_of_methodNamed B.named
  have hlocks := B.notSynchronized
  obtain ⟨rfl, hsz, hP, hD0, hK, hZ, hE⟩ := hv
  subst hsz
  have hl := lv_entry ([.ref (o 0), .int n0]) (n := 3) (Nat.le_of_ble_eq_true rfl)
  rw [lg_entry_eq]
  generalize (lg_sl ([.ref (o 0), .int n0]) ++ List.replicate (3 - (lg_sl ([.ref (o 0), .int n0])).length) Slot.unset).toArray = ls at hl ⊢
  have hl : lv_has ls 3 [(0, .ref (o 0)), (1, .int n0)] := hl
  obtain ⟨A, hAe⟩ : ∃ A : Nat → Prop, A = va_A (wp_S cI cZ cD cR cB o ra ba sc y) s.heap.size := ⟨_, rfl⟩
  have hD := hD0.self (sz := s.heap.size)
  rw [← hAe] at hD hE
  have hA : ∀ q : Nat, s.heap.size ≤ q → A q := fun q h => by rw [hAe]; exact Or.inr h
  have hS : va_S A s.heap s.heap [] := va_S.rf
  have hP : va_P (dC, dI) vwCl ([(o 0, .inr (2, [.ref (o 1), .ref (o 2), .ref (o 3), .ref (o 4), .int sc, .int y.1.2.2.2.1, .int y.1.2.2.2.2])), (o 1, .inl (cZ, 24, .inl (fun i9 => sf_b (y.1.1 i9)))), (o 2, .inl (cD, 8, .inr (.inr (.inr (.inl y.1.2.1))))), (o 3, .inl (cR, 5, .inr (.inr (.inr (.inr (fun g => some (ra g 0))))))), (o 4, .inl (cB, 8, .inr (.inr (.inr (.inr (fun k => some (ba k)))))))] ++ (wp_rs cI cZ ra y.2 ++ (wp_bs ba y.1.2.2.1 ++ []))) s.heap := hP
  have hD : va_D A ([(o 0, .inr (2, [.ref (o 1), .ref (o 2), .ref (o 3), .ref (o 4), .int sc, .int y.1.2.2.2.1, .int y.1.2.2.2.2])), (o 1, .inl (cZ, 24, .inl (fun i9 => sf_b (y.1.1 i9)))), (o 2, .inl (cD, 8, .inr (.inr (.inr (.inl y.1.2.1))))), (o 3, .inl (cR, 5, .inr (.inr (.inr (.inr (fun g => some (ra g 0))))))), (o 4, .inl (cB, 8, .inr (.inr (.inr (.inr (fun k => some (ba k)))))))] ++ (wp_rs cI cZ ra y.2 ++ (wp_bs ba y.1.2.2.1 ++ []))) := hD
  refine lv_iload_n hx hb dX2_scan_0 rfl (lv_at hl 1 rfl) ?_
  refine lv_iconst (v := 1) hx hb dX2_scan_1 (by decide) ?_
  refine lv_bipush (v := 50) hx hb dX2_scan_2 (by decide) ?_
  refine sf_callRi (va_runS (As := [.int n0, .int 1, .int 50]) (rest := []) ⟨hx, hb, hml, hown, hg⟩ (c_X2_isBetween l n0 1 50) (cwS 3 hg (gw_S mw_157 mw_158 mw_21 mw_159) rfl rfl rfl (by decide +kernel) ⟨Nat.le_of_ble_eq_true rfl, Nat.le_of_ble_eq_true rfl⟩) sf_pre0 rfl rfl hl.1 rfl (lv_room (Nat.le_of_ble_eq_true rfl)) dX2_scan_4 ⟨Nat.le_of_ble_eq_true rfl, Nat.le_of_ble_eq_true rfl⟩) ?_
  refine sf_callD (vx_runS (As := [.int (sf_b (fc_btw n0 1 50))]) (rest := []) ⟨hx, hb, hml, hown, hg⟩ (c_X2_demandNumbers l hlt sx (fc_btw n0 1 50)) (cwS 1 hg (gw_S mw_166 mw_167 mw_21 mw_168) rfl rfl rfl (by decide +kernel) ⟨Nat.le_of_ble_eq_true rfl, Nat.le_of_ble_eq_true rfl⟩) (sf_preD hE hS) rfl rfl hl.1 rfl (lv_room (Nat.le_of_ble_eq_true rfl)) dX2_scan_7 ⟨Nat.le_of_ble_eq_true rfl, Nat.le_of_ble_eq_true rfl⟩) (fun cF ce q9 H hz hk hce hcv hcl => ?_) (fun cT => ?_)
  · have hP := hP.kept (fun k q hq => hk q.1 (hP k q hq).lt)
    have hS := sf_S_grow hS hz hk
    have eF : fp_scanY n0 (sc, y) = (sc, y) := by
      unfold fp_scanY
      rw [if_pos cF]
    exact vx_out (fun x hx => (hEx x hx).elim) hlocks hce hcv hcl (fun t ht _ => ⟨Or.inl ⟨cF, rfl⟩, by rw [ht, eF]; exact hP, by rw [eF]; exact hAe ▸ hD, hAe ▸ hS.F ht⟩) (fun q hq => by rw [← hAe]; exact hS.2.2 q hq) (Nat.le_of_ble_eq_true rfl) (Nat.le_of_ble_eq_true rfl)
  refine lv_aload_n hx hb dX2_scan_10 rfl (lv_at hl 0 rfl) ?_
  have hPr : va_P (dC, dI) vwCl [(o 0, .inr (2, [.ref (o 1), .ref (o 2), .ref (o 3), .ref (o 4), .int sc, .int y.1.2.2.2.1, .int y.1.2.2.2.2]))] s.heap := hP.sub [0] rfl
  refine sf_callRi (va_runV (As := []) (rest := []) ⟨hx, hb, hml, hown, hg⟩ (c_X2_isHalted l dC dI o sc y.1.2.2.2.1 y.1.2.2.2.2) (cwV 0 hg (gw_V mw_353 mw_355 mw_1 mw_21 mw_356) rfl rfl rfl (by decide +kernel) ⟨Nat.le_of_ble_eq_true rfl, Nat.le_of_ble_eq_true rfl⟩) (sf_preVR (va_recv hK hP (ci := 2) (q0 := 0) rfl rfl) (hK.sub [] rfl) hZ hPr) rfl rfl hl.1 rfl (lv_room (Nat.le_of_ble_eq_true rfl)) dX2_scan_11 ⟨Nat.le_of_ble_eq_true rfl, Nat.le_of_ble_eq_true rfl⟩) ?_
  refine sf_ifeq (tgt := 27) hx hb dX2_scan_14 (by decide) (fun c_1 => ?_) (fun c_1 => ?_)
  · refine lv_iconst (v := 0) hx hb dX2_scan_27 (by decide) ?_
    refine lv_istore_n (lv' := [(2, .int 0), (0, .ref (o 0)), (1, .int n0)]) hx hb dX2_scan_28 rfl hl (by decide) rfl (fun ls hl => ?_)
    have h50 := ix_50 cT
    have eF : fp_scanY n0 (sc, y) = fp_scan n0.toNatClampNeg (sc, y) := by
      unfold fp_scanY
      rw [if_neg (by rw [cT]; decide), if_neg (by rw [c_1]; decide)]
    rw [h50.1] at hl
    refine sc_loop l dC dI cI cZ cD cR cB o ra ba hx hb hml hown hg hZ hK hA n0.toNatClampNeg h50.2 n0.toNatClampNeg 0 (Nat.zero_add _) (sc, y) hy9 c_1 _ _ _ hP hD hS (lv_sub hl [1, 2, 0] rfl) ?_ ?_
    · intro q2 H locs ls e2 h2 hP hD hS hl
      rw [e2] at eF
      refine vx_throwS (text := ev_t3) (names := ex_N) (ik := 101) (is := 103) (ic := 105) (A := A) hx hb hlt hown (by decide) (by decide) (hg _ mw_434) (hg _ mw_31) hE.2.1.2.2.2 (ex_at hg hE.1 ex_A1 ex_A2) ex_A3 hE.2.2.1 hE.2.2.2 hS (by rw [hml]; exact hl.1) dX2_scan_45 dX2_scan_48 dX2_scan_49 dX2_scan_51 dX2_scan_54 (fun x hx => (hEx x hx).elim) (by decide) (by decide) (Nat.le_of_ble_eq_true rfl) (Nat.le_of_ble_eq_true rfl) hlocks ?_ (fun q hq => by rw [← hAe]; exact hS.2.2 q hq) (Nat.le_of_ble_eq_true rfl) (Nat.le_of_ble_eq_true rfl)
      exact fun t _ h1 h3 => ⟨Or.inr (Or.inr ⟨cT, c_1, by rw [eF]; exact h2, rfl⟩), by rw [eF]; exact hP.kept (fun k q hq => h3 q.1 (hP k q hq).lt), by rw [eF]; exact hAe ▸ hD, hAe ▸ (sf_S_grow hS h1 h3).F rfl⟩
    · intro q2 H locs ls e2 h2 hP hD hS hl
      rw [e2] at eF
      have hP : va_P (dC, dI) vwCl ([(o 0, .inr (2, [.ref (o 1), .ref (o 2), .ref (o 3), .ref (o 4), .int q2.1, .int q2.2.1.2.2.2.1, .int q2.2.1.2.2.2.2])), (o 1, .inl (cZ, 24, .inl (fun i9 => sf_b (q2.2.1.1 i9)))), (o 2, .inl (cD, 8, .inr (.inr (.inr (.inl q2.2.1.2.1))))), (o 3, .inl (cR, 5, .inr (.inr (.inr (.inr (fun g => some (ra g 0))))))), (o 4, .inl (cB, 8, .inr (.inr (.inr (.inr (fun k => some (ba k)))))))] ++ (wp_rs cI cZ ra q2.2.2 ++ (wp_bs ba q2.2.1.2.2.1 ++ []))) H := hP
      refine lv_aload_n hx hb dX2_scan_61 rfl (lv_at hl 0 rfl) ?_
      refine va_get (D := (dC, dI)) (ci := 2) (v := .int q2.1) (C := RX2) (T := TX2) (N := 7) hx hb hg in_X2 hown hK hP 0 rfl rfl 4 (by decide) (hg _ mw_123) (fun _ h9 => h9) rfl dX2_scan_62 ?_
      refine sf_topi (y := (fp_scanY n0 (sc, y)).1) (by rw [eF]) ?_
      refine W.widen (k := 2) (n := 12) (Nat.le_of_ble_eq_true rfl) (Nat.le_of_ble_eq_true rfl) ?_
      refine vx_ret ?_
      exact W.iret hx hb hr (fun t ht _ => ⟨⟨cT, c_1, by rw [eF]; exact h2⟩, rfl, by rw [ht, eF]; exact hP, by rw [eF]; exact hAe ▸ hD, hAe ▸ hS.F ht⟩) (fun q hq => by rw [← hAe]; exact hS.2.2 q hq) dX2_scan_65
  · have eF : fp_scanY n0 (sc, y) = (sc, y) := by
      unfold fp_scanY
      rw [if_neg (by rw [cT]; decide), if_pos c_1]
    refine vx_throwS (text := ev_t2) (names := ex_N) (ik := 91) (is := 93) (ic := 95) (A := A) hx hb hlt hown (by decide) (by decide) (hg _ mw_357) (hg _ mw_30) hE.2.1.2.2.1 (ex_at hg hE.1 ex_S1 ex_S2) ex_S3 hE.2.2.1 hE.2.2.2 hS (by rw [hml]; exact hl.1) dX2_scan_17 dX2_scan_20 dX2_scan_21 dX2_scan_23 dX2_scan_26 (fun x hx => (hEx x hx).elim) (by decide) (by decide) (Nat.le_of_ble_eq_true rfl) (Nat.le_of_ble_eq_true rfl) hlocks ?_ (fun q hq => by rw [← hAe]; exact hS.2.2 q hq) (Nat.le_of_ble_eq_true rfl) (Nat.le_of_ble_eq_true rfl)
    exact fun t _ h1 h2 => ⟨Or.inr (Or.inl ⟨cT, c_1, rfl⟩), by rw [eF]; exact hP.kept (fun k q hq => h2 q.1 (hP k q hq).lt), by rw [eF]; exact hAe ▸ hD, hAe ▸ (sf_S_grow hS h1 h2).F rfl⟩
set_option maxHeartbeats 4000000 in
set_option maxRecDepth 100000 in
theorem c_X2_resume (l : Launch) (dC : Nat → ClassId) (dI : Nat → Nat → Nat) (cI cZ cD cR cB : ClassId) (o : Nat → Nat) (ra : Nat → Nat → Nat) (ba : Nat → Nat) (sc : Int32) (y : st_Y) (sz : Nat)  : Met l yX2_resume wX2_resume ({ frames := 0, cells := 0, slots := 0, locals := 0 }) (sf_PV (dC, dI) vwCl [(cI, .int), (cZ, .boolean), (cD, .double), (cR, .object RX1), (cB, .object RX0)] (wp_S cI cZ cD cR cB o ra ba sc y) sz [.ref (o 0)]) (sf_V (dC, dI) vwCl (some (.int y.1.2.2.2.2)) (wp_S cI cZ cD cR cB o ra ba sc y) (wp_S cI cZ cD cR cB o ra ba sc (fp_resume y))) 0 0 (va_A (wp_S cI cZ cD cR cB o ra ba sc y) sz) := by
  refine Met.ofW (cc := cX2_resume) (maxL := 2) (ret := (some .int)) (by decide) rfl ?_
  intro p e s m args below meth c s₁ B hml hv
  have hx := B.exec
  have hb := B.bytes
  have hr := B.returns
  have hts := atoms_spec (ws := wX2_resume) B.pre
  have hg : ∀ w ∈ gw_all, w.before args s = true := fun w h => hts w (List.mem_cons_of_mem _ h)
  have hown : s.vm.findClass RX2 = some m.cls := findClass_of_methodNamed B.named
  have hlocks := B.notSynchronized
  obtain ⟨rfl, hsz, hP, hD0, hK, hZ⟩ := hv
  subst hsz
  have hl := lv_entry ([.ref (o 0)]) (n := 2) (Nat.le_of_ble_eq_true rfl)
  rw [lg_entry_eq]
  generalize (lg_sl ([.ref (o 0)]) ++ List.replicate (2 - (lg_sl ([.ref (o 0)])).length) Slot.unset).toArray = ls at hl ⊢
  have hl : lv_has ls 2 [(0, .ref (o 0))] := hl
  obtain ⟨A, hAe⟩ : ∃ A : Nat → Prop, A = va_A (wp_S cI cZ cD cR cB o ra ba sc y) s.heap.size := ⟨_, rfl⟩
  have hD := hD0.self (sz := s.heap.size)
  rw [← hAe] at hD
  have hA : ∀ q : Nat, s.heap.size ≤ q → A q := fun q h => by rw [hAe]; exact Or.inr h
  have hS : va_S A s.heap s.heap [] := va_S.rf
  have hP : va_P (dC, dI) vwCl ([(o 0, .inr (2, [.ref (o 1), .ref (o 2), .ref (o 3), .ref (o 4), .int sc, .int y.1.2.2.2.1, .int y.1.2.2.2.2])), (o 1, .inl (cZ, 24, .inl (fun i9 => sf_b (y.1.1 i9)))), (o 2, .inl (cD, 8, .inr (.inr (.inr (.inl y.1.2.1))))), (o 3, .inl (cR, 5, .inr (.inr (.inr (.inr (fun g => some (ra g 0))))))), (o 4, .inl (cB, 8, .inr (.inr (.inr (.inr (fun k => some (ba k)))))))] ++ (wp_rs cI cZ ra y.2 ++ (wp_bs ba y.1.2.2.1 ++ []))) s.heap := hP
  have hD : va_D A ([(o 0, .inr (2, [.ref (o 1), .ref (o 2), .ref (o 3), .ref (o 4), .int sc, .int y.1.2.2.2.1, .int y.1.2.2.2.2])), (o 1, .inl (cZ, 24, .inl (fun i9 => sf_b (y.1.1 i9)))), (o 2, .inl (cD, 8, .inr (.inr (.inr (.inl y.1.2.1))))), (o 3, .inl (cR, 5, .inr (.inr (.inr (.inr (fun g => some (ra g 0))))))), (o 4, .inl (cB, 8, .inr (.inr (.inr (.inr (fun k => some (ba k)))))))] ++ (wp_rs cI cZ ra y.2 ++ (wp_bs ba y.1.2.2.1 ++ []))) := hD
  refine lv_aload_n hx hb dX2_resume_0 rfl (lv_at hl 0 rfl) ?_
  refine va_get (D := (dC, dI)) (ci := 2) (v := .int y.1.2.2.2.2) (C := RX2) (T := TX2) (N := 7) hx hb hg in_X2 hown hK hP 0 rfl rfl 6 (by decide) (hg _ mw_125) (fun _ h9 => h9) rfl dX2_resume_1 ?_
  refine lv_istore_n (lv' := [(1, .int y.1.2.2.2.2), (0, .ref (o 0))]) hx hb dX2_resume_4 rfl hl (by decide) rfl (fun ls hl => ?_)
  refine lv_aload_n hx hb dX2_resume_5 rfl (lv_at hl 1 rfl) ?_
  refine lv_iconst (v := (-1)) hx hb dX2_resume_6 (by decide) ?_
  refine va_put (D := (dC, dI)) (ci := 2) (v := .int (-1)) (ty := .int) (C := RX2) (T := TX2) (N := 7) hx hb hg in_X2 tyX2 tyX2_ok nmX2 hown hK hP hD hS 0 rfl rfl 6 (by decide) (hg _ mw_125) (fun _ h9 => h9) rfl (by decide +kernel) rfl rfl (Nat.le_of_ble_eq_true rfl) dX2_resume_7 (fun H locs hP hD hS => ?_)
  have hP : va_P (dC, dI) vwCl ([(o 0, .inr (2, [.ref (o 1), .ref (o 2), .ref (o 3), .ref (o 4), .int sc, .int y.1.2.2.2.1, .int (-1)])), (o 1, .inl (cZ, 24, .inl (fun i9 => sf_b (y.1.1 i9)))), (o 2, .inl (cD, 8, .inr (.inr (.inr (.inl y.1.2.1))))), (o 3, .inl (cR, 5, .inr (.inr (.inr (.inr (fun g => some (ra g 0))))))), (o 4, .inl (cB, 8, .inr (.inr (.inr (.inr (fun k => some (ba k)))))))] ++ (wp_rs cI cZ ra y.2 ++ (wp_bs ba y.1.2.2.1 ++ []))) H := hP
  have hD : va_D A ([(o 0, .inr (2, [.ref (o 1), .ref (o 2), .ref (o 3), .ref (o 4), .int sc, .int y.1.2.2.2.1, .int (-1)])), (o 1, .inl (cZ, 24, .inl (fun i9 => sf_b (y.1.1 i9)))), (o 2, .inl (cD, 8, .inr (.inr (.inr (.inl y.1.2.1))))), (o 3, .inl (cR, 5, .inr (.inr (.inr (.inr (fun g => some (ra g 0))))))), (o 4, .inl (cB, 8, .inr (.inr (.inr (.inr (fun k => some (ba k)))))))] ++ (wp_rs cI cZ ra y.2 ++ (wp_bs ba y.1.2.2.1 ++ []))) := hD
  refine lv_iload_n hx hb dX2_resume_10 rfl (lv_at hl 0 rfl) ?_
  have hP9 : va_P (dC, dI) vwCl (wp_S cI cZ cD cR cB o ra ba sc (fp_resume y)) H := by
    exact hP
  have hD9 : va_D A (wp_S cI cZ cD cR cB o ra ba sc (fp_resume y)) := by
    exact hD
  exact W.iret hx hb hr (fun t ht _ => ⟨rfl, by rw [ht]; exact hP9, hAe ▸ hD9, hAe ▸ hS.F ht⟩) (fun q hq => by rw [← hAe]; exact hS.2.2 q hq) dX2_resume_11
