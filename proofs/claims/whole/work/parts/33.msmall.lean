set_option maxHeartbeats 4000000 in
set_option maxRecDepth 100000 in
theorem ct_loop (l : Launch) (dC : Nat → ClassId) (dI : Nat → Nat → Nat) (cI cZ cD : ClassId) (a : Nat → Nat) (w0 : Int32) (z1 z2 z3 z4 z5 z6 z7 z8 : Nat → Bool) (z9 z10 z11 z12 : Nat → UInt64) (z13 z14 z15 z16 z17 z18 z19 z20 z21 z22 z23 : Nat → Int32) (z24 z25 z26 z27 : Int32) (z28 : Bool) {p : Program} {e : Env} {s : State} {m : MethodId} {args : Array Value} {below : List Frame} {meth : Method} {c : Code} {Q : State → Prop} (hx : p.tables.exec = Jvm.exec) (hb : c.code = cX3_count) (hml : c.maxLocals = 4) (hown : s.vm.findClass RX3 = some m.cls) (hg : ∀ w ∈ gw_all, w.before args s = true) (hZ : nw_ok s) (hK : va_K (dC, dI) vwCl [(cI, .int), (cZ, .boolean), (cD, .double)] s) {H : Heap} {locs : List Loc} (hP : va_P (dC, dI) vwCl [(a 0, .inr (3, [.ref (a 1), .ref (a 2), .ref (a 3), .ref (a 4), .ref (a 5), .ref (a 6), .ref (a 7), .ref (a 8), .ref (a 9), .ref (a 10), .ref (a 11), .ref (a 12), .ref (a 13), .ref (a 14), .ref (a 15), .ref (a 16), .ref (a 17), .ref (a 18), .ref (a 19), .ref (a 20), .ref (a 21), .ref (a 22), .ref (a 23), .int z24, .int z25, .int z26, .int z27, .int (sf_b z28)])), (a 1, .inl (cZ, 24, .inl (fun i9 => sf_b (z1 i9)))), (a 2, .inl (cZ, 60, .inl (fun i9 => sf_b (z2 i9)))), (a 3, .inl (cZ, 40, .inl (fun i9 => sf_b (z3 i9)))), (a 4, .inl (cZ, 60, .inl (fun i9 => sf_b (z4 i9)))), (a 5, .inl (cZ, 5, .inl (fun i9 => sf_b (z5 i9)))), (a 6, .inl (cZ, 8, .inl (fun i9 => sf_b (z6 i9)))), (a 7, .inl (cZ, 8, .inl (fun i9 => sf_b (z7 i9)))), (a 8, .inl (cZ, 3, .inl (fun i9 => sf_b (z8 i9)))), (a 9, .inl (cD, 8, .inr (.inr (.inr (.inl z9))))), (a 10, .inl (cD, 8, .inr (.inr (.inr (.inl z10))))), (a 11, .inl (cD, 8, .inr (.inr (.inr (.inl z11))))), (a 12, .inl (cD, 8, .inr (.inr (.inr (.inl z12))))), (a 13, .inl (cI, 60, .inl z13)), (a 14, .inl (cI, 60, .inl z14)), (a 15, .inl (cI, 15, .inl z15)), (a 16, .inl (cI, 15, .inl z16)), (a 17, .inl (cI, 8, .inl z17)), (a 18, .inl (cI, 8, .inl z18)), (a 19, .inl (cI, 8, .inl z19)), (a 20, .inl (cI, 8, .inl z20)), (a 21, .inl (cI, 8, .inl z21)), (a 22, .inl (cI, 8, .inl z22)), (a 23, .inl (cI, 8, .inl z23))] H) : ∀ (k n : Nat), n + k = 24 → ∀ ls : Array Slot, lv_has ls 4 [(0, .ref (a 0)), (1, .int w0), (2, .int (nI (fs_on z1 n))), (3, .int (nI n))] → (∀ ls : Array Slot, lv_has ls 4 [(0, .ref (a 0)), (1, .int w0), (2, .int (nI (fs_on z1 24)))] → W p l e (headSpec wX3_count ({ frames := 1, cells := 0, slots := 0, locals := 22 })).room s m args below meth c H locs 0 0 Q (F0 m 48 ls [])) → W p l e (headSpec wX3_count ({ frames := 1, cells := 0, slots := 0, locals := 22 })).room s m args below meth c H locs 0 0 Q (F0 m 24 ls []) := by
  intro k
  induction k with
  | zero =>
    intro n hn ls hl kk
    have hn : n = 24 := by omega
    subst hn
    refine lv_iload_n hx hb dX3_count_24 rfl (lv_at hl 3 rfl) ?_
    refine lv_bipush (v := 24) hx hb dX3_count_25 (by decide) ?_
    refine lv_icmp_ge (tgt := 48) hx hb dX3_count_27 (by decide) (fun _ => ?_) (fun h => absurd (by decide) h)
    exact kk ls (lv_sub hl [0, 1, 2] rfl)
  | succ k ih =>
    intro n hn ls hl kk
    refine lv_iload_n hx hb dX3_count_24 rfl (lv_at hl 3 rfl) ?_
    refine lv_bipush (v := 24) hx hb dX3_count_25 (by decide) ?_
    refine lv_icmp_ge (tgt := 48) hx hb dX3_count_27 (by decide) (fun c_1 => ?_) (fun c_1 => ?_)
    · exact absurd c_1 (nI_ge (show n < 24 by omega) (by decide))
    · refine lv_aload_n hx hb dX3_count_30 rfl (lv_at hl 0 rfl) ?_
      refine va_get (D := (dC, dI)) (ci := 3) (v := .ref (a 1)) (C := RX3) (T := TX3) (N := 28) hx hb hg in_X3 hown hK hP 0 rfl rfl 0 (by decide) (hg _ mw_499) (fun _ h9 => h9) rfl dX3_count_31 ?_
      refine lv_iload_n hx hb dX3_count_34 rfl (lv_at hl 3 rfl) ?_
      refine sf_zald hx hb hK hP 1 1 rfl rfl n rfl (by omega) (by decide) dX3_count_35 ?_
      refine sf_ifeq (tgt := 42) hx hb dX3_count_36 (by decide) (fun c_2 => ?_) (fun c_2 => ?_)
      · refine lv_iinc (v := nI (n + 1)) (lv' := [(3, .int (nI (n + 1))), (0, .ref (a 0)), (1, .int w0), (2, .int (nI (fs_on z1 n)))]) hx hb dX3_count_42 hl (k := 3) rfl (nI_1 n) (by decide) rfl (fun ls hl => ?_)
        refine lv_goto (tgt := 24) hx hb dX3_count_45 (by decide) ?_
        have e9 : fs_on z1 (n + 1) = fs_on z1 n := by
          show fs_on z1 n + (if z1 n = true then 1 else 0) = fs_on z1 n
          rw [c_2]
          rfl
        exact ih (n + 1) (by omega) ls (by rw [e9]; exact lv_sub hl [1, 2, 3, 0] rfl) kk
      · refine lv_iinc (v := nI (fs_on z1 (n + 1))) (lv' := [(2, .int (nI (fs_on z1 (n + 1)))), (0, .ref (a 0)), (1, .int w0), (3, .int (nI n))]) hx hb dX3_count_39 hl (k := 2) rfl (show nI (fs_on z1 n) + 1 = nI (fs_on z1 n + (if z1 n = true then 1 else 0)) from by rw [c_2]; exact nI_1 _) (by decide) rfl (fun ls hl => ?_)
        refine lv_iinc (v := nI (n + 1)) (lv' := [(3, .int (nI (n + 1))), (2, .int (nI (fs_on z1 (n + 1)))), (0, .ref (a 0)), (1, .int w0)]) hx hb dX3_count_42 hl (k := 3) rfl (nI_1 n) (by decide) rfl (fun ls hl => ?_)
        refine lv_goto (tgt := 24) hx hb dX3_count_45 (by decide) ?_
        exact ih (n + 1) (by omega) ls (lv_sub hl [2, 3, 1, 0] rfl) kk
set_option maxHeartbeats 4000000 in
set_option maxRecDepth 100000 in
theorem c_X3_count (l : Launch) (dC : Nat → ClassId) (dI : Nat → Nat → Nat) (cI cZ cD : ClassId) (a : Nat → Nat) (x : st_M) (w0 : Int32) (sz : Nat)  : Met l yX3_count wX3_count ({ frames := 1, cells := 0, slots := 0, locals := 22 }) (sf_PV (dC, dI) vwCl [(cI, .int), (cZ, .boolean), (cD, .double)] (wp_M cI cZ cD a x) sz [.ref (a 0), .int w0]) (sf_V (dC, dI) vwCl (some (.int (ma_count x w0))) (wp_M cI cZ cD a x) (wp_M cI cZ cD a (ms_count x w0))) 0 0 (va_A (wp_M cI cZ cD a x) sz) := by
  refine Met.ofW (cc := cX3_count) (maxL := 4) (ret := (some .int)) (by decide) rfl ?_
  intro p e s m args below meth c s₁ B hml hv
  have hx := B.exec
  have hb := B.bytes
  have hr := B.returns
  have hts := atoms_spec (ws := wX3_count) B.pre
  have hg : ∀ w ∈ gw_all, w.before args s = true := fun w h => hts w (List.mem_cons_of_mem _ h)
  have hown : s.vm.findClass RX3 = some m.cls := findClass_of_methodNamed B.named
  have hlocks := B.notSynchronized
  obtain ⟨rfl, hsz, hP, hD0, hK, hZ⟩ := hv
  subst hsz
  have hl := lv_entry ([.ref (a 0), .int w0]) (n := 4) (Nat.le_of_ble_eq_true rfl)
  rw [lg_entry_eq]
  generalize (lg_sl ([.ref (a 0), .int w0]) ++ List.replicate (4 - (lg_sl ([.ref (a 0), .int w0])).length) Slot.unset).toArray = ls at hl ⊢
  have hl : lv_has ls 4 [(0, .ref (a 0)), (1, .int w0)] := hl
  obtain ⟨A, hAe⟩ : ∃ A : Nat → Prop, A = va_A (wp_M cI cZ cD a x) s.heap.size := ⟨_, rfl⟩
  have hD := hD0.self (sz := s.heap.size)
  rw [← hAe] at hD
  have hA : ∀ q : Nat, s.heap.size ≤ q → A q := fun q h => by rw [hAe]; exact Or.inr h
  have hS : va_S A s.heap s.heap [] := va_S.rf
  obtain ⟨z1, z2, z3, z4, z5, z6, z7, z8, z9, z10, z11, z12, z13, z14, z15, z16, z17, z18, z19, z20, z21, z22, z23, z24, z25, z26, z27, z28⟩ := x
  have hP : va_P (dC, dI) vwCl [(a 0, .inr (3, [.ref (a 1), .ref (a 2), .ref (a 3), .ref (a 4), .ref (a 5), .ref (a 6), .ref (a 7), .ref (a 8), .ref (a 9), .ref (a 10), .ref (a 11), .ref (a 12), .ref (a 13), .ref (a 14), .ref (a 15), .ref (a 16), .ref (a 17), .ref (a 18), .ref (a 19), .ref (a 20), .ref (a 21), .ref (a 22), .ref (a 23), .int z24, .int z25, .int z26, .int z27, .int (sf_b z28)])), (a 1, .inl (cZ, 24, .inl (fun i9 => sf_b (z1 i9)))), (a 2, .inl (cZ, 60, .inl (fun i9 => sf_b (z2 i9)))), (a 3, .inl (cZ, 40, .inl (fun i9 => sf_b (z3 i9)))), (a 4, .inl (cZ, 60, .inl (fun i9 => sf_b (z4 i9)))), (a 5, .inl (cZ, 5, .inl (fun i9 => sf_b (z5 i9)))), (a 6, .inl (cZ, 8, .inl (fun i9 => sf_b (z6 i9)))), (a 7, .inl (cZ, 8, .inl (fun i9 => sf_b (z7 i9)))), (a 8, .inl (cZ, 3, .inl (fun i9 => sf_b (z8 i9)))), (a 9, .inl (cD, 8, .inr (.inr (.inr (.inl z9))))), (a 10, .inl (cD, 8, .inr (.inr (.inr (.inl z10))))), (a 11, .inl (cD, 8, .inr (.inr (.inr (.inl z11))))), (a 12, .inl (cD, 8, .inr (.inr (.inr (.inl z12))))), (a 13, .inl (cI, 60, .inl z13)), (a 14, .inl (cI, 60, .inl z14)), (a 15, .inl (cI, 15, .inl z15)), (a 16, .inl (cI, 15, .inl z16)), (a 17, .inl (cI, 8, .inl z17)), (a 18, .inl (cI, 8, .inl z18)), (a 19, .inl (cI, 8, .inl z19)), (a 20, .inl (cI, 8, .inl z20)), (a 21, .inl (cI, 8, .inl z21)), (a 22, .inl (cI, 8, .inl z22)), (a 23, .inl (cI, 8, .inl z23))] s.heap := hP
  have hD : va_D A [(a 0, .inr (3, [.ref (a 1), .ref (a 2), .ref (a 3), .ref (a 4), .ref (a 5), .ref (a 6), .ref (a 7), .ref (a 8), .ref (a 9), .ref (a 10), .ref (a 11), .ref (a 12), .ref (a 13), .ref (a 14), .ref (a 15), .ref (a 16), .ref (a 17), .ref (a 18), .ref (a 19), .ref (a 20), .ref (a 21), .ref (a 22), .ref (a 23), .int z24, .int z25, .int z26, .int z27, .int (sf_b z28)])), (a 1, .inl (cZ, 24, .inl (fun i9 => sf_b (z1 i9)))), (a 2, .inl (cZ, 60, .inl (fun i9 => sf_b (z2 i9)))), (a 3, .inl (cZ, 40, .inl (fun i9 => sf_b (z3 i9)))), (a 4, .inl (cZ, 60, .inl (fun i9 => sf_b (z4 i9)))), (a 5, .inl (cZ, 5, .inl (fun i9 => sf_b (z5 i9)))), (a 6, .inl (cZ, 8, .inl (fun i9 => sf_b (z6 i9)))), (a 7, .inl (cZ, 8, .inl (fun i9 => sf_b (z7 i9)))), (a 8, .inl (cZ, 3, .inl (fun i9 => sf_b (z8 i9)))), (a 9, .inl (cD, 8, .inr (.inr (.inr (.inl z9))))), (a 10, .inl (cD, 8, .inr (.inr (.inr (.inl z10))))), (a 11, .inl (cD, 8, .inr (.inr (.inr (.inl z11))))), (a 12, .inl (cD, 8, .inr (.inr (.inr (.inl z12))))), (a 13, .inl (cI, 60, .inl z13)), (a 14, .inl (cI, 60, .inl z14)), (a 15, .inl (cI, 15, .inl z15)), (a 16, .inl (cI, 15, .inl z16)), (a 17, .inl (cI, 8, .inl z17)), (a 18, .inl (cI, 8, .inl z18)), (a 19, .inl (cI, 8, .inl z19)), (a 20, .inl (cI, 8, .inl z20)), (a 21, .inl (cI, 8, .inl z21)), (a 22, .inl (cI, 8, .inl z22)), (a 23, .inl (cI, 8, .inl z23))] := hD
  refine lv_iload_n hx hb dX3_count_0 rfl (lv_at hl 1 rfl) ?_
  refine lv_iconst (v := 0) hx hb dX3_count_1 (by decide) ?_
  refine lv_iconst (v := 3) hx hb dX3_count_2 (by decide) ?_
  refine sf_callRi (va_runS (As := [.int w0, .int 0, .int 3]) (rest := []) ⟨hx, hb, hml, hown, hg⟩ (c_X3_in l w0 0 3) (cwS 3 hg (gw_S mw_592 mw_593 mw_24 mw_594) rfl rfl rfl (by decide +kernel) ⟨Nat.le_of_ble_eq_true rfl, Nat.le_of_ble_eq_true rfl⟩) sf_pre0 rfl rfl hl.1 rfl (lv_room (Nat.le_of_ble_eq_true rfl)) dX3_count_3 ⟨Nat.zero_le _, Nat.zero_le _⟩) ?_
  refine sf_ifne (tgt := 15) hx hb dX3_count_6 (by decide) (fun c_1 => ?_) (fun c_1 => ?_)
  · refine lv_aload_n hx hb dX3_count_15 rfl (lv_at hl 0 rfl) ?_
    refine lv_iconst (v := 0) hx hb dX3_count_16 (by decide) ?_
    refine va_put (D := (dC, dI)) (ci := 3) (v := .int 0) (ty := .int) (C := RX3) (T := TX3) (N := 28) hx hb hg in_X3 tyX3 tyX3_ok nmX3 hown hK hP hD hS 0 rfl rfl 25 (by decide) (hg _ mw_524) (fun _ h9 => h9) rfl (by decide +kernel) rfl rfl (Nat.le_of_ble_eq_true rfl) dX3_count_17 (fun H locs hP hD hS => ?_)
    have hP : va_P (dC, dI) vwCl [(a 0, .inr (3, [.ref (a 1), .ref (a 2), .ref (a 3), .ref (a 4), .ref (a 5), .ref (a 6), .ref (a 7), .ref (a 8), .ref (a 9), .ref (a 10), .ref (a 11), .ref (a 12), .ref (a 13), .ref (a 14), .ref (a 15), .ref (a 16), .ref (a 17), .ref (a 18), .ref (a 19), .ref (a 20), .ref (a 21), .ref (a 22), .ref (a 23), .int z24, .int z25, .int 0, .int z27, .int (sf_b z28)])), (a 1, .inl (cZ, 24, .inl (fun i9 => sf_b (z1 i9)))), (a 2, .inl (cZ, 60, .inl (fun i9 => sf_b (z2 i9)))), (a 3, .inl (cZ, 40, .inl (fun i9 => sf_b (z3 i9)))), (a 4, .inl (cZ, 60, .inl (fun i9 => sf_b (z4 i9)))), (a 5, .inl (cZ, 5, .inl (fun i9 => sf_b (z5 i9)))), (a 6, .inl (cZ, 8, .inl (fun i9 => sf_b (z6 i9)))), (a 7, .inl (cZ, 8, .inl (fun i9 => sf_b (z7 i9)))), (a 8, .inl (cZ, 3, .inl (fun i9 => sf_b (z8 i9)))), (a 9, .inl (cD, 8, .inr (.inr (.inr (.inl z9))))), (a 10, .inl (cD, 8, .inr (.inr (.inr (.inl z10))))), (a 11, .inl (cD, 8, .inr (.inr (.inr (.inl z11))))), (a 12, .inl (cD, 8, .inr (.inr (.inr (.inl z12))))), (a 13, .inl (cI, 60, .inl z13)), (a 14, .inl (cI, 60, .inl z14)), (a 15, .inl (cI, 15, .inl z15)), (a 16, .inl (cI, 15, .inl z16)), (a 17, .inl (cI, 8, .inl z17)), (a 18, .inl (cI, 8, .inl z18)), (a 19, .inl (cI, 8, .inl z19)), (a 20, .inl (cI, 8, .inl z20)), (a 21, .inl (cI, 8, .inl z21)), (a 22, .inl (cI, 8, .inl z22)), (a 23, .inl (cI, 8, .inl z23))] H := hP
    have hD : va_D A [(a 0, .inr (3, [.ref (a 1), .ref (a 2), .ref (a 3), .ref (a 4), .ref (a 5), .ref (a 6), .ref (a 7), .ref (a 8), .ref (a 9), .ref (a 10), .ref (a 11), .ref (a 12), .ref (a 13), .ref (a 14), .ref (a 15), .ref (a 16), .ref (a 17), .ref (a 18), .ref (a 19), .ref (a 20), .ref (a 21), .ref (a 22), .ref (a 23), .int z24, .int z25, .int 0, .int z27, .int (sf_b z28)])), (a 1, .inl (cZ, 24, .inl (fun i9 => sf_b (z1 i9)))), (a 2, .inl (cZ, 60, .inl (fun i9 => sf_b (z2 i9)))), (a 3, .inl (cZ, 40, .inl (fun i9 => sf_b (z3 i9)))), (a 4, .inl (cZ, 60, .inl (fun i9 => sf_b (z4 i9)))), (a 5, .inl (cZ, 5, .inl (fun i9 => sf_b (z5 i9)))), (a 6, .inl (cZ, 8, .inl (fun i9 => sf_b (z6 i9)))), (a 7, .inl (cZ, 8, .inl (fun i9 => sf_b (z7 i9)))), (a 8, .inl (cZ, 3, .inl (fun i9 => sf_b (z8 i9)))), (a 9, .inl (cD, 8, .inr (.inr (.inr (.inl z9))))), (a 10, .inl (cD, 8, .inr (.inr (.inr (.inl z10))))), (a 11, .inl (cD, 8, .inr (.inr (.inr (.inl z11))))), (a 12, .inl (cD, 8, .inr (.inr (.inr (.inl z12))))), (a 13, .inl (cI, 60, .inl z13)), (a 14, .inl (cI, 60, .inl z14)), (a 15, .inl (cI, 15, .inl z15)), (a 16, .inl (cI, 15, .inl z16)), (a 17, .inl (cI, 8, .inl z17)), (a 18, .inl (cI, 8, .inl z18)), (a 19, .inl (cI, 8, .inl z19)), (a 20, .inl (cI, 8, .inl z20)), (a 21, .inl (cI, 8, .inl z21)), (a 22, .inl (cI, 8, .inl z22)), (a 23, .inl (cI, 8, .inl z23))] := hD
    refine lv_iconst (v := 0) hx hb dX3_count_20 (by decide) ?_
    refine lv_istore_n (lv' := [(2, .int 0), (0, .ref (a 0)), (1, .int w0)]) hx hb dX3_count_21 rfl hl (by decide) rfl (fun ls hl => ?_)
    refine lv_iconst (v := 0) hx hb dX3_count_22 (by decide) ?_
    refine lv_istore_n (lv' := [(3, .int 0), (2, .int 0), (0, .ref (a 0)), (1, .int w0)]) hx hb dX3_count_23 rfl hl (by decide) rfl (fun ls hl => ?_)
    refine ct_loop l dC dI cI cZ cD a w0 z1 z2 z3 z4 z5 z6 z7 z8 z9 z10 z11 z12 z13 z14 z15 z16 z17 z18 z19 z20 z21 z22 z23 z24 z25 0 z27 z28 hx hb hml hown hg hZ hK hP 24 0 rfl ls (lv_sub hl [2, 3, 1, 0] rfl) (fun ls hl => ?_)
    refine lv_iload_n hx hb dX3_count_48 rfl (lv_at hl 1 rfl) ?_
    refine lv_if_ne (tgt := 59) hx hb dX3_count_49 (by decide) (fun c_2 => ?_) (fun c_2 => ?_)
    · refine lv_iload_n hx hb dX3_count_59 rfl (lv_at hl 1 rfl) ?_
      refine lv_iconst (v := 1) hx hb dX3_count_60 (by decide) ?_
      refine lv_icmp_ne (tgt := 79) hx hb dX3_count_61 (by decide) (fun c_3 => ?_) (fun c_3 => ?_)
      · refine lv_iload_n hx hb dX3_count_79 rfl (lv_at hl 1 rfl) ?_
        refine lv_iconst (v := 2) hx hb dX3_count_80 (by decide) ?_
        refine lv_icmp_ne (tgt := 88) hx hb dX3_count_81 (by decide) (fun c_4 => ?_) (fun c_4 => ?_)
        · refine lv_aload_n hx hb dX3_count_88 rfl (lv_at hl 0 rfl) ?_
          refine va_get (D := (dC, dI)) (ci := 3) (v := .int z25) (C := RX3) (T := TX3) (N := 28) hx hb hg in_X3 hown hK hP 0 rfl rfl 24 (by decide) (hg _ mw_523) (fun _ h9 => h9) rfl dX3_count_89 ?_
          have q_5 : fc_btw w0 0 3 = true := by first | (simp [c_1, c_2, c_3, c_4]; done) | (simp [c_1, c_2, c_3]; done) | (simp [c_1, c_2, c_4]; done) | (simp [c_1, c_3, c_4]; done) | (simp [c_2, c_3, c_4]; done)
          have eA : (ma_count (z1, z2, z3, z4, z5, z6, z7, z8, z9, z10, z11, z12, z13, z14, z15, z16, z17, z18, z19, z20, z21, z22, z23, z24, z25, z26, z27, z28) w0 : Int32) = z25 := (by rw [ma_count, if_pos c_1]; simp [mg_scans, mg_halted, mg_bit, mg_all, sf_b, c_2, c_3, c_4])
          refine sf_topi (y := ma_count (z1, z2, z3, z4, z5, z6, z7, z8, z9, z10, z11, z12, z13, z14, z15, z16, z17, z18, z19, z20, z21, z22, z23, z24, z25, z26, z27, z28) w0) eA.symm ?_
          have q_6 : fc_btw w0 0 3 = true := by first | (simp [c_1, c_2, c_3, c_4]; done) | (simp [c_1, c_2, c_3]; done) | (simp [c_1, c_2, c_4]; done) | (simp [c_1, c_3, c_4]; done) | (simp [c_2, c_3, c_4]; done)
          have eX : ms_count (z1, z2, z3, z4, z5, z6, z7, z8, z9, z10, z11, z12, z13, z14, z15, z16, z17, z18, z19, z20, z21, z22, z23, z24, z25, z26, z27, z28) w0 = (z1, z2, z3, z4, z5, z6, z7, z8, z9, z10, z11, z12, z13, z14, z15, z16, z17, z18, z19, z20, z21, z22, z23, z24, z25, 0, z27, z28) := (if_pos q_6).trans (rfl)
          have hP9 : va_P (dC, dI) vwCl (wp_M cI cZ cD a (ms_count (z1, z2, z3, z4, z5, z6, z7, z8, z9, z10, z11, z12, z13, z14, z15, z16, z17, z18, z19, z20, z21, z22, z23, z24, z25, z26, z27, z28) w0)) H := by
            rw [eX]
            exact hP
          have hD9 : va_D A (wp_M cI cZ cD a (ms_count (z1, z2, z3, z4, z5, z6, z7, z8, z9, z10, z11, z12, z13, z14, z15, z16, z17, z18, z19, z20, z21, z22, z23, z24, z25, z26, z27, z28) w0)) := by
            rw [eX]
            exact hD
          exact W.iret hx hb hr (fun t ht _ => ⟨rfl, by rw [ht]; exact hP9, hAe ▸ hD9, hAe ▸ hS.F ht⟩) (fun q hq => by rw [← hAe]; exact hS.2.2 q hq) dX3_count_92
        · refine lv_iload_n hx hb dX3_count_84 rfl (lv_at hl 2 rfl) ?_
          refine lv_goto (tgt := 92) hx hb dX3_count_85 (by decide) ?_
          have q_7 : fc_btw w0 0 3 = true := by first | (simp [c_1, c_2, c_3, c_4]; done) | (simp [c_1, c_2, c_3]; done) | (simp [c_1, c_2, c_4]; done) | (simp [c_1, c_3, c_4]; done) | (simp [c_2, c_3, c_4]; done)
          have eA : (ma_count (z1, z2, z3, z4, z5, z6, z7, z8, z9, z10, z11, z12, z13, z14, z15, z16, z17, z18, z19, z20, z21, z22, z23, z24, z25, z26, z27, z28) w0 : Int32) = nI (fs_on z1 24) := (by rw [ma_count, if_pos c_1]; simp [mg_scans, mg_halted, mg_bit, mg_all, sf_b, c_2, c_3, c_4])
          refine sf_topi (y := ma_count (z1, z2, z3, z4, z5, z6, z7, z8, z9, z10, z11, z12, z13, z14, z15, z16, z17, z18, z19, z20, z21, z22, z23, z24, z25, z26, z27, z28) w0) eA.symm ?_
          have q_8 : fc_btw w0 0 3 = true := by first | (simp [c_1, c_2, c_3, c_4]; done) | (simp [c_1, c_2, c_3]; done) | (simp [c_1, c_2, c_4]; done) | (simp [c_1, c_3, c_4]; done) | (simp [c_2, c_3, c_4]; done)
          have eX : ms_count (z1, z2, z3, z4, z5, z6, z7, z8, z9, z10, z11, z12, z13, z14, z15, z16, z17, z18, z19, z20, z21, z22, z23, z24, z25, z26, z27, z28) w0 = (z1, z2, z3, z4, z5, z6, z7, z8, z9, z10, z11, z12, z13, z14, z15, z16, z17, z18, z19, z20, z21, z22, z23, z24, z25, 0, z27, z28) := (if_pos q_8).trans (rfl)
          have hP9 : va_P (dC, dI) vwCl (wp_M cI cZ cD a (ms_count (z1, z2, z3, z4, z5, z6, z7, z8, z9, z10, z11, z12, z13, z14, z15, z16, z17, z18, z19, z20, z21, z22, z23, z24, z25, z26, z27, z28) w0)) H := by
            rw [eX]
            exact hP
          have hD9 : va_D A (wp_M cI cZ cD a (ms_count (z1, z2, z3, z4, z5, z6, z7, z8, z9, z10, z11, z12, z13, z14, z15, z16, z17, z18, z19, z20, z21, z22, z23, z24, z25, z26, z27, z28) w0)) := by
            rw [eX]
            exact hD
          exact W.iret hx hb hr (fun t ht _ => ⟨rfl, by rw [ht]; exact hP9, hAe ▸ hD9, hAe ▸ hS.F ht⟩) (fun q hq => by rw [← hAe]; exact hS.2.2 q hq) dX3_count_92
      · refine lv_aload_n hx hb dX3_count_64 rfl (lv_at hl 0 rfl) ?_
        refine va_get (D := (dC, dI)) (ci := 3) (v := .int (sf_b z28)) (C := RX3) (T := TX3) (N := 28) hx hb hg in_X3 hown hK hP 0 rfl rfl 27 (by decide) (hg _ mw_526) (fun _ h9 => h9) rfl dX3_count_65 ?_
        refine sf_ifeq (tgt := 75) hx hb dX3_count_68 (by decide) (fun c_9 => ?_) (fun c_9 => ?_)
        · refine lv_iconst (v := 0) hx hb dX3_count_75 (by decide) ?_
          refine lv_goto (tgt := 92) hx hb dX3_count_76 (by decide) ?_
          have q_10 : fc_btw w0 0 3 = true := by first | (simp [c_1, c_2, c_3, c_9]; done) | (simp [c_1, c_2, c_3]; done) | (simp [c_1, c_2, c_9]; done) | (simp [c_1, c_3, c_9]; done) | (simp [c_2, c_3, c_9]; done)
          have eA : (ma_count (z1, z2, z3, z4, z5, z6, z7, z8, z9, z10, z11, z12, z13, z14, z15, z16, z17, z18, z19, z20, z21, z22, z23, z24, z25, z26, z27, z28) w0 : Int32) = 0 := (by rw [ma_count, if_pos c_1]; simp [mg_scans, mg_halted, mg_bit, mg_all, sf_b, c_2, c_3, c_9])
          refine sf_topi (y := ma_count (z1, z2, z3, z4, z5, z6, z7, z8, z9, z10, z11, z12, z13, z14, z15, z16, z17, z18, z19, z20, z21, z22, z23, z24, z25, z26, z27, z28) w0) eA.symm ?_
          have q_11 : fc_btw w0 0 3 = true := by first | (simp [c_1, c_2, c_3, c_9]; done) | (simp [c_1, c_2, c_3]; done) | (simp [c_1, c_2, c_9]; done) | (simp [c_1, c_3, c_9]; done) | (simp [c_2, c_3, c_9]; done)
          have eX : ms_count (z1, z2, z3, z4, z5, z6, z7, z8, z9, z10, z11, z12, z13, z14, z15, z16, z17, z18, z19, z20, z21, z22, z23, z24, z25, z26, z27, z28) w0 = (z1, z2, z3, z4, z5, z6, z7, z8, z9, z10, z11, z12, z13, z14, z15, z16, z17, z18, z19, z20, z21, z22, z23, z24, z25, 0, z27, z28) := (if_pos q_11).trans (rfl)
          have hP9 : va_P (dC, dI) vwCl (wp_M cI cZ cD a (ms_count (z1, z2, z3, z4, z5, z6, z7, z8, z9, z10, z11, z12, z13, z14, z15, z16, z17, z18, z19, z20, z21, z22, z23, z24, z25, z26, z27, z28) w0)) H := by
            rw [eX]
            exact hP
          have hD9 : va_D A (wp_M cI cZ cD a (ms_count (z1, z2, z3, z4, z5, z6, z7, z8, z9, z10, z11, z12, z13, z14, z15, z16, z17, z18, z19, z20, z21, z22, z23, z24, z25, z26, z27, z28) w0)) := by
            rw [eX]
            exact hD
          exact W.iret hx hb hr (fun t ht _ => ⟨rfl, by rw [ht]; exact hP9, hAe ▸ hD9, hAe ▸ hS.F ht⟩) (fun q hq => by rw [← hAe]; exact hS.2.2 q hq) dX3_count_92
        · refine lv_iconst (v := 1) hx hb dX3_count_71 (by decide) ?_
          refine lv_goto (tgt := 92) hx hb dX3_count_72 (by decide) ?_
          have q_12 : fc_btw w0 0 3 = true := by first | (simp [c_1, c_2, c_3, c_9]; done) | (simp [c_1, c_2, c_3]; done) | (simp [c_1, c_2, c_9]; done) | (simp [c_1, c_3, c_9]; done) | (simp [c_2, c_3, c_9]; done)
          have eA : (ma_count (z1, z2, z3, z4, z5, z6, z7, z8, z9, z10, z11, z12, z13, z14, z15, z16, z17, z18, z19, z20, z21, z22, z23, z24, z25, z26, z27, z28) w0 : Int32) = 1 := (by rw [ma_count, if_pos c_1]; simp [mg_scans, mg_halted, mg_bit, mg_all, sf_b, c_2, c_3, c_9])
          refine sf_topi (y := ma_count (z1, z2, z3, z4, z5, z6, z7, z8, z9, z10, z11, z12, z13, z14, z15, z16, z17, z18, z19, z20, z21, z22, z23, z24, z25, z26, z27, z28) w0) eA.symm ?_
          have q_13 : fc_btw w0 0 3 = true := by first | (simp [c_1, c_2, c_3, c_9]; done) | (simp [c_1, c_2, c_3]; done) | (simp [c_1, c_2, c_9]; done) | (simp [c_1, c_3, c_9]; done) | (simp [c_2, c_3, c_9]; done)
          have eX : ms_count (z1, z2, z3, z4, z5, z6, z7, z8, z9, z10, z11, z12, z13, z14, z15, z16, z17, z18, z19, z20, z21, z22, z23, z24, z25, z26, z27, z28) w0 = (z1, z2, z3, z4, z5, z6, z7, z8, z9, z10, z11, z12, z13, z14, z15, z16, z17, z18, z19, z20, z21, z22, z23, z24, z25, 0, z27, z28) := (if_pos q_13).trans (rfl)
          have hP9 : va_P (dC, dI) vwCl (wp_M cI cZ cD a (ms_count (z1, z2, z3, z4, z5, z6, z7, z8, z9, z10, z11, z12, z13, z14, z15, z16, z17, z18, z19, z20, z21, z22, z23, z24, z25, z26, z27, z28) w0)) H := by
            rw [eX]
            exact hP
          have hD9 : va_D A (wp_M cI cZ cD a (ms_count (z1, z2, z3, z4, z5, z6, z7, z8, z9, z10, z11, z12, z13, z14, z15, z16, z17, z18, z19, z20, z21, z22, z23, z24, z25, z26, z27, z28) w0)) := by
            rw [eX]
            exact hD
          exact W.iret hx hb hr (fun t ht _ => ⟨rfl, by rw [ht]; exact hP9, hAe ▸ hD9, hAe ▸ hS.F ht⟩) (fun q hq => by rw [← hAe]; exact hS.2.2 q hq) dX3_count_92
    · refine lv_aload_n hx hb dX3_count_52 rfl (lv_at hl 0 rfl) ?_
      refine va_get (D := (dC, dI)) (ci := 3) (v := .int z24) (C := RX3) (T := TX3) (N := 28) hx hb hg in_X3 hown hK hP 0 rfl rfl 23 (by decide) (hg _ mw_522) (fun _ h9 => h9) rfl dX3_count_53 ?_
      refine lv_goto (tgt := 92) hx hb dX3_count_56 (by decide) ?_
      have q_14 : fc_btw w0 0 3 = true := by first | (simp [c_1, c_2]; done) | (simp [c_1]; done) | (simp [c_2]; done)
      have eA : (ma_count (z1, z2, z3, z4, z5, z6, z7, z8, z9, z10, z11, z12, z13, z14, z15, z16, z17, z18, z19, z20, z21, z22, z23, z24, z25, z26, z27, z28) w0 : Int32) = z24 := (by rw [ma_count, if_pos c_1]; simp [mg_scans, mg_halted, mg_bit, mg_all, sf_b, c_2])
      refine sf_topi (y := ma_count (z1, z2, z3, z4, z5, z6, z7, z8, z9, z10, z11, z12, z13, z14, z15, z16, z17, z18, z19, z20, z21, z22, z23, z24, z25, z26, z27, z28) w0) eA.symm ?_
      have q_15 : fc_btw w0 0 3 = true := by first | (simp [c_1, c_2]; done) | (simp [c_1]; done) | (simp [c_2]; done)
      have eX : ms_count (z1, z2, z3, z4, z5, z6, z7, z8, z9, z10, z11, z12, z13, z14, z15, z16, z17, z18, z19, z20, z21, z22, z23, z24, z25, z26, z27, z28) w0 = (z1, z2, z3, z4, z5, z6, z7, z8, z9, z10, z11, z12, z13, z14, z15, z16, z17, z18, z19, z20, z21, z22, z23, z24, z25, 0, z27, z28) := (if_pos q_15).trans (rfl)
      have hP9 : va_P (dC, dI) vwCl (wp_M cI cZ cD a (ms_count (z1, z2, z3, z4, z5, z6, z7, z8, z9, z10, z11, z12, z13, z14, z15, z16, z17, z18, z19, z20, z21, z22, z23, z24, z25, z26, z27, z28) w0)) H := by
        rw [eX]
        exact hP
      have hD9 : va_D A (wp_M cI cZ cD a (ms_count (z1, z2, z3, z4, z5, z6, z7, z8, z9, z10, z11, z12, z13, z14, z15, z16, z17, z18, z19, z20, z21, z22, z23, z24, z25, z26, z27, z28) w0)) := by
        rw [eX]
        exact hD
      exact W.iret hx hb hr (fun t ht _ => ⟨rfl, by rw [ht]; exact hP9, hAe ▸ hD9, hAe ▸ hS.F ht⟩) (fun q hq => by rw [← hAe]; exact hS.2.2 q hq) dX3_count_92
  · refine lv_aload_n hx hb dX3_count_9 rfl (lv_at hl 0 rfl) ?_
    refine lv_iconst (v := 1) hx hb dX3_count_10 (by decide) ?_
    have hPc : va_P (dC, dI) vwCl (wp_M cI cZ cD a (z1, z2, z3, z4, z5, z6, z7, z8, z9, z10, z11, z12, z13, z14, z15, z16, z17, z18, z19, z20, z21, z22, z23, z24, z25, z26, z27, z28) ++ []) s.heap := by rw [List.append_nil]; exact hP
    have hDc : va_D A (wp_M cI cZ cD a (z1, z2, z3, z4, z5, z6, z7, z8, z9, z10, z11, z12, z13, z14, z15, z16, z17, z18, z19, z20, z21, z22, z23, z24, z25, z26, z27, z28) ++ []) := by rw [List.append_nil]; exact hD
    refine sf_callVi (va_runV (As := [.int 1]) (rest := []) ⟨hx, hb, hml, hown, hg⟩ (c_X3_fail l dC dI cI cZ cD a (z1, z2, z3, z4, z5, z6, z7, z8, z9, z10, z11, z12, z13, z14, z15, z16, z17, z18, z19, z20, z21, z22, z23, z24, z25, z26, z27, z28) 1 _) (cwV 1 hg (gw_V mw_595 mw_597 mw_13 mw_24 mw_598) rfl rfl rfl (by decide +kernel) ⟨Nat.le_of_ble_eq_true rfl, Nat.le_of_ble_eq_true rfl⟩) (sf_preVV (va_recv hK hP (ci := 3) (q0 := 0) rfl rfl) hK hZ hPc hDc) rfl rfl hl.1 rfl (lv_room (Nat.le_of_ble_eq_true rfl)) dX3_count_11 ⟨Nat.zero_le _, Nat.zero_le _⟩) hS hPc hDc hA (fun H locs hP hD hS => ?_)
    rw [List.append_nil] at hP hD
    obtain ⟨y1, ey1⟩ : ∃ z, z = mu_thrown (z1, z2, z3, z4, z5, z6, z7, z8, z9, z10, z11, z12, z13, z14, z15, z16, z17, z18, z19, z20, z21, z22, z23, z24, z25, z26, z27, z28) 1 := ⟨_, rfl⟩
    rw [← ey1] at hP hD
    obtain ⟨z1_1, z2_1, z3_1, z4_1, z5_1, z6_1, z7_1, z8_1, z9_1, z10_1, z11_1, z12_1, z13_1, z14_1, z15_1, z16_1, z17_1, z18_1, z19_1, z20_1, z21_1, z22_1, z23_1, z24_1, z25_1, z26_1, z27_1, z28_1⟩ := y1
    have hP : va_P (dC, dI) vwCl [(a 0, .inr (3, [.ref (a 1), .ref (a 2), .ref (a 3), .ref (a 4), .ref (a 5), .ref (a 6), .ref (a 7), .ref (a 8), .ref (a 9), .ref (a 10), .ref (a 11), .ref (a 12), .ref (a 13), .ref (a 14), .ref (a 15), .ref (a 16), .ref (a 17), .ref (a 18), .ref (a 19), .ref (a 20), .ref (a 21), .ref (a 22), .ref (a 23), .int z24_1, .int z25_1, .int z26_1, .int z27_1, .int (sf_b z28_1)])), (a 1, .inl (cZ, 24, .inl (fun i9 => sf_b (z1_1 i9)))), (a 2, .inl (cZ, 60, .inl (fun i9 => sf_b (z2_1 i9)))), (a 3, .inl (cZ, 40, .inl (fun i9 => sf_b (z3_1 i9)))), (a 4, .inl (cZ, 60, .inl (fun i9 => sf_b (z4_1 i9)))), (a 5, .inl (cZ, 5, .inl (fun i9 => sf_b (z5_1 i9)))), (a 6, .inl (cZ, 8, .inl (fun i9 => sf_b (z6_1 i9)))), (a 7, .inl (cZ, 8, .inl (fun i9 => sf_b (z7_1 i9)))), (a 8, .inl (cZ, 3, .inl (fun i9 => sf_b (z8_1 i9)))), (a 9, .inl (cD, 8, .inr (.inr (.inr (.inl z9_1))))), (a 10, .inl (cD, 8, .inr (.inr (.inr (.inl z10_1))))), (a 11, .inl (cD, 8, .inr (.inr (.inr (.inl z11_1))))), (a 12, .inl (cD, 8, .inr (.inr (.inr (.inl z12_1))))), (a 13, .inl (cI, 60, .inl z13_1)), (a 14, .inl (cI, 60, .inl z14_1)), (a 15, .inl (cI, 15, .inl z15_1)), (a 16, .inl (cI, 15, .inl z16_1)), (a 17, .inl (cI, 8, .inl z17_1)), (a 18, .inl (cI, 8, .inl z18_1)), (a 19, .inl (cI, 8, .inl z19_1)), (a 20, .inl (cI, 8, .inl z20_1)), (a 21, .inl (cI, 8, .inl z21_1)), (a 22, .inl (cI, 8, .inl z22_1)), (a 23, .inl (cI, 8, .inl z23_1))] H := hP
    have hD : va_D A [(a 0, .inr (3, [.ref (a 1), .ref (a 2), .ref (a 3), .ref (a 4), .ref (a 5), .ref (a 6), .ref (a 7), .ref (a 8), .ref (a 9), .ref (a 10), .ref (a 11), .ref (a 12), .ref (a 13), .ref (a 14), .ref (a 15), .ref (a 16), .ref (a 17), .ref (a 18), .ref (a 19), .ref (a 20), .ref (a 21), .ref (a 22), .ref (a 23), .int z24_1, .int z25_1, .int z26_1, .int z27_1, .int (sf_b z28_1)])), (a 1, .inl (cZ, 24, .inl (fun i9 => sf_b (z1_1 i9)))), (a 2, .inl (cZ, 60, .inl (fun i9 => sf_b (z2_1 i9)))), (a 3, .inl (cZ, 40, .inl (fun i9 => sf_b (z3_1 i9)))), (a 4, .inl (cZ, 60, .inl (fun i9 => sf_b (z4_1 i9)))), (a 5, .inl (cZ, 5, .inl (fun i9 => sf_b (z5_1 i9)))), (a 6, .inl (cZ, 8, .inl (fun i9 => sf_b (z6_1 i9)))), (a 7, .inl (cZ, 8, .inl (fun i9 => sf_b (z7_1 i9)))), (a 8, .inl (cZ, 3, .inl (fun i9 => sf_b (z8_1 i9)))), (a 9, .inl (cD, 8, .inr (.inr (.inr (.inl z9_1))))), (a 10, .inl (cD, 8, .inr (.inr (.inr (.inl z10_1))))), (a 11, .inl (cD, 8, .inr (.inr (.inr (.inl z11_1))))), (a 12, .inl (cD, 8, .inr (.inr (.inr (.inl z12_1))))), (a 13, .inl (cI, 60, .inl z13_1)), (a 14, .inl (cI, 60, .inl z14_1)), (a 15, .inl (cI, 15, .inl z15_1)), (a 16, .inl (cI, 15, .inl z16_1)), (a 17, .inl (cI, 8, .inl z17_1)), (a 18, .inl (cI, 8, .inl z18_1)), (a 19, .inl (cI, 8, .inl z19_1)), (a 20, .inl (cI, 8, .inl z20_1)), (a 21, .inl (cI, 8, .inl z21_1)), (a 22, .inl (cI, 8, .inl z22_1)), (a 23, .inl (cI, 8, .inl z23_1))] := hD
    have q_16 : ¬ (fc_btw w0 0 3 = true) := by first | (simp [c_1]; done) | (simp []; done)
    have eA : (ma_count (z1, z2, z3, z4, z5, z6, z7, z8, z9, z10, z11, z12, z13, z14, z15, z16, z17, z18, z19, z20, z21, z22, z23, z24, z25, z26, z27, z28) w0 : Int32) = 0 := (by rw [ma_count, if_neg (by simp [c_1])])
    refine sf_topi (y := ma_count (z1, z2, z3, z4, z5, z6, z7, z8, z9, z10, z11, z12, z13, z14, z15, z16, z17, z18, z19, z20, z21, z22, z23, z24, z25, z26, z27, z28) w0) eA.symm ?_
    have q_17 : ¬ (fc_btw w0 0 3 = true) := by first | (simp [c_1]; done) | (simp []; done)
    have eX : ms_count (z1, z2, z3, z4, z5, z6, z7, z8, z9, z10, z11, z12, z13, z14, z15, z16, z17, z18, z19, z20, z21, z22, z23, z24, z25, z26, z27, z28) w0 = (z1_1, z2_1, z3_1, z4_1, z5_1, z6_1, z7_1, z8_1, z9_1, z10_1, z11_1, z12_1, z13_1, z14_1, z15_1, z16_1, z17_1, z18_1, z19_1, z20_1, z21_1, z22_1, z23_1, z24_1, z25_1, z26_1, z27_1, z28_1) := (if_neg q_17).trans ((by first | (rw [← ey1]; done) | (rw [← ey1]; rfl)))
    have hP9 : va_P (dC, dI) vwCl (wp_M cI cZ cD a (ms_count (z1, z2, z3, z4, z5, z6, z7, z8, z9, z10, z11, z12, z13, z14, z15, z16, z17, z18, z19, z20, z21, z22, z23, z24, z25, z26, z27, z28) w0)) H := by
      rw [eX]
      exact hP
    have hD9 : va_D A (wp_M cI cZ cD a (ms_count (z1, z2, z3, z4, z5, z6, z7, z8, z9, z10, z11, z12, z13, z14, z15, z16, z17, z18, z19, z20, z21, z22, z23, z24, z25, z26, z27, z28) w0)) := by
      rw [eX]
      exact hD
    exact W.iret hx hb hr (fun t ht _ => ⟨rfl, by rw [ht]; exact hP9, hAe ▸ hD9, hAe ▸ hS.F ht⟩) (fun q hq => by rw [← hAe]; exact hS.2.2 q hq) dX3_count_14
set_option maxHeartbeats 4000000 in
set_option maxRecDepth 100000 in
theorem c_X3_conducts (l : Launch) (dC : Nat → ClassId) (dI : Nat → Nat → Nat) (cI cZ cD : ClassId) (a : Nat → Nat) (x : st_M) (k : Nat) (sz : Nat) (hk : k < 60) (hof : fc_ix (mg_of x k) 24 = true) : Met l yX3_conducts wX3_conducts ({ frames := 0, cells := 0, slots := 0, locals := 0 }) (sf_PV (dC, dI) vwCl [(cI, .int), (cZ, .boolean), (cD, .double)] (wp_M cI cZ cD a x) sz [.ref (a 0), .int (nI k)]) (sf_V (dC, dI) vwCl (some (.int (sf_b (ma_cond x k)))) (wp_M cI cZ cD a x) (wp_M cI cZ cD a (ms_cond x k))) 0 0 (va_A (wp_M cI cZ cD a x) sz) := by
  refine Met.ofW (cc := cX3_conducts) (maxL := 4) (ret := (some .boolean)) (by decide) rfl ?_
  intro p e s m args below meth c s₁ B hml hv
  have hx := B.exec
  have hb := B.bytes
  have hr := B.returns
  have hts := atoms_spec (ws := wX3_conducts) B.pre
  have hg : ∀ w ∈ gw_all, w.before args s = true := fun w h => hts w (List.mem_cons_of_mem _ h)
  have hown : s.vm.findClass RX3 = some m.cls := findClass_of_methodNamed B.named
  have hlocks := B.notSynchronized
  obtain ⟨rfl, hsz, hP, hD0, hK, hZ⟩ := hv
  subst hsz
  have hl := lv_entry ([.ref (a 0), .int (nI k)]) (n := 4) (Nat.le_of_ble_eq_true rfl)
  rw [lg_entry_eq]
  generalize (lg_sl ([.ref (a 0), .int (nI k)]) ++ List.replicate (4 - (lg_sl ([.ref (a 0), .int (nI k)])).length) Slot.unset).toArray = ls at hl ⊢
  have hl : lv_has ls 4 [(0, .ref (a 0)), (1, .int (nI k))] := hl
  obtain ⟨A, hAe⟩ : ∃ A : Nat → Prop, A = va_A (wp_M cI cZ cD a x) s.heap.size := ⟨_, rfl⟩
  have hD := hD0.self (sz := s.heap.size)
  rw [← hAe] at hD
  have hA : ∀ q : Nat, s.heap.size ≤ q → A q := fun q h => by rw [hAe]; exact Or.inr h
  have hS : va_S A s.heap s.heap [] := va_S.rf
  obtain ⟨z1, z2, z3, z4, z5, z6, z7, z8, z9, z10, z11, z12, z13, z14, z15, z16, z17, z18, z19, z20, z21, z22, z23, z24, z25, z26, z27, z28⟩ := x
  have hP : va_P (dC, dI) vwCl [(a 0, .inr (3, [.ref (a 1), .ref (a 2), .ref (a 3), .ref (a 4), .ref (a 5), .ref (a 6), .ref (a 7), .ref (a 8), .ref (a 9), .ref (a 10), .ref (a 11), .ref (a 12), .ref (a 13), .ref (a 14), .ref (a 15), .ref (a 16), .ref (a 17), .ref (a 18), .ref (a 19), .ref (a 20), .ref (a 21), .ref (a 22), .ref (a 23), .int z24, .int z25, .int z26, .int z27, .int (sf_b z28)])), (a 1, .inl (cZ, 24, .inl (fun i9 => sf_b (z1 i9)))), (a 2, .inl (cZ, 60, .inl (fun i9 => sf_b (z2 i9)))), (a 3, .inl (cZ, 40, .inl (fun i9 => sf_b (z3 i9)))), (a 4, .inl (cZ, 60, .inl (fun i9 => sf_b (z4 i9)))), (a 5, .inl (cZ, 5, .inl (fun i9 => sf_b (z5 i9)))), (a 6, .inl (cZ, 8, .inl (fun i9 => sf_b (z6 i9)))), (a 7, .inl (cZ, 8, .inl (fun i9 => sf_b (z7 i9)))), (a 8, .inl (cZ, 3, .inl (fun i9 => sf_b (z8 i9)))), (a 9, .inl (cD, 8, .inr (.inr (.inr (.inl z9))))), (a 10, .inl (cD, 8, .inr (.inr (.inr (.inl z10))))), (a 11, .inl (cD, 8, .inr (.inr (.inr (.inl z11))))), (a 12, .inl (cD, 8, .inr (.inr (.inr (.inl z12))))), (a 13, .inl (cI, 60, .inl z13)), (a 14, .inl (cI, 60, .inl z14)), (a 15, .inl (cI, 15, .inl z15)), (a 16, .inl (cI, 15, .inl z16)), (a 17, .inl (cI, 8, .inl z17)), (a 18, .inl (cI, 8, .inl z18)), (a 19, .inl (cI, 8, .inl z19)), (a 20, .inl (cI, 8, .inl z20)), (a 21, .inl (cI, 8, .inl z21)), (a 22, .inl (cI, 8, .inl z22)), (a 23, .inl (cI, 8, .inl z23))] s.heap := hP
  have hD : va_D A [(a 0, .inr (3, [.ref (a 1), .ref (a 2), .ref (a 3), .ref (a 4), .ref (a 5), .ref (a 6), .ref (a 7), .ref (a 8), .ref (a 9), .ref (a 10), .ref (a 11), .ref (a 12), .ref (a 13), .ref (a 14), .ref (a 15), .ref (a 16), .ref (a 17), .ref (a 18), .ref (a 19), .ref (a 20), .ref (a 21), .ref (a 22), .ref (a 23), .int z24, .int z25, .int z26, .int z27, .int (sf_b z28)])), (a 1, .inl (cZ, 24, .inl (fun i9 => sf_b (z1 i9)))), (a 2, .inl (cZ, 60, .inl (fun i9 => sf_b (z2 i9)))), (a 3, .inl (cZ, 40, .inl (fun i9 => sf_b (z3 i9)))), (a 4, .inl (cZ, 60, .inl (fun i9 => sf_b (z4 i9)))), (a 5, .inl (cZ, 5, .inl (fun i9 => sf_b (z5 i9)))), (a 6, .inl (cZ, 8, .inl (fun i9 => sf_b (z6 i9)))), (a 7, .inl (cZ, 8, .inl (fun i9 => sf_b (z7 i9)))), (a 8, .inl (cZ, 3, .inl (fun i9 => sf_b (z8 i9)))), (a 9, .inl (cD, 8, .inr (.inr (.inr (.inl z9))))), (a 10, .inl (cD, 8, .inr (.inr (.inr (.inl z10))))), (a 11, .inl (cD, 8, .inr (.inr (.inr (.inl z11))))), (a 12, .inl (cD, 8, .inr (.inr (.inr (.inl z12))))), (a 13, .inl (cI, 60, .inl z13)), (a 14, .inl (cI, 60, .inl z14)), (a 15, .inl (cI, 15, .inl z15)), (a 16, .inl (cI, 15, .inl z16)), (a 17, .inl (cI, 8, .inl z17)), (a 18, .inl (cI, 8, .inl z18)), (a 19, .inl (cI, 8, .inl z19)), (a 20, .inl (cI, 8, .inl z20)), (a 21, .inl (cI, 8, .inl z21)), (a 22, .inl (cI, 8, .inl z22)), (a 23, .inl (cI, 8, .inl z23))] := hD
  have ho : z14 k = nI (z14 k).toNatClampNeg ∧ (z14 k).toNatClampNeg < 24 := ix_nat (n := 24) rfl (by decide) hof
  refine lv_aload_n hx hb dX3_conducts_0 rfl (lv_at hl 0 rfl) ?_
  refine va_get (D := (dC, dI)) (ci := 3) (v := .ref (a 1)) (C := RX3) (T := TX3) (N := 28) hx hb hg in_X3 hown hK hP 0 rfl rfl 0 (by decide) (hg _ mw_499) (fun _ h9 => h9) rfl dX3_conducts_1 ?_
  refine lv_aload_n hx hb dX3_conducts_4 rfl (lv_at hl 0 rfl) ?_
  refine va_get (D := (dC, dI)) (ci := 3) (v := .ref (a 14)) (C := RX3) (T := TX3) (N := 28) hx hb hg in_X3 hown hK hP 0 rfl rfl 13 (by decide) (hg _ mw_512) (fun _ h9 => h9) rfl dX3_conducts_5 ?_
  refine lv_iload_n hx hb dX3_conducts_8 rfl (lv_at hl 1 rfl) ?_
  refine sf_iald hx hb hK hP 14 0 rfl rfl k rfl (by omega) (by decide) dX3_conducts_9 ?_
  refine sf_zald hx hb hK hP 1 1 rfl rfl ((z14 k).toNatClampNeg) ho.1 ho.2 (by decide) dX3_conducts_10 ?_
  refine lv_istore_n (lv' := [(2, .int (sf_b (z1 ((z14 k).toNatClampNeg)))), (0, .ref (a 0)), (1, .int (nI k))]) hx hb dX3_conducts_11 rfl hl (by decide) rfl (fun ls hl => ?_)
  refine lv_aload_n hx hb dX3_conducts_12 rfl (lv_at hl 1 rfl) ?_
  refine va_get (D := (dC, dI)) (ci := 3) (v := .ref (a 2)) (C := RX3) (T := TX3) (N := 28) hx hb hg in_X3 hown hK hP 0 rfl rfl 1 (by decide) (hg _ mw_500) (fun _ h9 => h9) rfl dX3_conducts_13 ?_
  refine lv_iload_n hx hb dX3_conducts_16 rfl (lv_at hl 2 rfl) ?_
  refine sf_zald hx hb hK hP 2 1 rfl rfl k rfl (by omega) (by decide) dX3_conducts_17 ?_
  refine lv_istore_n (lv' := [(3, .int (sf_b (z2 k))), (2, .int (sf_b (z1 ((z14 k).toNatClampNeg)))), (0, .ref (a 0)), (1, .int (nI k))]) hx hb dX3_conducts_18 rfl hl (by decide) rfl (fun ls hl => ?_)
  refine lv_aload_n hx hb dX3_conducts_19 rfl (lv_at hl 2 rfl) ?_
  refine va_get (D := (dC, dI)) (ci := 3) (v := .ref (a 2)) (C := RX3) (T := TX3) (N := 28) hx hb hg in_X3 hown hK hP 0 rfl rfl 1 (by decide) (hg _ mw_500) (fun _ h9 => h9) rfl dX3_conducts_20 ?_
  refine lv_iload_n hx hb dX3_conducts_23 rfl (lv_at hl 3 rfl) ?_
  refine lv_iload_n hx hb dX3_conducts_24 rfl (lv_at hl 1 rfl) ?_
  refine sf_zast hx hb hK hP hD hS 2 1 rfl rfl k rfl (by omega) (by decide) dX3_conducts_25 (fun H locs hP hD hS => ?_)
  have hP : va_P (dC, dI) vwCl [(a 0, .inr (3, [.ref (a 1), .ref (a 2), .ref (a 3), .ref (a 4), .ref (a 5), .ref (a 6), .ref (a 7), .ref (a 8), .ref (a 9), .ref (a 10), .ref (a 11), .ref (a 12), .ref (a 13), .ref (a 14), .ref (a 15), .ref (a 16), .ref (a 17), .ref (a 18), .ref (a 19), .ref (a 20), .ref (a 21), .ref (a 22), .ref (a 23), .int z24, .int z25, .int z26, .int z27, .int (sf_b z28)])), (a 1, .inl (cZ, 24, .inl (fun i9 => sf_b (z1 i9)))), (a 2, .inl (cZ, 60, .inl (fun i9 => sf_b ((va_up z2 k (z1 ((z14 k).toNatClampNeg))) i9)))), (a 3, .inl (cZ, 40, .inl (fun i9 => sf_b (z3 i9)))), (a 4, .inl (cZ, 60, .inl (fun i9 => sf_b (z4 i9)))), (a 5, .inl (cZ, 5, .inl (fun i9 => sf_b (z5 i9)))), (a 6, .inl (cZ, 8, .inl (fun i9 => sf_b (z6 i9)))), (a 7, .inl (cZ, 8, .inl (fun i9 => sf_b (z7 i9)))), (a 8, .inl (cZ, 3, .inl (fun i9 => sf_b (z8 i9)))), (a 9, .inl (cD, 8, .inr (.inr (.inr (.inl z9))))), (a 10, .inl (cD, 8, .inr (.inr (.inr (.inl z10))))), (a 11, .inl (cD, 8, .inr (.inr (.inr (.inl z11))))), (a 12, .inl (cD, 8, .inr (.inr (.inr (.inl z12))))), (a 13, .inl (cI, 60, .inl z13)), (a 14, .inl (cI, 60, .inl z14)), (a 15, .inl (cI, 15, .inl z15)), (a 16, .inl (cI, 15, .inl z16)), (a 17, .inl (cI, 8, .inl z17)), (a 18, .inl (cI, 8, .inl z18)), (a 19, .inl (cI, 8, .inl z19)), (a 20, .inl (cI, 8, .inl z20)), (a 21, .inl (cI, 8, .inl z21)), (a 22, .inl (cI, 8, .inl z22)), (a 23, .inl (cI, 8, .inl z23))] H := hP
  have hD : va_D A [(a 0, .inr (3, [.ref (a 1), .ref (a 2), .ref (a 3), .ref (a 4), .ref (a 5), .ref (a 6), .ref (a 7), .ref (a 8), .ref (a 9), .ref (a 10), .ref (a 11), .ref (a 12), .ref (a 13), .ref (a 14), .ref (a 15), .ref (a 16), .ref (a 17), .ref (a 18), .ref (a 19), .ref (a 20), .ref (a 21), .ref (a 22), .ref (a 23), .int z24, .int z25, .int z26, .int z27, .int (sf_b z28)])), (a 1, .inl (cZ, 24, .inl (fun i9 => sf_b (z1 i9)))), (a 2, .inl (cZ, 60, .inl (fun i9 => sf_b ((va_up z2 k (z1 ((z14 k).toNatClampNeg))) i9)))), (a 3, .inl (cZ, 40, .inl (fun i9 => sf_b (z3 i9)))), (a 4, .inl (cZ, 60, .inl (fun i9 => sf_b (z4 i9)))), (a 5, .inl (cZ, 5, .inl (fun i9 => sf_b (z5 i9)))), (a 6, .inl (cZ, 8, .inl (fun i9 => sf_b (z6 i9)))), (a 7, .inl (cZ, 8, .inl (fun i9 => sf_b (z7 i9)))), (a 8, .inl (cZ, 3, .inl (fun i9 => sf_b (z8 i9)))), (a 9, .inl (cD, 8, .inr (.inr (.inr (.inl z9))))), (a 10, .inl (cD, 8, .inr (.inr (.inr (.inl z10))))), (a 11, .inl (cD, 8, .inr (.inr (.inr (.inl z11))))), (a 12, .inl (cD, 8, .inr (.inr (.inr (.inl z12))))), (a 13, .inl (cI, 60, .inl z13)), (a 14, .inl (cI, 60, .inl z14)), (a 15, .inl (cI, 15, .inl z15)), (a 16, .inl (cI, 15, .inl z16)), (a 17, .inl (cI, 8, .inl z17)), (a 18, .inl (cI, 8, .inl z18)), (a 19, .inl (cI, 8, .inl z19)), (a 20, .inl (cI, 8, .inl z20)), (a 21, .inl (cI, 8, .inl z21)), (a 22, .inl (cI, 8, .inl z22)), (a 23, .inl (cI, 8, .inl z23))] := hD
  refine lv_aload_n hx hb dX3_conducts_26 rfl (lv_at hl 2 rfl) ?_
  refine va_get (D := (dC, dI)) (ci := 3) (v := .ref (a 13)) (C := RX3) (T := TX3) (N := 28) hx hb hg in_X3 hown hK hP 0 rfl rfl 12 (by decide) (hg _ mw_511) (fun _ h9 => h9) rfl dX3_conducts_27 ?_
  refine lv_iload_n hx hb dX3_conducts_30 rfl (lv_at hl 3 rfl) ?_
  refine sf_iald hx hb hK hP 13 0 rfl rfl k rfl (by omega) (by decide) dX3_conducts_31 ?_
  by_cases c_1 : (z13 k) = 0
  · refine lv_tableIn (off := 36) (tgt := 68) hx hb dX3_conducts_32 (by rw [c_1]; decide) (by rw [c_1]; decide) (by rw [c_1]; decide) (by decide) ?_
    refine lv_iconst (v := sf_b false) hx hb dX3_conducts_68 (by decide) ?_
    have eA : sf_b (ma_cond (z1, z2, z3, z4, z5, z6, z7, z8, z9, z10, z11, z12, z13, z14, z15, z16, z17, z18, z19, z20, z21, z22, z23, z24, z25, z26, z27, z28) k) = sf_b false := congrArg sf_b (show ma_cond (z1, z2, z3, z4, z5, z6, z7, z8, z9, z10, z11, z12, z13, z14, z15, z16, z17, z18, z19, z20, z21, z22, z23, z24, z25, z26, z27, z28) k = false from (by simp [ma_cond, mf_on, mg_kind, mg_bit, mg_of, mg_was, c_1]))
    refine sf_topi (y := sf_b (ma_cond (z1, z2, z3, z4, z5, z6, z7, z8, z9, z10, z11, z12, z13, z14, z15, z16, z17, z18, z19, z20, z21, z22, z23, z24, z25, z26, z27, z28) k)) eA.symm ?_
    have eX : ms_cond (z1, z2, z3, z4, z5, z6, z7, z8, z9, z10, z11, z12, z13, z14, z15, z16, z17, z18, z19, z20, z21, z22, z23, z24, z25, z26, z27, z28) k = (z1, va_up z2 k (z1 ((z14 k).toNatClampNeg)), z3, z4, z5, z6, z7, z8, z9, z10, z11, z12, z13, z14, z15, z16, z17, z18, z19, z20, z21, z22, z23, z24, z25, z26, z27, z28) := rfl
    have hP9 : va_P (dC, dI) vwCl (wp_M cI cZ cD a (ms_cond (z1, z2, z3, z4, z5, z6, z7, z8, z9, z10, z11, z12, z13, z14, z15, z16, z17, z18, z19, z20, z21, z22, z23, z24, z25, z26, z27, z28) k)) H := by
      rw [eX]
      exact hP
    have hD9 : va_D A (wp_M cI cZ cD a (ms_cond (z1, z2, z3, z4, z5, z6, z7, z8, z9, z10, z11, z12, z13, z14, z15, z16, z17, z18, z19, z20, z21, z22, z23, z24, z25, z26, z27, z28) k)) := by
      rw [eX]
      exact hD
    exact W.zret hx hb hr (sf_b_nb _) (fun t ht _ => ⟨rfl, by rw [ht]; exact hP9, hAe ▸ hD9, hAe ▸ hS.F ht⟩) (fun q hq => by rw [← hAe]; exact hS.2.2 q hq) dX3_conducts_69
  · skip
    by_cases c_2 : (z13 k) = 1
    · refine lv_tableIn (off := 38) (tgt := 70) hx hb dX3_conducts_32 (by rw [c_2]; decide) (by rw [c_2]; decide) (by rw [c_2]; decide) (by decide) ?_
      refine lv_iconst (v := sf_b true) hx hb dX3_conducts_70 (by decide) ?_
      have eA : sf_b (ma_cond (z1, z2, z3, z4, z5, z6, z7, z8, z9, z10, z11, z12, z13, z14, z15, z16, z17, z18, z19, z20, z21, z22, z23, z24, z25, z26, z27, z28) k) = sf_b true := congrArg sf_b (show ma_cond (z1, z2, z3, z4, z5, z6, z7, z8, z9, z10, z11, z12, z13, z14, z15, z16, z17, z18, z19, z20, z21, z22, z23, z24, z25, z26, z27, z28) k = true from (by simp [ma_cond, mf_on, mg_kind, mg_bit, mg_of, mg_was, c_1, c_2]))
      refine sf_topi (y := sf_b (ma_cond (z1, z2, z3, z4, z5, z6, z7, z8, z9, z10, z11, z12, z13, z14, z15, z16, z17, z18, z19, z20, z21, z22, z23, z24, z25, z26, z27, z28) k)) eA.symm ?_
      have eX : ms_cond (z1, z2, z3, z4, z5, z6, z7, z8, z9, z10, z11, z12, z13, z14, z15, z16, z17, z18, z19, z20, z21, z22, z23, z24, z25, z26, z27, z28) k = (z1, va_up z2 k (z1 ((z14 k).toNatClampNeg)), z3, z4, z5, z6, z7, z8, z9, z10, z11, z12, z13, z14, z15, z16, z17, z18, z19, z20, z21, z22, z23, z24, z25, z26, z27, z28) := rfl
      have hP9 : va_P (dC, dI) vwCl (wp_M cI cZ cD a (ms_cond (z1, z2, z3, z4, z5, z6, z7, z8, z9, z10, z11, z12, z13, z14, z15, z16, z17, z18, z19, z20, z21, z22, z23, z24, z25, z26, z27, z28) k)) H := by
        rw [eX]
        exact hP
      have hD9 : va_D A (wp_M cI cZ cD a (ms_cond (z1, z2, z3, z4, z5, z6, z7, z8, z9, z10, z11, z12, z13, z14, z15, z16, z17, z18, z19, z20, z21, z22, z23, z24, z25, z26, z27, z28) k)) := by
        rw [eX]
        exact hD
      exact W.zret hx hb hr (sf_b_nb _) (fun t ht _ => ⟨rfl, by rw [ht]; exact hP9, hAe ▸ hD9, hAe ▸ hS.F ht⟩) (fun q hq => by rw [← hAe]; exact hS.2.2 q hq) dX3_conducts_71
    · skip
      by_cases c_3 : (z13 k) = 2
      · refine lv_tableIn (off := 40) (tgt := 72) hx hb dX3_conducts_32 (by rw [c_3]; decide) (by rw [c_3]; decide) (by rw [c_3]; decide) (by decide) ?_
        refine lv_iload_n hx hb dX3_conducts_72 rfl (lv_at hl 1 rfl) ?_
        have eA : sf_b (ma_cond (z1, z2, z3, z4, z5, z6, z7, z8, z9, z10, z11, z12, z13, z14, z15, z16, z17, z18, z19, z20, z21, z22, z23, z24, z25, z26, z27, z28) k) = sf_b (z1 ((z14 k).toNatClampNeg)) := congrArg sf_b (show ma_cond (z1, z2, z3, z4, z5, z6, z7, z8, z9, z10, z11, z12, z13, z14, z15, z16, z17, z18, z19, z20, z21, z22, z23, z24, z25, z26, z27, z28) k = z1 ((z14 k).toNatClampNeg) from (by simp [ma_cond, mf_on, mg_kind, mg_bit, mg_of, mg_was, c_1, c_2, c_3]))
        refine sf_topi (y := sf_b (ma_cond (z1, z2, z3, z4, z5, z6, z7, z8, z9, z10, z11, z12, z13, z14, z15, z16, z17, z18, z19, z20, z21, z22, z23, z24, z25, z26, z27, z28) k)) eA.symm ?_
        have eX : ms_cond (z1, z2, z3, z4, z5, z6, z7, z8, z9, z10, z11, z12, z13, z14, z15, z16, z17, z18, z19, z20, z21, z22, z23, z24, z25, z26, z27, z28) k = (z1, va_up z2 k (z1 ((z14 k).toNatClampNeg)), z3, z4, z5, z6, z7, z8, z9, z10, z11, z12, z13, z14, z15, z16, z17, z18, z19, z20, z21, z22, z23, z24, z25, z26, z27, z28) := rfl
        have hP9 : va_P (dC, dI) vwCl (wp_M cI cZ cD a (ms_cond (z1, z2, z3, z4, z5, z6, z7, z8, z9, z10, z11, z12, z13, z14, z15, z16, z17, z18, z19, z20, z21, z22, z23, z24, z25, z26, z27, z28) k)) H := by
          rw [eX]
          exact hP
        have hD9 : va_D A (wp_M cI cZ cD a (ms_cond (z1, z2, z3, z4, z5, z6, z7, z8, z9, z10, z11, z12, z13, z14, z15, z16, z17, z18, z19, z20, z21, z22, z23, z24, z25, z26, z27, z28) k)) := by
          rw [eX]
          exact hD
        exact W.zret hx hb hr (sf_b_nb _) (fun t ht _ => ⟨rfl, by rw [ht]; exact hP9, hAe ▸ hD9, hAe ▸ hS.F ht⟩) (fun q hq => by rw [← hAe]; exact hS.2.2 q hq) dX3_conducts_73
      · skip
        by_cases c_4 : (z13 k) = 3
        · refine lv_tableIn (off := 42) (tgt := 74) hx hb dX3_conducts_32 (by rw [c_4]; decide) (by rw [c_4]; decide) (by rw [c_4]; decide) (by decide) ?_
          refine lv_iload_n hx hb dX3_conducts_74 rfl (lv_at hl 1 rfl) ?_
          refine sf_ifne (tgt := 82) hx hb dX3_conducts_75 (by decide) (fun c_5 => ?_) (fun c_5 => ?_)
          · refine lv_iconst (v := sf_b false) hx hb dX3_conducts_82 (by decide) ?_
            have eA : sf_b (ma_cond (z1, z2, z3, z4, z5, z6, z7, z8, z9, z10, z11, z12, z13, z14, z15, z16, z17, z18, z19, z20, z21, z22, z23, z24, z25, z26, z27, z28) k) = sf_b false := congrArg sf_b (show ma_cond (z1, z2, z3, z4, z5, z6, z7, z8, z9, z10, z11, z12, z13, z14, z15, z16, z17, z18, z19, z20, z21, z22, z23, z24, z25, z26, z27, z28) k = false from (by simp [ma_cond, mf_on, mg_kind, mg_bit, mg_of, mg_was, c_1, c_2, c_3, c_4, c_5]))
            refine sf_topi (y := sf_b (ma_cond (z1, z2, z3, z4, z5, z6, z7, z8, z9, z10, z11, z12, z13, z14, z15, z16, z17, z18, z19, z20, z21, z22, z23, z24, z25, z26, z27, z28) k)) eA.symm ?_
            have eX : ms_cond (z1, z2, z3, z4, z5, z6, z7, z8, z9, z10, z11, z12, z13, z14, z15, z16, z17, z18, z19, z20, z21, z22, z23, z24, z25, z26, z27, z28) k = (z1, va_up z2 k (z1 ((z14 k).toNatClampNeg)), z3, z4, z5, z6, z7, z8, z9, z10, z11, z12, z13, z14, z15, z16, z17, z18, z19, z20, z21, z22, z23, z24, z25, z26, z27, z28) := rfl
            have hP9 : va_P (dC, dI) vwCl (wp_M cI cZ cD a (ms_cond (z1, z2, z3, z4, z5, z6, z7, z8, z9, z10, z11, z12, z13, z14, z15, z16, z17, z18, z19, z20, z21, z22, z23, z24, z25, z26, z27, z28) k)) H := by
              rw [eX]
              exact hP
            have hD9 : va_D A (wp_M cI cZ cD a (ms_cond (z1, z2, z3, z4, z5, z6, z7, z8, z9, z10, z11, z12, z13, z14, z15, z16, z17, z18, z19, z20, z21, z22, z23, z24, z25, z26, z27, z28) k)) := by
              rw [eX]
              exact hD
            exact W.zret hx hb hr (sf_b_nb _) (fun t ht _ => ⟨rfl, by rw [ht]; exact hP9, hAe ▸ hD9, hAe ▸ hS.F ht⟩) (fun q hq => by rw [← hAe]; exact hS.2.2 q hq) dX3_conducts_83
          · refine lv_iconst (v := sf_b true) hx hb dX3_conducts_78 (by decide) ?_
            refine lv_goto (tgt := 83) hx hb dX3_conducts_79 (by decide) ?_
            have eA : sf_b (ma_cond (z1, z2, z3, z4, z5, z6, z7, z8, z9, z10, z11, z12, z13, z14, z15, z16, z17, z18, z19, z20, z21, z22, z23, z24, z25, z26, z27, z28) k) = sf_b true := congrArg sf_b (show ma_cond (z1, z2, z3, z4, z5, z6, z7, z8, z9, z10, z11, z12, z13, z14, z15, z16, z17, z18, z19, z20, z21, z22, z23, z24, z25, z26, z27, z28) k = true from (by simp [ma_cond, mf_on, mg_kind, mg_bit, mg_of, mg_was, c_1, c_2, c_3, c_4, c_5]))
            refine sf_topi (y := sf_b (ma_cond (z1, z2, z3, z4, z5, z6, z7, z8, z9, z10, z11, z12, z13, z14, z15, z16, z17, z18, z19, z20, z21, z22, z23, z24, z25, z26, z27, z28) k)) eA.symm ?_
            have eX : ms_cond (z1, z2, z3, z4, z5, z6, z7, z8, z9, z10, z11, z12, z13, z14, z15, z16, z17, z18, z19, z20, z21, z22, z23, z24, z25, z26, z27, z28) k = (z1, va_up z2 k (z1 ((z14 k).toNatClampNeg)), z3, z4, z5, z6, z7, z8, z9, z10, z11, z12, z13, z14, z15, z16, z17, z18, z19, z20, z21, z22, z23, z24, z25, z26, z27, z28) := rfl
            have hP9 : va_P (dC, dI) vwCl (wp_M cI cZ cD a (ms_cond (z1, z2, z3, z4, z5, z6, z7, z8, z9, z10, z11, z12, z13, z14, z15, z16, z17, z18, z19, z20, z21, z22, z23, z24, z25, z26, z27, z28) k)) H := by
              rw [eX]
              exact hP
            have hD9 : va_D A (wp_M cI cZ cD a (ms_cond (z1, z2, z3, z4, z5, z6, z7, z8, z9, z10, z11, z12, z13, z14, z15, z16, z17, z18, z19, z20, z21, z22, z23, z24, z25, z26, z27, z28) k)) := by
              rw [eX]
              exact hD
            exact W.zret hx hb hr (sf_b_nb _) (fun t ht _ => ⟨rfl, by rw [ht]; exact hP9, hAe ▸ hD9, hAe ▸ hS.F ht⟩) (fun q hq => by rw [← hAe]; exact hS.2.2 q hq) dX3_conducts_83
        · skip
          by_cases c_6 : (z13 k) = 4
          · refine lv_tableIn (off := 52) (tgt := 84) hx hb dX3_conducts_32 (by rw [c_6]; decide) (by rw [c_6]; decide) (by rw [c_6]; decide) (by decide) ?_
            refine lv_iload_n hx hb dX3_conducts_84 rfl (lv_at hl 1 rfl) ?_
            refine sf_ifeq (tgt := 96) hx hb dX3_conducts_85 (by decide) (fun c_7 => ?_) (fun c_7 => ?_)
            · refine lv_iconst (v := sf_b false) hx hb dX3_conducts_96 (by decide) ?_
              have eA : sf_b (ma_cond (z1, z2, z3, z4, z5, z6, z7, z8, z9, z10, z11, z12, z13, z14, z15, z16, z17, z18, z19, z20, z21, z22, z23, z24, z25, z26, z27, z28) k) = sf_b false := congrArg sf_b (show ma_cond (z1, z2, z3, z4, z5, z6, z7, z8, z9, z10, z11, z12, z13, z14, z15, z16, z17, z18, z19, z20, z21, z22, z23, z24, z25, z26, z27, z28) k = false from (by simp [ma_cond, mf_on, mg_kind, mg_bit, mg_of, mg_was, c_1, c_2, c_3, c_4, c_6, c_7]))
              refine sf_topi (y := sf_b (ma_cond (z1, z2, z3, z4, z5, z6, z7, z8, z9, z10, z11, z12, z13, z14, z15, z16, z17, z18, z19, z20, z21, z22, z23, z24, z25, z26, z27, z28) k)) eA.symm ?_
              have eX : ms_cond (z1, z2, z3, z4, z5, z6, z7, z8, z9, z10, z11, z12, z13, z14, z15, z16, z17, z18, z19, z20, z21, z22, z23, z24, z25, z26, z27, z28) k = (z1, va_up z2 k (z1 ((z14 k).toNatClampNeg)), z3, z4, z5, z6, z7, z8, z9, z10, z11, z12, z13, z14, z15, z16, z17, z18, z19, z20, z21, z22, z23, z24, z25, z26, z27, z28) := rfl
              have hP9 : va_P (dC, dI) vwCl (wp_M cI cZ cD a (ms_cond (z1, z2, z3, z4, z5, z6, z7, z8, z9, z10, z11, z12, z13, z14, z15, z16, z17, z18, z19, z20, z21, z22, z23, z24, z25, z26, z27, z28) k)) H := by
                rw [eX]
                exact hP
              have hD9 : va_D A (wp_M cI cZ cD a (ms_cond (z1, z2, z3, z4, z5, z6, z7, z8, z9, z10, z11, z12, z13, z14, z15, z16, z17, z18, z19, z20, z21, z22, z23, z24, z25, z26, z27, z28) k)) := by
                rw [eX]
                exact hD
              exact W.zret hx hb hr (sf_b_nb _) (fun t ht _ => ⟨rfl, by rw [ht]; exact hP9, hAe ▸ hD9, hAe ▸ hS.F ht⟩) (fun q hq => by rw [← hAe]; exact hS.2.2 q hq) dX3_conducts_97
            · refine lv_iload_n hx hb dX3_conducts_88 rfl (lv_at hl 0 rfl) ?_
              refine sf_ifne (tgt := 96) hx hb dX3_conducts_89 (by decide) (fun c_8 => ?_) (fun c_8 => ?_)
              · refine lv_iconst (v := sf_b false) hx hb dX3_conducts_96 (by decide) ?_
                have eA : sf_b (ma_cond (z1, z2, z3, z4, z5, z6, z7, z8, z9, z10, z11, z12, z13, z14, z15, z16, z17, z18, z19, z20, z21, z22, z23, z24, z25, z26, z27, z28) k) = sf_b false := congrArg sf_b (show ma_cond (z1, z2, z3, z4, z5, z6, z7, z8, z9, z10, z11, z12, z13, z14, z15, z16, z17, z18, z19, z20, z21, z22, z23, z24, z25, z26, z27, z28) k = false from (by simp [ma_cond, mf_on, mg_kind, mg_bit, mg_of, mg_was, c_1, c_2, c_3, c_4, c_6, c_7, c_8]))
                refine sf_topi (y := sf_b (ma_cond (z1, z2, z3, z4, z5, z6, z7, z8, z9, z10, z11, z12, z13, z14, z15, z16, z17, z18, z19, z20, z21, z22, z23, z24, z25, z26, z27, z28) k)) eA.symm ?_
                have eX : ms_cond (z1, z2, z3, z4, z5, z6, z7, z8, z9, z10, z11, z12, z13, z14, z15, z16, z17, z18, z19, z20, z21, z22, z23, z24, z25, z26, z27, z28) k = (z1, va_up z2 k (z1 ((z14 k).toNatClampNeg)), z3, z4, z5, z6, z7, z8, z9, z10, z11, z12, z13, z14, z15, z16, z17, z18, z19, z20, z21, z22, z23, z24, z25, z26, z27, z28) := rfl
                have hP9 : va_P (dC, dI) vwCl (wp_M cI cZ cD a (ms_cond (z1, z2, z3, z4, z5, z6, z7, z8, z9, z10, z11, z12, z13, z14, z15, z16, z17, z18, z19, z20, z21, z22, z23, z24, z25, z26, z27, z28) k)) H := by
                  rw [eX]
                  exact hP
                have hD9 : va_D A (wp_M cI cZ cD a (ms_cond (z1, z2, z3, z4, z5, z6, z7, z8, z9, z10, z11, z12, z13, z14, z15, z16, z17, z18, z19, z20, z21, z22, z23, z24, z25, z26, z27, z28) k)) := by
                  rw [eX]
                  exact hD
                exact W.zret hx hb hr (sf_b_nb _) (fun t ht _ => ⟨rfl, by rw [ht]; exact hP9, hAe ▸ hD9, hAe ▸ hS.F ht⟩) (fun q hq => by rw [← hAe]; exact hS.2.2 q hq) dX3_conducts_97
              · refine lv_iconst (v := sf_b true) hx hb dX3_conducts_92 (by decide) ?_
                refine lv_goto (tgt := 97) hx hb dX3_conducts_93 (by decide) ?_
                have eA : sf_b (ma_cond (z1, z2, z3, z4, z5, z6, z7, z8, z9, z10, z11, z12, z13, z14, z15, z16, z17, z18, z19, z20, z21, z22, z23, z24, z25, z26, z27, z28) k) = sf_b true := congrArg sf_b (show ma_cond (z1, z2, z3, z4, z5, z6, z7, z8, z9, z10, z11, z12, z13, z14, z15, z16, z17, z18, z19, z20, z21, z22, z23, z24, z25, z26, z27, z28) k = true from (by simp [ma_cond, mf_on, mg_kind, mg_bit, mg_of, mg_was, c_1, c_2, c_3, c_4, c_6, c_7, c_8]))
                refine sf_topi (y := sf_b (ma_cond (z1, z2, z3, z4, z5, z6, z7, z8, z9, z10, z11, z12, z13, z14, z15, z16, z17, z18, z19, z20, z21, z22, z23, z24, z25, z26, z27, z28) k)) eA.symm ?_
                have eX : ms_cond (z1, z2, z3, z4, z5, z6, z7, z8, z9, z10, z11, z12, z13, z14, z15, z16, z17, z18, z19, z20, z21, z22, z23, z24, z25, z26, z27, z28) k = (z1, va_up z2 k (z1 ((z14 k).toNatClampNeg)), z3, z4, z5, z6, z7, z8, z9, z10, z11, z12, z13, z14, z15, z16, z17, z18, z19, z20, z21, z22, z23, z24, z25, z26, z27, z28) := rfl
                have hP9 : va_P (dC, dI) vwCl (wp_M cI cZ cD a (ms_cond (z1, z2, z3, z4, z5, z6, z7, z8, z9, z10, z11, z12, z13, z14, z15, z16, z17, z18, z19, z20, z21, z22, z23, z24, z25, z26, z27, z28) k)) H := by
                  rw [eX]
                  exact hP
                have hD9 : va_D A (wp_M cI cZ cD a (ms_cond (z1, z2, z3, z4, z5, z6, z7, z8, z9, z10, z11, z12, z13, z14, z15, z16, z17, z18, z19, z20, z21, z22, z23, z24, z25, z26, z27, z28) k)) := by
                  rw [eX]
                  exact hD
                exact W.zret hx hb hr (sf_b_nb _) (fun t ht _ => ⟨rfl, by rw [ht]; exact hP9, hAe ▸ hD9, hAe ▸ hS.F ht⟩) (fun q hq => by rw [← hAe]; exact hS.2.2 q hq) dX3_conducts_97
          · skip
            have h_9 : (z13 k).toInt < 0 ∨ 4 < (z13 k).toInt := by
              have q0 : ¬ (z13 k).toInt = 0 := lv_neT c_1 (by decide)
              have q1 : ¬ (z13 k).toInt = 1 := lv_neT c_2 (by decide)
              have q2 : ¬ (z13 k).toInt = 2 := lv_neT c_3 (by decide)
              have q3 : ¬ (z13 k).toInt = 3 := lv_neT c_4 (by decide)
              have q4 : ¬ (z13 k).toInt = 4 := lv_neT c_6 (by decide)
              omega
            refine lv_tableOut (tgt := 98) hx hb dX3_conducts_32 h_9 (by decide) ?_
            refine lv_iload_n hx hb dX3_conducts_98 rfl (lv_at hl 1 rfl) ?_
            refine sf_ifne (tgt := 110) hx hb dX3_conducts_99 (by decide) (fun c_10 => ?_) (fun c_10 => ?_)
            · refine lv_iconst (v := sf_b false) hx hb dX3_conducts_110 (by decide) ?_
              have eA : sf_b (ma_cond (z1, z2, z3, z4, z5, z6, z7, z8, z9, z10, z11, z12, z13, z14, z15, z16, z17, z18, z19, z20, z21, z22, z23, z24, z25, z26, z27, z28) k) = sf_b false := congrArg sf_b (show ma_cond (z1, z2, z3, z4, z5, z6, z7, z8, z9, z10, z11, z12, z13, z14, z15, z16, z17, z18, z19, z20, z21, z22, z23, z24, z25, z26, z27, z28) k = false from (by simp [ma_cond, mf_on, mg_kind, mg_bit, mg_of, mg_was, c_1, c_2, c_3, c_4, c_6, c_10]))
              refine sf_topi (y := sf_b (ma_cond (z1, z2, z3, z4, z5, z6, z7, z8, z9, z10, z11, z12, z13, z14, z15, z16, z17, z18, z19, z20, z21, z22, z23, z24, z25, z26, z27, z28) k)) eA.symm ?_
              have eX : ms_cond (z1, z2, z3, z4, z5, z6, z7, z8, z9, z10, z11, z12, z13, z14, z15, z16, z17, z18, z19, z20, z21, z22, z23, z24, z25, z26, z27, z28) k = (z1, va_up z2 k (z1 ((z14 k).toNatClampNeg)), z3, z4, z5, z6, z7, z8, z9, z10, z11, z12, z13, z14, z15, z16, z17, z18, z19, z20, z21, z22, z23, z24, z25, z26, z27, z28) := rfl
              have hP9 : va_P (dC, dI) vwCl (wp_M cI cZ cD a (ms_cond (z1, z2, z3, z4, z5, z6, z7, z8, z9, z10, z11, z12, z13, z14, z15, z16, z17, z18, z19, z20, z21, z22, z23, z24, z25, z26, z27, z28) k)) H := by
                rw [eX]
                exact hP
              have hD9 : va_D A (wp_M cI cZ cD a (ms_cond (z1, z2, z3, z4, z5, z6, z7, z8, z9, z10, z11, z12, z13, z14, z15, z16, z17, z18, z19, z20, z21, z22, z23, z24, z25, z26, z27, z28) k)) := by
                rw [eX]
                exact hD
              exact W.zret hx hb hr (sf_b_nb _) (fun t ht _ => ⟨rfl, by rw [ht]; exact hP9, hAe ▸ hD9, hAe ▸ hS.F ht⟩) (fun q hq => by rw [← hAe]; exact hS.2.2 q hq) dX3_conducts_111
            · refine lv_iload_n hx hb dX3_conducts_102 rfl (lv_at hl 0 rfl) ?_
              refine sf_ifeq (tgt := 110) hx hb dX3_conducts_103 (by decide) (fun c_11 => ?_) (fun c_11 => ?_)
              · refine lv_iconst (v := sf_b false) hx hb dX3_conducts_110 (by decide) ?_
                have eA : sf_b (ma_cond (z1, z2, z3, z4, z5, z6, z7, z8, z9, z10, z11, z12, z13, z14, z15, z16, z17, z18, z19, z20, z21, z22, z23, z24, z25, z26, z27, z28) k) = sf_b false := congrArg sf_b (show ma_cond (z1, z2, z3, z4, z5, z6, z7, z8, z9, z10, z11, z12, z13, z14, z15, z16, z17, z18, z19, z20, z21, z22, z23, z24, z25, z26, z27, z28) k = false from (by simp [ma_cond, mf_on, mg_kind, mg_bit, mg_of, mg_was, c_1, c_2, c_3, c_4, c_6, c_10, c_11]))
                refine sf_topi (y := sf_b (ma_cond (z1, z2, z3, z4, z5, z6, z7, z8, z9, z10, z11, z12, z13, z14, z15, z16, z17, z18, z19, z20, z21, z22, z23, z24, z25, z26, z27, z28) k)) eA.symm ?_
                have eX : ms_cond (z1, z2, z3, z4, z5, z6, z7, z8, z9, z10, z11, z12, z13, z14, z15, z16, z17, z18, z19, z20, z21, z22, z23, z24, z25, z26, z27, z28) k = (z1, va_up z2 k (z1 ((z14 k).toNatClampNeg)), z3, z4, z5, z6, z7, z8, z9, z10, z11, z12, z13, z14, z15, z16, z17, z18, z19, z20, z21, z22, z23, z24, z25, z26, z27, z28) := rfl
                have hP9 : va_P (dC, dI) vwCl (wp_M cI cZ cD a (ms_cond (z1, z2, z3, z4, z5, z6, z7, z8, z9, z10, z11, z12, z13, z14, z15, z16, z17, z18, z19, z20, z21, z22, z23, z24, z25, z26, z27, z28) k)) H := by
                  rw [eX]
                  exact hP
                have hD9 : va_D A (wp_M cI cZ cD a (ms_cond (z1, z2, z3, z4, z5, z6, z7, z8, z9, z10, z11, z12, z13, z14, z15, z16, z17, z18, z19, z20, z21, z22, z23, z24, z25, z26, z27, z28) k)) := by
                  rw [eX]
                  exact hD
                exact W.zret hx hb hr (sf_b_nb _) (fun t ht _ => ⟨rfl, by rw [ht]; exact hP9, hAe ▸ hD9, hAe ▸ hS.F ht⟩) (fun q hq => by rw [← hAe]; exact hS.2.2 q hq) dX3_conducts_111
              · refine lv_iconst (v := sf_b true) hx hb dX3_conducts_106 (by decide) ?_
                refine lv_goto (tgt := 111) hx hb dX3_conducts_107 (by decide) ?_
                have eA : sf_b (ma_cond (z1, z2, z3, z4, z5, z6, z7, z8, z9, z10, z11, z12, z13, z14, z15, z16, z17, z18, z19, z20, z21, z22, z23, z24, z25, z26, z27, z28) k) = sf_b true := congrArg sf_b (show ma_cond (z1, z2, z3, z4, z5, z6, z7, z8, z9, z10, z11, z12, z13, z14, z15, z16, z17, z18, z19, z20, z21, z22, z23, z24, z25, z26, z27, z28) k = true from (by simp [ma_cond, mf_on, mg_kind, mg_bit, mg_of, mg_was, c_1, c_2, c_3, c_4, c_6, c_10, c_11]))
                refine sf_topi (y := sf_b (ma_cond (z1, z2, z3, z4, z5, z6, z7, z8, z9, z10, z11, z12, z13, z14, z15, z16, z17, z18, z19, z20, z21, z22, z23, z24, z25, z26, z27, z28) k)) eA.symm ?_
                have eX : ms_cond (z1, z2, z3, z4, z5, z6, z7, z8, z9, z10, z11, z12, z13, z14, z15, z16, z17, z18, z19, z20, z21, z22, z23, z24, z25, z26, z27, z28) k = (z1, va_up z2 k (z1 ((z14 k).toNatClampNeg)), z3, z4, z5, z6, z7, z8, z9, z10, z11, z12, z13, z14, z15, z16, z17, z18, z19, z20, z21, z22, z23, z24, z25, z26, z27, z28) := rfl
                have hP9 : va_P (dC, dI) vwCl (wp_M cI cZ cD a (ms_cond (z1, z2, z3, z4, z5, z6, z7, z8, z9, z10, z11, z12, z13, z14, z15, z16, z17, z18, z19, z20, z21, z22, z23, z24, z25, z26, z27, z28) k)) H := by
                  rw [eX]
                  exact hP
                have hD9 : va_D A (wp_M cI cZ cD a (ms_cond (z1, z2, z3, z4, z5, z6, z7, z8, z9, z10, z11, z12, z13, z14, z15, z16, z17, z18, z19, z20, z21, z22, z23, z24, z25, z26, z27, z28) k)) := by
                  rw [eX]
                  exact hD
                exact W.zret hx hb hr (sf_b_nb _) (fun t ht _ => ⟨rfl, by rw [ht]; exact hP9, hAe ▸ hD9, hAe ▸ hS.F ht⟩) (fun q hq => by rw [← hAe]; exact hS.2.2 q hq) dX3_conducts_111
set_option maxHeartbeats 4000000 in
set_option maxRecDepth 100000 in
theorem ty_fin (l : Launch) (dC : Nat → ClassId) (dI : Nat → Nat → Nat) (cI cZ cD : ClassId) (a : Nat → Nat) {p : Program} {e : Env} {s : State} {m : MethodId} {args : Array Value} {below : List Frame} {meth : Method} {c : Code} {Q : State → Prop} (hx : p.tables.exec = Jvm.exec) (hb : c.code = cX3_tally) (hml : c.maxLocals = 3) (hown : s.vm.findClass RX3 = some m.cls) (hg : ∀ w ∈ gw_all, w.before args s = true) (hZ : nw_ok s) (hK : va_K (dC, dI) vwCl [(cI, .int), (cZ, .boolean), (cD, .double)] s) {A : Nat → Prop} (hA : ∀ q : Nat, s.heap.size ≤ q → A q) (x : st_M) (k : Nat) (on : Bool) (hk : k < 8) (hth : fc_ix (mg_third x k) 24 = true) {H : Heap} {locs : List Loc} {ls : Array Slot} (hP : va_P (dC, dI) vwCl (wp_M cI cZ cD a x) H) (hD : va_D A (wp_M cI cZ cD a x)) (hS : va_S A s.heap H locs) (hl : lv_has ls 3 [(0, .ref (a 0)), (1, .int (nI k)), (2, .int (sf_b on))])
    (k161 : ∀ (H : Heap) (locs : List Loc) (ls : Array Slot), va_P (dC, dI) vwCl (wp_M cI cZ cD a (ms_tfin x k on)) H → va_D A (wp_M cI cZ cD a (ms_tfin x k on)) → va_S A s.heap H locs → lv_has ls 3 [] → W p l e (headSpec wX3_tally ({ frames := 0, cells := 0, slots := 0, locals := 0 })).room s m args below meth c H locs 0 0 Q (F0 m 161 ls [])) : W p l e (headSpec wX3_tally ({ frames := 0, cells := 0, slots := 0, locals := 0 })).room s m args below meth c H locs 0 0 Q (F0 m 121 ls []) := by
  obtain ⟨z1, z2, z3, z4, z5, z6, z7, z8, z9, z10, z11, z12, z13, z14, z15, z16, z17, z18, z19, z20, z21, z22, z23, z24, z25, z26, z27, z28⟩ := x
  have hP : va_P (dC, dI) vwCl [(a 0, .inr (3, [.ref (a 1), .ref (a 2), .ref (a 3), .ref (a 4), .ref (a 5), .ref (a 6), .ref (a 7), .ref (a 8), .ref (a 9), .ref (a 10), .ref (a 11), .ref (a 12), .ref (a 13), .ref (a 14), .ref (a 15), .ref (a 16), .ref (a 17), .ref (a 18), .ref (a 19), .ref (a 20), .ref (a 21), .ref (a 22), .ref (a 23), .int z24, .int z25, .int z26, .int z27, .int (sf_b z28)])), (a 1, .inl (cZ, 24, .inl (fun i9 => sf_b (z1 i9)))), (a 2, .inl (cZ, 60, .inl (fun i9 => sf_b (z2 i9)))), (a 3, .inl (cZ, 40, .inl (fun i9 => sf_b (z3 i9)))), (a 4, .inl (cZ, 60, .inl (fun i9 => sf_b (z4 i9)))), (a 5, .inl (cZ, 5, .inl (fun i9 => sf_b (z5 i9)))), (a 6, .inl (cZ, 8, .inl (fun i9 => sf_b (z6 i9)))), (a 7, .inl (cZ, 8, .inl (fun i9 => sf_b (z7 i9)))), (a 8, .inl (cZ, 3, .inl (fun i9 => sf_b (z8 i9)))), (a 9, .inl (cD, 8, .inr (.inr (.inr (.inl z9))))), (a 10, .inl (cD, 8, .inr (.inr (.inr (.inl z10))))), (a 11, .inl (cD, 8, .inr (.inr (.inr (.inl z11))))), (a 12, .inl (cD, 8, .inr (.inr (.inr (.inl z12))))), (a 13, .inl (cI, 60, .inl z13)), (a 14, .inl (cI, 60, .inl z14)), (a 15, .inl (cI, 15, .inl z15)), (a 16, .inl (cI, 15, .inl z16)), (a 17, .inl (cI, 8, .inl z17)), (a 18, .inl (cI, 8, .inl z18)), (a 19, .inl (cI, 8, .inl z19)), (a 20, .inl (cI, 8, .inl z20)), (a 21, .inl (cI, 8, .inl z21)), (a 22, .inl (cI, 8, .inl z22)), (a 23, .inl (cI, 8, .inl z23))] H := hP
  have hD : va_D A [(a 0, .inr (3, [.ref (a 1), .ref (a 2), .ref (a 3), .ref (a 4), .ref (a 5), .ref (a 6), .ref (a 7), .ref (a 8), .ref (a 9), .ref (a 10), .ref (a 11), .ref (a 12), .ref (a 13), .ref (a 14), .ref (a 15), .ref (a 16), .ref (a 17), .ref (a 18), .ref (a 19), .ref (a 20), .ref (a 21), .ref (a 22), .ref (a 23), .int z24, .int z25, .int z26, .int z27, .int (sf_b z28)])), (a 1, .inl (cZ, 24, .inl (fun i9 => sf_b (z1 i9)))), (a 2, .inl (cZ, 60, .inl (fun i9 => sf_b (z2 i9)))), (a 3, .inl (cZ, 40, .inl (fun i9 => sf_b (z3 i9)))), (a 4, .inl (cZ, 60, .inl (fun i9 => sf_b (z4 i9)))), (a 5, .inl (cZ, 5, .inl (fun i9 => sf_b (z5 i9)))), (a 6, .inl (cZ, 8, .inl (fun i9 => sf_b (z6 i9)))), (a 7, .inl (cZ, 8, .inl (fun i9 => sf_b (z7 i9)))), (a 8, .inl (cZ, 3, .inl (fun i9 => sf_b (z8 i9)))), (a 9, .inl (cD, 8, .inr (.inr (.inr (.inl z9))))), (a 10, .inl (cD, 8, .inr (.inr (.inr (.inl z10))))), (a 11, .inl (cD, 8, .inr (.inr (.inr (.inl z11))))), (a 12, .inl (cD, 8, .inr (.inr (.inr (.inl z12))))), (a 13, .inl (cI, 60, .inl z13)), (a 14, .inl (cI, 60, .inl z14)), (a 15, .inl (cI, 15, .inl z15)), (a 16, .inl (cI, 15, .inl z16)), (a 17, .inl (cI, 8, .inl z17)), (a 18, .inl (cI, 8, .inl z18)), (a 19, .inl (cI, 8, .inl z19)), (a 20, .inl (cI, 8, .inl z20)), (a 21, .inl (cI, 8, .inl z21)), (a 22, .inl (cI, 8, .inl z22)), (a 23, .inl (cI, 8, .inl z23))] := hD
  have ht : z20 k = nI (z20 k).toNatClampNeg ∧ (z20 k).toNatClampNeg < 24 := ix_nat (n := 24) rfl (by decide) hth
  refine lv_aload_n hx hb dX3_tally_121 rfl (lv_at hl 0 rfl) ?_
  refine va_get (D := (dC, dI)) (ci := 3) (v := .ref (a 7)) (C := RX3) (T := TX3) (N := 28) hx hb hg in_X3 hown hK hP 0 rfl rfl 6 (by decide) (hg _ mw_505) (fun _ h9 => h9) rfl dX3_tally_122 ?_
  refine lv_iload_n hx hb dX3_tally_125 rfl (lv_at hl 1 rfl) ?_
  refine lv_iload_n hx hb dX3_tally_126 rfl (lv_at hl 2 rfl) ?_
  refine sf_zast hx hb hK hP hD hS 7 1 rfl rfl k rfl (by omega) (by decide) dX3_tally_127 (fun H locs hP hD hS => ?_)
  have hP : va_P (dC, dI) vwCl [(a 0, .inr (3, [.ref (a 1), .ref (a 2), .ref (a 3), .ref (a 4), .ref (a 5), .ref (a 6), .ref (a 7), .ref (a 8), .ref (a 9), .ref (a 10), .ref (a 11), .ref (a 12), .ref (a 13), .ref (a 14), .ref (a 15), .ref (a 16), .ref (a 17), .ref (a 18), .ref (a 19), .ref (a 20), .ref (a 21), .ref (a 22), .ref (a 23), .int z24, .int z25, .int z26, .int z27, .int (sf_b z28)])), (a 1, .inl (cZ, 24, .inl (fun i9 => sf_b (z1 i9)))), (a 2, .inl (cZ, 60, .inl (fun i9 => sf_b (z2 i9)))), (a 3, .inl (cZ, 40, .inl (fun i9 => sf_b (z3 i9)))), (a 4, .inl (cZ, 60, .inl (fun i9 => sf_b (z4 i9)))), (a 5, .inl (cZ, 5, .inl (fun i9 => sf_b (z5 i9)))), (a 6, .inl (cZ, 8, .inl (fun i9 => sf_b (z6 i9)))), (a 7, .inl (cZ, 8, .inl (fun i9 => sf_b ((va_up z7 k on) i9)))), (a 8, .inl (cZ, 3, .inl (fun i9 => sf_b (z8 i9)))), (a 9, .inl (cD, 8, .inr (.inr (.inr (.inl z9))))), (a 10, .inl (cD, 8, .inr (.inr (.inr (.inl z10))))), (a 11, .inl (cD, 8, .inr (.inr (.inr (.inl z11))))), (a 12, .inl (cD, 8, .inr (.inr (.inr (.inl z12))))), (a 13, .inl (cI, 60, .inl z13)), (a 14, .inl (cI, 60, .inl z14)), (a 15, .inl (cI, 15, .inl z15)), (a 16, .inl (cI, 15, .inl z16)), (a 17, .inl (cI, 8, .inl z17)), (a 18, .inl (cI, 8, .inl z18)), (a 19, .inl (cI, 8, .inl z19)), (a 20, .inl (cI, 8, .inl z20)), (a 21, .inl (cI, 8, .inl z21)), (a 22, .inl (cI, 8, .inl z22)), (a 23, .inl (cI, 8, .inl z23))] H := hP
  have hD : va_D A [(a 0, .inr (3, [.ref (a 1), .ref (a 2), .ref (a 3), .ref (a 4), .ref (a 5), .ref (a 6), .ref (a 7), .ref (a 8), .ref (a 9), .ref (a 10), .ref (a 11), .ref (a 12), .ref (a 13), .ref (a 14), .ref (a 15), .ref (a 16), .ref (a 17), .ref (a 18), .ref (a 19), .ref (a 20), .ref (a 21), .ref (a 22), .ref (a 23), .int z24, .int z25, .int z26, .int z27, .int (sf_b z28)])), (a 1, .inl (cZ, 24, .inl (fun i9 => sf_b (z1 i9)))), (a 2, .inl (cZ, 60, .inl (fun i9 => sf_b (z2 i9)))), (a 3, .inl (cZ, 40, .inl (fun i9 => sf_b (z3 i9)))), (a 4, .inl (cZ, 60, .inl (fun i9 => sf_b (z4 i9)))), (a 5, .inl (cZ, 5, .inl (fun i9 => sf_b (z5 i9)))), (a 6, .inl (cZ, 8, .inl (fun i9 => sf_b (z6 i9)))), (a 7, .inl (cZ, 8, .inl (fun i9 => sf_b ((va_up z7 k on) i9)))), (a 8, .inl (cZ, 3, .inl (fun i9 => sf_b (z8 i9)))), (a 9, .inl (cD, 8, .inr (.inr (.inr (.inl z9))))), (a 10, .inl (cD, 8, .inr (.inr (.inr (.inl z10))))), (a 11, .inl (cD, 8, .inr (.inr (.inr (.inl z11))))), (a 12, .inl (cD, 8, .inr (.inr (.inr (.inl z12))))), (a 13, .inl (cI, 60, .inl z13)), (a 14, .inl (cI, 60, .inl z14)), (a 15, .inl (cI, 15, .inl z15)), (a 16, .inl (cI, 15, .inl z16)), (a 17, .inl (cI, 8, .inl z17)), (a 18, .inl (cI, 8, .inl z18)), (a 19, .inl (cI, 8, .inl z19)), (a 20, .inl (cI, 8, .inl z20)), (a 21, .inl (cI, 8, .inl z21)), (a 22, .inl (cI, 8, .inl z22)), (a 23, .inl (cI, 8, .inl z23))] := hD
  refine lv_aload_n hx hb dX3_tally_128 rfl (lv_at hl 0 rfl) ?_
  refine va_get (D := (dC, dI)) (ci := 3) (v := .ref (a 1)) (C := RX3) (T := TX3) (N := 28) hx hb hg in_X3 hown hK hP 0 rfl rfl 0 (by decide) (hg _ mw_499) (fun _ h9 => h9) rfl dX3_tally_129 ?_
  refine lv_aload_n hx hb dX3_tally_132 rfl (lv_at hl 0 rfl) ?_
  refine va_get (D := (dC, dI)) (ci := 3) (v := .ref (a 20)) (C := RX3) (T := TX3) (N := 28) hx hb hg in_X3 hown hK hP 0 rfl rfl 19 (by decide) (hg _ mw_518) (fun _ h9 => h9) rfl dX3_tally_133 ?_
  refine lv_iload_n hx hb dX3_tally_136 rfl (lv_at hl 1 rfl) ?_
  refine sf_iald hx hb hK hP 20 0 rfl rfl k rfl (by omega) (by decide) dX3_tally_137 ?_
  refine lv_aload_n hx hb dX3_tally_138 rfl (lv_at hl 0 rfl) ?_
  refine va_get (D := (dC, dI)) (ci := 3) (v := .ref (a 21)) (C := RX3) (T := TX3) (N := 28) hx hb hg in_X3 hown hK hP 0 rfl rfl 20 (by decide) (hg _ mw_519) (fun _ h9 => h9) rfl dX3_tally_139 ?_
  refine lv_iload_n hx hb dX3_tally_142 rfl (lv_at hl 1 rfl) ?_
  refine sf_iald hx hb hK hP 21 0 rfl rfl k rfl (by omega) (by decide) dX3_tally_143 ?_
  refine lv_i2d hx hb dX3_tally_144 ?_
  refine lv_aload_n hx hb dX3_tally_145 rfl (lv_at hl 0 rfl) ?_
  refine va_get (D := (dC, dI)) (ci := 3) (v := .ref (a 10)) (C := RX3) (T := TX3) (N := 28) hx hb hg in_X3 hown hK hP 0 rfl rfl 9 (by decide) (hg _ mw_508) (fun _ h9 => h9) rfl dX3_tally_146 ?_
  refine lv_iload_n hx hb dX3_tally_149 rfl (lv_at hl 1 rfl) ?_
  refine sf_dald hx hb hK hP 10 2 rfl rfl k rfl (by omega) (by decide) dX3_tally_150 ?_
  refine lv_dcmp hx hb dX3_tally_151 ?_
  refine sf_cutb 160 (sd_eq (FP.i2d (z21 k)) (z10 k)) (fun v => [.int (sf_b v), .int (z20 k), .ref (a 1)]) ?_ (fun k_1 => ?_)
  · refine sf_zast hx hb hK hP hD hS 1 1 rfl rfl ((z20 k).toNatClampNeg) ht.1 ht.2 (by decide) dX3_tally_160 (fun H locs hP hD hS => ?_)
    have hP : va_P (dC, dI) vwCl [(a 0, .inr (3, [.ref (a 1), .ref (a 2), .ref (a 3), .ref (a 4), .ref (a 5), .ref (a 6), .ref (a 7), .ref (a 8), .ref (a 9), .ref (a 10), .ref (a 11), .ref (a 12), .ref (a 13), .ref (a 14), .ref (a 15), .ref (a 16), .ref (a 17), .ref (a 18), .ref (a 19), .ref (a 20), .ref (a 21), .ref (a 22), .ref (a 23), .int z24, .int z25, .int z26, .int z27, .int (sf_b z28)])), (a 1, .inl (cZ, 24, .inl (fun i9 => sf_b ((va_up z1 ((z20 k).toNatClampNeg) (sd_eq (FP.i2d (z21 k)) (z10 k))) i9)))), (a 2, .inl (cZ, 60, .inl (fun i9 => sf_b (z2 i9)))), (a 3, .inl (cZ, 40, .inl (fun i9 => sf_b (z3 i9)))), (a 4, .inl (cZ, 60, .inl (fun i9 => sf_b (z4 i9)))), (a 5, .inl (cZ, 5, .inl (fun i9 => sf_b (z5 i9)))), (a 6, .inl (cZ, 8, .inl (fun i9 => sf_b (z6 i9)))), (a 7, .inl (cZ, 8, .inl (fun i9 => sf_b ((va_up z7 k on) i9)))), (a 8, .inl (cZ, 3, .inl (fun i9 => sf_b (z8 i9)))), (a 9, .inl (cD, 8, .inr (.inr (.inr (.inl z9))))), (a 10, .inl (cD, 8, .inr (.inr (.inr (.inl z10))))), (a 11, .inl (cD, 8, .inr (.inr (.inr (.inl z11))))), (a 12, .inl (cD, 8, .inr (.inr (.inr (.inl z12))))), (a 13, .inl (cI, 60, .inl z13)), (a 14, .inl (cI, 60, .inl z14)), (a 15, .inl (cI, 15, .inl z15)), (a 16, .inl (cI, 15, .inl z16)), (a 17, .inl (cI, 8, .inl z17)), (a 18, .inl (cI, 8, .inl z18)), (a 19, .inl (cI, 8, .inl z19)), (a 20, .inl (cI, 8, .inl z20)), (a 21, .inl (cI, 8, .inl z21)), (a 22, .inl (cI, 8, .inl z22)), (a 23, .inl (cI, 8, .inl z23))] H := hP
    have hD : va_D A [(a 0, .inr (3, [.ref (a 1), .ref (a 2), .ref (a 3), .ref (a 4), .ref (a 5), .ref (a 6), .ref (a 7), .ref (a 8), .ref (a 9), .ref (a 10), .ref (a 11), .ref (a 12), .ref (a 13), .ref (a 14), .ref (a 15), .ref (a 16), .ref (a 17), .ref (a 18), .ref (a 19), .ref (a 20), .ref (a 21), .ref (a 22), .ref (a 23), .int z24, .int z25, .int z26, .int z27, .int (sf_b z28)])), (a 1, .inl (cZ, 24, .inl (fun i9 => sf_b ((va_up z1 ((z20 k).toNatClampNeg) (sd_eq (FP.i2d (z21 k)) (z10 k))) i9)))), (a 2, .inl (cZ, 60, .inl (fun i9 => sf_b (z2 i9)))), (a 3, .inl (cZ, 40, .inl (fun i9 => sf_b (z3 i9)))), (a 4, .inl (cZ, 60, .inl (fun i9 => sf_b (z4 i9)))), (a 5, .inl (cZ, 5, .inl (fun i9 => sf_b (z5 i9)))), (a 6, .inl (cZ, 8, .inl (fun i9 => sf_b (z6 i9)))), (a 7, .inl (cZ, 8, .inl (fun i9 => sf_b ((va_up z7 k on) i9)))), (a 8, .inl (cZ, 3, .inl (fun i9 => sf_b (z8 i9)))), (a 9, .inl (cD, 8, .inr (.inr (.inr (.inl z9))))), (a 10, .inl (cD, 8, .inr (.inr (.inr (.inl z10))))), (a 11, .inl (cD, 8, .inr (.inr (.inr (.inl z11))))), (a 12, .inl (cD, 8, .inr (.inr (.inr (.inl z12))))), (a 13, .inl (cI, 60, .inl z13)), (a 14, .inl (cI, 60, .inl z14)), (a 15, .inl (cI, 15, .inl z15)), (a 16, .inl (cI, 15, .inl z16)), (a 17, .inl (cI, 8, .inl z17)), (a 18, .inl (cI, 8, .inl z18)), (a 19, .inl (cI, 8, .inl z19)), (a 20, .inl (cI, 8, .inl z20)), (a 21, .inl (cI, 8, .inl z21)), (a 22, .inl (cI, 8, .inl z22)), (a 23, .inl (cI, 8, .inl z23))] := hD
    have eX : ms_tfin (z1, z2, z3, z4, z5, z6, z7, z8, z9, z10, z11, z12, z13, z14, z15, z16, z17, z18, z19, z20, z21, z22, z23, z24, z25, z26, z27, z28) k on = (va_up z1 ((z20 k).toNatClampNeg) (sd_eq (FP.i2d (z21 k)) (z10 k)), z2, z3, z4, z5, z6, va_up z7 k on, z8, z9, z10, z11, z12, z13, z14, z15, z16, z17, z18, z19, z20, z21, z22, z23, z24, z25, z26, z27, z28) := rfl
    exact k161 _ _ _ (by rw [eX]; exact hP) (by rw [eX]; exact hD) hS (lv_sub hl [] rfl)
  · refine lv_if_ne (tgt := 159) hx hb dX3_tally_152 (by decide) (fun c_2 => ?_) (fun c_2 => ?_)
    · have c_2 := sd_nl_eq c_2
      refine lv_iconst (v := sf_b false) hx hb dX3_tally_159 (by decide) ?_
      exact k_1 false (by first | rfl | (simp [c_2]; done) | (simp [] at *; simp [*]; done))
    · have c_2 := sd_l_eq.mp c_2
      refine lv_iconst (v := sf_b true) hx hb dX3_tally_155 (by decide) ?_
      refine lv_goto (tgt := 160) hx hb dX3_tally_156 (by decide) ?_
      exact k_1 true (by first | rfl | (simp [c_2]; done) | (simp [] at *; simp [*]; done))
set_option maxHeartbeats 4000000 in
set_option maxRecDepth 100000 in
theorem c_X3_tally (l : Launch) (dC : Nat → ClassId) (dI : Nat → Nat → Nat) (cI cZ cD : ClassId) (a : Nat → Nat) (x : st_M) (k : Nat) (on : Bool) (sz : Nat) (hk : k < 8) (hth : fc_ix (mg_third x k) 24 = true) : Met l yX3_tally wX3_tally ({ frames := 0, cells := 0, slots := 0, locals := 0 }) (sf_PV (dC, dI) vwCl [(cI, .int), (cZ, .boolean), (cD, .double)] (wp_M cI cZ cD a x) sz [.ref (a 0), .int (nI k), .int (sf_b on)]) (sf_V (dC, dI) vwCl none (wp_M cI cZ cD a x) (wp_M cI cZ cD a (ms_tally x k on))) 0 0 (va_A (wp_M cI cZ cD a x) sz) := by
  refine Met.ofW (cc := cX3_tally) (maxL := 3) (ret := none) (by decide) rfl ?_
  intro p e s m args below meth c s₁ B hml hv
  have hx := B.exec
  have hb := B.bytes
  have hr := B.returns
  have hts := atoms_spec (ws := wX3_tally) B.pre
  have hg : ∀ w ∈ gw_all, w.before args s = true := fun w h => hts w (List.mem_cons_of_mem _ h)
  have hown : s.vm.findClass RX3 = some m.cls := findClass_of_methodNamed B.named
  have hlocks := B.notSynchronized
  obtain ⟨rfl, hsz, hP, hD0, hK, hZ⟩ := hv
  subst hsz
  have hl := lv_entry ([.ref (a 0), .int (nI k), .int (sf_b on)]) (n := 3) (Nat.le_of_ble_eq_true rfl)
  rw [lg_entry_eq]
  generalize (lg_sl ([.ref (a 0), .int (nI k), .int (sf_b on)]) ++ List.replicate (3 - (lg_sl ([.ref (a 0), .int (nI k), .int (sf_b on)])).length) Slot.unset).toArray = ls at hl ⊢
  have hl : lv_has ls 3 [(0, .ref (a 0)), (1, .int (nI k)), (2, .int (sf_b on))] := hl
  obtain ⟨A, hAe⟩ : ∃ A : Nat → Prop, A = va_A (wp_M cI cZ cD a x) s.heap.size := ⟨_, rfl⟩
  have hD := hD0.self (sz := s.heap.size)
  rw [← hAe] at hD
  have hA : ∀ q : Nat, s.heap.size ≤ q → A q := fun q h => by rw [hAe]; exact Or.inr h
  have hS : va_S A s.heap s.heap [] := va_S.rf
  obtain ⟨z1, z2, z3, z4, z5, z6, z7, z8, z9, z10, z11, z12, z13, z14, z15, z16, z17, z18, z19, z20, z21, z22, z23, z24, z25, z26, z27, z28⟩ := x
  have hP : va_P (dC, dI) vwCl [(a 0, .inr (3, [.ref (a 1), .ref (a 2), .ref (a 3), .ref (a 4), .ref (a 5), .ref (a 6), .ref (a 7), .ref (a 8), .ref (a 9), .ref (a 10), .ref (a 11), .ref (a 12), .ref (a 13), .ref (a 14), .ref (a 15), .ref (a 16), .ref (a 17), .ref (a 18), .ref (a 19), .ref (a 20), .ref (a 21), .ref (a 22), .ref (a 23), .int z24, .int z25, .int z26, .int z27, .int (sf_b z28)])), (a 1, .inl (cZ, 24, .inl (fun i9 => sf_b (z1 i9)))), (a 2, .inl (cZ, 60, .inl (fun i9 => sf_b (z2 i9)))), (a 3, .inl (cZ, 40, .inl (fun i9 => sf_b (z3 i9)))), (a 4, .inl (cZ, 60, .inl (fun i9 => sf_b (z4 i9)))), (a 5, .inl (cZ, 5, .inl (fun i9 => sf_b (z5 i9)))), (a 6, .inl (cZ, 8, .inl (fun i9 => sf_b (z6 i9)))), (a 7, .inl (cZ, 8, .inl (fun i9 => sf_b (z7 i9)))), (a 8, .inl (cZ, 3, .inl (fun i9 => sf_b (z8 i9)))), (a 9, .inl (cD, 8, .inr (.inr (.inr (.inl z9))))), (a 10, .inl (cD, 8, .inr (.inr (.inr (.inl z10))))), (a 11, .inl (cD, 8, .inr (.inr (.inr (.inl z11))))), (a 12, .inl (cD, 8, .inr (.inr (.inr (.inl z12))))), (a 13, .inl (cI, 60, .inl z13)), (a 14, .inl (cI, 60, .inl z14)), (a 15, .inl (cI, 15, .inl z15)), (a 16, .inl (cI, 15, .inl z16)), (a 17, .inl (cI, 8, .inl z17)), (a 18, .inl (cI, 8, .inl z18)), (a 19, .inl (cI, 8, .inl z19)), (a 20, .inl (cI, 8, .inl z20)), (a 21, .inl (cI, 8, .inl z21)), (a 22, .inl (cI, 8, .inl z22)), (a 23, .inl (cI, 8, .inl z23))] s.heap := hP
  have hD : va_D A [(a 0, .inr (3, [.ref (a 1), .ref (a 2), .ref (a 3), .ref (a 4), .ref (a 5), .ref (a 6), .ref (a 7), .ref (a 8), .ref (a 9), .ref (a 10), .ref (a 11), .ref (a 12), .ref (a 13), .ref (a 14), .ref (a 15), .ref (a 16), .ref (a 17), .ref (a 18), .ref (a 19), .ref (a 20), .ref (a 21), .ref (a 22), .ref (a 23), .int z24, .int z25, .int z26, .int z27, .int (sf_b z28)])), (a 1, .inl (cZ, 24, .inl (fun i9 => sf_b (z1 i9)))), (a 2, .inl (cZ, 60, .inl (fun i9 => sf_b (z2 i9)))), (a 3, .inl (cZ, 40, .inl (fun i9 => sf_b (z3 i9)))), (a 4, .inl (cZ, 60, .inl (fun i9 => sf_b (z4 i9)))), (a 5, .inl (cZ, 5, .inl (fun i9 => sf_b (z5 i9)))), (a 6, .inl (cZ, 8, .inl (fun i9 => sf_b (z6 i9)))), (a 7, .inl (cZ, 8, .inl (fun i9 => sf_b (z7 i9)))), (a 8, .inl (cZ, 3, .inl (fun i9 => sf_b (z8 i9)))), (a 9, .inl (cD, 8, .inr (.inr (.inr (.inl z9))))), (a 10, .inl (cD, 8, .inr (.inr (.inr (.inl z10))))), (a 11, .inl (cD, 8, .inr (.inr (.inr (.inl z11))))), (a 12, .inl (cD, 8, .inr (.inr (.inr (.inl z12))))), (a 13, .inl (cI, 60, .inl z13)), (a 14, .inl (cI, 60, .inl z14)), (a 15, .inl (cI, 15, .inl z15)), (a 16, .inl (cI, 15, .inl z16)), (a 17, .inl (cI, 8, .inl z17)), (a 18, .inl (cI, 8, .inl z18)), (a 19, .inl (cI, 8, .inl z19)), (a 20, .inl (cI, 8, .inl z20)), (a 21, .inl (cI, 8, .inl z21)), (a 22, .inl (cI, 8, .inl z22)), (a 23, .inl (cI, 8, .inl z23))] := hD
  refine lv_aload_n hx hb dX3_tally_0 rfl (lv_at hl 0 rfl) ?_
  refine va_get (D := (dC, dI)) (ci := 3) (v := .ref (a 17)) (C := RX3) (T := TX3) (N := 28) hx hb hg in_X3 hown hK hP 0 rfl rfl 16 (by decide) (hg _ mw_515) (fun _ h9 => h9) rfl dX3_tally_1 ?_
  refine lv_iload_n hx hb dX3_tally_4 rfl (lv_at hl 1 rfl) ?_
  refine sf_iald hx hb hK hP 17 0 rfl rfl k rfl (by omega) (by decide) dX3_tally_5 ?_
  refine lv_iconst (v := 1) hx hb dX3_tally_6 (by decide) ?_
  refine lv_icmp_ne (tgt := 61) hx hb dX3_tally_7 (by decide) (fun c_1 => ?_) (fun c_1 => ?_)
  · refine lv_aload_n hx hb dX3_tally_61 rfl (lv_at hl 0 rfl) ?_
    refine va_get (D := (dC, dI)) (ci := 3) (v := .ref (a 1)) (C := RX3) (T := TX3) (N := 28) hx hb hg in_X3 hown hK hP 0 rfl rfl 0 (by decide) (hg _ mw_499) (fun _ h9 => h9) rfl dX3_tally_62 ?_
    refine lv_bipush (v := 22) hx hb dX3_tally_65 (by decide) ?_
    refine sf_zald hx hb hK hP 1 1 rfl rfl 22 rfl (by decide) (by decide) dX3_tally_67 ?_
    refine sf_ifeq (tgt := 81) hx hb dX3_tally_68 (by decide) (fun c_2 => ?_) (fun c_2 => ?_)
    · refine lv_iload_n hx hb dX3_tally_81 rfl (lv_at hl 2 rfl) ?_
      refine sf_ifeq (tgt := 121) hx hb dX3_tally_82 (by decide) (fun c_3 => ?_) (fun c_3 => ?_)
      · have q_4 : ¬ (z17 k = 1) := by first | (simp [c_1, c_2, c_3]; done) | (simp [c_1, c_2]; done) | (simp [c_1, c_3]; done) | (simp [c_2, c_3]; done)
        have q_5 : ¬ (z1 22 = true) := by first | (simp [c_1, c_2, c_3]; done) | (simp [c_1, c_2]; done) | (simp [c_1, c_3]; done) | (simp [c_2, c_3]; done)
        have q_6 : on = false := by first | (simp [c_1, c_2, c_3]; done) | (simp [c_1, c_2]; done) | (simp [c_1, c_3]; done) | (simp [c_2, c_3]; done)
        have eC : ms_tcnt (z1, z2, z3, z4, z5, z6, z7, z8, z9, z10, z11, z12, z13, z14, z15, z16, z17, z18, z19, z20, z21, z22, z23, z24, z25, z26, z27, z28) k on = (z1, z2, z3, z4, z5, z6, z7, z8, z9, z10, z11, z12, z13, z14, z15, z16, z17, z18, z19, z20, z21, z22, z23, z24, z25, z26, z27, z28) := (if_neg q_4).trans ((if_neg q_5).trans ((if_pos q_6).trans (rfl)))
        refine ty_fin l dC dI cI cZ cD a hx hb hml hown hg hZ hK hA (z1, z2, z3, z4, z5, z6, z7, z8, z9, z10, z11, z12, z13, z14, z15, z16, z17, z18, z19, z20, z21, z22, z23, z24, z25, z26, z27, z28) k on hk hth hP hD hS (lv_sub hl [0, 1, 2] rfl) (fun H locs ls hP hD hS hl => ?_)
        have eF : ms_tfin (z1, z2, z3, z4, z5, z6, z7, z8, z9, z10, z11, z12, z13, z14, z15, z16, z17, z18, z19, z20, z21, z22, z23, z24, z25, z26, z27, z28) k on = ms_tally (z1, z2, z3, z4, z5, z6, z7, z8, z9, z10, z11, z12, z13, z14, z15, z16, z17, z18, z19, z20, z21, z22, z23, z24, z25, z26, z27, z28) k on := by
          unfold ms_tally
          rw [eC]
        rw [eF] at hP hD
        exact W.vret hx hb hr (fun t ht _ => ⟨rfl, by rw [ht]; exact hP, hAe ▸ hD, hAe ▸ hS.F ht⟩) (fun q hq => by rw [← hAe]; exact hS.2.2 q hq) dX3_tally_161
      · refine lv_aload_n hx hb dX3_tally_85 rfl (lv_at hl 0 rfl) ?_
        refine va_get (D := (dC, dI)) (ci := 3) (v := .ref (a 7)) (C := RX3) (T := TX3) (N := 28) hx hb hg in_X3 hown hK hP 0 rfl rfl 6 (by decide) (hg _ mw_505) (fun _ h9 => h9) rfl dX3_tally_86 ?_
        refine lv_iload_n hx hb dX3_tally_89 rfl (lv_at hl 1 rfl) ?_
        refine sf_zald hx hb hK hP 7 1 rfl rfl k rfl (by omega) (by decide) dX3_tally_90 ?_
        refine sf_ifne (tgt := 121) hx hb dX3_tally_91 (by decide) (fun c_7 => ?_) (fun c_7 => ?_)
        · have q_8 : ¬ (z17 k = 1) := by first | (simp [c_1, c_2, c_3, c_7]; done) | (simp [c_1, c_2, c_3]; done) | (simp [c_1, c_2, c_7]; done) | (simp [c_1, c_3, c_7]; done) | (simp [c_2, c_3, c_7]; done)
          have q_9 : ¬ (z1 22 = true) := by first | (simp [c_1, c_2, c_3, c_7]; done) | (simp [c_1, c_2, c_3]; done) | (simp [c_1, c_2, c_7]; done) | (simp [c_1, c_3, c_7]; done) | (simp [c_2, c_3, c_7]; done)
          have q_10 : ¬ (on = false) := by first | (simp [c_1, c_2, c_3, c_7]; done) | (simp [c_1, c_2, c_3]; done) | (simp [c_1, c_2, c_7]; done) | (simp [c_1, c_3, c_7]; done) | (simp [c_2, c_3, c_7]; done)
          have q_11 : z7 k = true := by first | (simp [c_1, c_2, c_3, c_7]; done) | (simp [c_1, c_2, c_3]; done) | (simp [c_1, c_2, c_7]; done) | (simp [c_1, c_3, c_7]; done) | (simp [c_2, c_3, c_7]; done)
          have eC : ms_tcnt (z1, z2, z3, z4, z5, z6, z7, z8, z9, z10, z11, z12, z13, z14, z15, z16, z17, z18, z19, z20, z21, z22, z23, z24, z25, z26, z27, z28) k on = (z1, z2, z3, z4, z5, z6, z7, z8, z9, z10, z11, z12, z13, z14, z15, z16, z17, z18, z19, z20, z21, z22, z23, z24, z25, z26, z27, z28) := (if_neg q_8).trans ((if_neg q_9).trans ((if_neg q_10).trans ((if_pos q_11).trans (rfl))))
          refine ty_fin l dC dI cI cZ cD a hx hb hml hown hg hZ hK hA (z1, z2, z3, z4, z5, z6, z7, z8, z9, z10, z11, z12, z13, z14, z15, z16, z17, z18, z19, z20, z21, z22, z23, z24, z25, z26, z27, z28) k on hk hth hP hD hS (lv_sub hl [0, 1, 2] rfl) (fun H locs ls hP hD hS hl => ?_)
          have eF : ms_tfin (z1, z2, z3, z4, z5, z6, z7, z8, z9, z10, z11, z12, z13, z14, z15, z16, z17, z18, z19, z20, z21, z22, z23, z24, z25, z26, z27, z28) k on = ms_tally (z1, z2, z3, z4, z5, z6, z7, z8, z9, z10, z11, z12, z13, z14, z15, z16, z17, z18, z19, z20, z21, z22, z23, z24, z25, z26, z27, z28) k on := by
            unfold ms_tally
            rw [eC]
          rw [eF] at hP hD
          exact W.vret hx hb hr (fun t ht _ => ⟨rfl, by rw [ht]; exact hP, hAe ▸ hD, hAe ▸ hS.F ht⟩) (fun q hq => by rw [← hAe]; exact hS.2.2 q hq) dX3_tally_161
        · refine lv_aload_n hx hb dX3_tally_94 rfl (lv_at hl 0 rfl) ?_
          refine va_get (D := (dC, dI)) (ci := 3) (v := .ref (a 21)) (C := RX3) (T := TX3) (N := 28) hx hb hg in_X3 hown hK hP 0 rfl rfl 20 (by decide) (hg _ mw_519) (fun _ h9 => h9) rfl dX3_tally_95 ?_
          refine lv_iload_n hx hb dX3_tally_98 rfl (lv_at hl 1 rfl) ?_
          refine sf_iald hx hb hK hP 21 0 rfl rfl k rfl (by omega) (by decide) dX3_tally_99 ?_
          refine lv_i2d hx hb dX3_tally_100 ?_
          refine lv_aload_n hx hb dX3_tally_101 rfl (lv_at hl 0 rfl) ?_
          refine va_get (D := (dC, dI)) (ci := 3) (v := .ref (a 10)) (C := RX3) (T := TX3) (N := 28) hx hb hg in_X3 hown hK hP 0 rfl rfl 9 (by decide) (hg _ mw_508) (fun _ h9 => h9) rfl dX3_tally_102 ?_
          refine lv_iload_n hx hb dX3_tally_105 rfl (lv_at hl 1 rfl) ?_
          refine sf_dald hx hb hK hP 10 2 rfl rfl k rfl (by omega) (by decide) dX3_tally_106 ?_
          refine lv_dcmp hx hb dX3_tally_107 ?_
          refine lv_if_ge (tgt := 121) hx hb dX3_tally_108 (by decide) (fun c_12 => ?_) (fun c_12 => ?_)
          · have c_12 := sd_g_ge.mp c_12
            have q_13 : ¬ (z17 k = 1) := by first | (simp [c_1, c_2, c_3, c_7, c_12]; done) | (simp [c_1, c_2, c_3, c_7]; done) | (simp [c_1, c_2, c_3, c_12]; done) | (simp [c_1, c_2, c_7, c_12]; done) | (simp [c_1, c_3, c_7, c_12]; done) | (simp [c_2, c_3, c_7, c_12]; done)
            have q_14 : ¬ (z1 22 = true) := by first | (simp [c_1, c_2, c_3, c_7, c_12]; done) | (simp [c_1, c_2, c_3, c_7]; done) | (simp [c_1, c_2, c_3, c_12]; done) | (simp [c_1, c_2, c_7, c_12]; done) | (simp [c_1, c_3, c_7, c_12]; done) | (simp [c_2, c_3, c_7, c_12]; done)
            have q_15 : ¬ (on = false) := by first | (simp [c_1, c_2, c_3, c_7, c_12]; done) | (simp [c_1, c_2, c_3, c_7]; done) | (simp [c_1, c_2, c_3, c_12]; done) | (simp [c_1, c_2, c_7, c_12]; done) | (simp [c_1, c_3, c_7, c_12]; done) | (simp [c_2, c_3, c_7, c_12]; done)
            have q_16 : ¬ (z7 k = true) := by first | (simp [c_1, c_2, c_3, c_7, c_12]; done) | (simp [c_1, c_2, c_3, c_7]; done) | (simp [c_1, c_2, c_3, c_12]; done) | (simp [c_1, c_2, c_7, c_12]; done) | (simp [c_1, c_3, c_7, c_12]; done) | (simp [c_2, c_3, c_7, c_12]; done)
            have q_17 : ¬ (sd_lt (FP.i2d (z21 k)) (z10 k) = true) := by first | (simp [c_1, c_2, c_3, c_7, c_12]; done) | (simp [c_1, c_2, c_3, c_7]; done) | (simp [c_1, c_2, c_3, c_12]; done) | (simp [c_1, c_2, c_7, c_12]; done) | (simp [c_1, c_3, c_7, c_12]; done) | (simp [c_2, c_3, c_7, c_12]; done)
            have eC : ms_tcnt (z1, z2, z3, z4, z5, z6, z7, z8, z9, z10, z11, z12, z13, z14, z15, z16, z17, z18, z19, z20, z21, z22, z23, z24, z25, z26, z27, z28) k on = (z1, z2, z3, z4, z5, z6, z7, z8, z9, z10, z11, z12, z13, z14, z15, z16, z17, z18, z19, z20, z21, z22, z23, z24, z25, z26, z27, z28) := (if_neg q_13).trans ((if_neg q_14).trans ((if_neg q_15).trans ((if_neg q_16).trans ((if_neg q_17).trans (rfl)))))
            refine ty_fin l dC dI cI cZ cD a hx hb hml hown hg hZ hK hA (z1, z2, z3, z4, z5, z6, z7, z8, z9, z10, z11, z12, z13, z14, z15, z16, z17, z18, z19, z20, z21, z22, z23, z24, z25, z26, z27, z28) k on hk hth hP hD hS (lv_sub hl [0, 1, 2] rfl) (fun H locs ls hP hD hS hl => ?_)
            have eF : ms_tfin (z1, z2, z3, z4, z5, z6, z7, z8, z9, z10, z11, z12, z13, z14, z15, z16, z17, z18, z19, z20, z21, z22, z23, z24, z25, z26, z27, z28) k on = ms_tally (z1, z2, z3, z4, z5, z6, z7, z8, z9, z10, z11, z12, z13, z14, z15, z16, z17, z18, z19, z20, z21, z22, z23, z24, z25, z26, z27, z28) k on := by
              unfold ms_tally
              rw [eC]
            rw [eF] at hP hD
            exact W.vret hx hb hr (fun t ht _ => ⟨rfl, by rw [ht]; exact hP, hAe ▸ hD, hAe ▸ hS.F ht⟩) (fun q hq => by rw [← hAe]; exact hS.2.2 q hq) dX3_tally_161
          · have c_12 := sd_ng_ge c_12
            refine lv_aload_n hx hb dX3_tally_111 rfl (lv_at hl 0 rfl) ?_
            refine va_get (D := (dC, dI)) (ci := 3) (v := .ref (a 21)) (C := RX3) (T := TX3) (N := 28) hx hb hg in_X3 hown hK hP 0 rfl rfl 20 (by decide) (hg _ mw_519) (fun _ h9 => h9) rfl dX3_tally_112 ?_
            refine lv_iload_n hx hb dX3_tally_115 rfl (lv_at hl 1 rfl) ?_
            refine lv_dup2_11 hx hb dX3_tally_116 rfl rfl ?_
            refine sf_iald hx hb hK hP 21 0 rfl rfl k rfl (by omega) (by decide) dX3_tally_117 ?_
            refine lv_iconst (v := 1) hx hb dX3_tally_118 (by decide) ?_
            refine lv_iadd hx hb dX3_tally_119 ?_
            refine sf_iast hx hb hK hP hD hS 21 0 rfl rfl k rfl (by omega) (by decide) dX3_tally_120 (fun H locs hP hD hS => ?_)
            have hP : va_P (dC, dI) vwCl [(a 0, .inr (3, [.ref (a 1), .ref (a 2), .ref (a 3), .ref (a 4), .ref (a 5), .ref (a 6), .ref (a 7), .ref (a 8), .ref (a 9), .ref (a 10), .ref (a 11), .ref (a 12), .ref (a 13), .ref (a 14), .ref (a 15), .ref (a 16), .ref (a 17), .ref (a 18), .ref (a 19), .ref (a 20), .ref (a 21), .ref (a 22), .ref (a 23), .int z24, .int z25, .int z26, .int z27, .int (sf_b z28)])), (a 1, .inl (cZ, 24, .inl (fun i9 => sf_b (z1 i9)))), (a 2, .inl (cZ, 60, .inl (fun i9 => sf_b (z2 i9)))), (a 3, .inl (cZ, 40, .inl (fun i9 => sf_b (z3 i9)))), (a 4, .inl (cZ, 60, .inl (fun i9 => sf_b (z4 i9)))), (a 5, .inl (cZ, 5, .inl (fun i9 => sf_b (z5 i9)))), (a 6, .inl (cZ, 8, .inl (fun i9 => sf_b (z6 i9)))), (a 7, .inl (cZ, 8, .inl (fun i9 => sf_b (z7 i9)))), (a 8, .inl (cZ, 3, .inl (fun i9 => sf_b (z8 i9)))), (a 9, .inl (cD, 8, .inr (.inr (.inr (.inl z9))))), (a 10, .inl (cD, 8, .inr (.inr (.inr (.inl z10))))), (a 11, .inl (cD, 8, .inr (.inr (.inr (.inl z11))))), (a 12, .inl (cD, 8, .inr (.inr (.inr (.inl z12))))), (a 13, .inl (cI, 60, .inl z13)), (a 14, .inl (cI, 60, .inl z14)), (a 15, .inl (cI, 15, .inl z15)), (a 16, .inl (cI, 15, .inl z16)), (a 17, .inl (cI, 8, .inl z17)), (a 18, .inl (cI, 8, .inl z18)), (a 19, .inl (cI, 8, .inl z19)), (a 20, .inl (cI, 8, .inl z20)), (a 21, .inl (cI, 8, .inl (va_up z21 k ((z21 k) + 1)))), (a 22, .inl (cI, 8, .inl z22)), (a 23, .inl (cI, 8, .inl z23))] H := hP
            have hD : va_D A [(a 0, .inr (3, [.ref (a 1), .ref (a 2), .ref (a 3), .ref (a 4), .ref (a 5), .ref (a 6), .ref (a 7), .ref (a 8), .ref (a 9), .ref (a 10), .ref (a 11), .ref (a 12), .ref (a 13), .ref (a 14), .ref (a 15), .ref (a 16), .ref (a 17), .ref (a 18), .ref (a 19), .ref (a 20), .ref (a 21), .ref (a 22), .ref (a 23), .int z24, .int z25, .int z26, .int z27, .int (sf_b z28)])), (a 1, .inl (cZ, 24, .inl (fun i9 => sf_b (z1 i9)))), (a 2, .inl (cZ, 60, .inl (fun i9 => sf_b (z2 i9)))), (a 3, .inl (cZ, 40, .inl (fun i9 => sf_b (z3 i9)))), (a 4, .inl (cZ, 60, .inl (fun i9 => sf_b (z4 i9)))), (a 5, .inl (cZ, 5, .inl (fun i9 => sf_b (z5 i9)))), (a 6, .inl (cZ, 8, .inl (fun i9 => sf_b (z6 i9)))), (a 7, .inl (cZ, 8, .inl (fun i9 => sf_b (z7 i9)))), (a 8, .inl (cZ, 3, .inl (fun i9 => sf_b (z8 i9)))), (a 9, .inl (cD, 8, .inr (.inr (.inr (.inl z9))))), (a 10, .inl (cD, 8, .inr (.inr (.inr (.inl z10))))), (a 11, .inl (cD, 8, .inr (.inr (.inr (.inl z11))))), (a 12, .inl (cD, 8, .inr (.inr (.inr (.inl z12))))), (a 13, .inl (cI, 60, .inl z13)), (a 14, .inl (cI, 60, .inl z14)), (a 15, .inl (cI, 15, .inl z15)), (a 16, .inl (cI, 15, .inl z16)), (a 17, .inl (cI, 8, .inl z17)), (a 18, .inl (cI, 8, .inl z18)), (a 19, .inl (cI, 8, .inl z19)), (a 20, .inl (cI, 8, .inl z20)), (a 21, .inl (cI, 8, .inl (va_up z21 k ((z21 k) + 1)))), (a 22, .inl (cI, 8, .inl z22)), (a 23, .inl (cI, 8, .inl z23))] := hD
            have q_18 : ¬ (z17 k = 1) := by first | (simp [c_1, c_2, c_3, c_7, c_12]; done) | (simp [c_1, c_2, c_3, c_7]; done) | (simp [c_1, c_2, c_3, c_12]; done) | (simp [c_1, c_2, c_7, c_12]; done) | (simp [c_1, c_3, c_7, c_12]; done) | (simp [c_2, c_3, c_7, c_12]; done)
            have q_19 : ¬ (z1 22 = true) := by first | (simp [c_1, c_2, c_3, c_7, c_12]; done) | (simp [c_1, c_2, c_3, c_7]; done) | (simp [c_1, c_2, c_3, c_12]; done) | (simp [c_1, c_2, c_7, c_12]; done) | (simp [c_1, c_3, c_7, c_12]; done) | (simp [c_2, c_3, c_7, c_12]; done)
            have q_20 : ¬ (on = false) := by first | (simp [c_1, c_2, c_3, c_7, c_12]; done) | (simp [c_1, c_2, c_3, c_7]; done) | (simp [c_1, c_2, c_3, c_12]; done) | (simp [c_1, c_2, c_7, c_12]; done) | (simp [c_1, c_3, c_7, c_12]; done) | (simp [c_2, c_3, c_7, c_12]; done)
            have q_21 : ¬ (z7 k = true) := by first | (simp [c_1, c_2, c_3, c_7, c_12]; done) | (simp [c_1, c_2, c_3, c_7]; done) | (simp [c_1, c_2, c_3, c_12]; done) | (simp [c_1, c_2, c_7, c_12]; done) | (simp [c_1, c_3, c_7, c_12]; done) | (simp [c_2, c_3, c_7, c_12]; done)
            have q_22 : sd_lt (FP.i2d (z21 k)) (z10 k) = true := by first | (simp [c_1, c_2, c_3, c_7, c_12]; done) | (simp [c_1, c_2, c_3, c_7]; done) | (simp [c_1, c_2, c_3, c_12]; done) | (simp [c_1, c_2, c_7, c_12]; done) | (simp [c_1, c_3, c_7, c_12]; done) | (simp [c_2, c_3, c_7, c_12]; done)
            have eC : ms_tcnt (z1, z2, z3, z4, z5, z6, z7, z8, z9, z10, z11, z12, z13, z14, z15, z16, z17, z18, z19, z20, z21, z22, z23, z24, z25, z26, z27, z28) k on = (z1, z2, z3, z4, z5, z6, z7, z8, z9, z10, z11, z12, z13, z14, z15, z16, z17, z18, z19, z20, va_up z21 k ((z21 k) + 1), z22, z23, z24, z25, z26, z27, z28) := (if_neg q_18).trans ((if_neg q_19).trans ((if_neg q_20).trans ((if_neg q_21).trans ((if_pos q_22).trans (rfl)))))
            refine ty_fin l dC dI cI cZ cD a hx hb hml hown hg hZ hK hA (z1, z2, z3, z4, z5, z6, z7, z8, z9, z10, z11, z12, z13, z14, z15, z16, z17, z18, z19, z20, va_up z21 k ((z21 k) + 1), z22, z23, z24, z25, z26, z27, z28) k on hk hth hP hD hS (lv_sub hl [0, 1, 2] rfl) (fun H locs ls hP hD hS hl => ?_)
            have eF : ms_tfin (z1, z2, z3, z4, z5, z6, z7, z8, z9, z10, z11, z12, z13, z14, z15, z16, z17, z18, z19, z20, va_up z21 k ((z21 k) + 1), z22, z23, z24, z25, z26, z27, z28) k on = ms_tally (z1, z2, z3, z4, z5, z6, z7, z8, z9, z10, z11, z12, z13, z14, z15, z16, z17, z18, z19, z20, z21, z22, z23, z24, z25, z26, z27, z28) k on := by
              unfold ms_tally
              rw [eC]
            rw [eF] at hP hD
            exact W.vret hx hb hr (fun t ht _ => ⟨rfl, by rw [ht]; exact hP, hAe ▸ hD, hAe ▸ hS.F ht⟩) (fun q hq => by rw [← hAe]; exact hS.2.2 q hq) dX3_tally_161
    · refine lv_aload_n hx hb dX3_tally_71 rfl (lv_at hl 0 rfl) ?_
      refine va_get (D := (dC, dI)) (ci := 3) (v := .ref (a 21)) (C := RX3) (T := TX3) (N := 28) hx hb hg in_X3 hown hK hP 0 rfl rfl 20 (by decide) (hg _ mw_519) (fun _ h9 => h9) rfl dX3_tally_72 ?_
      refine lv_iload_n hx hb dX3_tally_75 rfl (lv_at hl 1 rfl) ?_
      refine lv_iconst (v := 0) hx hb dX3_tally_76 (by decide) ?_
      refine sf_iast hx hb hK hP hD hS 21 0 rfl rfl k rfl (by omega) (by decide) dX3_tally_77 (fun H locs hP hD hS => ?_)
      have hP : va_P (dC, dI) vwCl [(a 0, .inr (3, [.ref (a 1), .ref (a 2), .ref (a 3), .ref (a 4), .ref (a 5), .ref (a 6), .ref (a 7), .ref (a 8), .ref (a 9), .ref (a 10), .ref (a 11), .ref (a 12), .ref (a 13), .ref (a 14), .ref (a 15), .ref (a 16), .ref (a 17), .ref (a 18), .ref (a 19), .ref (a 20), .ref (a 21), .ref (a 22), .ref (a 23), .int z24, .int z25, .int z26, .int z27, .int (sf_b z28)])), (a 1, .inl (cZ, 24, .inl (fun i9 => sf_b (z1 i9)))), (a 2, .inl (cZ, 60, .inl (fun i9 => sf_b (z2 i9)))), (a 3, .inl (cZ, 40, .inl (fun i9 => sf_b (z3 i9)))), (a 4, .inl (cZ, 60, .inl (fun i9 => sf_b (z4 i9)))), (a 5, .inl (cZ, 5, .inl (fun i9 => sf_b (z5 i9)))), (a 6, .inl (cZ, 8, .inl (fun i9 => sf_b (z6 i9)))), (a 7, .inl (cZ, 8, .inl (fun i9 => sf_b (z7 i9)))), (a 8, .inl (cZ, 3, .inl (fun i9 => sf_b (z8 i9)))), (a 9, .inl (cD, 8, .inr (.inr (.inr (.inl z9))))), (a 10, .inl (cD, 8, .inr (.inr (.inr (.inl z10))))), (a 11, .inl (cD, 8, .inr (.inr (.inr (.inl z11))))), (a 12, .inl (cD, 8, .inr (.inr (.inr (.inl z12))))), (a 13, .inl (cI, 60, .inl z13)), (a 14, .inl (cI, 60, .inl z14)), (a 15, .inl (cI, 15, .inl z15)), (a 16, .inl (cI, 15, .inl z16)), (a 17, .inl (cI, 8, .inl z17)), (a 18, .inl (cI, 8, .inl z18)), (a 19, .inl (cI, 8, .inl z19)), (a 20, .inl (cI, 8, .inl z20)), (a 21, .inl (cI, 8, .inl (va_up z21 k 0))), (a 22, .inl (cI, 8, .inl z22)), (a 23, .inl (cI, 8, .inl z23))] H := hP
      have hD : va_D A [(a 0, .inr (3, [.ref (a 1), .ref (a 2), .ref (a 3), .ref (a 4), .ref (a 5), .ref (a 6), .ref (a 7), .ref (a 8), .ref (a 9), .ref (a 10), .ref (a 11), .ref (a 12), .ref (a 13), .ref (a 14), .ref (a 15), .ref (a 16), .ref (a 17), .ref (a 18), .ref (a 19), .ref (a 20), .ref (a 21), .ref (a 22), .ref (a 23), .int z24, .int z25, .int z26, .int z27, .int (sf_b z28)])), (a 1, .inl (cZ, 24, .inl (fun i9 => sf_b (z1 i9)))), (a 2, .inl (cZ, 60, .inl (fun i9 => sf_b (z2 i9)))), (a 3, .inl (cZ, 40, .inl (fun i9 => sf_b (z3 i9)))), (a 4, .inl (cZ, 60, .inl (fun i9 => sf_b (z4 i9)))), (a 5, .inl (cZ, 5, .inl (fun i9 => sf_b (z5 i9)))), (a 6, .inl (cZ, 8, .inl (fun i9 => sf_b (z6 i9)))), (a 7, .inl (cZ, 8, .inl (fun i9 => sf_b (z7 i9)))), (a 8, .inl (cZ, 3, .inl (fun i9 => sf_b (z8 i9)))), (a 9, .inl (cD, 8, .inr (.inr (.inr (.inl z9))))), (a 10, .inl (cD, 8, .inr (.inr (.inr (.inl z10))))), (a 11, .inl (cD, 8, .inr (.inr (.inr (.inl z11))))), (a 12, .inl (cD, 8, .inr (.inr (.inr (.inl z12))))), (a 13, .inl (cI, 60, .inl z13)), (a 14, .inl (cI, 60, .inl z14)), (a 15, .inl (cI, 15, .inl z15)), (a 16, .inl (cI, 15, .inl z16)), (a 17, .inl (cI, 8, .inl z17)), (a 18, .inl (cI, 8, .inl z18)), (a 19, .inl (cI, 8, .inl z19)), (a 20, .inl (cI, 8, .inl z20)), (a 21, .inl (cI, 8, .inl (va_up z21 k 0))), (a 22, .inl (cI, 8, .inl z22)), (a 23, .inl (cI, 8, .inl z23))] := hD
      refine lv_goto (tgt := 121) hx hb dX3_tally_78 (by decide) ?_
      have q_23 : ¬ (z17 k = 1) := by first | (simp [c_1, c_2]; done) | (simp [c_1]; done) | (simp [c_2]; done)
      have q_24 : z1 22 = true := by first | (simp [c_1, c_2]; done) | (simp [c_1]; done) | (simp [c_2]; done)
      have eC : ms_tcnt (z1, z2, z3, z4, z5, z6, z7, z8, z9, z10, z11, z12, z13, z14, z15, z16, z17, z18, z19, z20, z21, z22, z23, z24, z25, z26, z27, z28) k on = (z1, z2, z3, z4, z5, z6, z7, z8, z9, z10, z11, z12, z13, z14, z15, z16, z17, z18, z19, z20, va_up z21 k 0, z22, z23, z24, z25, z26, z27, z28) := (if_neg q_23).trans ((if_pos q_24).trans (rfl))
      refine ty_fin l dC dI cI cZ cD a hx hb hml hown hg hZ hK hA (z1, z2, z3, z4, z5, z6, z7, z8, z9, z10, z11, z12, z13, z14, z15, z16, z17, z18, z19, z20, va_up z21 k 0, z22, z23, z24, z25, z26, z27, z28) k on hk hth hP hD hS (lv_sub hl [0, 1, 2] rfl) (fun H locs ls hP hD hS hl => ?_)
      have eF : ms_tfin (z1, z2, z3, z4, z5, z6, z7, z8, z9, z10, z11, z12, z13, z14, z15, z16, z17, z18, z19, z20, va_up z21 k 0, z22, z23, z24, z25, z26, z27, z28) k on = ms_tally (z1, z2, z3, z4, z5, z6, z7, z8, z9, z10, z11, z12, z13, z14, z15, z16, z17, z18, z19, z20, z21, z22, z23, z24, z25, z26, z27, z28) k on := by
        unfold ms_tally
        rw [eC]
      rw [eF] at hP hD
      exact W.vret hx hb hr (fun t ht _ => ⟨rfl, by rw [ht]; exact hP, hAe ▸ hD, hAe ▸ hS.F ht⟩) (fun q hq => by rw [← hAe]; exact hS.2.2 q hq) dX3_tally_161
  · refine lv_aload_n hx hb dX3_tally_10 rfl (lv_at hl 0 rfl) ?_
    refine va_get (D := (dC, dI)) (ci := 3) (v := .ref (a 21)) (C := RX3) (T := TX3) (N := 28) hx hb hg in_X3 hown hK hP 0 rfl rfl 20 (by decide) (hg _ mw_519) (fun _ h9 => h9) rfl dX3_tally_11 ?_
    refine lv_iload_n hx hb dX3_tally_14 rfl (lv_at hl 1 rfl) ?_
    refine sf_cuti 57 (if on = false then 0 else if sd_lt (FP.i2d (z21 k)) (z10 k) = true then z21 k + 1 else z21 k) (fun v => [.int v, .int (nI k), .ref (a 21)]) ?_ (fun k_25 => ?_)
    · refine sf_iast hx hb hK hP hD hS 21 0 rfl rfl k rfl (by omega) (by decide) dX3_tally_57 (fun H locs hP hD hS => ?_)
      have hP : va_P (dC, dI) vwCl [(a 0, .inr (3, [.ref (a 1), .ref (a 2), .ref (a 3), .ref (a 4), .ref (a 5), .ref (a 6), .ref (a 7), .ref (a 8), .ref (a 9), .ref (a 10), .ref (a 11), .ref (a 12), .ref (a 13), .ref (a 14), .ref (a 15), .ref (a 16), .ref (a 17), .ref (a 18), .ref (a 19), .ref (a 20), .ref (a 21), .ref (a 22), .ref (a 23), .int z24, .int z25, .int z26, .int z27, .int (sf_b z28)])), (a 1, .inl (cZ, 24, .inl (fun i9 => sf_b (z1 i9)))), (a 2, .inl (cZ, 60, .inl (fun i9 => sf_b (z2 i9)))), (a 3, .inl (cZ, 40, .inl (fun i9 => sf_b (z3 i9)))), (a 4, .inl (cZ, 60, .inl (fun i9 => sf_b (z4 i9)))), (a 5, .inl (cZ, 5, .inl (fun i9 => sf_b (z5 i9)))), (a 6, .inl (cZ, 8, .inl (fun i9 => sf_b (z6 i9)))), (a 7, .inl (cZ, 8, .inl (fun i9 => sf_b (z7 i9)))), (a 8, .inl (cZ, 3, .inl (fun i9 => sf_b (z8 i9)))), (a 9, .inl (cD, 8, .inr (.inr (.inr (.inl z9))))), (a 10, .inl (cD, 8, .inr (.inr (.inr (.inl z10))))), (a 11, .inl (cD, 8, .inr (.inr (.inr (.inl z11))))), (a 12, .inl (cD, 8, .inr (.inr (.inr (.inl z12))))), (a 13, .inl (cI, 60, .inl z13)), (a 14, .inl (cI, 60, .inl z14)), (a 15, .inl (cI, 15, .inl z15)), (a 16, .inl (cI, 15, .inl z16)), (a 17, .inl (cI, 8, .inl z17)), (a 18, .inl (cI, 8, .inl z18)), (a 19, .inl (cI, 8, .inl z19)), (a 20, .inl (cI, 8, .inl z20)), (a 21, .inl (cI, 8, .inl (va_up z21 k (if on = false then 0 else if sd_lt (FP.i2d (z21 k)) (z10 k) = true then z21 k + 1 else z21 k)))), (a 22, .inl (cI, 8, .inl z22)), (a 23, .inl (cI, 8, .inl z23))] H := hP
      have hD : va_D A [(a 0, .inr (3, [.ref (a 1), .ref (a 2), .ref (a 3), .ref (a 4), .ref (a 5), .ref (a 6), .ref (a 7), .ref (a 8), .ref (a 9), .ref (a 10), .ref (a 11), .ref (a 12), .ref (a 13), .ref (a 14), .ref (a 15), .ref (a 16), .ref (a 17), .ref (a 18), .ref (a 19), .ref (a 20), .ref (a 21), .ref (a 22), .ref (a 23), .int z24, .int z25, .int z26, .int z27, .int (sf_b z28)])), (a 1, .inl (cZ, 24, .inl (fun i9 => sf_b (z1 i9)))), (a 2, .inl (cZ, 60, .inl (fun i9 => sf_b (z2 i9)))), (a 3, .inl (cZ, 40, .inl (fun i9 => sf_b (z3 i9)))), (a 4, .inl (cZ, 60, .inl (fun i9 => sf_b (z4 i9)))), (a 5, .inl (cZ, 5, .inl (fun i9 => sf_b (z5 i9)))), (a 6, .inl (cZ, 8, .inl (fun i9 => sf_b (z6 i9)))), (a 7, .inl (cZ, 8, .inl (fun i9 => sf_b (z7 i9)))), (a 8, .inl (cZ, 3, .inl (fun i9 => sf_b (z8 i9)))), (a 9, .inl (cD, 8, .inr (.inr (.inr (.inl z9))))), (a 10, .inl (cD, 8, .inr (.inr (.inr (.inl z10))))), (a 11, .inl (cD, 8, .inr (.inr (.inr (.inl z11))))), (a 12, .inl (cD, 8, .inr (.inr (.inr (.inl z12))))), (a 13, .inl (cI, 60, .inl z13)), (a 14, .inl (cI, 60, .inl z14)), (a 15, .inl (cI, 15, .inl z15)), (a 16, .inl (cI, 15, .inl z16)), (a 17, .inl (cI, 8, .inl z17)), (a 18, .inl (cI, 8, .inl z18)), (a 19, .inl (cI, 8, .inl z19)), (a 20, .inl (cI, 8, .inl z20)), (a 21, .inl (cI, 8, .inl (va_up z21 k (if on = false then 0 else if sd_lt (FP.i2d (z21 k)) (z10 k) = true then z21 k + 1 else z21 k)))), (a 22, .inl (cI, 8, .inl z22)), (a 23, .inl (cI, 8, .inl z23))] := hD
      refine lv_goto (tgt := 121) hx hb dX3_tally_58 (by decide) ?_
      have q_26 : z17 k = 1 := by first | (simp [c_1]; done) | (simp []; done)
      have eC : ms_tcnt (z1, z2, z3, z4, z5, z6, z7, z8, z9, z10, z11, z12, z13, z14, z15, z16, z17, z18, z19, z20, z21, z22, z23, z24, z25, z26, z27, z28) k on = (z1, z2, z3, z4, z5, z6, z7, z8, z9, z10, z11, z12, z13, z14, z15, z16, z17, z18, z19, z20, va_up z21 k (if on = false then 0 else if sd_lt (FP.i2d (z21 k)) (z10 k) = true then z21 k + 1 else z21 k), z22, z23, z24, z25, z26, z27, z28) := (if_pos q_26).trans (rfl)
      refine ty_fin l dC dI cI cZ cD a hx hb hml hown hg hZ hK hA (z1, z2, z3, z4, z5, z6, z7, z8, z9, z10, z11, z12, z13, z14, z15, z16, z17, z18, z19, z20, va_up z21 k (if on = false then 0 else if sd_lt (FP.i2d (z21 k)) (z10 k) = true then z21 k + 1 else z21 k), z22, z23, z24, z25, z26, z27, z28) k on hk hth hP hD hS (lv_sub hl [0, 1, 2] rfl) (fun H locs ls hP hD hS hl => ?_)
      have eF : ms_tfin (z1, z2, z3, z4, z5, z6, z7, z8, z9, z10, z11, z12, z13, z14, z15, z16, z17, z18, z19, z20, va_up z21 k (if on = false then 0 else if sd_lt (FP.i2d (z21 k)) (z10 k) = true then z21 k + 1 else z21 k), z22, z23, z24, z25, z26, z27, z28) k on = ms_tally (z1, z2, z3, z4, z5, z6, z7, z8, z9, z10, z11, z12, z13, z14, z15, z16, z17, z18, z19, z20, z21, z22, z23, z24, z25, z26, z27, z28) k on := by
        unfold ms_tally
        rw [eC]
      rw [eF] at hP hD
      exact W.vret hx hb hr (fun t ht _ => ⟨rfl, by rw [ht]; exact hP, hAe ▸ hD, hAe ▸ hS.F ht⟩) (fun q hq => by rw [← hAe]; exact hS.2.2 q hq) dX3_tally_161
    · refine lv_iload_n hx hb dX3_tally_15 rfl (lv_at hl 2 rfl) ?_
      refine sf_ifne (tgt := 23) hx hb dX3_tally_16 (by decide) (fun c_27 => ?_) (fun c_27 => ?_)
      · refine lv_aload_n hx hb dX3_tally_23 rfl (lv_at hl 0 rfl) ?_
        refine va_get (D := (dC, dI)) (ci := 3) (v := .ref (a 21)) (C := RX3) (T := TX3) (N := 28) hx hb hg in_X3 hown hK hP 0 rfl rfl 20 (by decide) (hg _ mw_519) (fun _ h9 => h9) rfl dX3_tally_24 ?_
        refine lv_iload_n hx hb dX3_tally_27 rfl (lv_at hl 1 rfl) ?_
        refine sf_iald hx hb hK hP 21 0 rfl rfl k rfl (by omega) (by decide) dX3_tally_28 ?_
        refine lv_i2d hx hb dX3_tally_29 ?_
        refine lv_aload_n hx hb dX3_tally_30 rfl (lv_at hl 0 rfl) ?_
        refine va_get (D := (dC, dI)) (ci := 3) (v := .ref (a 10)) (C := RX3) (T := TX3) (N := 28) hx hb hg in_X3 hown hK hP 0 rfl rfl 9 (by decide) (hg _ mw_508) (fun _ h9 => h9) rfl dX3_tally_31 ?_
        refine lv_iload_n hx hb dX3_tally_34 rfl (lv_at hl 1 rfl) ?_
        refine sf_dald hx hb hK hP 10 2 rfl rfl k rfl (by omega) (by decide) dX3_tally_35 ?_
        refine lv_dcmp hx hb dX3_tally_36 ?_
        refine lv_if_ge (tgt := 51) hx hb dX3_tally_37 (by decide) (fun c_28 => ?_) (fun c_28 => ?_)
        · have c_28 := sd_g_ge.mp c_28
          refine lv_aload_n hx hb dX3_tally_51 rfl (lv_at hl 0 rfl) ?_
          refine va_get (D := (dC, dI)) (ci := 3) (v := .ref (a 21)) (C := RX3) (T := TX3) (N := 28) hx hb hg in_X3 hown hK hP 0 rfl rfl 20 (by decide) (hg _ mw_519) (fun _ h9 => h9) rfl dX3_tally_52 ?_
          refine lv_iload_n hx hb dX3_tally_55 rfl (lv_at hl 1 rfl) ?_
          refine sf_iald hx hb hK hP 21 0 rfl rfl k rfl (by omega) (by decide) dX3_tally_56 ?_
          exact k_25 (z21 k) (by first | rfl | (simp [c_27, c_28]; done) | (simp [] at *; simp [*]; done))
        · have c_28 := sd_ng_ge c_28
          refine lv_aload_n hx hb dX3_tally_40 rfl (lv_at hl 0 rfl) ?_
          refine va_get (D := (dC, dI)) (ci := 3) (v := .ref (a 21)) (C := RX3) (T := TX3) (N := 28) hx hb hg in_X3 hown hK hP 0 rfl rfl 20 (by decide) (hg _ mw_519) (fun _ h9 => h9) rfl dX3_tally_41 ?_
          refine lv_iload_n hx hb dX3_tally_44 rfl (lv_at hl 1 rfl) ?_
          refine sf_iald hx hb hK hP 21 0 rfl rfl k rfl (by omega) (by decide) dX3_tally_45 ?_
          refine lv_iconst (v := 1) hx hb dX3_tally_46 (by decide) ?_
          refine lv_iadd hx hb dX3_tally_47 ?_
          refine lv_goto (tgt := 57) hx hb dX3_tally_48 (by decide) ?_
          exact k_25 ((z21 k) + 1) (by first | rfl | (simp [c_27, c_28]; done) | (simp [] at *; simp [*]; done))
      · refine lv_iconst (v := 0) hx hb dX3_tally_19 (by decide) ?_
        refine lv_goto (tgt := 57) hx hb dX3_tally_20 (by decide) ?_
        exact k_25 0 (by first | rfl | (simp [c_27]; done) | (simp [] at *; simp [*]; done))
