set_option maxHeartbeats 4000000 in
set_option maxRecDepth 100000 in
theorem c_X2_isHalted (l : Launch) (dC : Nat → ClassId) (dI : Nat → Nat → Nat) (o : Nat → Nat) (sc fl hy : Int32)  : Met l yX2_isHalted wX2_isHalted ({ frames := 0, cells := 0, slots := 0, locals := 0 }) (sf_PR (dC, dI) vwCl [] ([wp_O o sc fl hy]) [.ref (o 0)]) (sf_R (some (.int (sf_b (fs_hlt hy))))) 0 0 (fun _ => False) := by
  refine Met.ofW (cc := cX2_isHalted) (maxL := 1) (ret := (some .boolean)) (by decide) rfl ?_
  intro p e s m args below meth c s₁ B hml hv
  have hx := B.exec
  have hb := B.bytes
  have hr := B.returns
  have hts := atoms_spec (ws := wX2_isHalted) B.pre
  have hg : ∀ w ∈ gw_all, w.before args s = true := fun w h => hts w (List.mem_cons_of_mem _ h)
  have hown : s.vm.findClass RX2 = some m.cls := findClass_of_methodNamed B.named
  have hlocks := B.notSynchronized
  obtain ⟨rfl, hP, hK, hZ⟩ := hv
  have hl := lv_entry ([.ref (o 0)]) (n := 1) (Nat.le_of_ble_eq_true rfl)
  rw [lg_entry_eq]
  generalize (lg_sl ([.ref (o 0)]) ++ List.replicate (1 - (lg_sl ([.ref (o 0)])).length) Slot.unset).toArray = ls at hl ⊢
  have hl : lv_has ls 1 [(0, .ref (o 0))] := hl
  have hP : va_P (dC, dI) vwCl [(o 0, .inr (2, [.ref (o 1), .ref (o 2), .ref (o 3), .ref (o 4), .int sc, .int fl, .int hy]))] s.heap := hP
  refine lv_aload_n hx hb dX2_isHalted_0 rfl (lv_at hl 0 rfl) ?_
  refine va_get (D := (dC, dI)) (ci := 2) (v := .int hy) (C := RX2) (T := TX2) (N := 7) hx hb hg in_X2 hown hK hP 0 rfl rfl 6 (by decide) (hg _ mw_125) (fun _ h9 => h9) rfl dX2_isHalted_1 ?_
  refine lv_iconst (v := (-1)) hx hb dX2_isHalted_4 (by decide) ?_
  refine lv_icmp_eq (tgt := 12) hx hb dX2_isHalted_5 (by decide) (fun c_1 => ?_) (fun c_1 => ?_)
  · refine lv_iconst (v := sf_b false) hx hb dX2_isHalted_12 (by decide) ?_
    refine sf_topi (y := sf_b (fs_hlt hy)) (by first | rfl | (simp [fs_hlt, c_1]; done)) ?_
    exact W.zret hx hb hr (sf_b_nb _) (fun t ht _ => ⟨rfl, ht⟩) (fun _ h => nomatch h) dX2_isHalted_13
  · refine lv_iconst (v := sf_b true) hx hb dX2_isHalted_8 (by decide) ?_
    refine lv_goto (tgt := 13) hx hb dX2_isHalted_9 (by decide) ?_
    refine sf_topi (y := sf_b (fs_hlt hy)) (by first | rfl | (simp [fs_hlt, c_1]; done)) ?_
    exact W.zret hx hb hr (sf_b_nb _) (fun t ht _ => ⟨rfl, ht⟩) (fun _ h => nomatch h) dX2_isHalted_13
set_option maxHeartbeats 4000000 in
set_option maxRecDepth 100000 in
theorem bo_loop (l : Launch) (dC : Nat → ClassId) (dI : Nat → Nat → Nat) (cZ : ClassId) (o : Nat → Nat) (sc fl hy : Int32) (bt : Nat → Bool) {p : Program} {e : Env} {s : State} {m : MethodId} {args : Array Value} {below : List Frame} {meth : Method} {c : Code} (hx : p.tables.exec = Jvm.exec) (hb : c.code = cX2_bitsOn) (hml : c.maxLocals = 3) (hown : s.vm.findClass RX2 = some m.cls) (hg : ∀ w ∈ gw_all, w.before args s = true) (hZ : nw_ok s) (hr : meth.sig.returnType = some .int) (hlocks : meth.locks = false) (hK : va_K (dC, dI) vwCl [(cZ, .boolean)] s) (hP : va_P (dC, dI) vwCl [wp_O o sc fl hy, wp_Z (o 1) cZ 24 bt] s.heap) : ∀ (k n : Nat), n + k = 24 → ∀ ls : Array Slot, lv_has ls 3 [(0, .ref (o 0)), (1, .int (nI (fs_on bt n))), (2, .int (nI n))] → W p l e (headSpec wX2_bitsOn ({ frames := 0, cells := 0, slots := 0, locals := 0 })).room s m args below meth c s.heap [] 0 0 (MQ below (sf_R (some (.int (nI (fs_on bt 24))))) args s 0 0 (fun _ => False)) (F0 m 4 ls []) := by
  intro k
  induction k with
  | zero =>
    intro n hn ls hl
    have hn : n = 24 := by omega
    subst hn
    refine lv_iload_n hx hb dX2_bitsOn_4 rfl (lv_at hl 2 rfl) ?_
    refine lv_bipush (v := 24) hx hb dX2_bitsOn_5 (by decide) ?_
    refine lv_icmp_ge (tgt := 28) hx hb dX2_bitsOn_7 (by decide) (fun _ => ?_) (fun h => absurd (by decide) h)
    refine lv_iload_n hx hb dX2_bitsOn_28 rfl (lv_at hl 1 rfl) ?_
    exact W.iret hx hb hr (fun t ht _ => ⟨rfl, ht⟩) (fun _ h => nomatch h) dX2_bitsOn_29
  | succ k ih =>
    intro n hn ls hl
    refine lv_iload_n hx hb dX2_bitsOn_4 rfl (lv_at hl 2 rfl) ?_
    refine lv_bipush (v := 24) hx hb dX2_bitsOn_5 (by decide) ?_
    refine lv_icmp_ge (tgt := 28) hx hb dX2_bitsOn_7 (by decide) (fun c_1 => ?_) (fun c_1 => ?_)
    · exact absurd c_1 (nI_ge (show n < 24 by omega) (by decide))
    · refine lv_aload_n hx hb dX2_bitsOn_10 rfl (lv_at hl 0 rfl) ?_
      refine va_get (D := (dC, dI)) (ci := 2) (v := .ref (o 1)) (C := RX2) (T := TX2) (N := 7) hx hb hg in_X2 hown hK hP 0 rfl rfl 0 (by decide) (hg _ mw_119) (fun _ h9 => h9) rfl dX2_bitsOn_11 ?_
      refine lv_iload_n hx hb dX2_bitsOn_14 rfl (lv_at hl 2 rfl) ?_
      refine sf_zald hx hb hK hP 1 0 rfl rfl n rfl (by omega) (by decide) dX2_bitsOn_15 ?_
      refine sf_ifeq (tgt := 22) hx hb dX2_bitsOn_16 (by decide) (fun c_2 => ?_) (fun c_2 => ?_)
      · refine lv_iinc (v := nI (n + 1)) (lv' := [(2, .int (nI (n + 1))), (0, .ref (o 0)), (1, .int (nI (fs_on bt n)))]) hx hb dX2_bitsOn_22 hl (k := 2) rfl (nI_1 n) (by decide) rfl (fun ls hl => ?_)
        refine lv_goto (tgt := 4) hx hb dX2_bitsOn_25 (by decide) ?_
        have e9 : fs_on bt (n + 1) = fs_on bt n := by
          show fs_on bt n + (if bt n = true then 1 else 0) = fs_on bt n
          rw [c_2]
          rfl
        exact ih (n + 1) (by omega) ls (by rw [e9]; exact lv_sub hl [1, 2, 0] rfl)
      · refine lv_iinc (v := nI (fs_on bt (n + 1))) (lv' := [(1, .int (nI (fs_on bt (n + 1)))), (0, .ref (o 0)), (2, .int (nI n))]) hx hb dX2_bitsOn_19 hl (k := 1) rfl (show nI (fs_on bt n) + 1 = nI (fs_on bt n + (if bt n = true then 1 else 0)) from by rw [c_2]; exact nI_1 _) (by decide) rfl (fun ls hl => ?_)
        refine lv_iinc (v := nI (n + 1)) (lv' := [(2, .int (nI (n + 1))), (1, .int (nI (fs_on bt (n + 1)))), (0, .ref (o 0))]) hx hb dX2_bitsOn_22 hl (k := 2) rfl (nI_1 n) (by decide) rfl (fun ls hl => ?_)
        refine lv_goto (tgt := 4) hx hb dX2_bitsOn_25 (by decide) ?_
        exact ih (n + 1) (by omega) ls (lv_sub hl [2, 1, 0] rfl)
set_option maxHeartbeats 4000000 in
set_option maxRecDepth 100000 in
theorem c_X2_bitsOn (l : Launch) (dC : Nat → ClassId) (dI : Nat → Nat → Nat) (cZ : ClassId) (o : Nat → Nat) (sc fl hy : Int32) (bt : Nat → Bool)  : Met l yX2_bitsOn wX2_bitsOn ({ frames := 0, cells := 0, slots := 0, locals := 0 }) (sf_PR (dC, dI) vwCl [(cZ, .boolean)] ([wp_O o sc fl hy, wp_Z (o 1) cZ 24 bt]) [.ref (o 0)]) (sf_R (some (.int (nI (fs_on bt 24))))) 0 0 (fun _ => False) := by
  refine Met.ofW (cc := cX2_bitsOn) (maxL := 3) (ret := (some .int)) (by decide) rfl ?_
  intro p e s m args below meth c s₁ B hml hv
  have hx := B.exec
  have hb := B.bytes
  have hr := B.returns
  have hts := atoms_spec (ws := wX2_bitsOn) B.pre
  have hg : ∀ w ∈ gw_all, w.before args s = true := fun w h => hts w (List.mem_cons_of_mem _ h)
  have hown : s.vm.findClass RX2 = some m.cls := findClass_of_methodNamed B.named
  have hlocks := B.notSynchronized
  obtain ⟨rfl, hP, hK, hZ⟩ := hv
  have hl := lv_entry ([.ref (o 0)]) (n := 3) (Nat.le_of_ble_eq_true rfl)
  rw [lg_entry_eq]
  generalize (lg_sl ([.ref (o 0)]) ++ List.replicate (3 - (lg_sl ([.ref (o 0)])).length) Slot.unset).toArray = ls at hl ⊢
  have hl : lv_has ls 3 [(0, .ref (o 0))] := hl
  have hP : va_P (dC, dI) vwCl [(o 0, .inr (2, [.ref (o 1), .ref (o 2), .ref (o 3), .ref (o 4), .int sc, .int fl, .int hy])), (o 1, .inl (cZ, 24, .inl (fun i9 => sf_b (bt i9))))] s.heap := hP
  refine lv_iconst (v := 0) hx hb dX2_bitsOn_0 (by decide) ?_
  refine lv_istore_n (lv' := [(1, .int 0), (0, .ref (o 0))]) hx hb dX2_bitsOn_1 rfl hl (by decide) rfl (fun ls hl => ?_)
  refine lv_iconst (v := 0) hx hb dX2_bitsOn_2 (by decide) ?_
  refine lv_istore_n (lv' := [(2, .int 0), (1, .int 0), (0, .ref (o 0))]) hx hb dX2_bitsOn_3 rfl hl (by decide) rfl (fun ls hl => ?_)
  exact bo_loop l dC dI cZ o sc fl hy bt hx hb hml hown hg hZ hr hlocks hK hP 24 0 rfl ls (lv_sub hl [2, 1, 0] rfl)
set_option maxHeartbeats 4000000 in
set_option maxRecDepth 100000 in
theorem c_X2_takeFault (l : Launch) (dC : Nat → ClassId) (dI : Nat → Nat → Nat) (cI cZ cD cR cB : ClassId) (o : Nat → Nat) (ra : Nat → Nat → Nat) (ba : Nat → Nat) (sc : Int32) (x : st_T) (k : Nat) (sz : Nat) (hk : k < 8) : Met l yX2_takeFault wX2_takeFault ({ frames := 0, cells := 0, slots := 0, locals := 0 }) (sf_PV (dC, dI) vwCl [(cI, .int), (cZ, .boolean), (cD, .double), (cR, .object RX1), (cB, .object RX0)] (wp_T cZ cD cR cB o ra ba sc x) sz [.ref (o 0), .int (nI k)]) (sf_V (dC, dI) vwCl none (wp_T cZ cD cR cB o ra ba sc x) (wp_T cZ cD cR cB o ra ba sc (fs_fault x k))) 0 0 (va_A (wp_T cZ cD cR cB o ra ba sc x) sz) := by
  refine Met.ofW (cc := cX2_takeFault) (maxL := 3) (ret := none) (by decide) rfl ?_
  intro p e s m args below meth c s₁ B hml hv
  have hx := B.exec
  have hb := B.bytes
  have hr := B.returns
  have hts := atoms_spec (ws := wX2_takeFault) B.pre
  have hg : ∀ w ∈ gw_all, w.before args s = true := fun w h => hts w (List.mem_cons_of_mem _ h)
  have hown : s.vm.findClass RX2 = some m.cls := findClass_of_methodNamed B.named
  have hlocks := B.notSynchronized
  obtain ⟨rfl, hsz, hP, hD0, hK, hZ⟩ := hv
  subst hsz
  have hl := lv_entry ([.ref (o 0), .int (nI k)]) (n := 3) (Nat.le_of_ble_eq_true rfl)
  rw [lg_entry_eq]
  generalize (lg_sl ([.ref (o 0), .int (nI k)]) ++ List.replicate (3 - (lg_sl ([.ref (o 0), .int (nI k)])).length) Slot.unset).toArray = ls at hl ⊢
  have hl : lv_has ls 3 [(0, .ref (o 0)), (1, .int (nI k))] := hl
  obtain ⟨A, hAe⟩ : ∃ A : Nat → Prop, A = va_A (wp_T cZ cD cR cB o ra ba sc x) s.heap.size := ⟨_, rfl⟩
  have hD := hD0.self (sz := s.heap.size)
  rw [← hAe] at hD
  have hA : ∀ q : Nat, s.heap.size ≤ q → A q := fun q h => by rw [hAe]; exact Or.inr h
  have hS : va_S A s.heap s.heap [] := va_S.rf
  have hP := sf_P_perm (pm_b (ba := ba) (bs := x.2.2.1) (k := k) hk _ _) hP
  have hD := sf_D_perm (pm_b (ba := ba) (bs := x.2.2.1) (k := k) hk _ _) hD
  have hP : va_P (dC, dI) vwCl ([(ba k, .inr (0, [.int ((x.2.2.1 k).1), .int ((x.2.2.1 k).2.1), .int ((x.2.2.1 k).2.2.1), .int ((x.2.2.1 k).2.2.2.1), .double ((x.2.2.1 k).2.2.2.2.1), .int (sf_b ((x.2.2.1 k).2.2.2.2.2.1)), .int ((x.2.2.1 k).2.2.2.2.2.2.1), .int (sf_b ((x.2.2.1 k).2.2.2.2.2.2.2.1)), .double ((x.2.2.1 k).2.2.2.2.2.2.2.2.1), .double ((x.2.2.1 k).2.2.2.2.2.2.2.2.2.1), .int ((x.2.2.1 k).2.2.2.2.2.2.2.2.2.2.1), .int ((x.2.2.1 k).2.2.2.2.2.2.2.2.2.2.2)])), (o 0, .inr (2, [.ref (o 1), .ref (o 2), .ref (o 3), .ref (o 4), .int sc, .int x.2.2.2.1, .int x.2.2.2.2])), (o 1, .inl (cZ, 24, .inl (fun i9 => sf_b (x.1 i9)))), (o 2, .inl (cD, 8, .inr (.inr (.inr (.inl x.2.1))))), (o 3, .inl (cR, 5, .inr (.inr (.inr (.inr (fun g => some (ra g 0))))))), (o 4, .inl (cB, 8, .inr (.inr (.inr (.inr (fun k => some (ba k)))))))] ++ (wp_bx ba x.2.2.1 k ++ [])) s.heap := hP
  have hD : va_D A ([(ba k, .inr (0, [.int ((x.2.2.1 k).1), .int ((x.2.2.1 k).2.1), .int ((x.2.2.1 k).2.2.1), .int ((x.2.2.1 k).2.2.2.1), .double ((x.2.2.1 k).2.2.2.2.1), .int (sf_b ((x.2.2.1 k).2.2.2.2.2.1)), .int ((x.2.2.1 k).2.2.2.2.2.2.1), .int (sf_b ((x.2.2.1 k).2.2.2.2.2.2.2.1)), .double ((x.2.2.1 k).2.2.2.2.2.2.2.2.1), .double ((x.2.2.1 k).2.2.2.2.2.2.2.2.2.1), .int ((x.2.2.1 k).2.2.2.2.2.2.2.2.2.2.1), .int ((x.2.2.1 k).2.2.2.2.2.2.2.2.2.2.2)])), (o 0, .inr (2, [.ref (o 1), .ref (o 2), .ref (o 3), .ref (o 4), .int sc, .int x.2.2.2.1, .int x.2.2.2.2])), (o 1, .inl (cZ, 24, .inl (fun i9 => sf_b (x.1 i9)))), (o 2, .inl (cD, 8, .inr (.inr (.inr (.inl x.2.1))))), (o 3, .inl (cR, 5, .inr (.inr (.inr (.inr (fun g => some (ra g 0))))))), (o 4, .inl (cB, 8, .inr (.inr (.inr (.inr (fun k => some (ba k)))))))] ++ (wp_bx ba x.2.2.1 k ++ [])) := hD
  refine lv_aload_n hx hb dX2_takeFault_0 rfl (lv_at hl 0 rfl) ?_
  refine lv_dup hx hb dX2_takeFault_1 rfl ?_
  refine va_get (D := (dC, dI)) (ci := 2) (v := .int x.2.2.2.1) (C := RX2) (T := TX2) (N := 7) hx hb hg in_X2 hown hK hP 1 rfl rfl 5 (by decide) (hg _ mw_124) (fun _ h9 => h9) rfl dX2_takeFault_2 ?_
  refine lv_iconst (v := 1) hx hb dX2_takeFault_5 (by decide) ?_
  refine lv_iadd hx hb dX2_takeFault_6 ?_
  refine va_put (D := (dC, dI)) (ci := 2) (v := .int (x.2.2.2.1 + 1)) (ty := .int) (C := RX2) (T := TX2) (N := 7) hx hb hg in_X2 tyX2 tyX2_ok nmX2 hown hK hP hD hS 1 rfl rfl 5 (by decide) (hg _ mw_124) (fun _ h9 => h9) rfl (by decide +kernel) rfl rfl (Nat.le_of_ble_eq_true rfl) dX2_takeFault_7 (fun H locs hP hD hS => ?_)
  have hP : va_P (dC, dI) vwCl ([(ba k, .inr (0, [.int ((x.2.2.1 k).1), .int ((x.2.2.1 k).2.1), .int ((x.2.2.1 k).2.2.1), .int ((x.2.2.1 k).2.2.2.1), .double ((x.2.2.1 k).2.2.2.2.1), .int (sf_b ((x.2.2.1 k).2.2.2.2.2.1)), .int ((x.2.2.1 k).2.2.2.2.2.2.1), .int (sf_b ((x.2.2.1 k).2.2.2.2.2.2.2.1)), .double ((x.2.2.1 k).2.2.2.2.2.2.2.2.1), .double ((x.2.2.1 k).2.2.2.2.2.2.2.2.2.1), .int ((x.2.2.1 k).2.2.2.2.2.2.2.2.2.2.1), .int ((x.2.2.1 k).2.2.2.2.2.2.2.2.2.2.2)])), (o 0, .inr (2, [.ref (o 1), .ref (o 2), .ref (o 3), .ref (o 4), .int sc, .int (x.2.2.2.1 + 1), .int x.2.2.2.2])), (o 1, .inl (cZ, 24, .inl (fun i9 => sf_b (x.1 i9)))), (o 2, .inl (cD, 8, .inr (.inr (.inr (.inl x.2.1))))), (o 3, .inl (cR, 5, .inr (.inr (.inr (.inr (fun g => some (ra g 0))))))), (o 4, .inl (cB, 8, .inr (.inr (.inr (.inr (fun k => some (ba k)))))))] ++ (wp_bx ba x.2.2.1 k ++ [])) H := hP
  have hD : va_D A ([(ba k, .inr (0, [.int ((x.2.2.1 k).1), .int ((x.2.2.1 k).2.1), .int ((x.2.2.1 k).2.2.1), .int ((x.2.2.1 k).2.2.2.1), .double ((x.2.2.1 k).2.2.2.2.1), .int (sf_b ((x.2.2.1 k).2.2.2.2.2.1)), .int ((x.2.2.1 k).2.2.2.2.2.2.1), .int (sf_b ((x.2.2.1 k).2.2.2.2.2.2.2.1)), .double ((x.2.2.1 k).2.2.2.2.2.2.2.2.1), .double ((x.2.2.1 k).2.2.2.2.2.2.2.2.2.1), .int ((x.2.2.1 k).2.2.2.2.2.2.2.2.2.2.1), .int ((x.2.2.1 k).2.2.2.2.2.2.2.2.2.2.2)])), (o 0, .inr (2, [.ref (o 1), .ref (o 2), .ref (o 3), .ref (o 4), .int sc, .int (x.2.2.2.1 + 1), .int x.2.2.2.2])), (o 1, .inl (cZ, 24, .inl (fun i9 => sf_b (x.1 i9)))), (o 2, .inl (cD, 8, .inr (.inr (.inr (.inl x.2.1))))), (o 3, .inl (cR, 5, .inr (.inr (.inr (.inr (fun g => some (ra g 0))))))), (o 4, .inl (cB, 8, .inr (.inr (.inr (.inr (fun k => some (ba k)))))))] ++ (wp_bx ba x.2.2.1 k ++ [])) := hD
  refine lv_aload_n hx hb dX2_takeFault_10 rfl (lv_at hl 0 rfl) ?_
  refine va_get (D := (dC, dI)) (ci := 2) (v := .ref (o 4)) (C := RX2) (T := TX2) (N := 7) hx hb hg in_X2 hown hK hP 1 rfl rfl 3 (by decide) (hg _ mw_122) (fun _ h9 => h9) rfl dX2_takeFault_11 ?_
  refine lv_iload_n hx hb dX2_takeFault_14 rfl (lv_at hl 1 rfl) ?_
  refine sf_aald hx hb hK hP 5 4 rfl rfl k rfl hk (by decide) rfl dX2_takeFault_15 ?_
  refine va_getN (D := (dC, dI)) (ci := 0) (v := .int (sf_b ((x.2.2.1 k).2.2.2.2.2.1))) (C := RX0) (T := TX0) (N := 12) hx hb hg in_X0 hown hK hP 0 rfl rfl 5 (by decide) (va_Nw.use rfl (hZ (.fieldLinkNest RX2 75 RX0 "guarded" "Z" RX2) (by decide +kernel))) (fun _ h9 => h9) rfl dX2_takeFault_16 ?_
  refine sf_ifeq (tgt := 31) hx hb dX2_takeFault_19 (by decide) (fun c_1 => ?_) (fun c_1 => ?_)
  · refine lv_bipush (v := 8) hx hb dX2_takeFault_31 (by decide) ?_
    refine lv_istore_n (lv' := [(2, .int 8), (0, .ref (o 0)), (1, .int (nI k))]) hx hb dX2_takeFault_33 rfl hl (by decide) rfl (fun ls hl => ?_)
    refine lv_iload_n hx hb dX2_takeFault_34 rfl (lv_at hl 0 rfl) ?_
    refine lv_bipush (v := 15) hx hb dX2_takeFault_35 (by decide) ?_
    refine lv_icmp_gt (tgt := 53) hx hb dX2_takeFault_37 (by decide) (fun h => absurd h (by decide)) (fun _ => ?_)
    refine lv_aload_n hx hb dX2_takeFault_40 rfl (lv_at hl 1 rfl) ?_
    refine va_get (D := (dC, dI)) (ci := 2) (v := .ref (o 1)) (C := RX2) (T := TX2) (N := 7) hx hb hg in_X2 hown hK hP 1 rfl rfl 0 (by decide) (hg _ mw_119) (fun _ h9 => h9) rfl dX2_takeFault_41 ?_
    refine lv_iload_n hx hb dX2_takeFault_44 rfl (lv_at hl 0 rfl) ?_
    refine lv_iconst (v := 0) hx hb dX2_takeFault_45 (by decide) ?_
    refine sf_topi (y := sf_b false) rfl ?_
    refine sf_zast hx hb hK hP hD hS 2 1 rfl rfl 8 rfl (by decide) (by decide) dX2_takeFault_46 (fun H locs hP hD hS => ?_)
    have hP : va_P (dC, dI) vwCl ([(ba k, .inr (0, [.int ((x.2.2.1 k).1), .int ((x.2.2.1 k).2.1), .int ((x.2.2.1 k).2.2.1), .int ((x.2.2.1 k).2.2.2.1), .double ((x.2.2.1 k).2.2.2.2.1), .int (sf_b ((x.2.2.1 k).2.2.2.2.2.1)), .int ((x.2.2.1 k).2.2.2.2.2.2.1), .int (sf_b ((x.2.2.1 k).2.2.2.2.2.2.2.1)), .double ((x.2.2.1 k).2.2.2.2.2.2.2.2.1), .double ((x.2.2.1 k).2.2.2.2.2.2.2.2.2.1), .int ((x.2.2.1 k).2.2.2.2.2.2.2.2.2.2.1), .int ((x.2.2.1 k).2.2.2.2.2.2.2.2.2.2.2)])), (o 0, .inr (2, [.ref (o 1), .ref (o 2), .ref (o 3), .ref (o 4), .int sc, .int (x.2.2.2.1 + 1), .int x.2.2.2.2])), (o 1, .inl (cZ, 24, .inl (fun i9 => sf_b ((va_up x.1 8 false) i9)))), (o 2, .inl (cD, 8, .inr (.inr (.inr (.inl x.2.1))))), (o 3, .inl (cR, 5, .inr (.inr (.inr (.inr (fun g => some (ra g 0))))))), (o 4, .inl (cB, 8, .inr (.inr (.inr (.inr (fun k => some (ba k)))))))] ++ (wp_bx ba x.2.2.1 k ++ [])) H := hP
    have hD : va_D A ([(ba k, .inr (0, [.int ((x.2.2.1 k).1), .int ((x.2.2.1 k).2.1), .int ((x.2.2.1 k).2.2.1), .int ((x.2.2.1 k).2.2.2.1), .double ((x.2.2.1 k).2.2.2.2.1), .int (sf_b ((x.2.2.1 k).2.2.2.2.2.1)), .int ((x.2.2.1 k).2.2.2.2.2.2.1), .int (sf_b ((x.2.2.1 k).2.2.2.2.2.2.2.1)), .double ((x.2.2.1 k).2.2.2.2.2.2.2.2.1), .double ((x.2.2.1 k).2.2.2.2.2.2.2.2.2.1), .int ((x.2.2.1 k).2.2.2.2.2.2.2.2.2.2.1), .int ((x.2.2.1 k).2.2.2.2.2.2.2.2.2.2.2)])), (o 0, .inr (2, [.ref (o 1), .ref (o 2), .ref (o 3), .ref (o 4), .int sc, .int (x.2.2.2.1 + 1), .int x.2.2.2.2])), (o 1, .inl (cZ, 24, .inl (fun i9 => sf_b ((va_up x.1 8 false) i9)))), (o 2, .inl (cD, 8, .inr (.inr (.inr (.inl x.2.1))))), (o 3, .inl (cR, 5, .inr (.inr (.inr (.inr (fun g => some (ra g 0))))))), (o 4, .inl (cB, 8, .inr (.inr (.inr (.inr (fun k => some (ba k)))))))] ++ (wp_bx ba x.2.2.1 k ++ [])) := hD
    refine lv_iinc (v := 9) (lv' := [(2, .int 9), (0, .ref (o 0)), (1, .int (nI k))]) hx hb dX2_takeFault_47 hl (k := 0) rfl (by decide) (by decide) rfl (fun ls hl => ?_)
    refine lv_goto (tgt := 34) hx hb dX2_takeFault_50 (by decide) ?_
    refine lv_iload_n hx hb dX2_takeFault_34 rfl (lv_at hl 0 rfl) ?_
    refine lv_bipush (v := 15) hx hb dX2_takeFault_35 (by decide) ?_
    refine lv_icmp_gt (tgt := 53) hx hb dX2_takeFault_37 (by decide) (fun h => absurd h (by decide)) (fun _ => ?_)
    refine lv_aload_n hx hb dX2_takeFault_40 rfl (lv_at hl 1 rfl) ?_
    refine va_get (D := (dC, dI)) (ci := 2) (v := .ref (o 1)) (C := RX2) (T := TX2) (N := 7) hx hb hg in_X2 hown hK hP 1 rfl rfl 0 (by decide) (hg _ mw_119) (fun _ h9 => h9) rfl dX2_takeFault_41 ?_
    refine lv_iload_n hx hb dX2_takeFault_44 rfl (lv_at hl 0 rfl) ?_
    refine lv_iconst (v := 0) hx hb dX2_takeFault_45 (by decide) ?_
    refine sf_topi (y := sf_b false) rfl ?_
    refine sf_zast hx hb hK hP hD hS 2 1 rfl rfl 9 rfl (by decide) (by decide) dX2_takeFault_46 (fun H locs hP hD hS => ?_)
    have hP : va_P (dC, dI) vwCl ([(ba k, .inr (0, [.int ((x.2.2.1 k).1), .int ((x.2.2.1 k).2.1), .int ((x.2.2.1 k).2.2.1), .int ((x.2.2.1 k).2.2.2.1), .double ((x.2.2.1 k).2.2.2.2.1), .int (sf_b ((x.2.2.1 k).2.2.2.2.2.1)), .int ((x.2.2.1 k).2.2.2.2.2.2.1), .int (sf_b ((x.2.2.1 k).2.2.2.2.2.2.2.1)), .double ((x.2.2.1 k).2.2.2.2.2.2.2.2.1), .double ((x.2.2.1 k).2.2.2.2.2.2.2.2.2.1), .int ((x.2.2.1 k).2.2.2.2.2.2.2.2.2.2.1), .int ((x.2.2.1 k).2.2.2.2.2.2.2.2.2.2.2)])), (o 0, .inr (2, [.ref (o 1), .ref (o 2), .ref (o 3), .ref (o 4), .int sc, .int (x.2.2.2.1 + 1), .int x.2.2.2.2])), (o 1, .inl (cZ, 24, .inl (fun i9 => sf_b ((va_up (va_up x.1 8 false) 9 false) i9)))), (o 2, .inl (cD, 8, .inr (.inr (.inr (.inl x.2.1))))), (o 3, .inl (cR, 5, .inr (.inr (.inr (.inr (fun g => some (ra g 0))))))), (o 4, .inl (cB, 8, .inr (.inr (.inr (.inr (fun k => some (ba k)))))))] ++ (wp_bx ba x.2.2.1 k ++ [])) H := hP
    have hD : va_D A ([(ba k, .inr (0, [.int ((x.2.2.1 k).1), .int ((x.2.2.1 k).2.1), .int ((x.2.2.1 k).2.2.1), .int ((x.2.2.1 k).2.2.2.1), .double ((x.2.2.1 k).2.2.2.2.1), .int (sf_b ((x.2.2.1 k).2.2.2.2.2.1)), .int ((x.2.2.1 k).2.2.2.2.2.2.1), .int (sf_b ((x.2.2.1 k).2.2.2.2.2.2.2.1)), .double ((x.2.2.1 k).2.2.2.2.2.2.2.2.1), .double ((x.2.2.1 k).2.2.2.2.2.2.2.2.2.1), .int ((x.2.2.1 k).2.2.2.2.2.2.2.2.2.2.1), .int ((x.2.2.1 k).2.2.2.2.2.2.2.2.2.2.2)])), (o 0, .inr (2, [.ref (o 1), .ref (o 2), .ref (o 3), .ref (o 4), .int sc, .int (x.2.2.2.1 + 1), .int x.2.2.2.2])), (o 1, .inl (cZ, 24, .inl (fun i9 => sf_b ((va_up (va_up x.1 8 false) 9 false) i9)))), (o 2, .inl (cD, 8, .inr (.inr (.inr (.inl x.2.1))))), (o 3, .inl (cR, 5, .inr (.inr (.inr (.inr (fun g => some (ra g 0))))))), (o 4, .inl (cB, 8, .inr (.inr (.inr (.inr (fun k => some (ba k)))))))] ++ (wp_bx ba x.2.2.1 k ++ [])) := hD
    refine lv_iinc (v := 10) (lv' := [(2, .int 10), (0, .ref (o 0)), (1, .int (nI k))]) hx hb dX2_takeFault_47 hl (k := 0) rfl (by decide) (by decide) rfl (fun ls hl => ?_)
    refine lv_goto (tgt := 34) hx hb dX2_takeFault_50 (by decide) ?_
    refine lv_iload_n hx hb dX2_takeFault_34 rfl (lv_at hl 0 rfl) ?_
    refine lv_bipush (v := 15) hx hb dX2_takeFault_35 (by decide) ?_
    refine lv_icmp_gt (tgt := 53) hx hb dX2_takeFault_37 (by decide) (fun h => absurd h (by decide)) (fun _ => ?_)
    refine lv_aload_n hx hb dX2_takeFault_40 rfl (lv_at hl 1 rfl) ?_
    refine va_get (D := (dC, dI)) (ci := 2) (v := .ref (o 1)) (C := RX2) (T := TX2) (N := 7) hx hb hg in_X2 hown hK hP 1 rfl rfl 0 (by decide) (hg _ mw_119) (fun _ h9 => h9) rfl dX2_takeFault_41 ?_
    refine lv_iload_n hx hb dX2_takeFault_44 rfl (lv_at hl 0 rfl) ?_
    refine lv_iconst (v := 0) hx hb dX2_takeFault_45 (by decide) ?_
    refine sf_topi (y := sf_b false) rfl ?_
    refine sf_zast hx hb hK hP hD hS 2 1 rfl rfl 10 rfl (by decide) (by decide) dX2_takeFault_46 (fun H locs hP hD hS => ?_)
    have hP : va_P (dC, dI) vwCl ([(ba k, .inr (0, [.int ((x.2.2.1 k).1), .int ((x.2.2.1 k).2.1), .int ((x.2.2.1 k).2.2.1), .int ((x.2.2.1 k).2.2.2.1), .double ((x.2.2.1 k).2.2.2.2.1), .int (sf_b ((x.2.2.1 k).2.2.2.2.2.1)), .int ((x.2.2.1 k).2.2.2.2.2.2.1), .int (sf_b ((x.2.2.1 k).2.2.2.2.2.2.2.1)), .double ((x.2.2.1 k).2.2.2.2.2.2.2.2.1), .double ((x.2.2.1 k).2.2.2.2.2.2.2.2.2.1), .int ((x.2.2.1 k).2.2.2.2.2.2.2.2.2.2.1), .int ((x.2.2.1 k).2.2.2.2.2.2.2.2.2.2.2)])), (o 0, .inr (2, [.ref (o 1), .ref (o 2), .ref (o 3), .ref (o 4), .int sc, .int (x.2.2.2.1 + 1), .int x.2.2.2.2])), (o 1, .inl (cZ, 24, .inl (fun i9 => sf_b ((va_up (va_up (va_up x.1 8 false) 9 false) 10 false) i9)))), (o 2, .inl (cD, 8, .inr (.inr (.inr (.inl x.2.1))))), (o 3, .inl (cR, 5, .inr (.inr (.inr (.inr (fun g => some (ra g 0))))))), (o 4, .inl (cB, 8, .inr (.inr (.inr (.inr (fun k => some (ba k)))))))] ++ (wp_bx ba x.2.2.1 k ++ [])) H := hP
    have hD : va_D A ([(ba k, .inr (0, [.int ((x.2.2.1 k).1), .int ((x.2.2.1 k).2.1), .int ((x.2.2.1 k).2.2.1), .int ((x.2.2.1 k).2.2.2.1), .double ((x.2.2.1 k).2.2.2.2.1), .int (sf_b ((x.2.2.1 k).2.2.2.2.2.1)), .int ((x.2.2.1 k).2.2.2.2.2.2.1), .int (sf_b ((x.2.2.1 k).2.2.2.2.2.2.2.1)), .double ((x.2.2.1 k).2.2.2.2.2.2.2.2.1), .double ((x.2.2.1 k).2.2.2.2.2.2.2.2.2.1), .int ((x.2.2.1 k).2.2.2.2.2.2.2.2.2.2.1), .int ((x.2.2.1 k).2.2.2.2.2.2.2.2.2.2.2)])), (o 0, .inr (2, [.ref (o 1), .ref (o 2), .ref (o 3), .ref (o 4), .int sc, .int (x.2.2.2.1 + 1), .int x.2.2.2.2])), (o 1, .inl (cZ, 24, .inl (fun i9 => sf_b ((va_up (va_up (va_up x.1 8 false) 9 false) 10 false) i9)))), (o 2, .inl (cD, 8, .inr (.inr (.inr (.inl x.2.1))))), (o 3, .inl (cR, 5, .inr (.inr (.inr (.inr (fun g => some (ra g 0))))))), (o 4, .inl (cB, 8, .inr (.inr (.inr (.inr (fun k => some (ba k)))))))] ++ (wp_bx ba x.2.2.1 k ++ [])) := hD
    refine lv_iinc (v := 11) (lv' := [(2, .int 11), (0, .ref (o 0)), (1, .int (nI k))]) hx hb dX2_takeFault_47 hl (k := 0) rfl (by decide) (by decide) rfl (fun ls hl => ?_)
    refine lv_goto (tgt := 34) hx hb dX2_takeFault_50 (by decide) ?_
    refine lv_iload_n hx hb dX2_takeFault_34 rfl (lv_at hl 0 rfl) ?_
    refine lv_bipush (v := 15) hx hb dX2_takeFault_35 (by decide) ?_
    refine lv_icmp_gt (tgt := 53) hx hb dX2_takeFault_37 (by decide) (fun h => absurd h (by decide)) (fun _ => ?_)
    refine lv_aload_n hx hb dX2_takeFault_40 rfl (lv_at hl 1 rfl) ?_
    refine va_get (D := (dC, dI)) (ci := 2) (v := .ref (o 1)) (C := RX2) (T := TX2) (N := 7) hx hb hg in_X2 hown hK hP 1 rfl rfl 0 (by decide) (hg _ mw_119) (fun _ h9 => h9) rfl dX2_takeFault_41 ?_
    refine lv_iload_n hx hb dX2_takeFault_44 rfl (lv_at hl 0 rfl) ?_
    refine lv_iconst (v := 0) hx hb dX2_takeFault_45 (by decide) ?_
    refine sf_topi (y := sf_b false) rfl ?_
    refine sf_zast hx hb hK hP hD hS 2 1 rfl rfl 11 rfl (by decide) (by decide) dX2_takeFault_46 (fun H locs hP hD hS => ?_)
    have hP : va_P (dC, dI) vwCl ([(ba k, .inr (0, [.int ((x.2.2.1 k).1), .int ((x.2.2.1 k).2.1), .int ((x.2.2.1 k).2.2.1), .int ((x.2.2.1 k).2.2.2.1), .double ((x.2.2.1 k).2.2.2.2.1), .int (sf_b ((x.2.2.1 k).2.2.2.2.2.1)), .int ((x.2.2.1 k).2.2.2.2.2.2.1), .int (sf_b ((x.2.2.1 k).2.2.2.2.2.2.2.1)), .double ((x.2.2.1 k).2.2.2.2.2.2.2.2.1), .double ((x.2.2.1 k).2.2.2.2.2.2.2.2.2.1), .int ((x.2.2.1 k).2.2.2.2.2.2.2.2.2.2.1), .int ((x.2.2.1 k).2.2.2.2.2.2.2.2.2.2.2)])), (o 0, .inr (2, [.ref (o 1), .ref (o 2), .ref (o 3), .ref (o 4), .int sc, .int (x.2.2.2.1 + 1), .int x.2.2.2.2])), (o 1, .inl (cZ, 24, .inl (fun i9 => sf_b ((va_up (va_up (va_up (va_up x.1 8 false) 9 false) 10 false) 11 false) i9)))), (o 2, .inl (cD, 8, .inr (.inr (.inr (.inl x.2.1))))), (o 3, .inl (cR, 5, .inr (.inr (.inr (.inr (fun g => some (ra g 0))))))), (o 4, .inl (cB, 8, .inr (.inr (.inr (.inr (fun k => some (ba k)))))))] ++ (wp_bx ba x.2.2.1 k ++ [])) H := hP
    have hD : va_D A ([(ba k, .inr (0, [.int ((x.2.2.1 k).1), .int ((x.2.2.1 k).2.1), .int ((x.2.2.1 k).2.2.1), .int ((x.2.2.1 k).2.2.2.1), .double ((x.2.2.1 k).2.2.2.2.1), .int (sf_b ((x.2.2.1 k).2.2.2.2.2.1)), .int ((x.2.2.1 k).2.2.2.2.2.2.1), .int (sf_b ((x.2.2.1 k).2.2.2.2.2.2.2.1)), .double ((x.2.2.1 k).2.2.2.2.2.2.2.2.1), .double ((x.2.2.1 k).2.2.2.2.2.2.2.2.2.1), .int ((x.2.2.1 k).2.2.2.2.2.2.2.2.2.2.1), .int ((x.2.2.1 k).2.2.2.2.2.2.2.2.2.2.2)])), (o 0, .inr (2, [.ref (o 1), .ref (o 2), .ref (o 3), .ref (o 4), .int sc, .int (x.2.2.2.1 + 1), .int x.2.2.2.2])), (o 1, .inl (cZ, 24, .inl (fun i9 => sf_b ((va_up (va_up (va_up (va_up x.1 8 false) 9 false) 10 false) 11 false) i9)))), (o 2, .inl (cD, 8, .inr (.inr (.inr (.inl x.2.1))))), (o 3, .inl (cR, 5, .inr (.inr (.inr (.inr (fun g => some (ra g 0))))))), (o 4, .inl (cB, 8, .inr (.inr (.inr (.inr (fun k => some (ba k)))))))] ++ (wp_bx ba x.2.2.1 k ++ [])) := hD
    refine lv_iinc (v := 12) (lv' := [(2, .int 12), (0, .ref (o 0)), (1, .int (nI k))]) hx hb dX2_takeFault_47 hl (k := 0) rfl (by decide) (by decide) rfl (fun ls hl => ?_)
    refine lv_goto (tgt := 34) hx hb dX2_takeFault_50 (by decide) ?_
    refine lv_iload_n hx hb dX2_takeFault_34 rfl (lv_at hl 0 rfl) ?_
    refine lv_bipush (v := 15) hx hb dX2_takeFault_35 (by decide) ?_
    refine lv_icmp_gt (tgt := 53) hx hb dX2_takeFault_37 (by decide) (fun h => absurd h (by decide)) (fun _ => ?_)
    refine lv_aload_n hx hb dX2_takeFault_40 rfl (lv_at hl 1 rfl) ?_
    refine va_get (D := (dC, dI)) (ci := 2) (v := .ref (o 1)) (C := RX2) (T := TX2) (N := 7) hx hb hg in_X2 hown hK hP 1 rfl rfl 0 (by decide) (hg _ mw_119) (fun _ h9 => h9) rfl dX2_takeFault_41 ?_
    refine lv_iload_n hx hb dX2_takeFault_44 rfl (lv_at hl 0 rfl) ?_
    refine lv_iconst (v := 0) hx hb dX2_takeFault_45 (by decide) ?_
    refine sf_topi (y := sf_b false) rfl ?_
    refine sf_zast hx hb hK hP hD hS 2 1 rfl rfl 12 rfl (by decide) (by decide) dX2_takeFault_46 (fun H locs hP hD hS => ?_)
    have hP : va_P (dC, dI) vwCl ([(ba k, .inr (0, [.int ((x.2.2.1 k).1), .int ((x.2.2.1 k).2.1), .int ((x.2.2.1 k).2.2.1), .int ((x.2.2.1 k).2.2.2.1), .double ((x.2.2.1 k).2.2.2.2.1), .int (sf_b ((x.2.2.1 k).2.2.2.2.2.1)), .int ((x.2.2.1 k).2.2.2.2.2.2.1), .int (sf_b ((x.2.2.1 k).2.2.2.2.2.2.2.1)), .double ((x.2.2.1 k).2.2.2.2.2.2.2.2.1), .double ((x.2.2.1 k).2.2.2.2.2.2.2.2.2.1), .int ((x.2.2.1 k).2.2.2.2.2.2.2.2.2.2.1), .int ((x.2.2.1 k).2.2.2.2.2.2.2.2.2.2.2)])), (o 0, .inr (2, [.ref (o 1), .ref (o 2), .ref (o 3), .ref (o 4), .int sc, .int (x.2.2.2.1 + 1), .int x.2.2.2.2])), (o 1, .inl (cZ, 24, .inl (fun i9 => sf_b ((va_up (va_up (va_up (va_up (va_up x.1 8 false) 9 false) 10 false) 11 false) 12 false) i9)))), (o 2, .inl (cD, 8, .inr (.inr (.inr (.inl x.2.1))))), (o 3, .inl (cR, 5, .inr (.inr (.inr (.inr (fun g => some (ra g 0))))))), (o 4, .inl (cB, 8, .inr (.inr (.inr (.inr (fun k => some (ba k)))))))] ++ (wp_bx ba x.2.2.1 k ++ [])) H := hP
    have hD : va_D A ([(ba k, .inr (0, [.int ((x.2.2.1 k).1), .int ((x.2.2.1 k).2.1), .int ((x.2.2.1 k).2.2.1), .int ((x.2.2.1 k).2.2.2.1), .double ((x.2.2.1 k).2.2.2.2.1), .int (sf_b ((x.2.2.1 k).2.2.2.2.2.1)), .int ((x.2.2.1 k).2.2.2.2.2.2.1), .int (sf_b ((x.2.2.1 k).2.2.2.2.2.2.2.1)), .double ((x.2.2.1 k).2.2.2.2.2.2.2.2.1), .double ((x.2.2.1 k).2.2.2.2.2.2.2.2.2.1), .int ((x.2.2.1 k).2.2.2.2.2.2.2.2.2.2.1), .int ((x.2.2.1 k).2.2.2.2.2.2.2.2.2.2.2)])), (o 0, .inr (2, [.ref (o 1), .ref (o 2), .ref (o 3), .ref (o 4), .int sc, .int (x.2.2.2.1 + 1), .int x.2.2.2.2])), (o 1, .inl (cZ, 24, .inl (fun i9 => sf_b ((va_up (va_up (va_up (va_up (va_up x.1 8 false) 9 false) 10 false) 11 false) 12 false) i9)))), (o 2, .inl (cD, 8, .inr (.inr (.inr (.inl x.2.1))))), (o 3, .inl (cR, 5, .inr (.inr (.inr (.inr (fun g => some (ra g 0))))))), (o 4, .inl (cB, 8, .inr (.inr (.inr (.inr (fun k => some (ba k)))))))] ++ (wp_bx ba x.2.2.1 k ++ [])) := hD
    refine lv_iinc (v := 13) (lv' := [(2, .int 13), (0, .ref (o 0)), (1, .int (nI k))]) hx hb dX2_takeFault_47 hl (k := 0) rfl (by decide) (by decide) rfl (fun ls hl => ?_)
    refine lv_goto (tgt := 34) hx hb dX2_takeFault_50 (by decide) ?_
    refine lv_iload_n hx hb dX2_takeFault_34 rfl (lv_at hl 0 rfl) ?_
    refine lv_bipush (v := 15) hx hb dX2_takeFault_35 (by decide) ?_
    refine lv_icmp_gt (tgt := 53) hx hb dX2_takeFault_37 (by decide) (fun h => absurd h (by decide)) (fun _ => ?_)
    refine lv_aload_n hx hb dX2_takeFault_40 rfl (lv_at hl 1 rfl) ?_
    refine va_get (D := (dC, dI)) (ci := 2) (v := .ref (o 1)) (C := RX2) (T := TX2) (N := 7) hx hb hg in_X2 hown hK hP 1 rfl rfl 0 (by decide) (hg _ mw_119) (fun _ h9 => h9) rfl dX2_takeFault_41 ?_
    refine lv_iload_n hx hb dX2_takeFault_44 rfl (lv_at hl 0 rfl) ?_
    refine lv_iconst (v := 0) hx hb dX2_takeFault_45 (by decide) ?_
    refine sf_topi (y := sf_b false) rfl ?_
    refine sf_zast hx hb hK hP hD hS 2 1 rfl rfl 13 rfl (by decide) (by decide) dX2_takeFault_46 (fun H locs hP hD hS => ?_)
    have hP : va_P (dC, dI) vwCl ([(ba k, .inr (0, [.int ((x.2.2.1 k).1), .int ((x.2.2.1 k).2.1), .int ((x.2.2.1 k).2.2.1), .int ((x.2.2.1 k).2.2.2.1), .double ((x.2.2.1 k).2.2.2.2.1), .int (sf_b ((x.2.2.1 k).2.2.2.2.2.1)), .int ((x.2.2.1 k).2.2.2.2.2.2.1), .int (sf_b ((x.2.2.1 k).2.2.2.2.2.2.2.1)), .double ((x.2.2.1 k).2.2.2.2.2.2.2.2.1), .double ((x.2.2.1 k).2.2.2.2.2.2.2.2.2.1), .int ((x.2.2.1 k).2.2.2.2.2.2.2.2.2.2.1), .int ((x.2.2.1 k).2.2.2.2.2.2.2.2.2.2.2)])), (o 0, .inr (2, [.ref (o 1), .ref (o 2), .ref (o 3), .ref (o 4), .int sc, .int (x.2.2.2.1 + 1), .int x.2.2.2.2])), (o 1, .inl (cZ, 24, .inl (fun i9 => sf_b ((va_up (va_up (va_up (va_up (va_up (va_up x.1 8 false) 9 false) 10 false) 11 false) 12 false) 13 false) i9)))), (o 2, .inl (cD, 8, .inr (.inr (.inr (.inl x.2.1))))), (o 3, .inl (cR, 5, .inr (.inr (.inr (.inr (fun g => some (ra g 0))))))), (o 4, .inl (cB, 8, .inr (.inr (.inr (.inr (fun k => some (ba k)))))))] ++ (wp_bx ba x.2.2.1 k ++ [])) H := hP
    have hD : va_D A ([(ba k, .inr (0, [.int ((x.2.2.1 k).1), .int ((x.2.2.1 k).2.1), .int ((x.2.2.1 k).2.2.1), .int ((x.2.2.1 k).2.2.2.1), .double ((x.2.2.1 k).2.2.2.2.1), .int (sf_b ((x.2.2.1 k).2.2.2.2.2.1)), .int ((x.2.2.1 k).2.2.2.2.2.2.1), .int (sf_b ((x.2.2.1 k).2.2.2.2.2.2.2.1)), .double ((x.2.2.1 k).2.2.2.2.2.2.2.2.1), .double ((x.2.2.1 k).2.2.2.2.2.2.2.2.2.1), .int ((x.2.2.1 k).2.2.2.2.2.2.2.2.2.2.1), .int ((x.2.2.1 k).2.2.2.2.2.2.2.2.2.2.2)])), (o 0, .inr (2, [.ref (o 1), .ref (o 2), .ref (o 3), .ref (o 4), .int sc, .int (x.2.2.2.1 + 1), .int x.2.2.2.2])), (o 1, .inl (cZ, 24, .inl (fun i9 => sf_b ((va_up (va_up (va_up (va_up (va_up (va_up x.1 8 false) 9 false) 10 false) 11 false) 12 false) 13 false) i9)))), (o 2, .inl (cD, 8, .inr (.inr (.inr (.inl x.2.1))))), (o 3, .inl (cR, 5, .inr (.inr (.inr (.inr (fun g => some (ra g 0))))))), (o 4, .inl (cB, 8, .inr (.inr (.inr (.inr (fun k => some (ba k)))))))] ++ (wp_bx ba x.2.2.1 k ++ [])) := hD
    refine lv_iinc (v := 14) (lv' := [(2, .int 14), (0, .ref (o 0)), (1, .int (nI k))]) hx hb dX2_takeFault_47 hl (k := 0) rfl (by decide) (by decide) rfl (fun ls hl => ?_)
    refine lv_goto (tgt := 34) hx hb dX2_takeFault_50 (by decide) ?_
    refine lv_iload_n hx hb dX2_takeFault_34 rfl (lv_at hl 0 rfl) ?_
    refine lv_bipush (v := 15) hx hb dX2_takeFault_35 (by decide) ?_
    refine lv_icmp_gt (tgt := 53) hx hb dX2_takeFault_37 (by decide) (fun h => absurd h (by decide)) (fun _ => ?_)
    refine lv_aload_n hx hb dX2_takeFault_40 rfl (lv_at hl 1 rfl) ?_
    refine va_get (D := (dC, dI)) (ci := 2) (v := .ref (o 1)) (C := RX2) (T := TX2) (N := 7) hx hb hg in_X2 hown hK hP 1 rfl rfl 0 (by decide) (hg _ mw_119) (fun _ h9 => h9) rfl dX2_takeFault_41 ?_
    refine lv_iload_n hx hb dX2_takeFault_44 rfl (lv_at hl 0 rfl) ?_
    refine lv_iconst (v := 0) hx hb dX2_takeFault_45 (by decide) ?_
    refine sf_topi (y := sf_b false) rfl ?_
    refine sf_zast hx hb hK hP hD hS 2 1 rfl rfl 14 rfl (by decide) (by decide) dX2_takeFault_46 (fun H locs hP hD hS => ?_)
    have hP : va_P (dC, dI) vwCl ([(ba k, .inr (0, [.int ((x.2.2.1 k).1), .int ((x.2.2.1 k).2.1), .int ((x.2.2.1 k).2.2.1), .int ((x.2.2.1 k).2.2.2.1), .double ((x.2.2.1 k).2.2.2.2.1), .int (sf_b ((x.2.2.1 k).2.2.2.2.2.1)), .int ((x.2.2.1 k).2.2.2.2.2.2.1), .int (sf_b ((x.2.2.1 k).2.2.2.2.2.2.2.1)), .double ((x.2.2.1 k).2.2.2.2.2.2.2.2.1), .double ((x.2.2.1 k).2.2.2.2.2.2.2.2.2.1), .int ((x.2.2.1 k).2.2.2.2.2.2.2.2.2.2.1), .int ((x.2.2.1 k).2.2.2.2.2.2.2.2.2.2.2)])), (o 0, .inr (2, [.ref (o 1), .ref (o 2), .ref (o 3), .ref (o 4), .int sc, .int (x.2.2.2.1 + 1), .int x.2.2.2.2])), (o 1, .inl (cZ, 24, .inl (fun i9 => sf_b ((va_up (va_up (va_up (va_up (va_up (va_up (va_up x.1 8 false) 9 false) 10 false) 11 false) 12 false) 13 false) 14 false) i9)))), (o 2, .inl (cD, 8, .inr (.inr (.inr (.inl x.2.1))))), (o 3, .inl (cR, 5, .inr (.inr (.inr (.inr (fun g => some (ra g 0))))))), (o 4, .inl (cB, 8, .inr (.inr (.inr (.inr (fun k => some (ba k)))))))] ++ (wp_bx ba x.2.2.1 k ++ [])) H := hP
    have hD : va_D A ([(ba k, .inr (0, [.int ((x.2.2.1 k).1), .int ((x.2.2.1 k).2.1), .int ((x.2.2.1 k).2.2.1), .int ((x.2.2.1 k).2.2.2.1), .double ((x.2.2.1 k).2.2.2.2.1), .int (sf_b ((x.2.2.1 k).2.2.2.2.2.1)), .int ((x.2.2.1 k).2.2.2.2.2.2.1), .int (sf_b ((x.2.2.1 k).2.2.2.2.2.2.2.1)), .double ((x.2.2.1 k).2.2.2.2.2.2.2.2.1), .double ((x.2.2.1 k).2.2.2.2.2.2.2.2.2.1), .int ((x.2.2.1 k).2.2.2.2.2.2.2.2.2.2.1), .int ((x.2.2.1 k).2.2.2.2.2.2.2.2.2.2.2)])), (o 0, .inr (2, [.ref (o 1), .ref (o 2), .ref (o 3), .ref (o 4), .int sc, .int (x.2.2.2.1 + 1), .int x.2.2.2.2])), (o 1, .inl (cZ, 24, .inl (fun i9 => sf_b ((va_up (va_up (va_up (va_up (va_up (va_up (va_up x.1 8 false) 9 false) 10 false) 11 false) 12 false) 13 false) 14 false) i9)))), (o 2, .inl (cD, 8, .inr (.inr (.inr (.inl x.2.1))))), (o 3, .inl (cR, 5, .inr (.inr (.inr (.inr (fun g => some (ra g 0))))))), (o 4, .inl (cB, 8, .inr (.inr (.inr (.inr (fun k => some (ba k)))))))] ++ (wp_bx ba x.2.2.1 k ++ [])) := hD
    refine lv_iinc (v := 15) (lv' := [(2, .int 15), (0, .ref (o 0)), (1, .int (nI k))]) hx hb dX2_takeFault_47 hl (k := 0) rfl (by decide) (by decide) rfl (fun ls hl => ?_)
    refine lv_goto (tgt := 34) hx hb dX2_takeFault_50 (by decide) ?_
    refine lv_iload_n hx hb dX2_takeFault_34 rfl (lv_at hl 0 rfl) ?_
    refine lv_bipush (v := 15) hx hb dX2_takeFault_35 (by decide) ?_
    refine lv_icmp_gt (tgt := 53) hx hb dX2_takeFault_37 (by decide) (fun h => absurd h (by decide)) (fun _ => ?_)
    refine lv_aload_n hx hb dX2_takeFault_40 rfl (lv_at hl 1 rfl) ?_
    refine va_get (D := (dC, dI)) (ci := 2) (v := .ref (o 1)) (C := RX2) (T := TX2) (N := 7) hx hb hg in_X2 hown hK hP 1 rfl rfl 0 (by decide) (hg _ mw_119) (fun _ h9 => h9) rfl dX2_takeFault_41 ?_
    refine lv_iload_n hx hb dX2_takeFault_44 rfl (lv_at hl 0 rfl) ?_
    refine lv_iconst (v := 0) hx hb dX2_takeFault_45 (by decide) ?_
    refine sf_topi (y := sf_b false) rfl ?_
    refine sf_zast hx hb hK hP hD hS 2 1 rfl rfl 15 rfl (by decide) (by decide) dX2_takeFault_46 (fun H locs hP hD hS => ?_)
    have hP : va_P (dC, dI) vwCl ([(ba k, .inr (0, [.int ((x.2.2.1 k).1), .int ((x.2.2.1 k).2.1), .int ((x.2.2.1 k).2.2.1), .int ((x.2.2.1 k).2.2.2.1), .double ((x.2.2.1 k).2.2.2.2.1), .int (sf_b ((x.2.2.1 k).2.2.2.2.2.1)), .int ((x.2.2.1 k).2.2.2.2.2.2.1), .int (sf_b ((x.2.2.1 k).2.2.2.2.2.2.2.1)), .double ((x.2.2.1 k).2.2.2.2.2.2.2.2.1), .double ((x.2.2.1 k).2.2.2.2.2.2.2.2.2.1), .int ((x.2.2.1 k).2.2.2.2.2.2.2.2.2.2.1), .int ((x.2.2.1 k).2.2.2.2.2.2.2.2.2.2.2)])), (o 0, .inr (2, [.ref (o 1), .ref (o 2), .ref (o 3), .ref (o 4), .int sc, .int (x.2.2.2.1 + 1), .int x.2.2.2.2])), (o 1, .inl (cZ, 24, .inl (fun i9 => sf_b ((va_up (va_up (va_up (va_up (va_up (va_up (va_up (va_up x.1 8 false) 9 false) 10 false) 11 false) 12 false) 13 false) 14 false) 15 false) i9)))), (o 2, .inl (cD, 8, .inr (.inr (.inr (.inl x.2.1))))), (o 3, .inl (cR, 5, .inr (.inr (.inr (.inr (fun g => some (ra g 0))))))), (o 4, .inl (cB, 8, .inr (.inr (.inr (.inr (fun k => some (ba k)))))))] ++ (wp_bx ba x.2.2.1 k ++ [])) H := hP
    have hD : va_D A ([(ba k, .inr (0, [.int ((x.2.2.1 k).1), .int ((x.2.2.1 k).2.1), .int ((x.2.2.1 k).2.2.1), .int ((x.2.2.1 k).2.2.2.1), .double ((x.2.2.1 k).2.2.2.2.1), .int (sf_b ((x.2.2.1 k).2.2.2.2.2.1)), .int ((x.2.2.1 k).2.2.2.2.2.2.1), .int (sf_b ((x.2.2.1 k).2.2.2.2.2.2.2.1)), .double ((x.2.2.1 k).2.2.2.2.2.2.2.2.1), .double ((x.2.2.1 k).2.2.2.2.2.2.2.2.2.1), .int ((x.2.2.1 k).2.2.2.2.2.2.2.2.2.2.1), .int ((x.2.2.1 k).2.2.2.2.2.2.2.2.2.2.2)])), (o 0, .inr (2, [.ref (o 1), .ref (o 2), .ref (o 3), .ref (o 4), .int sc, .int (x.2.2.2.1 + 1), .int x.2.2.2.2])), (o 1, .inl (cZ, 24, .inl (fun i9 => sf_b ((va_up (va_up (va_up (va_up (va_up (va_up (va_up (va_up x.1 8 false) 9 false) 10 false) 11 false) 12 false) 13 false) 14 false) 15 false) i9)))), (o 2, .inl (cD, 8, .inr (.inr (.inr (.inl x.2.1))))), (o 3, .inl (cR, 5, .inr (.inr (.inr (.inr (fun g => some (ra g 0))))))), (o 4, .inl (cB, 8, .inr (.inr (.inr (.inr (fun k => some (ba k)))))))] ++ (wp_bx ba x.2.2.1 k ++ [])) := hD
    refine lv_iinc (v := 16) (lv' := [(2, .int 16), (0, .ref (o 0)), (1, .int (nI k))]) hx hb dX2_takeFault_47 hl (k := 0) rfl (by decide) (by decide) rfl (fun ls hl => ?_)
    refine lv_goto (tgt := 34) hx hb dX2_takeFault_50 (by decide) ?_
    refine lv_iload_n hx hb dX2_takeFault_34 rfl (lv_at hl 0 rfl) ?_
    refine lv_bipush (v := 15) hx hb dX2_takeFault_35 (by decide) ?_
    refine lv_icmp_gt (tgt := 53) hx hb dX2_takeFault_37 (by decide) (fun _ => ?_) (fun h => absurd (by decide) h)
    refine lv_aload_n hx hb dX2_takeFault_53 rfl (lv_at hl 1 rfl) ?_
    refine lv_iload_n hx hb dX2_takeFault_54 rfl (lv_at hl 2 rfl) ?_
    refine va_put (D := (dC, dI)) (ci := 2) (v := .int (nI k)) (ty := .int) (C := RX2) (T := TX2) (N := 7) hx hb hg in_X2 tyX2 tyX2_ok nmX2 hown hK hP hD hS 1 rfl rfl 6 (by decide) (hg _ mw_125) (fun _ h9 => h9) rfl (by decide +kernel) rfl rfl (Nat.le_of_ble_eq_true rfl) dX2_takeFault_55 (fun H locs hP hD hS => ?_)
    have hP : va_P (dC, dI) vwCl ([(ba k, .inr (0, [.int ((x.2.2.1 k).1), .int ((x.2.2.1 k).2.1), .int ((x.2.2.1 k).2.2.1), .int ((x.2.2.1 k).2.2.2.1), .double ((x.2.2.1 k).2.2.2.2.1), .int (sf_b ((x.2.2.1 k).2.2.2.2.2.1)), .int ((x.2.2.1 k).2.2.2.2.2.2.1), .int (sf_b ((x.2.2.1 k).2.2.2.2.2.2.2.1)), .double ((x.2.2.1 k).2.2.2.2.2.2.2.2.1), .double ((x.2.2.1 k).2.2.2.2.2.2.2.2.2.1), .int ((x.2.2.1 k).2.2.2.2.2.2.2.2.2.2.1), .int ((x.2.2.1 k).2.2.2.2.2.2.2.2.2.2.2)])), (o 0, .inr (2, [.ref (o 1), .ref (o 2), .ref (o 3), .ref (o 4), .int sc, .int (x.2.2.2.1 + 1), .int (nI k)])), (o 1, .inl (cZ, 24, .inl (fun i9 => sf_b ((va_up (va_up (va_up (va_up (va_up (va_up (va_up (va_up x.1 8 false) 9 false) 10 false) 11 false) 12 false) 13 false) 14 false) 15 false) i9)))), (o 2, .inl (cD, 8, .inr (.inr (.inr (.inl x.2.1))))), (o 3, .inl (cR, 5, .inr (.inr (.inr (.inr (fun g => some (ra g 0))))))), (o 4, .inl (cB, 8, .inr (.inr (.inr (.inr (fun k => some (ba k)))))))] ++ (wp_bx ba x.2.2.1 k ++ [])) H := hP
    have hD : va_D A ([(ba k, .inr (0, [.int ((x.2.2.1 k).1), .int ((x.2.2.1 k).2.1), .int ((x.2.2.1 k).2.2.1), .int ((x.2.2.1 k).2.2.2.1), .double ((x.2.2.1 k).2.2.2.2.1), .int (sf_b ((x.2.2.1 k).2.2.2.2.2.1)), .int ((x.2.2.1 k).2.2.2.2.2.2.1), .int (sf_b ((x.2.2.1 k).2.2.2.2.2.2.2.1)), .double ((x.2.2.1 k).2.2.2.2.2.2.2.2.1), .double ((x.2.2.1 k).2.2.2.2.2.2.2.2.2.1), .int ((x.2.2.1 k).2.2.2.2.2.2.2.2.2.2.1), .int ((x.2.2.1 k).2.2.2.2.2.2.2.2.2.2.2)])), (o 0, .inr (2, [.ref (o 1), .ref (o 2), .ref (o 3), .ref (o 4), .int sc, .int (x.2.2.2.1 + 1), .int (nI k)])), (o 1, .inl (cZ, 24, .inl (fun i9 => sf_b ((va_up (va_up (va_up (va_up (va_up (va_up (va_up (va_up x.1 8 false) 9 false) 10 false) 11 false) 12 false) 13 false) 14 false) 15 false) i9)))), (o 2, .inl (cD, 8, .inr (.inr (.inr (.inl x.2.1))))), (o 3, .inl (cR, 5, .inr (.inr (.inr (.inr (fun g => some (ra g 0))))))), (o 4, .inl (cB, 8, .inr (.inr (.inr (.inr (fun k => some (ba k)))))))] ++ (wp_bx ba x.2.2.1 k ++ [])) := hD
    have hP := sf_P_perm (pm_b (ba := ba) (bs := x.2.2.1) (k := k) hk [(o 0, .inr (2, [.ref (o 1), .ref (o 2), .ref (o 3), .ref (o 4), .int sc, .int (x.2.2.2.1 + 1), .int (nI k)])), (o 1, .inl (cZ, 24, .inl (fun i9 => sf_b ((va_up (va_up (va_up (va_up (va_up (va_up (va_up (va_up x.1 8 false) 9 false) 10 false) 11 false) 12 false) 13 false) 14 false) 15 false) i9)))), (o 2, .inl (cD, 8, .inr (.inr (.inr (.inl x.2.1))))), (o 3, .inl (cR, 5, .inr (.inr (.inr (.inr (fun g => some (ra g 0))))))), (o 4, .inl (cB, 8, .inr (.inr (.inr (.inr (fun k => some (ba k)))))))] []).symm hP
    have hD := sf_D_perm (pm_b (ba := ba) (bs := x.2.2.1) (k := k) hk [(o 0, .inr (2, [.ref (o 1), .ref (o 2), .ref (o 3), .ref (o 4), .int sc, .int (x.2.2.2.1 + 1), .int (nI k)])), (o 1, .inl (cZ, 24, .inl (fun i9 => sf_b ((va_up (va_up (va_up (va_up (va_up (va_up (va_up (va_up x.1 8 false) 9 false) 10 false) 11 false) 12 false) 13 false) 14 false) 15 false) i9)))), (o 2, .inl (cD, 8, .inr (.inr (.inr (.inl x.2.1))))), (o 3, .inl (cR, 5, .inr (.inr (.inr (.inr (fun g => some (ra g 0))))))), (o 4, .inl (cB, 8, .inr (.inr (.inr (.inr (fun k => some (ba k)))))))] []).symm hD
    have hP9 : va_P (dC, dI) vwCl (wp_T cZ cD cR cB o ra ba sc (fs_fault x k)) H := by
      rw [show fs_fault x k = (va_up (va_up (va_up (va_up (va_up (va_up (va_up (va_up x.1 8 false) 9 false) 10 false) 11 false) 12 false) 13 false) 14 false) 15 false, x.2.1, x.2.2.1, x.2.2.2.1 + 1, nI k) from by first | rfl | (simp [fs_fault, fs_off, c_1]; done)]
      exact hP
    have hD9 : va_D A (wp_T cZ cD cR cB o ra ba sc (fs_fault x k)) := by
      rw [show fs_fault x k = (va_up (va_up (va_up (va_up (va_up (va_up (va_up (va_up x.1 8 false) 9 false) 10 false) 11 false) 12 false) 13 false) 14 false) 15 false, x.2.1, x.2.2.1, x.2.2.2.1 + 1, nI k) from by first | rfl | (simp [fs_fault, fs_off, c_1]; done)]
      exact hD
    exact W.vret hx hb hr (fun t ht _ => ⟨rfl, by rw [ht]; exact hP9, hAe ▸ hD9, hAe ▸ hS.F ht⟩) (fun q hq => by rw [← hAe]; exact hS.2.2 q hq) dX2_takeFault_58
  · refine lv_aload_n hx hb dX2_takeFault_22 rfl (lv_at hl 0 rfl) ?_
    refine va_get (D := (dC, dI)) (ci := 2) (v := .ref (o 1)) (C := RX2) (T := TX2) (N := 7) hx hb hg in_X2 hown hK hP 1 rfl rfl 0 (by decide) (hg _ mw_119) (fun _ h9 => h9) rfl dX2_takeFault_23 ?_
    refine lv_bipush (v := 23) hx hb dX2_takeFault_26 (by decide) ?_
    refine lv_iconst (v := 1) hx hb dX2_takeFault_28 (by decide) ?_
    refine sf_topi (y := sf_b true) rfl ?_
    refine sf_zast hx hb hK hP hD hS 2 1 rfl rfl 23 rfl (by decide) (by decide) dX2_takeFault_29 (fun H locs hP hD hS => ?_)
    have hP : va_P (dC, dI) vwCl ([(ba k, .inr (0, [.int ((x.2.2.1 k).1), .int ((x.2.2.1 k).2.1), .int ((x.2.2.1 k).2.2.1), .int ((x.2.2.1 k).2.2.2.1), .double ((x.2.2.1 k).2.2.2.2.1), .int (sf_b ((x.2.2.1 k).2.2.2.2.2.1)), .int ((x.2.2.1 k).2.2.2.2.2.2.1), .int (sf_b ((x.2.2.1 k).2.2.2.2.2.2.2.1)), .double ((x.2.2.1 k).2.2.2.2.2.2.2.2.1), .double ((x.2.2.1 k).2.2.2.2.2.2.2.2.2.1), .int ((x.2.2.1 k).2.2.2.2.2.2.2.2.2.2.1), .int ((x.2.2.1 k).2.2.2.2.2.2.2.2.2.2.2)])), (o 0, .inr (2, [.ref (o 1), .ref (o 2), .ref (o 3), .ref (o 4), .int sc, .int (x.2.2.2.1 + 1), .int x.2.2.2.2])), (o 1, .inl (cZ, 24, .inl (fun i9 => sf_b ((va_up x.1 23 true) i9)))), (o 2, .inl (cD, 8, .inr (.inr (.inr (.inl x.2.1))))), (o 3, .inl (cR, 5, .inr (.inr (.inr (.inr (fun g => some (ra g 0))))))), (o 4, .inl (cB, 8, .inr (.inr (.inr (.inr (fun k => some (ba k)))))))] ++ (wp_bx ba x.2.2.1 k ++ [])) H := hP
    have hD : va_D A ([(ba k, .inr (0, [.int ((x.2.2.1 k).1), .int ((x.2.2.1 k).2.1), .int ((x.2.2.1 k).2.2.1), .int ((x.2.2.1 k).2.2.2.1), .double ((x.2.2.1 k).2.2.2.2.1), .int (sf_b ((x.2.2.1 k).2.2.2.2.2.1)), .int ((x.2.2.1 k).2.2.2.2.2.2.1), .int (sf_b ((x.2.2.1 k).2.2.2.2.2.2.2.1)), .double ((x.2.2.1 k).2.2.2.2.2.2.2.2.1), .double ((x.2.2.1 k).2.2.2.2.2.2.2.2.2.1), .int ((x.2.2.1 k).2.2.2.2.2.2.2.2.2.2.1), .int ((x.2.2.1 k).2.2.2.2.2.2.2.2.2.2.2)])), (o 0, .inr (2, [.ref (o 1), .ref (o 2), .ref (o 3), .ref (o 4), .int sc, .int (x.2.2.2.1 + 1), .int x.2.2.2.2])), (o 1, .inl (cZ, 24, .inl (fun i9 => sf_b ((va_up x.1 23 true) i9)))), (o 2, .inl (cD, 8, .inr (.inr (.inr (.inl x.2.1))))), (o 3, .inl (cR, 5, .inr (.inr (.inr (.inr (fun g => some (ra g 0))))))), (o 4, .inl (cB, 8, .inr (.inr (.inr (.inr (fun k => some (ba k)))))))] ++ (wp_bx ba x.2.2.1 k ++ [])) := hD
    have hP := sf_P_perm (pm_b (ba := ba) (bs := x.2.2.1) (k := k) hk [(o 0, .inr (2, [.ref (o 1), .ref (o 2), .ref (o 3), .ref (o 4), .int sc, .int (x.2.2.2.1 + 1), .int x.2.2.2.2])), (o 1, .inl (cZ, 24, .inl (fun i9 => sf_b ((va_up x.1 23 true) i9)))), (o 2, .inl (cD, 8, .inr (.inr (.inr (.inl x.2.1))))), (o 3, .inl (cR, 5, .inr (.inr (.inr (.inr (fun g => some (ra g 0))))))), (o 4, .inl (cB, 8, .inr (.inr (.inr (.inr (fun k => some (ba k)))))))] []).symm hP
    have hD := sf_D_perm (pm_b (ba := ba) (bs := x.2.2.1) (k := k) hk [(o 0, .inr (2, [.ref (o 1), .ref (o 2), .ref (o 3), .ref (o 4), .int sc, .int (x.2.2.2.1 + 1), .int x.2.2.2.2])), (o 1, .inl (cZ, 24, .inl (fun i9 => sf_b ((va_up x.1 23 true) i9)))), (o 2, .inl (cD, 8, .inr (.inr (.inr (.inl x.2.1))))), (o 3, .inl (cR, 5, .inr (.inr (.inr (.inr (fun g => some (ra g 0))))))), (o 4, .inl (cB, 8, .inr (.inr (.inr (.inr (fun k => some (ba k)))))))] []).symm hD
    have hP9 : va_P (dC, dI) vwCl (wp_T cZ cD cR cB o ra ba sc (fs_fault x k)) H := by
      rw [show fs_fault x k = (va_up x.1 23 true, x.2.1, x.2.2.1, x.2.2.2.1 + 1, x.2.2.2.2) from by first | rfl | (simp [fs_fault, fs_off, c_1]; done)]
      exact hP
    have hD9 : va_D A (wp_T cZ cD cR cB o ra ba sc (fs_fault x k)) := by
      rw [show fs_fault x k = (va_up x.1 23 true, x.2.1, x.2.2.1, x.2.2.2.1 + 1, x.2.2.2.2) from by first | rfl | (simp [fs_fault, fs_off, c_1]; done)]
      exact hD
    exact W.vret hx hb hr (fun t ht _ => ⟨rfl, by rw [ht]; exact hP9, hAe ▸ hD9, hAe ▸ hS.F ht⟩) (fun q hq => by rw [← hAe]; exact hS.2.2 q hq) dX2_takeFault_30
