theorem nI_7 (n : Nat) : nI n + Int32.ofInt 7 = nI (n + 7) := by
  rw [show Int32.ofInt 7 = nI 7 by decide]
  exact nI_add n 7
set_option maxHeartbeats 4000000 in
set_option maxRecDepth 100000 in
theorem g_iter {p : Program} {l : Launch} (hlt : l.stackTraces = false) {e : Env} {s : State} {m : MethodId} {below : List Frame} {meth : Method} {c : Code} {b L : Nat} {xs : Nat → Int32} (hL : L ≤ 3584) {sx : Nat → Nat} {dC : Nat → ClassId} {dI : Nat → Nat → Nat} {cI cZ cD cR cB cJ : ClassId} {o : Nat → Nat} {ra : Nat → Nat → Nat} {ba : Nat → Nat} {a : Nat → Nat} {qo qd : Nat} {A : Nat → Prop} {Q : State → Prop} (hx : p.tables.exec = Jvm.exec) (hb : c.code = cL_law) (hml : c.maxLocals = 9) (hown : s.vm.findClass RL = some m.cls) (hg : ∀ w ∈ gw_all, w.before #[Value.ref b] s = true) (hZ : nw_ok s) (hK : va_K (dC, dI) vwCl [(cI, .int), (cZ, .boolean), (cD, .double), (cR, .object RX1), (cB, .object RX0), (cJ, .long)] s) (hE : ev_ok sx A s s.heap) (hN : nc_ok s) (hX : va_X b L xs s s.heap) (hbl : b < s.heap.size) (hbA : ¬ A b) (hA : ∀ q : Nat, s.heap.size ≤ q → A q) (hAf : ∀ q : Nat, A q → s.heap.size ≤ q) (ex : ∀ (H : Heap) (ls : Array Slot), W p l e room_1 s m #[Value.ref b] below meth c H [] 639599 7177307 Q (F0 m 1263 ls [.int 1])) (i : Nat) (hi5 : i ≤ 3584) {cells slots : Nat} (hc0 : cells ≤ 639599 ∧ slots ≤ 7177307) (hcs : i + 7 ≤ L → cells + 2 ≤ 639599 ∧ slots + 12 ≤ 7177307) (nx : i + 7 ≤ L → ∀ (sc : Int32) (y : st_Y) (x : st_M) (ov : Nat → Int64) (od : Nat → UInt64) (H : Heap) (locs : List Loc) (ls : Array Slot), rl sc y x → iv y → va_P (dC, dI) vwCl ([(qo, .inl (cJ, 1, .inr (.inl ov))), (qd, .inl (cD, 1, .inr (.inr (.inr (.inl od)))))] ++ (wp_S cI cZ cD cR cB o ra ba sc y ++ wp_M cI cZ cD a x)) H → va_D A ([(qo, .inl (cJ, 1, .inr (.inl ov))), (qd, .inl (cD, 1, .inr (.inr (.inr (.inl od)))))] ++ (wp_S cI cZ cD cR cB o ra ba sc y ++ wp_M cI cZ cD a x)) → va_S A s.heap H locs → lv_has ls 9 [(5, .int (nI (i + 7))), (4, .ref qd), (3, .ref qo), (2, .ref (a 0)), (1, .ref (o 0)), (0, .ref b)] → W p l e room_1 s m #[Value.ref b] below meth c H locs (cells + 2) (slots + 12) Q (F0 m 28 ls [])) (sc : Int32) (y : st_Y) (x : st_M) (ov : Nat → Int64) (od : Nat → UInt64) (H : Heap) (locs : List Loc) (ls : Array Slot) (R0 : rl sc y x) (hiv : iv y) (hP : va_P (dC, dI) vwCl ([(qo, .inl (cJ, 1, .inr (.inl ov))), (qd, .inl (cD, 1, .inr (.inr (.inr (.inl od)))))] ++ (wp_S cI cZ cD cR cB o ra ba sc y ++ wp_M cI cZ cD a x)) H) (hD : va_D A ([(qo, .inl (cJ, 1, .inr (.inl ov))), (qd, .inl (cD, 1, .inr (.inr (.inr (.inl od)))))] ++ (wp_S cI cZ cD cR cB o ra ba sc y ++ wp_M cI cZ cD a x))) (hS : va_S A s.heap H locs) (hl : lv_has ls 9 [(5, .int (nI i)), (4, .ref qd), (3, .ref qo), (2, .ref (a 0)), (1, .ref (o 0)), (0, .ref b)]) : W p l e room_1 s m #[Value.ref b] below meth c H locs cells slots Q (F0 m 28 ls []) := by
  refine lv_iload hx hb dL_law_28 (lv_at hl 0 rfl) ?_
  refine lv_aload_n hx hb dL_law_30 rfl (lv_at hl 5 rfl) ?_
  refine va_slen hx hb hX hbl hbA hS dL_law_31 ?_
  refine sf_topi (y := nI L) rfl ?_
  refine lv_bipush (v := 7) hx hb dL_law_32 (by decide) ?_
  refine lv_isub hx hb dL_law_34 ?_
  refine lv_icmp_gt (tgt := 1262) hx hb dL_law_35 (by decide) (fun c_1 => ?_) (fun c_1 => ?_)
  · refine lv_iconst (v := 1) hx hb dL_law_1262 (by decide) ?_
    refine W.widen (k := 639599) (n := 7177307) (by omega) (by omega) ?_
    exact va_forget (fun q hq => hAf _ (hS.2.2 q hq)) (ex _ _)
  · have h7 := lp_f hi5 hL c_1
    have kk : ∀ (sc : Int32) (y : st_Y) (x : st_M) (ov : Nat → Int64) (od : Nat → UInt64) (H : Heap) (locs : List Loc) (ls : Array Slot), rl sc y x → iv y → va_P (dC, dI) vwCl ([(qo, .inl (cJ, 1, .inr (.inl ov))), (qd, .inl (cD, 1, .inr (.inr (.inr (.inl od)))))] ++ (wp_S cI cZ cD cR cB o ra ba sc y ++ wp_M cI cZ cD a x)) H → va_D A ([(qo, .inl (cJ, 1, .inr (.inl ov))), (qd, .inl (cD, 1, .inr (.inr (.inr (.inl od)))))] ++ (wp_S cI cZ cD cR cB o ra ba sc y ++ wp_M cI cZ cD a x)) → va_S A s.heap H locs → lv_has ls 9 [(5, .int (nI i)), (4, .ref qd), (3, .ref qo), (2, .ref (a 0)), (1, .ref (o 0)), (0, .ref b)] → W p l e room_1 s m #[Value.ref b] below meth c H locs (cells + 2) (slots + 12) Q (F0 m 1256 ls []) := by
      intro sc y x ov od H locs ls R0 hiv hP hD hS hl
      refine lv_iinc (v := nI (i + 7)) (lv' := [(5, .int (nI (i + 7))), (4, .ref qd), (3, .ref qo), (2, .ref (a 0)), (1, .ref (o 0)), (0, .ref b)]) hx hb dL_law_1256 hl (k := 0) rfl (nI_7 i) (by decide) rfl (fun ls hl => ?_)
      refine lv_goto (tgt := 28) hx hb dL_law_1259 (by decide) ?_
      exact nx h7 sc y x ov od H locs ls R0 hiv hP hD hS (lv_sub hl [0, 1, 2, 3, 4, 5] rfl)
    refine lv_aload_n hx hb dL_law_38 rfl (lv_at hl 5 rfl) ?_
    refine lv_iload hx hb dL_law_39 (lv_at hl 0 rfl) ?_
    refine sf_sld hx hb hX hbl hbA hS i rfl (by omega) hL dL_law_41 ?_
    refine lv_bipush (v := 15) hx hb dL_law_42 (by decide) ?_
    refine lv_iand hx hb dL_law_44 ?_
    refine lv_topi (fun k9 ek9 => ?_)
    by_cases c_2 : k9 = 0
    · refine lv_tableIn (off := 71) (tgt := 116) hx hb dL_law_45 (by rw [c_2]; decide) (by rw [c_2]; decide) (by rw [c_2]; decide) (by decide) ?_
      exact g_cell hlt hL hx hb hml hown hg hZ hK hE hN hX hbl hbA hA i h7 (hcs h7) kk _ _ _ _ _ _ _ _ R0 hiv hP hD hS (lv_sub hl [0, 1, 2, 3, 4, 5] rfl)
    · skip
      by_cases c_3 : k9 = 1
      · refine lv_tableIn (off := 175) (tgt := 220) hx hb dL_law_45 (by rw [c_3]; decide) (by rw [c_3]; decide) (by rw [c_3]; decide) (by decide) ?_
        exact g_link hlt hL hx hb hml hown hg hZ hK hE hN hX hbl hbA hA i h7 (hcs h7) kk _ _ _ _ _ _ _ _ R0 hiv hP hD hS (lv_sub hl [0, 1, 2, 3, 4, 5] rfl)
      · skip
        by_cases c_4 : k9 = 2
        · refine lv_tableIn (off := 290) (tgt := 335) hx hb dL_law_45 (by rw [c_4]; decide) (by rw [c_4]; decide) (by rw [c_4]; decide) (by decide) ?_
          exact g_coil hlt hL hx hb hml hown hg hZ hK hE hN hX hbl hbA hA i h7 (hcs h7) kk _ _ _ _ _ _ _ _ R0 hiv hP hD hS (lv_sub hl [0, 1, 2, 3, 4, 5] rfl)
        · skip
          by_cases c_5 : k9 = 3
          · refine lv_tableIn (off := 382) (tgt := 427) hx hb dL_law_45 (by rw [c_5]; decide) (by rw [c_5]; decide) (by rw [c_5]; decide) (by decide) ?_
            exact g_block hlt hL hx hb hml hown hg hZ hK hE hN hX hbl hbA hA i h7 (hcs h7) kk _ _ _ _ _ _ _ _ R0 hiv hP hD hS (lv_sub hl [0, 1, 2, 3, 4, 5] rfl)
          · skip
            by_cases c_6 : k9 = 4
            · refine lv_tableIn (off := 510) (tgt := 555) hx hb dL_law_45 (by rw [c_6]; decide) (by rw [c_6]; decide) (by rw [c_6]; decide) (by decide) ?_
              exact g_guard hlt hL hx hb hml hown hg hZ hK hE hN hX hbl hbA hA i h7 (hcs h7) kk _ _ _ _ _ _ _ _ R0 hiv hP hD hS (lv_sub hl [0, 1, 2, 3, 4, 5] rfl)
            · skip
              by_cases c_7 : k9 = 5
              · refine lv_tableIn (off := 601) (tgt := 646) hx hb dL_law_45 (by rw [c_7]; decide) (by rw [c_7]; decide) (by rw [c_7]; decide) (by decide) ?_
                exact g_input hlt hL hx hb hml hown hg hZ hK hE hN hX hbl hbA hA i h7 (hcs h7) kk _ _ _ _ _ _ _ _ R0 hiv hP hD hS (lv_sub hl [0, 1, 2, 3, 4, 5] rfl)
              · skip
                by_cases c_8 : k9 = 6
                · refine lv_tableIn (off := 692) (tgt := 737) hx hb dL_law_45 (by rw [c_8]; decide) (by rw [c_8]; decide) (by rw [c_8]; decide) (by decide) ?_
                  exact g_set hlt hL hx hb hml hown hg hZ hK hE hN hX hbl hbA hA i h7 (hcs h7) kk _ _ _ _ _ _ _ _ R0 hiv hP hD hS (lv_sub hl [0, 1, 2, 3, 4, 5] rfl)
                · skip
                  by_cases c_9 : k9 = 7
                  · refine lv_tableIn (off := 791) (tgt := 836) hx hb dL_law_45 (by rw [c_9]; decide) (by rw [c_9]; decide) (by rw [c_9]; decide) (by decide) ?_
                    exact g_scan hlt hL hx hb hml hown hg hZ hK hE hN hX hbl hbA hA i h7 (hcs h7) kk _ _ _ _ _ _ _ _ R0 hiv hP hD hS (lv_sub hl [0, 1, 2, 3, 4, 5] rfl)
                  · skip
                    by_cases c_10 : k9 = 8
                    · refine lv_tableIn (off := 847) (tgt := 892) hx hb dL_law_45 (by rw [c_10]; decide) (by rw [c_10]; decide) (by rw [c_10]; decide) (by decide) ?_
                      exact g_resume hlt hL hx hb hml hown hg hZ hK hE hN hX hbl hbA hA i h7 (hcs h7) kk _ _ _ _ _ _ _ _ R0 hiv hP hD hS (lv_sub hl [0, 1, 2, 3, 4, 5] rfl)
                    · skip
                      by_cases c_11 : k9 = 9
                      · refine lv_tableIn (off := 860) (tgt := 905) hx hb dL_law_45 (by rw [c_11]; decide) (by rw [c_11]; decide) (by rw [c_11]; decide) (by decide) ?_
                        exact g_bit hlt hL hx hb hml hown hg hZ hK hE hN hX hbl hbA hA i h7 (hcs h7) kk _ _ _ _ _ _ _ _ R0 hiv hP hD hS (lv_sub hl [0, 1, 2, 3, 4, 5] rfl)
                      · skip
                        by_cases c_12 : k9 = 10
                        · refine lv_tableIn (off := 923) (tgt := 968) hx hb dL_law_45 (by rw [c_12]; decide) (by rw [c_12]; decide) (by rw [c_12]; decide) (by decide) ?_
                          exact g_register hlt hL hx hb hml hown hg hZ hK hE hN hX hbl hbA hA i h7 (hcs h7) kk _ _ _ _ _ _ _ _ R0 hiv hP hD hS (lv_sub hl [0, 1, 2, 3, 4, 5] rfl)
                        · skip
                          by_cases c_13 : k9 = 11
                          · refine lv_tableIn (off := 1000) (tgt := 1045) hx hb dL_law_45 (by rw [c_13]; decide) (by rw [c_13]; decide) (by rw [c_13]; decide) (by decide) ?_
                            exact g_power hlt hL hx hb hml hown hg hZ hK hE hN hX hbl hbA hA i h7 (hcs h7) kk _ _ _ _ _ _ _ _ R0 hiv hP hD hS (lv_sub hl [0, 1, 2, 3, 4, 5] rfl)
                          · skip
                            by_cases c_14 : k9 = 12
                            · refine lv_tableIn (off := 1087) (tgt := 1132) hx hb dL_law_45 (by rw [c_14]; decide) (by rw [c_14]; decide) (by rw [c_14]; decide) (by decide) ?_
                              exact g_told hlt hL hx hb hml hown hg hZ hK hE hN hX hbl hbA hA i h7 (hcs h7) kk _ _ _ _ _ _ _ _ R0 hiv hP hD hS (lv_sub hl [0, 1, 2, 3, 4, 5] rfl)
                            · skip
                              by_cases c_15 : k9 = 13
                              · refine lv_tableIn (off := 1155) (tgt := 1200) hx hb dL_law_45 (by rw [c_15]; decide) (by rw [c_15]; decide) (by rw [c_15]; decide) (by decide) ?_
                                exact g_count hlt hL hx hb hml hown hg hZ hK hE hN hX hbl hbA hA i h7 (hcs h7) kk _ _ _ _ _ _ _ _ R0 hiv hP hD hS (lv_sub hl [0, 1, 2, 3, 4, 5] rfl)
                              · skip
                                have h_16 : k9.toInt < 0 ∨ 13 < k9.toInt := by
                                  have q0 : ¬ k9.toInt = 0 := lv_neT c_2 (by decide)
                                  have q1 : ¬ k9.toInt = 1 := lv_neT c_3 (by decide)
                                  have q2 : ¬ k9.toInt = 2 := lv_neT c_4 (by decide)
                                  have q3 : ¬ k9.toInt = 3 := lv_neT c_5 (by decide)
                                  have q4 : ¬ k9.toInt = 4 := lv_neT c_6 (by decide)
                                  have q5 : ¬ k9.toInt = 5 := lv_neT c_7 (by decide)
                                  have q6 : ¬ k9.toInt = 6 := lv_neT c_8 (by decide)
                                  have q7 : ¬ k9.toInt = 7 := lv_neT c_9 (by decide)
                                  have q8 : ¬ k9.toInt = 8 := lv_neT c_10 (by decide)
                                  have q9 : ¬ k9.toInt = 9 := lv_neT c_11 (by decide)
                                  have q10 : ¬ k9.toInt = 10 := lv_neT c_12 (by decide)
                                  have q11 : ¬ k9.toInt = 11 := lv_neT c_13 (by decide)
                                  have q12 : ¬ k9.toInt = 12 := lv_neT c_14 (by decide)
                                  have q13 : ¬ k9.toInt = 13 := lv_neT c_15 (by decide)
                                  omega
                                refine lv_tableOut (tgt := 1256) hx hb dL_law_45 h_16 (by decide) ?_
                                refine W.widen (k := cells + 2) (n := slots + 12) (by omega) (by omega) ?_
                                exact kk _ _ _ _ _ _ _ _ R0 hiv hP hD hS (lv_sub hl [0, 1, 2, 3, 4, 5] rfl)
set_option maxHeartbeats 4000000 in
set_option maxRecDepth 100000 in
theorem g_loop {p : Program} {l : Launch} (hlt : l.stackTraces = false) {e : Env} {s : State} {m : MethodId} {below : List Frame} {meth : Method} {c : Code} {b L : Nat} {xs : Nat → Int32} (hL : L ≤ 3584) {sx : Nat → Nat} {dC : Nat → ClassId} {dI : Nat → Nat → Nat} {cI cZ cD cR cB cJ : ClassId} {o : Nat → Nat} {ra : Nat → Nat → Nat} {ba : Nat → Nat} {a : Nat → Nat} {qo qd : Nat} {A : Nat → Prop} {Q : State → Prop} (hx : p.tables.exec = Jvm.exec) (hb : c.code = cL_law) (hml : c.maxLocals = 9) (hown : s.vm.findClass RL = some m.cls) (hg : ∀ w ∈ gw_all, w.before #[Value.ref b] s = true) (hZ : nw_ok s) (hK : va_K (dC, dI) vwCl [(cI, .int), (cZ, .boolean), (cD, .double), (cR, .object RX1), (cB, .object RX0), (cJ, .long)] s) (hE : ev_ok sx A s s.heap) (hN : nc_ok s) (hX : va_X b L xs s s.heap) (hbl : b < s.heap.size) (hbA : ¬ A b) (hA : ∀ q : Nat, s.heap.size ≤ q → A q) (hAf : ∀ q : Nat, A q → s.heap.size ≤ q) (ex : ∀ (H : Heap) (ls : Array Slot), W p l e room_1 s m #[Value.ref b] below meth c H [] 639599 7177307 Q (F0 m 1263 ls [.int 1])) : ∀ (n i cells slots : Nat), L < i + 7 * n + 7 → i ≤ 3584 → cells + 2 * n ≤ 639599 → slots + 12 * n ≤ 7177307 → ∀ (sc : Int32) (y : st_Y) (x : st_M) (ov : Nat → Int64) (od : Nat → UInt64) (H : Heap) (locs : List Loc) (ls : Array Slot), rl sc y x → iv y → va_P (dC, dI) vwCl ([(qo, .inl (cJ, 1, .inr (.inl ov))), (qd, .inl (cD, 1, .inr (.inr (.inr (.inl od)))))] ++ (wp_S cI cZ cD cR cB o ra ba sc y ++ wp_M cI cZ cD a x)) H → va_D A ([(qo, .inl (cJ, 1, .inr (.inl ov))), (qd, .inl (cD, 1, .inr (.inr (.inr (.inl od)))))] ++ (wp_S cI cZ cD cR cB o ra ba sc y ++ wp_M cI cZ cD a x)) → va_S A s.heap H locs → lv_has ls 9 [(5, .int (nI i)), (4, .ref qd), (3, .ref qo), (2, .ref (a 0)), (1, .ref (o 0)), (0, .ref b)] → W p l e room_1 s m #[Value.ref b] below meth c H locs cells slots Q (F0 m 28 ls []) := by
  intro n
  induction n with
  | zero =>
    intro i cells slots h1 h2 h3 h4 sc y x ov od H locs ls R0 hiv hP hD hS hl
    exact g_iter hlt hL hx hb hml hown hg hZ hK hE hN hX hbl hbA hA hAf ex i h2 ⟨by omega, by omega⟩ (fun h => absurd h (by omega)) (fun h => absurd h (by omega)) sc y x ov od H locs ls R0 hiv hP hD hS hl
  | succ n ih =>
    intro i cells slots h1 h2 h3 h4 sc y x ov od H locs ls R0 hiv hP hD hS hl
    exact g_iter hlt hL hx hb hml hown hg hZ hK hE hN hX hbl hbA hA hAf ex i h2 ⟨by omega, by omega⟩ (fun h => ⟨by omega, by omega⟩) (fun h sc y x ov od H locs ls R0 hiv hP hD hS hl => ih (i + 7) (cells + 2) (slots + 12) (by omega) (by omega) (by omega) (by omega) sc y x ov od H locs ls R0 hiv hP hD hS hl) sc y x ov od H locs ls R0 hiv hP hD hS hl
theorem pm_9 {α : Type} (x y : α) (S M : List α) : List.Perm (((M ++ S) ++ [x]) ++ [y]) ([x, y] ++ (S ++ M)) := by
  rw [List.append_assoc (M ++ S)]
  exact List.perm_append_comm.trans ((List.perm_append_comm (l₁ := M) (l₂ := S)).append_left [x, y])
theorem sf_preI {s : State} {H : Heap} {A0 : Nat → Prop} {D : va_G} {cl : List vw_C} {tys : List (ClassId × FieldType)} {wc wr : va_W} {av : List Value} (hK : va_K D cl tys s) (hZ : nw_ok s) (hP : va_P D cl (wc ++ wr) H) (hD : va_D A0 (wc ++ wr)) (h1 : va_AO RX1 s) (h2 : va_AO RX0 s) : PreS s H (va_Pc av (fun U => (U.heap.size = H.size ∧ va_P D cl wc U.heap ∧ va_D (fun _ => True) wc ∧ va_K D cl tys U ∧ nw_ok U) ∧ va_AO RX1 U ∧ va_AO RX0 U)) av :=
  ⟨fun a U g mk q => ⟨q.1, ⟨q.2.1.1, q.2.1.2.1, q.2.1.2.2.1, va_K.moved (u := U) (U := U.calling g mk a) (Vm.Alike.refl U.vm) q.2.1.2.2.2.1, nw_same (u := U) (U := U.calling g mk a) rfl q.2.1.2.2.2.2⟩, va_AO.moved (u := U) (U := U.calling g mk a) (Vm.Alike.refl U.vm) q.2.2.1, va_AO.moved (u := U) (U := U.calling g mk a) (Vm.Alike.refl U.vm) q.2.2.2⟩,
   fun U hU hW => ⟨rfl, ⟨by rw [hU], by rw [hU]; exact sf_P_left hP, (sf_D_left hD).weaken (fun _ _ _ _ => trivial), va_K.moved hW.alike hK, nw_warm hW hZ⟩, h1.moved hW.alike, h2.moved hW.alike⟩⟩
set_option maxHeartbeats 4000000 in
set_option maxRecDepth 100000 in
theorem g_entry {p : Program} {l : Launch} (hlt : l.stackTraces = false) {e : Env} {s : State} {m : MethodId} {below : List Frame} {meth : Method} {c : Code} {b L : Nat} {xs : Nat → Int32} (hL : L ≤ 3584) {sx : Nat → Nat} {dC : Nat → ClassId} {dI : Nat → Nat → Nat} {cI cZ cD cR cB cJ : ClassId} {A : Nat → Prop} {Q : State → Prop} (hx : p.tables.exec = Jvm.exec) (hb : c.code = cL_law) (hml : c.maxLocals = 9) (hown : s.vm.findClass RL = some m.cls) (hg : ∀ w ∈ gw_all, w.before #[Value.ref b] s = true) (hZ : nw_ok s) (hK : va_K (dC, dI) vwCl [(cI, .int), (cZ, .boolean), (cD, .double), (cR, .object RX1), (cB, .object RX0), (cJ, .long)] s) (hE : ev_ok sx A s s.heap) (hN : nc_ok s) (hX : va_X b L xs s s.heap) (hbl : b < s.heap.size) (hbA : ¬ A b) (hA : ∀ q : Nat, s.heap.size ≤ q → A q) (hAf : ∀ q : Nat, A q → s.heap.size ≤ q) (hO1 : va_AO RX1 s) (hO2 : va_AO RX0 s) (ex : ∀ (H : Heap) (ls : Array Slot), W p l e room_1 s m #[Value.ref b] below meth c H [] 639599 7177307 Q (F0 m 1263 ls [.int 1])) {ls : Array Slot} (hl : lv_has ls 9 [(0, .ref b)]) : W p l e room_1 s m #[Value.ref b] below meth c s.heap [] 0 0 Q (F0 m 0 ls []) := by
  have hP : va_P (dC, dI) vwCl [] s.heap := fun k q h => by simp at h
  have hD : va_D A [] := sf_D_iff.mpr ⟨by simp, by simp⟩
  have hS : va_S A s.heap s.heap [] := va_S.rf
  refine va_new (ci := 2) (fs := [.null, .null, .null, .null, .int 0, .int 0, .int 0]) (C := RX2) (T := TX2) (N := 7) hx hb hg in_X2 tyX2 tyX2_ok hown (hg _ mw_32) (hg _ mw_33) (hg _ mw_21) hK hP hD hS hA rfl (fun j hj => by rcases (show j = 0 ∨ j = 1 ∨ j = 2 ∨ j = 3 ∨ j = 4 ∨ j = 5 ∨ j = 6 by omega) with rfl | rfl | rfl | rfl | rfl | rfl | rfl <;> rfl) (Nat.le_of_ble_eq_true rfl) (Nat.le_of_ble_eq_true rfl) dL_law_0 (fun h0 H hP hD hS => ?_)
  refine lv_dup hx hb dL_law_3 rfl ?_
  have hPc : va_P (dC, dI) vwCl ([(h0, .inr (2, [.null, .null, .null, .null, .int 0, .int 0, .int 0]))] ++ []) H := hP
  have hDc : va_D A ([(h0, .inr (2, [.null, .null, .null, .null, .int 0, .int 0, .int 0]))] ++ []) := hD
  refine sf_callC (va_runI (As := []) (rest := [.ref h0]) ⟨hx, hb, hml, hown, hg⟩ (c_X2_init l dC dI cI cZ cD cR cB h0 _) (cwI 0 hg (gw_C mw_36) rfl rfl rfl (hg _ mw_21) (hg _ mw_34) (hg _ mw_35) rfl (by decide +kernel) ⟨Nat.le_of_ble_eq_true rfl, Nat.le_of_ble_eq_true rfl⟩) (sf_preI (hK.sub [0, 1, 2, 3, 4] rfl) hZ hPc hDc hO1 hO2) rfl rfl hl.1 rfl (lv_room (Nat.le_of_ble_eq_true rfl)) dL_law_4 ⟨Nat.le_of_ble_eq_true rfl, Nat.le_of_ble_eq_true rfl⟩) hS hPc hDc hA (fun z9 hz9 H locs hPa hDa hS => ?_)
  clear hP hD hPc hDc
  obtain ⟨o, ra, ba⟩ := z9
  have hz9 : o 0 = h0 := hz9
  subst hz9
  rw [List.append_nil] at hPa hDa
  have hP : va_P (dC, dI) vwCl (wp_S cI cZ cD cR cB o ra ba 0 st_Y0) H := hPa
  have hD : va_D A (wp_S cI cZ cD cR cB o ra ba 0 st_Y0) := hDa
  clear hPa hDa
  refine lv_astore_n (lv' := [(1, .ref (o 0)), (0, .ref b)]) hx hb dL_law_7 rfl hl (by decide) rfl (fun ls hl => ?_)
  refine va_new (ci := 3) (fs := [.null, .null, .null, .null, .null, .null, .null, .null, .null, .null, .null, .null, .null, .null, .null, .null, .null, .null, .null, .null, .null, .null, .null, .int 0, .int 0, .int 0, .int 0, .int (sf_b false)]) (C := RX3) (T := TX3) (N := 28) hx hb hg in_X3 tyX3 tyX3_ok hown (hg _ mw_493) (hg _ mw_494) (hg _ mw_24) hK hP hD hS hA rfl (fun j hj => by rcases (show j = 0 ∨ j = 1 ∨ j = 2 ∨ j = 3 ∨ j = 4 ∨ j = 5 ∨ j = 6 ∨ j = 7 ∨ j = 8 ∨ j = 9 ∨ j = 10 ∨ j = 11 ∨ j = 12 ∨ j = 13 ∨ j = 14 ∨ j = 15 ∨ j = 16 ∨ j = 17 ∨ j = 18 ∨ j = 19 ∨ j = 20 ∨ j = 21 ∨ j = 22 ∨ j = 23 ∨ j = 24 ∨ j = 25 ∨ j = 26 ∨ j = 27 by omega) with rfl | rfl | rfl | rfl | rfl | rfl | rfl | rfl | rfl | rfl | rfl | rfl | rfl | rfl | rfl | rfl | rfl | rfl | rfl | rfl | rfl | rfl | rfl | rfl | rfl | rfl | rfl | rfl <;> rfl) (Nat.le_of_ble_eq_true rfl) (Nat.le_of_ble_eq_true rfl) dL_law_8 (fun h1 H hP hD hS => ?_)
  refine lv_dup hx hb dL_law_11 rfl ?_
  have hPc : va_P (dC, dI) vwCl ([(h1, .inr (3, [.null, .null, .null, .null, .null, .null, .null, .null, .null, .null, .null, .null, .null, .null, .null, .null, .null, .null, .null, .null, .null, .null, .null, .int 0, .int 0, .int 0, .int 0, .int (sf_b false)]))] ++ wp_S cI cZ cD cR cB o ra ba 0 st_Y0) H := sf_P_perm List.perm_append_comm hP
  have hDc : va_D A ([(h1, .inr (3, [.null, .null, .null, .null, .null, .null, .null, .null, .null, .null, .null, .null, .null, .null, .null, .null, .null, .null, .null, .null, .null, .null, .null, .int 0, .int 0, .int 0, .int 0, .int (sf_b false)]))] ++ wp_S cI cZ cD cR cB o ra ba 0 st_Y0) := sf_D_perm List.perm_append_comm hD
  refine sf_callC (va_runI (As := []) (rest := [.ref h1]) ⟨hx, hb, hml, hown, hg⟩ (c_X3_init l dC dI cI cZ cD h1 _) (cwI 0 hg (gw_C mw_497) rfl rfl rfl (hg _ mw_24) (hg _ mw_495) (hg _ mw_496) rfl (by decide +kernel) ⟨Nat.le_of_ble_eq_true rfl, Nat.le_of_ble_eq_true rfl⟩) (sf_preC (hK.sub [0, 1, 2] rfl) hZ hPc hDc) rfl rfl hl.1 rfl (lv_room (Nat.le_of_ble_eq_true rfl)) dL_law_12 ⟨Nat.le_of_ble_eq_true rfl, Nat.le_of_ble_eq_true rfl⟩) hS hPc hDc hA (fun a hz9 H locs hPa hDa hS => ?_)
  clear hP hD hPc hDc
  have hz9 : a 0 = h1 := hz9
  subst hz9
  have hP : va_P (dC, dI) vwCl (wp_M cI cZ cD a st_M0 ++ wp_S cI cZ cD cR cB o ra ba 0 st_Y0) H := hPa
  have hD : va_D A (wp_M cI cZ cD a st_M0 ++ wp_S cI cZ cD cR cB o ra ba 0 st_Y0) := hDa
  clear hPa hDa
  refine lv_astore_n (lv' := [(2, .ref (a 0)), (1, .ref (o 0)), (0, .ref b)]) hx hb dL_law_15 rfl hl (by decide) rfl (fun ls hl => ?_)
  refine lv_iconst (v := 1) hx hb dL_law_16 (by decide) ?_
  refine sf_newa (atype := .long) (a0 := (1, .inr (.inl (fun _ => 0)))) hx hb (hg _ mw_691) rfl hK hP hD hS hA (fun _ => rfl) (by decide) (by decide) (by decide) (Nat.le_of_ble_eq_true rfl) (Nat.le_of_ble_eq_true rfl) dL_law_17 5 rfl (fun _ h => h) (fun qo H hP hD hS => ?_)
  refine lv_astore_n (lv' := [(3, .ref qo), (2, .ref (a 0)), (1, .ref (o 0)), (0, .ref b)]) hx hb dL_law_19 rfl hl (by decide) rfl (fun ls hl => ?_)
  refine lv_iconst (v := 1) hx hb dL_law_20 (by decide) ?_
  refine sf_newa (atype := .double) (a0 := (1, .inr (.inr (.inr (.inl (fun _ => FP.dconst0)))))) hx hb (hg _ mw_72) rfl hK hP hD hS hA (fun _ => rfl) (by decide) (by decide) (by decide) (Nat.le_of_ble_eq_true rfl) (Nat.le_of_ble_eq_true rfl) dL_law_21 2 rfl (fun _ h => h) (fun qd H hP hD hS => ?_)
  refine lv_astore (lv' := [(4, .ref qd), (3, .ref qo), (2, .ref (a 0)), (1, .ref (o 0)), (0, .ref b)]) hx hb dL_law_23 hl (by decide) rfl (fun ls hl => ?_)
  refine lv_iconst (v := nI 0) hx hb dL_law_25 (by decide) ?_
  refine lv_istore (lv' := [(5, .int (nI 0)), (4, .ref qd), (3, .ref qo), (2, .ref (a 0)), (1, .ref (o 0)), (0, .ref b)]) hx hb dL_law_26 hl (by decide) rfl (fun ls hl => ?_)
  have hP := sf_P_perm (pm_9 _ _ _ _) hP
  have hD := sf_D_perm (pm_9 _ _ _ _) hD
  refine W.widen (k := 79) (n := 984) (Nat.le_of_ble_eq_true rfl) (Nat.le_of_ble_eq_true rfl) ?_
  exact g_loop hlt hL hx hb hml hown hg hZ hK hE hN hX hbl hbA hA hAf ex 512 0 79 984 (by omega) (by omega) (by omega) (by omega) _ _ _ _ _ _ _ _ q_start.1 q_start.2 hP hD hS hl
