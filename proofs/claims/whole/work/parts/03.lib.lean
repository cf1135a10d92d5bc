/-! the nest's words: links of private members across the nest -/
def nw_all : List Cond := [.methodLinkNest RX2 23 yX1_init RX2, .methodLinkNest RX2 30 yX0_init RX2, .methodLinkNest RX1 34 yX2_looksAtBit RX2, .methodLinkNest RX0 81 yX2_isValue RX2, .fieldLinkNest RX2 161 RX1 "coilKinds" "[I" RX2, .fieldLinkNest RX2 165 RX1 "coilNumbers" "[I" RX2, .fieldLinkNest RX2 75 RX0 "guarded" "Z" RX2]
def nw_ok (U : State) : Prop := ∀ w ∈ nw_all, va_Nw w U
theorem nw_tb : ∀ w ∈ nw_all, w.onTables = true := by decide +kernel
theorem nw_same {u U : State} (h : u.vm = U.vm) (hZ : nw_ok u) : nw_ok U := fun w hw => va_Nw.same (nw_tb w hw) h (hZ w hw)
theorem nw_warm {s U : State} (hW : s.WarmedH U.vm) (hZ : nw_ok s) : nw_ok U := by
  intro w hw
  have h := hZ w hw
  simp only [nw_all, List.mem_cons, List.not_mem_nil, or_false] at hw
  rcases hw with rfl | rfl | rfl | rfl | rfl | rfl | rfl
  · exact va_Nw.warmM hW h
  · exact va_Nw.warmM hW h
  · exact va_Nw.warmM hW h
  · exact va_Nw.warmM hW h
  · exact va_Nw.warmF hW h
  · exact va_Nw.warmF hW h
  · exact va_Nw.warmF hW h
/-! worlds up to order, frames, calls that read, calls that write (sf_) -/
theorem sf_P_iff {D : va_G} {cl : List vw_C} {ws : va_W} {H : Heap} : va_P D cl ws H ↔ ∀ q ∈ ws, va_at D cl q H := by
  constructor
  · intro h q hq
    obtain ⟨k, hk⟩ := List.getElem?_of_mem hq
    exact h k q hk
  · intro h k q hk
    exact h q (List.mem_of_getElem? hk)
theorem sf_P_perm {D : va_G} {cl : List vw_C} {ws ws' : va_W} {H : Heap} (hp : List.Perm ws ws') (h : va_P D cl ws H) : va_P D cl ws' H :=
  sf_P_iff.mpr fun q hq => sf_P_iff.mp h q (hp.mem_iff.mpr hq)
theorem sf_D_iff {A : Nat → Prop} {ws : va_W} : va_D A ws ↔ (ws.map Prod.fst).Nodup ∧ ∀ q ∈ ws, A q.1 := by
  constructor
  · intro ⟨h1, h2⟩
    refine ⟨?_, fun q hq => ?_⟩
    · refine List.pairwise_iff_getElem.mpr fun i j hi hj hij he => ?_
      have hi' : i < ws.length := by simpa using hi
      have hj' : j < ws.length := by simpa using hj
      have h9 := h1 i j ws[i] ws[j] (List.getElem?_eq_getElem hi') (List.getElem?_eq_getElem hj') (by simpa using he)
      omega
    · obtain ⟨k, hk⟩ := List.getElem?_of_mem hq
      exact h2 k q hk
  · intro ⟨h1, h2⟩
    have key : ∀ (i j : Nat) (p q : Nat × va_E), i < j → ws[i]? = some p → ws[j]? = some q → p.1 ≠ q.1 := by
      intro i j p q hij hp hq
      obtain ⟨hi, hp'⟩ := List.getElem?_eq_some_iff.mp hp
      obtain ⟨hj, hq'⟩ := List.getElem?_eq_some_iff.mp hq
      have h9 := List.pairwise_iff_getElem.mp h1 i j (by simpa using hi) (by simpa using hj) hij
      simpa [hp', hq'] using h9
    refine ⟨fun i j p q hp hq he => ?_, fun k q hk => h2 q (List.mem_of_getElem? hk)⟩
    rcases Nat.lt_trichotomy i j with h | h | h
    · exact absurd he (key i j p q h hp hq)
    · exact h
    · exact absurd he.symm (key j i q p h hq hp)
theorem sf_D_perm {A : Nat → Prop} {ws ws' : va_W} (hp : List.Perm ws ws') (h : va_D A ws) : va_D A ws' :=
  sf_D_iff.mpr ⟨(hp.map Prod.fst).nodup_iff.mp (sf_D_iff.mp h).1, fun q hq => (sf_D_iff.mp h).2 q (hp.mem_iff.mpr hq)⟩
theorem sf_P_left {D : va_G} {cl : List vw_C} {w1 w2 : va_W} {H : Heap} (h : va_P D cl (w1 ++ w2) H) : va_P D cl w1 H :=
  sf_P_iff.mpr fun q hq => sf_P_iff.mp h q (List.mem_append_left _ hq)
theorem sf_P_right {D : va_G} {cl : List vw_C} {w1 w2 : va_W} {H : Heap} (h : va_P D cl (w1 ++ w2) H) : va_P D cl w2 H :=
  sf_P_iff.mpr fun q hq => sf_P_iff.mp h q (List.mem_append_right _ hq)
theorem sf_D_left {A : Nat → Prop} {w1 w2 : va_W} (h : va_D A (w1 ++ w2)) : va_D A w1 := by
  have h1 := sf_D_iff.mp h
  rw [List.map_append, List.nodup_append] at h1
  exact sf_D_iff.mpr ⟨h1.1.1, fun q hq => h1.2 q (List.mem_append_left _ hq)⟩
theorem sf_free {A0 : Nat → Prop} {wc wr : va_W} {H0 H : Heap} {locs : List Loc} (hD : va_D A0 (wc ++ wr)) (hS : va_S A0 H0 H locs) (hA : ∀ q, H0.size ≤ q → A0 q) : ∀ q, va_A wc H.size q → A0 q := by
  intro q h
  rcases h with ⟨k, e, h⟩ | h
  · exact (sf_D_iff.mp hD).2 (q, e) (List.mem_append_left _ (List.mem_of_getElem? h))
  · exact hA q (Nat.le_trans hS.1 h)
/-- behind a call: the callee's new world beside the caller's other cells -/
theorem sf_fr {A0 : Nat → Prop} {D : va_G} {cl : List vw_C} {wc wr w1 : va_W} {H H1 : Heap} (hP : va_P D cl (wc ++ wr) H) (hD : va_D A0 (wc ++ wr))
    (hk : ∀ q : Nat, q < H.size → ¬ va_A wc H.size q → H1[q]? = H[q]?) (hF : ∀ q, va_A wc H.size q → A0 q) (hP1 : va_P D cl w1 H1) (hD1 : va_D (va_A wc H.size) w1) :
    va_P D cl (w1 ++ wr) H1 ∧ va_D A0 (w1 ++ wr) := by
  have hn := (sf_D_iff.mp hD).1
  rw [List.map_append, List.nodup_append] at hn
  have hout : ∀ q ∈ wr, q.1 < H.size ∧ ¬ va_A wc H.size q.1 := by
    intro q hq
    have hl := (sf_P_iff.mp hP q (List.mem_append_right _ hq)).lt
    refine ⟨hl, ?_⟩
    rintro (⟨k, e, h⟩ | h)
    · exact hn.2.2 q.1 (List.mem_map.mpr ⟨(q.1, e), List.mem_of_getElem? h, rfl⟩) q.1 (List.mem_map.mpr ⟨q, hq, rfl⟩) rfl
    · omega
  refine ⟨sf_P_iff.mpr fun q hq => ?_, sf_D_iff.mpr ⟨?_, fun q hq => ?_⟩⟩
  · rcases List.mem_append.mp hq with h | h
    · exact sf_P_iff.mp hP1 q h
    · exact (sf_P_iff.mp hP q (List.mem_append_right _ h)).kept (hk q.1 (hout q h).1 (hout q h).2)
  · rw [List.map_append, List.nodup_append]
    refine ⟨(sf_D_iff.mp hD1).1, hn.2.1, fun a ha b hb hab => ?_⟩
    obtain ⟨x, hx, rfl⟩ := List.mem_map.mp ha
    obtain ⟨y, hy, rfl⟩ := List.mem_map.mp hb
    exact (hout y hy).2 (by rw [← hab]; exact (sf_D_iff.mp hD1).2 x hx)
  · rcases List.mem_append.mp hq with h | h
    · exact hF _ ((sf_D_iff.mp hD1).2 q h)
    · exact (sf_D_iff.mp hD).2 q (List.mem_append_right _ h)
/-- what a method that only reads says at its end -/
def sf_R (v : Option Value) : Array Value → State → Outcome → State → Prop := fun _ st o t => o = .returned v ∧ t.heap = st.heap
/-- what a method that writes says at its end: its world wc has become w1 -/
def sf_V (D : va_G) (cl : List vw_C) (v : Option Value) (wc w1 : va_W) : Array Value → State → Outcome → State → Prop := fun _ st o t =>
  o = .returned v ∧ va_P D cl w1 t.heap ∧ va_D (va_A wc st.heap.size) w1 ∧ va_F (va_A wc st.heap.size) st t
/-- starts -/
def sf_PR (D : va_G) (cl : List vw_C) (tys : List (ClassId × FieldType)) (ws : va_W) (av : List Value) : Array Value → State → Prop := va_Pc av (fun U => va_P D cl ws U.heap ∧ va_K D cl tys U ∧ nw_ok U)
def sf_PV (D : va_G) (cl : List vw_C) (tys : List (ClassId × FieldType)) (ws : va_W) (sz : Nat) (av : List Value) : Array Value → State → Prop := va_Pc av (fun U => U.heap.size = sz ∧ va_P D cl ws U.heap ∧ va_D (fun _ => True) ws ∧ va_K D cl tys U ∧ nw_ok U)
theorem sf_blindR {D : va_G} {cl : List vw_C} {tys : List (ClassId × FieldType)} {ws : va_W} {av : List Value} : FrameBlind (sf_PR D cl tys ws av) :=
  fun a U g mk q => ⟨q.1, q.2.1, va_K.moved (u := U) (U := U.calling g mk a) (Vm.Alike.refl U.vm) q.2.2.1, nw_same (u := U) (U := U.calling g mk a) rfl q.2.2.2⟩
theorem sf_blindV {D : va_G} {cl : List vw_C} {tys : List (ClassId × FieldType)} {ws : va_W} {sz : Nat} {av : List Value} : FrameBlind (sf_PV D cl tys ws sz av) :=
  fun a U g mk q => ⟨q.1, q.2.1, q.2.2.1, q.2.2.2.1, va_K.moved (u := U) (U := U.calling g mk a) (Vm.Alike.refl U.vm) q.2.2.2.2.1, nw_same (u := U) (U := U.calling g mk a) rfl q.2.2.2.2.2⟩
def sf_P0 (av : List Value) : Array Value → State → Prop := va_Pc av (fun _ => True)
theorem sf_blind0 {av : List Value} : FrameBlind (sf_P0 av) := fun _ _ _ _ q => q
section SFC
variable {p : Program} {l : Launch} {e : Env} {R : Room} {s : State} {m : MethodId} {args : Array Value} {below : List Frame} {meth : Method} {c : Code} {H : Heap} {locs : List Loc} {cells slots : Nat} {Q : State → Prop}
variable {mc ms pc : Nat} {ls : Array Slot} {st0 rest : List Value} {a : Array Value} {A0 : Nat → Prop} {H0 : Heap} {D : va_G} {cl : List vw_C} {tys : List (ClassId × FieldType)} {wc wr w1 : va_W} {v : Option Value}
theorem sf_pre0 {av : List Value} : PreS s H (sf_P0 av) av := ⟨sf_blind0, fun _ _ _ => ⟨rfl, trivial⟩⟩
theorem sf_preSR {av : List Value} (hK : va_K D cl tys s) (hZ : nw_ok s) (hP : va_P D cl wc H) : PreS s H (sf_PR D cl tys wc av) av :=
  ⟨sf_blindR, fun U hU hW => ⟨rfl, by rw [hU]; exact hP, va_K.moved hW.alike hK, nw_warm hW hZ⟩⟩
theorem sf_preVR {C : String} {b : Addr} {av : List Value} (hr : ∃ cell : Cell, H[b]? = some cell ∧ cell.vm.isStatics = false ∧ s.vm.findClass C = some cell.cls) (hK : va_K D cl tys s) (hZ : nw_ok s) (hP : va_P D cl wc H) : PreV s H C b (sf_PR D cl tys wc (.ref b :: av)) av :=
  ⟨sf_blindR, hr, fun U hU hW => ⟨rfl, by rw [hU]; exact hP, va_K.moved hW.alike hK, nw_warm hW hZ⟩⟩
theorem sf_preSV {av : List Value} (hK : va_K D cl tys s) (hZ : nw_ok s) (hP : va_P D cl (wc ++ wr) H) (hD : va_D A0 (wc ++ wr)) : PreS s H (sf_PV D cl tys wc H.size av) av :=
  ⟨sf_blindV, fun U hU hW => ⟨rfl, by rw [hU], by rw [hU]; exact sf_P_left hP, (sf_D_left hD).weaken (fun _ _ _ _ => trivial), va_K.moved hW.alike hK, nw_warm hW hZ⟩⟩
theorem sf_preVV {C : String} {b : Addr} {av : List Value} (hr : ∃ cell : Cell, H[b]? = some cell ∧ cell.vm.isStatics = false ∧ s.vm.findClass C = some cell.cls) (hK : va_K D cl tys s) (hZ : nw_ok s) (hP : va_P D cl (wc ++ wr) H) (hD : va_D A0 (wc ++ wr)) : PreV s H C b (sf_PV D cl tys wc H.size (.ref b :: av)) av :=
  ⟨sf_blindV, hr, fun U hU hW => ⟨rfl, by rw [hU], by rw [hU]; exact sf_P_left hP, (sf_D_left hD).weaken (fun _ _ _ _ => trivial), va_K.moved hW.alike hK, nw_warm hW hZ⟩⟩
/-- behind a call that only reads: the heap is the same -/
theorem sf_callR (hr : va_Run p l e R s m args below meth c H locs cells slots 0 0 (F0 m pc ls st0) rest (sf_R v a) (fun _ => False))
    (kk : W p l e R s m args below meth c H locs cells slots Q (F0 m (pc + 3) ls (v.toList ++ rest))) : W p l e R s m args below meth c H locs cells slots Q (F0 m pc ls st0) := by
  intro T hT X
  obtain ⟨v', st₀, t, T', L, h0, X', hL, e1, e2, ⟨hv, hh⟩, st⟩ := hr T hT X
  cases hv
  obtain ⟨t2, a1, b1⟩ := kk T' (by rw [e1, hh, h0]) (Stand.forget X' (fun q h => (hL q h).elim))
  exact ⟨t2, st t2 a1, b1⟩
/-- behind a call that writes -/
theorem sf_callV (hr : va_Run p l e R s m args below meth c H locs cells slots mc ms (F0 m pc ls st0) rest (sf_V D cl v wc w1 a) (va_A wc H.size)) (hS : va_S A0 H0 H locs) (hP : va_P D cl (wc ++ wr) H) (hD : va_D A0 (wc ++ wr)) (hA : ∀ q, H0.size ≤ q → A0 q)
    (kk : ∀ (H1 : Heap) (locs1 : List Loc), va_P D cl (w1 ++ wr) H1 → va_D A0 (w1 ++ wr) → va_S A0 H0 H1 locs1 → W p l e R s m args below meth c H1 locs1 (cells + mc) (slots + ms) Q (F0 m (pc + 3) ls (v.toList ++ rest))) : W p l e R s m args below meth c H locs cells slots Q (F0 m pc ls st0) := by
  intro T hT X
  obtain ⟨v', st₀, t, T', L, h0, X', hL, e1, e2, ⟨hv, hP1, hD1, hF⟩, st⟩ := hr T hT X
  cases hv
  have hz := hF.1
  have hk := hF.2
  rw [h0] at hz hk hD1
  have hFc := sf_free hD hS hA
  obtain ⟨hP2, hD2⟩ := sf_fr hP hD hk hFc hP1 hD1
  have hS2 : va_S A0 H0 t.heap (locs ++ L) := ⟨Nat.le_trans hS.1 hz, fun q h1 h2 => (hk q (Nat.lt_of_lt_of_le h1 hS.1) (fun z => h2 (hFc q z))).trans (hS.2.1 q h1 h2), fun q hq => by
    rcases List.mem_append.mp hq with h | h
    · exact hS.2.2 q h
    · exact hFc _ (hL q h)⟩
  obtain ⟨t2, a1, b1⟩ := kk t.heap (locs ++ L) hP2 hD2 hS2 T' e1 X'
  exact ⟨t2, st t2 a1, b1⟩
end SFC
/-! rows of my own: booleans, arrays by a Nat index, values by equality (sf_) -/
def sf_b (b : Bool) : Int32 := match b with
  | true => 1
  | false => 0
theorem sf_b_nar (b : Bool) : vp_nar .boolean (sf_b b) = sf_b b := by cases b <;> decide
theorem sf_b_nb (b : Bool) : narrow .boolean (.int (sf_b b)) = .int (sf_b b) := by cases b <;> decide
theorem sf_b_fit (b : Bool) : fits .boolean (.int (sf_b b)) = true := by cases b <;> decide
theorem sf_b_0 {b : Bool} (h : sf_b b = 0) : b = false := by
  cases b
  · rfl
  · exact absurd h (by decide)
theorem sf_b_n0 {b : Bool} (h : ¬ sf_b b = 0) : b = true := by
  cases b
  · exact absurd rfl h
  · rfl
theorem sf_upb (f : Nat → Bool) (k : Nat) (b : Bool) : upd (fun j => sf_b (f j)) k (vp_nar .boolean (sf_b b)) = fun j => sf_b (va_up f k b j) := by
  funext j
  rw [sf_b_nar]
  show (if j = k then sf_b b else sf_b (f j)) = sf_b (if j = k then b else f j)
  by_cases h : j = k
  · rw [if_pos h, if_pos h]
  · rw [if_neg h, if_neg h]
theorem sf_upi (f : Nat → Int32) (k : Nat) (x : Int32) : upd f k x = va_up f k x := rfl
theorem sf_upd (f : Nat → UInt64) (k : Nat) (x : UInt64) : vf_upd f k x = va_up f k x := rfl
section SFR
variable {p : Program} {l : Launch} {e : Env} {R : Room} {s : State} {m : MethodId} {args : Array Value} {below : List Frame} {meth : Method} {c : Code} {H : Heap} {locs : List Loc} {cells slots : Nat} {Q : State → Prop}
variable {cc : ByteArray} {pc : Nat} {ls : Array Slot} {rest : List Value} {D : va_G} {cl : List vw_C} {A : Nat → Prop} {a : Nat} {tys : List (ClassId × FieldType)} {ws : va_W} {H0 : Heap}
theorem sf_topi {x y : Int32} (h : x = y) (k : W p l e R s m args below meth c H locs cells slots Q (F0 m pc ls (.int y :: rest))) : W p l e R s m args below meth c H locs cells slots Q (F0 m pc ls (.int x :: rest)) := h ▸ k
theorem sf_topd {x y : UInt64} (h : x = y) (k : W p l e R s m args below meth c H locs cells slots Q (F0 m pc ls (.double y :: rest))) : W p l e R s m args below meth c H locs cells slots Q (F0 m pc ls (.double x :: rest)) := h ▸ k
theorem sf_ifeq (hexec : p.tables.exec = Jvm.exec) (hb : c.code = cc) {b : Bool} {off : Int} {tgt : Nat} (hdg : decode cc pc = .ok (.ifCond .eq off, 3)) (ht : (pc : Int) + off = (tgt : Int))
    (kt : b = false → W p l e R s m args below meth c H locs cells slots Q (F0 m tgt ls rest)) (kf : b = true → W p l e R s m args below meth c H locs cells slots Q (F0 m (pc + 3) ls rest)) : W p l e R s m args below meth c H locs cells slots Q (F0 m pc ls (.int (sf_b b) :: rest)) :=
  lv_if_eq hexec hb hdg ht (fun h => kt (sf_b_0 h)) (fun h => kf (sf_b_n0 h))
theorem sf_ifne (hexec : p.tables.exec = Jvm.exec) (hb : c.code = cc) {b : Bool} {off : Int} {tgt : Nat} (hdg : decode cc pc = .ok (.ifCond .ne off, 3)) (ht : (pc : Int) + off = (tgt : Int))
    (kt : b = true → W p l e R s m args below meth c H locs cells slots Q (F0 m tgt ls rest)) (kf : b = false → W p l e R s m args below meth c H locs cells slots Q (F0 m (pc + 3) ls rest)) : W p l e R s m args below meth c H locs cells slots Q (F0 m pc ls (.int (sf_b b) :: rest)) :=
  lv_if_ne hexec hb hdg ht (fun h => kt (sf_b_n0 h)) (fun h => kf (sf_b_0 h))
theorem sf_zald (hexec : p.tables.exec = Jvm.exec) (hb : c.code = cc) (hK : va_K D cl tys s) (hP : va_P D cl ws H) (q0 t0 : Nat) {cA : ClassId} {n : Nat} {f : Nat → Bool} (ha : ws[q0]? = some (a, .inl (cA, n, .inl (fun j => sf_b (f j))))) (ht : tys[t0]? = some (cA, .boolean)) {i : Int32} (k : Nat) (hi : i = nI k) (hk : k < n) (hn : n < 2 ^ 31) (hdg : decode cc pc = .ok (.baload, 1))
    (kk : W p l e R s m args below meth c H locs cells slots Q (F0 m (pc + 1) ls (.int (sf_b (f k)) :: rest))) : W p l e R s m args below meth c H locs cells slots Q (F0 m pc ls (.int i :: .ref a :: rest)) := by
  subst hi
  refine va_zald hexec hb hK hP q0 t0 ha ht (vp_in_nI hk hn) hdg ?_
  rw [nI_clamp (Nat.lt_trans hk hn)]
  exact kk
theorem sf_iald (hexec : p.tables.exec = Jvm.exec) (hb : c.code = cc) (hK : va_K D cl tys s) (hP : va_P D cl ws H) (q0 t0 : Nat) {cA : ClassId} {n : Nat} {f : Nat → Int32} (ha : ws[q0]? = some (a, .inl (cA, n, .inl f))) (ht : tys[t0]? = some (cA, .int)) {i : Int32} (k : Nat) (hi : i = nI k) (hk : k < n) (hn : n < 2 ^ 31) (hdg : decode cc pc = .ok (.iaload, 1))
    (kk : W p l e R s m args below meth c H locs cells slots Q (F0 m (pc + 1) ls (.int (f k) :: rest))) : W p l e R s m args below meth c H locs cells slots Q (F0 m pc ls (.int i :: .ref a :: rest)) := by
  subst hi
  refine va_iald hexec hb hK hP q0 t0 ha ht (vp_in_nI hk hn) hdg ?_
  rw [nI_clamp (Nat.lt_trans hk hn)]
  exact kk
theorem sf_dald (hexec : p.tables.exec = Jvm.exec) (hb : c.code = cc) (hK : va_K D cl tys s) (hP : va_P D cl ws H) (q0 t0 : Nat) {cA : ClassId} {n : Nat} {f : Nat → UInt64} (ha : ws[q0]? = some (a, .inl (cA, n, .inr (.inr (.inr (.inl f)))))) (ht : tys[t0]? = some (cA, .double)) {i : Int32} (k : Nat) (hi : i = nI k) (hk : k < n) (hn : n < 2 ^ 31) (hdg : decode cc pc = .ok (.daload, 1))
    (kk : W p l e R s m args below meth c H locs cells slots Q (F0 m (pc + 1) ls (.double (f k) :: rest))) : W p l e R s m args below meth c H locs cells slots Q (F0 m pc ls (.int i :: .ref a :: rest)) := by
  subst hi
  refine va_dald hexec hb hK hP q0 t0 ha ht (vp_in_nI hk hn) hdg ?_
  rw [nI_clamp (Nat.lt_trans hk hn)]
  exact kk
theorem sf_aald (hexec : p.tables.exec = Jvm.exec) (hb : c.code = cc) (hK : va_K D cl tys s) (hP : va_P D cl ws H) (q0 t0 : Nat) {cA : ClassId} {C : String} {n r : Nat} {f : Nat → Option Nat} (ha : ws[q0]? = some (a, .inl (cA, n, .inr (.inr (.inr (.inr f)))))) (ht : tys[t0]? = some (cA, .object C)) {i : Int32} (k : Nat) (hi : i = nI k) (hk : k < n) (hn : n < 2 ^ 31) (hf : f k = some r) (hdg : decode cc pc = .ok (.aaload, 1))
    (kk : W p l e R s m args below meth c H locs cells slots Q (F0 m (pc + 1) ls (.ref r :: rest))) : W p l e R s m args below meth c H locs cells slots Q (F0 m pc ls (.int i :: .ref a :: rest)) := by
  subst hi
  refine va_aldq hexec hb hK hP q0 t0 ha ht (vp_in_nI hk hn) hdg ?_
  rw [nI_clamp (Nat.lt_trans hk hn), hf]
  exact kk
theorem sf_zast (hexec : p.tables.exec = Jvm.exec) (hb : c.code = cc) (hK : va_K D cl tys s) (hP : va_P D cl ws H) (hD : va_D A ws) (hS : va_S A H0 H locs) (q0 t0 : Nat) {cA : ClassId} {n : Nat} {f : Nat → Bool} (ha : ws[q0]? = some (a, .inl (cA, n, .inl (fun j => sf_b (f j))))) (ht : tys[t0]? = some (cA, .boolean)) {i : Int32} {b : Bool} (k : Nat) (hi : i = nI k) (hk : k < n) (hn : n < 2 ^ 31) (hdg : decode cc pc = .ok (.bastore, 1))
    (kk : ∀ (H1 : Heap) (locs1 : List Loc), va_P D cl (ws.set q0 (a, .inl (cA, n, .inl (fun j => sf_b (va_up f k b j))))) H1 → va_D A (ws.set q0 (a, .inl (cA, n, .inl (fun j => sf_b (va_up f k b j))))) → va_S A H0 H1 locs1 → W p l e R s m args below meth c H1 locs1 cells slots Q (F0 m (pc + 1) ls rest)) : W p l e R s m args below meth c H locs cells slots Q (F0 m pc ls (.int (sf_b b) :: .int i :: .ref a :: rest)) := by
  subst hi
  refine va_zast hexec hb hK hP hD hS q0 t0 ha ht (vp_in_nI hk hn) hdg (fun H1 locs1 h1 h2 h3 => ?_)
  rw [nI_clamp (Nat.lt_trans hk hn), sf_upb] at h1 h2
  exact kk H1 locs1 h1 h2 h3
theorem sf_iast (hexec : p.tables.exec = Jvm.exec) (hb : c.code = cc) (hK : va_K D cl tys s) (hP : va_P D cl ws H) (hD : va_D A ws) (hS : va_S A H0 H locs) (q0 t0 : Nat) {cA : ClassId} {n : Nat} {f : Nat → Int32} (ha : ws[q0]? = some (a, .inl (cA, n, .inl f))) (ht : tys[t0]? = some (cA, .int)) {i x : Int32} (k : Nat) (hi : i = nI k) (hk : k < n) (hn : n < 2 ^ 31) (hdg : decode cc pc = .ok (.iastore, 1))
    (kk : ∀ (H1 : Heap) (locs1 : List Loc), va_P D cl (ws.set q0 (a, .inl (cA, n, .inl (va_up f k x)))) H1 → va_D A (ws.set q0 (a, .inl (cA, n, .inl (va_up f k x)))) → va_S A H0 H1 locs1 → W p l e R s m args below meth c H1 locs1 cells slots Q (F0 m (pc + 1) ls rest)) : W p l e R s m args below meth c H locs cells slots Q (F0 m pc ls (.int x :: .int i :: .ref a :: rest)) := by
  subst hi
  refine va_iast hexec hb hK hP hD hS q0 t0 ha ht (vp_in_nI hk hn) hdg (fun H1 locs1 h1 h2 h3 => ?_)
  rw [nI_clamp (Nat.lt_trans hk hn), sf_upi] at h1 h2
  exact kk H1 locs1 h1 h2 h3
theorem sf_dast (hexec : p.tables.exec = Jvm.exec) (hb : c.code = cc) (hK : va_K D cl tys s) (hP : va_P D cl ws H) (hD : va_D A ws) (hS : va_S A H0 H locs) (q0 t0 : Nat) {cA : ClassId} {n : Nat} {f : Nat → UInt64} (ha : ws[q0]? = some (a, .inl (cA, n, .inr (.inr (.inr (.inl f)))))) (ht : tys[t0]? = some (cA, .double)) {i : Int32} {x : UInt64} (k : Nat) (hi : i = nI k) (hk : k < n) (hn : n < 2 ^ 31) (hdg : decode cc pc = .ok (.dastore, 1))
    (kk : ∀ (H1 : Heap) (locs1 : List Loc), va_P D cl (ws.set q0 (a, .inl (cA, n, .inr (.inr (.inr (.inl (va_up f k x))))))) H1 → va_D A (ws.set q0 (a, .inl (cA, n, .inr (.inr (.inr (.inl (va_up f k x))))))) → va_S A H0 H1 locs1 → W p l e R s m args below meth c H1 locs1 cells slots Q (F0 m (pc + 1) ls rest)) : W p l e R s m args below meth c H locs cells slots Q (F0 m pc ls (.double x :: .int i :: .ref a :: rest)) := by
  subst hi
  refine va_dast hexec hb hK hP hD hS q0 t0 ha ht (vp_in_nI hk hn) hdg (fun H1 locs1 h1 h2 h3 => ?_)
  rw [nI_clamp (Nat.lt_trans hk hn), sf_upd] at h1 h2
  exact kk H1 locs1 h1 h2 h3
end SFR
/-! doubles: comparisons as Booleans, sizes by the exponent, no NaN (sd_) -/
def sd_ge (x y : UInt64) : Bool := decide (FP.dcmp x y = some .gt ∨ FP.dcmp x y = some .eq)
def sd_le (x y : UInt64) : Bool := decide (FP.dcmp x y = some .lt ∨ FP.dcmp x y = some .eq)
def sd_lt (x y : UInt64) : Bool := decide (FP.dcmp x y = some .lt)
def sd_gt (x y : UInt64) : Bool := decide (FP.dcmp x y = some .gt)
def sd_eq (x y : UInt64) : Bool := decide (FP.dcmp x y = some .eq)
/-- what an instruction's int says: l answers -1 for no number, g answers 1 -/
theorem sd_l_lt {x y : UInt64} : Op.cmpValue (FP.dcmp x y) .l < 0 ↔ sd_ge x y = false := by
  unfold sd_ge
  rcases FP.dcmp x y with _ | o
  · decide
  · cases o <;> decide
theorem sd_g_gt {x y : UInt64} : 0 < Op.cmpValue (FP.dcmp x y) .g ↔ sd_le x y = false := by
  unfold sd_le
  rcases FP.dcmp x y with _ | o
  · decide
  · cases o <;> decide
theorem sd_g_ge {x y : UInt64} : 0 ≤ Op.cmpValue (FP.dcmp x y) .g ↔ sd_lt x y = false := by
  unfold sd_lt
  rcases FP.dcmp x y with _ | o
  · decide
  · cases o <;> decide
theorem sd_l_le {x y : UInt64} : Op.cmpValue (FP.dcmp x y) .l ≤ 0 ↔ sd_gt x y = false := by
  unfold sd_gt
  rcases FP.dcmp x y with _ | o
  · decide
  · cases o <;> decide
theorem sd_l_eq {x y : UInt64} : Op.cmpValue (FP.dcmp x y) .l = 0 ↔ sd_eq x y = true := by
  unfold sd_eq
  rcases FP.dcmp x y with _ | o
  · decide
  · cases o <;> decide
theorem sd_nn {x : UInt64} (h : FP.Core.val64 x ≠ .nan) : vf_n64 x := by
  unfold vf_n64
  rw [UInt64.le_iff_toNat_le, FP.Core.mask_toNat]
  exact (FP.Core.ne_nan x).mp h
/-- below 2 ^ (K - 1023) in size -/
def sd_K (K : Nat) (x : UInt64) : Prop := x.toNat % 2 ^ 63 < K * 2 ^ 52
theorem sd_K.mono {K L : Nat} {x : UInt64} (h : sd_K K x) (hl : K ≤ L) : sd_K L x := Nat.lt_of_lt_of_le h (Nat.mul_le_mul_right _ hl)
theorem sd_K.fin {K : Nat} {x : UInt64} (h : sd_K K x) (hK : K ≤ 2047) : FP.Core.DFin x := FP.Core.fin_of_lt h hK
theorem sd_K.nn {K : Nat} {x : UInt64} (h : sd_K K x) (hK : K ≤ 2047) : vf_n64 x := sd_nn (h.fin hK).ne_nan
theorem sd_add {K : Nat} {x y : UInt64} (hx : sd_K K x) (hy : sd_K K y) (hK : K ≤ 2047) : sd_K (K + 2) (FP.dadd x y) := FP.Core.dadd_mag hx hy hK
theorem sd_sub {K : Nat} {x y : UInt64} (hx : sd_K K x) (hy : sd_K K y) (hK : K ≤ 2047) : sd_K (K + 2) (FP.dsub x y) := FP.Core.dsub_mag hx hy hK
theorem sd_mul {K L : Nat} {x y : UInt64} (hx : sd_K K x) (hy : sd_K L y) (hK : K ≤ 2047) (hL : L ≤ 2047) : sd_K (K + L - 1025 + 3) (FP.dmul x y) := FP.Core.dmul_mag hx hy hK hL
theorem sd_div {x y : UInt64} (hx : FP.Core.DFin x) (hy : FP.Core.DFin y) (h0 : sd_eq y 0 = false) : vf_n64 (FP.ddiv x y) := by
  have hz : ¬ FP.Core.DZero y := fun h => by
    have := FP.Core.zero_iff.mpr h
    unfold sd_eq at h0
    rw [decide_eq_false_iff_not] at h0
    exact h0 this
  exact sd_nn ((FP.Core.notNaN_iff _).mp (FP.Core.ddiv_out hx.notNaN hy hz))
/-- between -c and c, c with the bits b -/
theorem sd_btw {x lo hi : UInt64} {K : Nat} (hlo : lo.toNat = hi.toNat + 2 ^ 63) (hhi : hi.toNat < K * 2 ^ 52) (hK : K ≤ 2047) (h1 : sd_ge x lo = true) (h2 : sd_le x hi = true) : sd_K K x := by
  unfold sd_ge at h1
  unfold sd_le at h2
  rw [decide_eq_true_iff] at h1 h2
  have hx : FP.Core.val64 x ≠ .nan := by
    rcases h1 with h | h <;> exact (FP.Core.dcmp_some h).1
  have hl : FP.Core.val64 lo ≠ .nan := by
    rcases h1 with h | h <;> exact (FP.Core.dcmp_some h).2
  have hh : FP.Core.val64 hi ≠ .nan := by
    rcases h2 with h | h <;> exact (FP.Core.dcmp_some h).2
  have k1 : FP.Core.dkey lo ≤ FP.Core.dkey x := by
    rcases h1 with h | h
    · have := (FP.Core.dcmp_gt_key hx hl).mp h
      omega
    · have := (FP.Core.dcmp_eq_key hx hl).mp h
      omega
  have k2 : FP.Core.dkey x ≤ FP.Core.dkey hi := by
    rcases h2 with h | h
    · have := (FP.Core.dcmp_lt_key hx hh).mp h
      omega
    · have := (FP.Core.dcmp_eq_key hx hh).mp h
      omega
  have hlt := x.toNat_lt
  have hlt2 := lo.toNat_lt
  unfold FP.Core.dkey at k1 k2
  unfold sd_K
  rw [hlo] at k1 hlt2
  have e1 : ¬ (2 ^ 63 ≤ hi.toNat) := by omega
  rw [if_pos (by omega)] at k1
  rw [if_neg e1] at k2
  by_cases hs : 2 ^ 63 ≤ x.toNat
  · rw [if_pos hs] at k1 k2
    omega
  · rw [if_neg hs] at k1 k2
    omega
/-! families of cells: one of them in front (sf_) -/
theorem sf_er {α : Type} {n g : Nat} {F G : Nat → List α} (h : ∀ j, j ≠ g → F j = G j) : ((List.range n).erase g).flatMap F = ((List.range n).erase g).flatMap G := by
  have e : ∀ j ∈ (List.range n).erase g, F j = G j := fun j hj => h j ((List.nodup_range).mem_erase_iff.mp hj).1
  generalize (List.range n).erase g = l at e ⊢
  induction l with
  | nil => rfl
  | cons a t ih =>
    rw [List.flatMap_cons, List.flatMap_cons, e a List.mem_cons_self, ih (fun j hj => e j (List.mem_cons_of_mem _ hj))]
theorem sf_one {α : Type} {n g : Nat} (hg : g < n) (F : Nat → List α) : List.Perm ((List.range n).flatMap F) (F g ++ ((List.range n).erase g).flatMap F) := by
  have h := (List.perm_cons_erase (List.mem_range.mpr hg)).flatMap_right F
  rw [List.flatMap_cons] at h
  exact h
/-- X, the family F, Y: the g-th of F in front -/
theorem sf_pick {α : Type} {n g : Nat} (hg : g < n) (F : Nat → List α) (X Y : List α) : List.Perm (X ++ ((List.range n).flatMap F ++ Y)) (F g ++ (X ++ (((List.range n).erase g).flatMap F ++ Y))) := by
  refine List.Perm.trans (List.Perm.append_left X ((sf_one hg F).append_right Y)) ?_
  rw [List.append_assoc]
  exact List.perm_append_comm_assoc _ _ _
/-! words of calls -/
theorem gw_G {w : Cond} (h : w ∈ gw_all) : w ∈ gw_all ∧ ((w.onTables && w.keeps) = true ∨ ∃ ty, w = .arrayClass ty) := ⟨h, gw_good h⟩
theorem gw_C {c : Cond} (h4 : c ∈ gw_all) : GoodIn gw_all (c :: gw_all) := fun w hw => gw_G ((List.mem_cons.mp hw).elim (fun h => h ▸ h4) id)
theorem gw_S {own : String} {idx : Nat} {y : MethodName} {c : Cond} (h1 : Cond.methodLink own idx y ∈ gw_all) (h2 : Cond.static y ∈ gw_all) (h3 : Cond.initialized own ∈ gw_all) (h4 : c ∈ gw_all) : GoodIn gw_all (wsS own idx y (c :: gw_all)) := by
  intro w hw
  unfold wsS at hw
  rcases List.mem_append.mp hw with h | h
  · simp only [List.mem_cons, List.not_mem_nil, or_false] at h
    rcases h with rfl | rfl | rfl
    · exact gw_G h1
    · exact gw_G h2
    · exact gw_G h3
  · exact gw_C h4 w h
theorem gw_V {own C : String} {idx : Nat} {y : MethodName} {c : Cond} (h1 : Cond.methodLink own idx y ∈ gw_all) (h2 : Cond.instanceMethod y ∈ gw_all) (h3 : Cond.selects C y y ∈ gw_all) (h5 : Cond.initialized C ∈ gw_all) (h4 : c ∈ gw_all) : GoodIn gw_all (wsV own idx C y (c :: gw_all)) := by
  intro w hw
  unfold wsV at hw
  rcases List.mem_append.mp hw with h | h
  · simp only [List.mem_cons, List.not_mem_nil, or_false] at h
    rcases h with rfl | rfl | rfl | rfl
    · exact gw_G h1
    · exact gw_G h2
    · exact gw_G h3
    · exact gw_G h5
  · exact gw_C h4 w h
section SFQ
variable {p : Program} {l : Launch} {e : Env} {R : Room} {s : State} {m : MethodId} {args : Array Value} {below : List Frame} {meth : Method} {c : Code} {H : Heap} {locs : List Loc} {cells slots : Nat} {Q : State → Prop}
variable {mc ms pc : Nat} {ls : Array Slot} {st0 rest : List Value} {a : Array Value} {A0 : Nat → Prop} {H0 : Heap} {D : va_G} {cl : List vw_C} {tys : List (ClassId × FieldType)} {wc wr w1 : va_W}
theorem sf_callRi {r : Int32} (hr : va_Run p l e R s m args below meth c H locs cells slots 0 0 (F0 m pc ls st0) rest (sf_R (some (.int r)) a) (fun _ => False))
    (kk : W p l e R s m args below meth c H locs cells slots Q (F0 m (pc + 3) ls (.int r :: rest))) : W p l e R s m args below meth c H locs cells slots Q (F0 m pc ls st0) := sf_callR hr kk
theorem sf_callRd {r : UInt64} (hr : va_Run p l e R s m args below meth c H locs cells slots 0 0 (F0 m pc ls st0) rest (sf_R (some (.double r)) a) (fun _ => False))
    (kk : W p l e R s m args below meth c H locs cells slots Q (F0 m (pc + 3) ls (.double r :: rest))) : W p l e R s m args below meth c H locs cells slots Q (F0 m pc ls st0) := sf_callR hr kk
theorem sf_callVi {r : Int32} (hr : va_Run p l e R s m args below meth c H locs cells slots mc ms (F0 m pc ls st0) rest (sf_V D cl (some (.int r)) wc w1 a) (va_A wc H.size)) (hS : va_S A0 H0 H locs) (hP : va_P D cl (wc ++ wr) H) (hD : va_D A0 (wc ++ wr)) (hA : ∀ q, H0.size ≤ q → A0 q)
    (kk : ∀ (H1 : Heap) (locs1 : List Loc), va_P D cl (w1 ++ wr) H1 → va_D A0 (w1 ++ wr) → va_S A0 H0 H1 locs1 → W p l e R s m args below meth c H1 locs1 (cells + mc) (slots + ms) Q (F0 m (pc + 3) ls (.int r :: rest))) : W p l e R s m args below meth c H locs cells slots Q (F0 m pc ls st0) := sf_callV hr hS hP hD hA kk
theorem sf_callVd {r : UInt64} (hr : va_Run p l e R s m args below meth c H locs cells slots mc ms (F0 m pc ls st0) rest (sf_V D cl (some (.double r)) wc w1 a) (va_A wc H.size)) (hS : va_S A0 H0 H locs) (hP : va_P D cl (wc ++ wr) H) (hD : va_D A0 (wc ++ wr)) (hA : ∀ q, H0.size ≤ q → A0 q)
    (kk : ∀ (H1 : Heap) (locs1 : List Loc), va_P D cl (w1 ++ wr) H1 → va_D A0 (w1 ++ wr) → va_S A0 H0 H1 locs1 → W p l e R s m args below meth c H1 locs1 (cells + mc) (slots + ms) Q (F0 m (pc + 3) ls (.double r :: rest))) : W p l e R s m args below meth c H locs cells slots Q (F0 m pc ls st0) := sf_callV hr hS hP hD hA kk
theorem sf_callVv (hr : va_Run p l e R s m args below meth c H locs cells slots mc ms (F0 m pc ls st0) rest (sf_V D cl none wc w1 a) (va_A wc H.size)) (hS : va_S A0 H0 H locs) (hP : va_P D cl (wc ++ wr) H) (hD : va_D A0 (wc ++ wr)) (hA : ∀ q, H0.size ≤ q → A0 q)
    (kk : ∀ (H1 : Heap) (locs1 : List Loc), va_P D cl (w1 ++ wr) H1 → va_D A0 (w1 ++ wr) → va_S A0 H0 H1 locs1 → W p l e R s m args below meth c H1 locs1 (cells + mc) (slots + ms) Q (F0 m (pc + 3) ls rest)) : W p l e R s m args below meth c H locs cells slots Q (F0 m pc ls st0) := sf_callV hr hS hP hD hA kk
end SFQ
section SFM
variable {p : Program} {l : Launch} {e : Env} {R : Room} {s : State} {m : MethodId} {args : Array Value} {below : List Frame} {meth : Method} {c : Code} {H : Heap} {locs : List Loc} {cells slots : Nat} {Q : State → Prop} {ls : Array Slot} {pc : Nat} {st0 : List Value}
/-- two roads meet at pc2 with a Boolean on the stack: what follows is walked once -/
theorem sf_cutb (pc2 : Nat) (x : Bool) (st2 : Bool → List Value) (k : W p l e R s m args below meth c H locs cells slots Q (F0 m pc2 ls (st2 x))) (h : (∀ v, v = x → W p l e R s m args below meth c H locs cells slots Q (F0 m pc2 ls (st2 v))) → W p l e R s m args below meth c H locs cells slots Q (F0 m pc ls st0)) : W p l e R s m args below meth c H locs cells slots Q (F0 m pc ls st0) :=
  h (fun v hv => hv ▸ k)
theorem sf_cuti (pc2 : Nat) (x : Int32) (st2 : Int32 → List Value) (k : W p l e R s m args below meth c H locs cells slots Q (F0 m pc2 ls (st2 x))) (h : (∀ v, v = x → W p l e R s m args below meth c H locs cells slots Q (F0 m pc2 ls (st2 v))) → W p l e R s m args below meth c H locs cells slots Q (F0 m pc ls st0)) : W p l e R s m args below meth c H locs cells slots Q (F0 m pc ls st0) :=
  h (fun v hv => hv ▸ k)
theorem sf_cutd (pc2 : Nat) (x : UInt64) (st2 : UInt64 → List Value) (k : W p l e R s m args below meth c H locs cells slots Q (F0 m pc2 ls (st2 x))) (h : (∀ v, v = x → W p l e R s m args below meth c H locs cells slots Q (F0 m pc2 ls (st2 v))) → W p l e R s m args below meth c H locs cells slots Q (F0 m pc ls st0)) : W p l e R s m args below meth c H locs cells slots Q (F0 m pc ls st0) :=
  h (fun v hv => hv ▸ k)
end SFM
