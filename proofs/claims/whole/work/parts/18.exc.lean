/-! exceptions: what a throw needs, carried along calls (ex_, ev_); calls that return or throw (sf_X..) -/
def ex_I : String := "java/lang/IllegalArgumentException"
def ex_O : String := "java/lang/IndexOutOfBoundsException"
def ex_S : String := "java/lang/IllegalStateException"
def ex_A : String := "java/lang/ArithmeticException"
def ex_N : List String := ["java/lang/RuntimeException", "java/lang/Exception"]
def ex_all : List Cond := [.declares ⟨"java/lang/RuntimeException", "<init>", "(Ljava/lang/String;)V"⟩, .declares ⟨"java/lang/Exception", "<init>", "(Ljava/lang/String;)V"⟩, .declares ⟨"java/lang/Throwable", "<init>", "(Ljava/lang/String;)V"⟩,
  .castable ex_I ex_I, .castable ex_O ex_O, .castable ex_S ex_S, .castable ex_A ex_A]
def ex_ok (U : State) : Prop := ∀ w ∈ ex_all, va_Nw w U
theorem ex_tb : ∀ w ∈ ex_all, w.onTables = true := by decide +kernel
theorem ex_in : ∀ w ∈ ex_all, w ∈ lw_tbl := by decide +kernel
theorem ex_same {u U : State} (h : u.vm = U.vm) (hZ : ex_ok u) : ex_ok U := fun w hw => va_Nw.same (ex_tb w hw) h (hZ w hw)
theorem ex_warm {s U : State} (hW : s.WarmedH U.vm) (hZ : ex_ok s) : ex_ok U := by
  intro w hw
  have h := hZ w hw
  simp only [ex_all, List.mem_cons, List.not_mem_nil, or_false] at hw
  rcases hw with rfl | rfl | rfl | rfl | rfl | rfl | rfl
  · exact va_Nw.warmD hW h
  · exact va_Nw.warmD hW h
  · exact va_Nw.warmD hW h
  · exact va_Nw.warmC hW h
  · exact va_Nw.warmC hW h
  · exact va_Nw.warmC hW h
  · exact va_Nw.warmC hW h
theorem ex_at {own X : String} {ic : Nat} {args : Array Value} {s : State} (hg : ∀ w ∈ gw_all, w.before args s = true) (hZ : ex_ok s) (h1 : ∀ w ∈ (vx_atS own ic X ex_N).filter goodWord, w ∈ lw_tbl) (h2 : ∀ w ∈ (vx_atS own ic X ex_N).filter (fun w => !goodWord w), w ∈ ex_all) : ∀ w ∈ vx_atS own ic X ex_N, w.before args s = true :=
  vx_hat (fun w hw => hg w (List.mem_filter.mpr ⟨h1 w hw, (List.mem_filter.mp hw).2⟩)) h2 (fun w hw => va_Nw.use (ex_tb w hw) (hZ w hw))
set_option maxRecDepth 20000 in
theorem ex_I1 : ∀ w ∈ (vx_atS RX2 127 ex_I ex_N).filter goodWord, w ∈ lw_tbl := by decide +kernel
set_option maxRecDepth 20000 in
theorem ex_I2 : ∀ w ∈ (vx_atS RX2 127 ex_I ex_N).filter (fun w => !goodWord w), w ∈ ex_all := by decide +kernel
set_option maxRecDepth 20000 in
theorem ex_I3 : ∀ w ∈ Cond.classLink RX2 123 ex_I :: Cond.initialized ex_I :: vx_atS RX2 127 ex_I ex_N, vx_ot w = true := by decide +kernel
set_option maxRecDepth 20000 in
theorem ex_O1 : ∀ w ∈ (vx_atS RX2 132 ex_O ex_N).filter goodWord, w ∈ lw_tbl := by decide +kernel
set_option maxRecDepth 20000 in
theorem ex_O2 : ∀ w ∈ (vx_atS RX2 132 ex_O ex_N).filter (fun w => !goodWord w), w ∈ ex_all := by decide +kernel
set_option maxRecDepth 20000 in
theorem ex_O3 : ∀ w ∈ Cond.classLink RX2 128 ex_O :: Cond.initialized ex_O :: vx_atS RX2 132 ex_O ex_N, vx_ot w = true := by decide +kernel
set_option maxRecDepth 20000 in
theorem ex_S1 : ∀ w ∈ (vx_atS RX2 95 ex_S ex_N).filter goodWord, w ∈ lw_tbl := by decide +kernel
set_option maxRecDepth 20000 in
theorem ex_S2 : ∀ w ∈ (vx_atS RX2 95 ex_S ex_N).filter (fun w => !goodWord w), w ∈ ex_all := by decide +kernel
set_option maxRecDepth 20000 in
theorem ex_S3 : ∀ w ∈ Cond.classLink RX2 91 ex_S :: Cond.initialized ex_S :: vx_atS RX2 95 ex_S ex_N, vx_ot w = true := by decide +kernel
set_option maxRecDepth 20000 in
theorem ex_A1 : ∀ w ∈ (vx_atS RX2 105 ex_A ex_N).filter goodWord, w ∈ lw_tbl := by decide +kernel
set_option maxRecDepth 20000 in
theorem ex_A2 : ∀ w ∈ (vx_atS RX2 105 ex_A ex_N).filter (fun w => !goodWord w), w ∈ ex_all := by decide +kernel
set_option maxRecDepth 20000 in
theorem ex_A3 : ∀ w ∈ Cond.classLink RX2 101 ex_A :: Cond.initialized ex_A :: vx_atS RX2 105 ex_A ex_N, vx_ot w = true := by decide +kernel
def ev_t0 : String := "a number is not as the document says"
def ev_t1 : String := "there is no such place"
def ev_t2 : String := "the controller is halted"
def ev_t3 : String := "a fault of a block halts the controller"
/-- the words of throws, the four texts, Throwable's two statics, which lie outside A -/
def ev_ok (sx : Nat → Nat) (A : Nat → Prop) (U : State) (H : Heap) : Prop := ex_ok U ∧ (vk_R RX2 125 ev_t0 (sx 0) U ∧ vk_R RX2 130 ev_t1 (sx 1) U ∧ vk_R RX2 93 ev_t2 (sx 2) U ∧ vk_R RX2 103 ev_t3 (sx 3) U) ∧
  vx_Zq Jvm.Bundle.tN "UNASSIGNED_STACK" Jvm.Bundle.steD A U H ∧ vx_Zq Jvm.Bundle.tN "SUPPRESSED_SENTINEL" Jvm.Bundle.listD A U H
theorem ev_use {sx : Nat → Nat} {A B : Nat → Prop} {s U : State} {H0 H : Heap} {locs : List Loc} (h : ev_ok sx A s H0) (hS : va_S A H0 H locs) (hW : s.WarmedH U.vm) (hAB : ∀ q, B q → A q) : ev_ok sx B U H :=
  ⟨ex_warm hW h.1, ⟨vk_R.warm hW h.2.1.1, vk_R.warm hW h.2.1.2.1, vk_R.warm hW h.2.1.2.2.1, vk_R.warm hW h.2.1.2.2.2⟩,
    ((vx_Zq.moved hW.alike (h.2.2.1.kept hS.2.1))).narrow hAB, ((vx_Zq.moved hW.alike (h.2.2.2.kept hS.2.1))).narrow hAB⟩
theorem ev_same {sx : Nat → Nat} {A : Nat → Prop} {u U : State} {H : Heap} (h : u.vm = U.vm) (hZ : ev_ok sx A u H) : ev_ok sx A U H := by
  have hal : u.vm.Alike U.vm := h ▸ Vm.Alike.refl u.vm
  exact ⟨ex_same h hZ.1, ⟨vk_R.same h.symm hZ.2.1.1, vk_R.same h.symm hZ.2.1.2.1, vk_R.same h.symm hZ.2.1.2.2.1, vk_R.same h.symm hZ.2.1.2.2.2⟩, vx_Zq.moved hal hZ.2.2.1, vx_Zq.moved hal hZ.2.2.2⟩
def sf_XR (C : Prop) (v : Option Value) : Array Value → State → Outcome → State → Prop := fun _ st o t => o = .returned v ∧ C ∧ t.heap = st.heap
def sf_XT (E0 : String) (C : Prop) : String → State → State → Prop := fun E st t => E = E0 ∧ C ∧ st.heap.size ≤ t.heap.size ∧ ∀ q : Nat, q < st.heap.size → t.heap[q]? = st.heap[q]?
def sf_XV (D : va_G) (cl : List vw_C) (C : Prop) (v : Option Value) (wc w1 : va_W) : Array Value → State → Outcome → State → Prop := fun a st o t => C ∧ sf_V D cl v wc w1 a st o t
def sf_XE (D : va_G) (cl : List vw_C) (EC : String → Prop) (wc w2 : va_W) : String → State → State → Prop := fun E st t => EC E ∧ va_P D cl w2 t.heap ∧ va_D (va_A wc st.heap.size) w2 ∧ va_F (va_A wc st.heap.size) st t
def sf_PD (sx : Nat → Nat) (av : List Value) : Array Value → State → Prop := va_Pc av (fun U => ev_ok sx (fun _ => False) U U.heap)
def sf_PX (D : va_G) (cl : List vw_C) (tys : List (ClassId × FieldType)) (sx : Nat → Nat) (ws : va_W) (sz : Nat) (av : List Value) : Array Value → State → Prop := va_Pc av (fun U => U.heap.size = sz ∧ va_P D cl ws U.heap ∧ va_D (fun _ => True) ws ∧ va_K D cl tys U ∧ nw_ok U ∧ ev_ok sx (va_A ws sz) U U.heap)
theorem sf_blindD {sx : Nat → Nat} {av : List Value} : FrameBlind (sf_PD sx av) := fun a U g mk q => ⟨q.1, ev_same (u := U) (U := U.calling g mk a) rfl q.2⟩
theorem sf_blindX {D : va_G} {cl : List vw_C} {tys : List (ClassId × FieldType)} {sx : Nat → Nat} {ws : va_W} {sz : Nat} {av : List Value} : FrameBlind (sf_PX D cl tys sx ws sz av) :=
  fun a U g mk q => ⟨q.1, q.2.1, q.2.2.1, q.2.2.2.1, va_K.moved (u := U) (U := U.calling g mk a) (Vm.Alike.refl U.vm) q.2.2.2.2.1, nw_same (u := U) (U := U.calling g mk a) rfl q.2.2.2.2.2.1, ev_same (u := U) (U := U.calling g mk a) rfl q.2.2.2.2.2.2⟩
theorem sf_S_grow {A : Nat → Prop} {H0 H H1 : Heap} {locs : List Loc} (hS : va_S A H0 H locs) (hz : H.size ≤ H1.size) (hk : ∀ q : Nat, q < H.size → H1[q]? = H[q]?) : va_S A H0 H1 locs :=
  ⟨Nat.le_trans hS.1 hz, fun q h1 h2 => (hk q (Nat.lt_of_lt_of_le h1 hS.1)).trans (hS.2.1 q h1 h2), hS.2.2⟩
section SFX
variable {p : Program} {l : Launch} {e : Env} {R : Room} {s : State} {m : MethodId} {args : Array Value} {below : List Frame} {meth : Method} {c : Code} {H : Heap} {locs : List Loc} {cells slots : Nat} {Q : State → Prop}
variable {mc ms pc : Nat} {ls : Array Slot} {st0 rest : List Value} {a : Array Value} {A0 : Nat → Prop} {H0 : Heap} {D : va_G} {cl : List vw_C} {tys : List (ClassId × FieldType)} {wc wr w1 w2 : va_W} {v : Option Value} {C C' : Prop} {E0 : String} {EC : String → Prop} {sx : Nat → Nat}
theorem sf_preD {av : List Value} (hE : ev_ok sx A0 s H0) (hS : va_S A0 H0 H locs) : PreS s H (sf_PD sx av) av :=
  ⟨sf_blindD, fun U hU hW => ⟨rfl, by show ev_ok sx (fun _ => False) U U.heap; rw [hU]; exact ev_use hE hS hW (fun _ h => h.elim)⟩⟩
theorem sf_preX {CC : String} {b : Addr} {av : List Value} (hr : ∃ cell : Cell, H[b]? = some cell ∧ cell.vm.isStatics = false ∧ s.vm.findClass CC = some cell.cls) (hK : va_K D cl tys s) (hZ : nw_ok s) (hP : va_P D cl (wc ++ wr) H) (hD : va_D A0 (wc ++ wr)) (hE : ev_ok sx A0 s H0) (hS : va_S A0 H0 H locs) (hA : ∀ q, H0.size ≤ q → A0 q) : PreV s H CC b (sf_PX D cl tys sx wc H.size (.ref b :: av)) av :=
  ⟨sf_blindX, hr, fun U hU hW => ⟨rfl, by rw [hU], by rw [hU]; exact sf_P_left hP, (sf_D_left hD).weaken (fun _ _ _ _ => trivial), va_K.moved hW.alike hK, nw_warm hW hZ, by rw [hU]; exact ev_use hE hS hW (sf_free hD hS hA)⟩⟩
/-- behind a test that returns, nothing changed, or throws -/
theorem sf_callD (hr : vx_Run p l e R s m args below meth c H locs cells slots mc ms (F0 m pc ls st0) rest (sf_XR C none a) (sf_XT E0 C') (fun _ => False))
    (kx : C' → ∀ (ce : Cell) (q9 : Addr) (H1 : Heap), H.size ≤ H1.size → (∀ q : Nat, q < H.size → H1[q]? = H[q]?) → H1[q9]? = some ce → ce.vm = .none → s.vm.findClass E0 = some ce.cls → vx_W p l e R s m args below meth c H1 locs (cells + mc) (slots + ms) Q (F0 m pc ls rest) q9)
    (kk : C → W p l e R s m args below meth c H locs (cells + mc) (slots + ms) Q (F0 m (pc + 3) ls rest)) : W p l e R s m args below meth c H locs cells slots Q (F0 m pc ls st0) := by
  intro T hT X
  rcases hr T hT X with ⟨v', st₀, t, T', L, h0, X', hL, e1, e2, ⟨hv, hC, hh⟩, st⟩ | ⟨q, st₀, t, T', L, E, ce, h0, X', hL, e1, e2, ⟨hE, hC, hz, hk⟩, hce, hcv, hcl, st⟩
  · cases hv
    obtain ⟨t2, a1, b1⟩ := kk hC T' (by rw [e1, hh, h0]) (Stand.forget X' (fun q h => (hL q h).elim))
    exact ⟨t2, st t2 a1, b1⟩
  · subst hE
    rw [h0] at hz hk
    obtain ⟨t2, a1, b1⟩ := kx hC ce q t.heap hz hk hce hcv hcl T' e1 (Stand.forget X' (fun q h => (hL q h).elim))
    exact ⟨t2, st.trans a1, b1⟩
/-- behind a call that returns or throws, its world changed -/
theorem sf_callXV (hr : vx_Run p l e R s m args below meth c H locs cells slots mc ms (F0 m pc ls st0) rest (sf_XV D cl C v wc w1 a) (sf_XE D cl EC wc w2) (va_A wc H.size)) (hS : va_S A0 H0 H locs) (hP : va_P D cl (wc ++ wr) H) (hD : va_D A0 (wc ++ wr)) (hA : ∀ q, H0.size ≤ q → A0 q)
    (kx : ∀ (E : String), EC E → ∀ (ce : Cell) (q9 : Addr) (H1 : Heap) (locs1 : List Loc), va_P D cl (w2 ++ wr) H1 → va_D A0 (w2 ++ wr) → va_S A0 H0 H1 locs1 → H1[q9]? = some ce → ce.vm = .none → s.vm.findClass E = some ce.cls → vx_W p l e R s m args below meth c H1 locs1 (cells + mc) (slots + ms) Q (F0 m pc ls rest) q9)
    (kk : C → ∀ (H1 : Heap) (locs1 : List Loc), va_P D cl (w1 ++ wr) H1 → va_D A0 (w1 ++ wr) → va_S A0 H0 H1 locs1 → W p l e R s m args below meth c H1 locs1 (cells + mc) (slots + ms) Q (F0 m (pc + 3) ls (v.toList ++ rest))) : W p l e R s m args below meth c H locs cells slots Q (F0 m pc ls st0) := by
  intro T hT X
  have hFc := sf_free hD hS hA
  rcases hr T hT X with ⟨v', st₀, t, T', L, h0, X', hL, e1, e2, ⟨hC, hv, hP1, hD1, hF⟩, st⟩ | ⟨q, st₀, t, T', L, E, ce, h0, X', hL, e1, e2, ⟨hE, hP1, hD1, hF⟩, hce, hcv, hcl, st⟩
  · cases hv
    have hz := hF.1
    have hk := hF.2
    rw [h0] at hz hk hD1
    obtain ⟨hP2, hD2⟩ := sf_fr hP hD hk hFc hP1 hD1
    have hS2 : va_S A0 H0 t.heap (locs ++ L) := ⟨Nat.le_trans hS.1 hz, fun q h1 h2 => (hk q (Nat.lt_of_lt_of_le h1 hS.1) (fun z => h2 (hFc q z))).trans (hS.2.1 q h1 h2), fun q hq => by
      rcases List.mem_append.mp hq with h | h
      · exact hS.2.2 q h
      · exact hFc _ (hL q h)⟩
    obtain ⟨t2, a1, b1⟩ := kk hC t.heap (locs ++ L) hP2 hD2 hS2 T' e1 X'
    exact ⟨t2, st t2 a1, b1⟩
  · have hz := hF.1
    have hk := hF.2
    rw [h0] at hz hk hD1
    obtain ⟨hP2, hD2⟩ := sf_fr hP hD hk hFc hP1 hD1
    have hS2 : va_S A0 H0 t.heap (locs ++ L) := ⟨Nat.le_trans hS.1 hz, fun q h1 h2 => (hk q (Nat.lt_of_lt_of_le h1 hS.1) (fun z => h2 (hFc q z))).trans (hS.2.1 q h1 h2), fun q hq => by
      rcases List.mem_append.mp hq with h | h
      · exact hS.2.2 q h
      · exact hFc _ (hL q h)⟩
    obtain ⟨t2, a1, b1⟩ := kx E hE ce q t.heap (locs ++ L) hP2 hD2 hS2 hce hcv hcl T' e1 X'
    exact ⟨t2, st.trans a1, b1⟩
end SFX
