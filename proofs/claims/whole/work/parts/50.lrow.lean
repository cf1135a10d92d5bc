/-! rows of the law: longs, its helpers' entry, catches -/
theorem sf_upl (f : Nat → Int64) (k : Nat) (x : Int64) : vp_updL f k x = va_up f k x := rfl
section SFL
variable {p : Program} {l : Launch} {e : Env} {R : Room} {s : State} {m : MethodId} {args : Array Value} {below : List Frame} {meth : Method} {c : Code} {cc : ByteArray} {H : Heap} {locs : List Loc} {cells slots : Nat} {Q : State → Prop}
variable {pc : Nat} {ls : Array Slot} {rest : List Value} {D : va_G} {cl : List vw_C} {tys : List (ClassId × FieldType)} {ws : va_W} {a : Nat} {A : Nat → Prop} {H0 : Heap}
theorem sf_lald (hexec : p.tables.exec = Jvm.exec) (hb : c.code = cc) (hK : va_K D cl tys s) (hP : va_P D cl ws H) (q0 t0 : Nat) {cA : ClassId} {n : Nat} {f : Nat → Int64} (ha : ws[q0]? = some (a, .inl (cA, n, .inr (.inl f)))) (ht : tys[t0]? = some (cA, .long)) {i : Int32} (k : Nat) (hi : i = nI k) (hk : k < n) (hn : n < 2 ^ 31) (hdg : decode cc pc = .ok (.laload, 1))
    (kk : W p l e R s m args below meth c H locs cells slots Q (F0 m (pc + 1) ls (.long (f k) :: rest))) : W p l e R s m args below meth c H locs cells slots Q (F0 m pc ls (.int i :: .ref a :: rest)) := by
  subst hi
  refine va_lald hexec hb hK hP q0 t0 ha ht (vp_in_nI hk hn) hdg ?_
  rw [nI_clamp (Nat.lt_trans hk hn)]
  exact kk
theorem sf_last (hexec : p.tables.exec = Jvm.exec) (hb : c.code = cc) (hK : va_K D cl tys s) (hP : va_P D cl ws H) (hD : va_D A ws) (hS : va_S A H0 H locs) (q0 t0 : Nat) {cA : ClassId} {n : Nat} {f : Nat → Int64} (ha : ws[q0]? = some (a, .inl (cA, n, .inr (.inl f)))) (ht : tys[t0]? = some (cA, .long)) {i : Int32} {x : Int64} (k : Nat) (hi : i = nI k) (hk : k < n) (hn : n < 2 ^ 31) (hdg : decode cc pc = .ok (.lastore, 1))
    (kk : ∀ (H1 : Heap) (locs1 : List Loc), va_P D cl (ws.set q0 (a, .inl (cA, n, .inr (.inl (va_up f k x))))) H1 → va_D A (ws.set q0 (a, .inl (cA, n, .inr (.inl (va_up f k x))))) → va_S A H0 H1 locs1 → W p l e R s m args below meth c H1 locs1 cells slots Q (F0 m (pc + 1) ls rest)) : W p l e R s m args below meth c H locs cells slots Q (F0 m pc ls (.long x :: .int i :: .ref a :: rest)) := by
  subst hi
  refine va_last hexec hb hK hP hD hS q0 t0 ha ht (vp_in_nI hk hn) hdg (fun H1 locs1 h1 h2 h3 => ?_)
  rw [nI_clamp (Nat.lt_trans hk hn), sf_upl] at h1 h2
  exact kk H1 locs1 h1 h2 h3
theorem sf_topl {x y : Int64} (h : x = y) (k : W p l e R s m args below meth c H locs cells slots Q (F0 m pc ls (.long y :: rest))) : W p l e R s m args below meth c H locs cells slots Q (F0 m pc ls (.long x :: rest)) := by
  subst h
  exact k
/-- equal longs -/
theorem sf_lcmp (hexec : p.tables.exec = Jvm.exec) (hb : c.code = cc) {x y : Int64} (h : x = y) (hdg : decode cc pc = .ok (.lcmp, 1))
    (k : W p l e R s m args below meth c H locs cells slots Q (F0 m (pc + 1) ls (.int 0 :: rest))) : W p l e R s m args below meth c H locs cells slots Q (F0 m pc ls (.long y :: .long x :: rest)) := by
  subst h
  intro T hT X
  obtain ⟨t, a, b⟩ := k T hT X
  refine ⟨t, ?_, b⟩
  jvm_step X.here [X.here.top, hexec, hb, hdg, Int64.lt_irrefl]
  exact a
end SFL
abbrev wp_J (a : Nat) (cJ : ClassId) (n : Nat) (f : Nat → Int64) : Nat × va_E := (a, .inl (cJ, n, .inr (.inl f)))
def bl (b : Bool) : Int64 := if b = true then 1 else 0
/-- what isn't caught by a row of another class -/
def nc_ok (U : State) : Prop := va_Nc ex_O ex_I U ∧ va_Nc ex_S ex_I U ∧ va_Nc ex_A ex_I U ∧ va_Nc ex_A ex_S U
theorem nc_moved {u U : State} (h : u.vm.Alike U.vm) (hn : nc_ok u) : nc_ok U := ⟨va_Nc.moved h hn.1, va_Nc.moved h hn.2.1, va_Nc.moved h hn.2.2.1, va_Nc.moved h hn.2.2.2⟩
def sf_PL (D : va_G) (cl : List vw_C) (tys : List (ClassId × FieldType)) (sx : Nat → Nat) (ws : va_W) (sz : Nat) (av : List Value) : Array Value → State → Prop := va_Pc av (fun U => (U.heap.size = sz ∧ va_P D cl ws U.heap ∧ va_D (fun _ => True) ws ∧ va_K D cl tys U ∧ nw_ok U ∧ ev_ok sx (va_A ws sz) U U.heap) ∧ nc_ok U)
theorem sf_blindL {D : va_G} {cl : List vw_C} {tys : List (ClassId × FieldType)} {sx : Nat → Nat} {ws : va_W} {sz : Nat} {av : List Value} : FrameBlind (sf_PL D cl tys sx ws sz av) :=
  fun a U g mk q => ⟨q.1, ⟨q.2.1.1, q.2.1.2.1, q.2.1.2.2.1, va_K.moved (u := U) (U := U.calling g mk a) (Vm.Alike.refl U.vm) q.2.1.2.2.2.1, nw_same (u := U) (U := U.calling g mk a) rfl q.2.1.2.2.2.2.1, ev_same (u := U) (U := U.calling g mk a) rfl q.2.1.2.2.2.2.2⟩, nc_moved (u := U) (U := U.calling g mk a) (Vm.Alike.refl U.vm) q.2.2⟩
theorem sf_preL {s : State} {H H0 : Heap} {locs : List Loc} {A0 : Nat → Prop} {D : va_G} {cl : List vw_C} {tys : List (ClassId × FieldType)} {sx : Nat → Nat} {wc wr : va_W} {av : List Value} (hK : va_K D cl tys s) (hZ : nw_ok s) (hP : va_P D cl (wc ++ wr) H) (hD : va_D A0 (wc ++ wr)) (hE : ev_ok sx A0 s H0) (hN : nc_ok s) (hS : va_S A0 H0 H locs) (hA : ∀ q, H0.size ≤ q → A0 q) : PreS s H (sf_PL D cl tys sx wc H.size av) av :=
  ⟨sf_blindL, fun U hU hW => ⟨rfl, ⟨by rw [hU], by rw [hU]; exact sf_P_left hP, (sf_D_left hD).weaken (fun _ _ _ _ => trivial), va_K.moved hW.alike hK, nw_warm hW hZ, by rw [hU]; exact ev_use hE hS hW (sf_free hD hS hA)⟩, nc_moved hW.alike hN⟩⟩
theorem gw_W {own : String} {idx : Nat} {y : MethodName} {c : Cond} (h1 : Cond.methodLink own idx y ∈ gw_all) (h2 : Cond.static y ∈ gw_all) (h3 : Cond.initialized y.cls ∈ gw_all) (h4 : c ∈ gw_all) : GoodIn gw_all (va_wsS own idx y (c :: gw_all)) := by
  intro w hw
  unfold va_wsS at hw
  rcases List.mem_append.mp hw with h | h
  · simp only [List.mem_cons, List.not_mem_nil, or_false] at h
    rcases h with rfl | rfl | rfl
    · exact gw_G h1
    · exact gw_G h2
    · exact gw_G h3
  · exact gw_C h4 w h
theorem ex_c {E : String} {args : Array Value} {s : State} (hZ : ex_ok s) (h : Cond.castable E E ∈ ex_all) : (Cond.castable E E).before args s = true := va_Nw.use (ex_tb _ h) (hZ _ h)
theorem k2_ok {C1 C2 : Bool} (h : C1 = true ∧ C2 = true) : kc2 C1 C2 = 0 ∧ ∀ (α : Type) (a b : α), yn2 C1 C2 a b = a := by
  obtain ⟨rfl, rfl⟩ := h
  exact ⟨rfl, fun _ _ _ => rfl⟩
theorem k2_1 {C1 C2 : Bool} (h : C1 = false) : kc2 C1 C2 = 1 ∧ ∀ (α : Type) (a b : α), yn2 C1 C2 a b = b := by
  subst h
  exact ⟨rfl, fun _ _ _ => rfl⟩
theorem k2_2 {C1 C2 : Bool} (h1 : C1 = true) (h2 : C2 = false) : kc2 C1 C2 = 2 ∧ ∀ (α : Type) (a b : α), yn2 C1 C2 a b = b := by
  subst h1
  subst h2
  exact ⟨rfl, fun _ _ _ => rfl⟩
theorem k1_ok {C : Bool} (h : C = true) : kc1 C = 0 ∧ ∀ (α : Type) (a b : α), yn1 C a b = a := by
  subst h
  exact ⟨rfl, fun _ _ _ => rfl⟩
theorem k1_1 {C : Bool} (h : C = false) : kc1 C = 1 ∧ ∀ (α : Type) (a b : α), yn1 C a b = b := by
  subst h
  exact ⟨rfl, fun _ _ _ => rfl⟩
def yns {α : Type} (k : Int32) (a b : α) : α := if k = 0 then a else b
theorem ks_ok {n : Int32} {q : Int32 × st_Y} (h : fc_btw n 1 50 = true ∧ fs_hlt q.2.1.2.2.2.2 = false ∧ fs_hlt (fp_scanY n q).2.1.2.2.2.2 = false) : kcs n q = 0 ∧ ∀ (α : Type) (a b : α), yns (kcs n q) a b = a := by
  have e : kcs n q = 0 := by
    unfold kcs
    rw [if_pos h.1, if_neg (by rw [h.2.1]; decide), if_neg (by rw [h.2.2]; decide)]
  exact ⟨e, fun _ a b => if_pos e⟩
theorem ks_1 {n : Int32} {q : Int32 × st_Y} (h : fc_btw n 1 50 = false) : kcs n q = 1 ∧ ∀ (α : Type) (a b : α), yns (kcs n q) a b = b := by
  have e : kcs n q = 1 := by
    unfold kcs
    rw [if_neg (by rw [h]; decide)]
  exact ⟨e, fun _ a b => if_neg (by rw [e]; decide)⟩
theorem ks_2 {n : Int32} {q : Int32 × st_Y} (h : fc_btw n 1 50 = true) (h2 : fs_hlt q.2.1.2.2.2.2 = true) : kcs n q = 2 ∧ ∀ (α : Type) (a b : α), yns (kcs n q) a b = b := by
  have e : kcs n q = 2 := by
    unfold kcs
    rw [if_pos h, if_pos h2]
  exact ⟨e, fun _ a b => if_neg (by rw [e]; decide)⟩
theorem ks_3 {n : Int32} {q : Int32 × st_Y} (h : fc_btw n 1 50 = true) (h2 : fs_hlt q.2.1.2.2.2.2 = false) (h3 : fs_hlt (fp_scanY n q).2.1.2.2.2.2 = true) : kcs n q = 3 ∧ ∀ (α : Type) (a b : α), yns (kcs n q) a b = b := by
  have e : kcs n q = 3 := by
    unfold kcs
    rw [if_pos h, if_neg (by rw [h2]; decide), if_pos h3]
  exact ⟨e, fun _ a b => if_neg (by rw [e]; decide)⟩
