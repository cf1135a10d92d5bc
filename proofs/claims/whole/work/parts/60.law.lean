/-! THE CLAIM OUT OF ONE WALK OF THE LAW'S BODY. Your part is whole_start (and what it stands on); all else here is the same for every law, but numbers. -/
def R_law : String := "ScanForgeLaw"
def lw_P (b : Addr) (xs : List Int32) (args : Array Value) (s : State) : Prop := args = #[.ref b] ∧ s.IntsAt b xs ∧ xs.length ≤ 3584 ∧ (Jvm.Cond.and given_1 narrow_1).before args s = true
def lw_Q (_ : Array Value) (s : State) (o : Outcome) (t : State) : Prop := o = .returned (some (.int 1)) ∧ Framed s o t [] 639599 7177307
def lw_Z (below : List Frame) (a : Array Value) (s : State) : State → Prop := fun t => ∃ o, t.status = .running ∧ Ended t below o ∧ lw_Q a s o t
/-- the law's own end, with 1 on the stack, nothing written that was there before, its room as the claim has it -/
theorem lw_ret {p : Program} {l : Launch} {e : Env} {s : State} {m : MethodId} {below : List Frame} {meth : Method} {c : Code} {b : Nat} (hx : p.tables.exec = Jvm.exec) (hb : c.code = code) (hr : meth.sig.returnType = ret) (hlocks : meth.locks = false) {pc : Nat} {H : Heap} {ls : Array Slot} (hdg : decode code pc = .ok (.ireturn, 1)) : W p l e room_1 s m #[Value.ref b] below meth c H [] 639599 7177307 (lw_Z below #[Value.ref b] s) (F0 m pc ls [.int 1]) := by
  intro T hT X
  obtain ⟨fs, hret, hrun, hended, hW, hframe⟩ := X.leave (v := some (.int 1)) (hlocks := hlocks) (fun h => by rw [hr] at h; cases h)
  have hmeth' : T.vm.method? m = some meth := X.method'
  refine ⟨T.setFrames fs, ?_, .returned (some (.int 1)), hrun, hended, rfl, ⟨_, rfl⟩, hW, hframe⟩
  jvm_step X.here [X.here.top, hx, hb, hdg, hmeth', hr, ret, narrow_b1]
  (try refine ⟨rfl, ?_⟩); (try refine ⟨rfl, ?_⟩)
  first | (intro acts; rw [hret _ acts rfl rfl rfl]) | rw [hret _ _ rfl rfl rfl]
  exact Steps.refl _
/-- what holds at the law's entry: the machine, the code, the tables' words (any of lw_tbl by 'hts w (by decide +kernel)'), the script of L ints xs at the cell b, what the Statement gives of the start (any of its parts by flat_of_before) -/
def lw_At (p : Program) (s : State) (m : MethodId) (meth : Method) (c : Code) (b L : Nat) (xs : Nat → Int32) : Prop :=
  p.tables.exec = Jvm.exec ∧ c.code = code ∧ meth.sig.returnType = ret ∧ c.maxLocals = 9 ∧ s.vm.findClass R_law = some m.cls ∧ (∀ w ∈ lw_tbl, w.before #[Value.ref b] s = true) ∧ va_X b L xs s s.heap ∧ b < s.heap.size ∧ meth.locks = false ∧ (Jvm.Cond.and given_1 narrow_1).before #[Value.ref b] s = true
theorem ar_K {args : Array Value} {s : State} {ty : FieldType} (h : (Cond.arrayClass ty).before args s = true) : ∃ cA : ClassId, ArrOfT s cA ty ∧ s.vm.findClass ("[" ++ ty.toString) = some cA := by
  obtain ⟨cA, kA, comp, h1, h2, h3⟩ := Cond.arrayClass_spec h
  exact ⟨cA, fun n z => ⟨fun k h => (by cases h), kA, h2, comp, h3⟩, h1⟩
theorem ar_Q {args : Array Value} {s : State} {C : String} (h : (Cond.arrayOver (.object C)).before args s = true) : ∃ cA : ClassId, ArrOfT s cA (.object C) ∧ va_RA s cA (.object C) := by
  obtain ⟨comp, cA, kA, h4, -, h2, h3, h1⟩ := Cond.arrayOver_spec h
  exact ⟨cA, fun n z => ⟨fun k h => (by cases h), kA, h2, comp, h3⟩, kA, comp, h2, h3, h4, h1⟩
theorem str_R {args : Array Value} {s : State} {own tx : String} {k cur : Nat} (hc : s.vm.findClass own = some cur) (h : (Cond.stringRef own k tx).before args s = true) : ∃ a : Nat, vk_R own k tx a s := by
  obtain ⟨-, -, -, a, -, -, -, -, -, h6⟩ := Cond.stringRef_spec hc h
  exact ⟨a, vk_R.of h h6⟩
theorem nw_in : ∀ w ∈ nw_all, w ∈ lw_tbl := by decide +kernel
/-- from the entry, for every script of at most 3584 ints, the law comes to its end with true -/
theorem whole_start {p : Program} {e : Env} {s : State} {m : MethodId} {below : List Frame} {meth : Method} {c : Code} (l : Launch) (hlt : l.stackTraces = false) {b L : Nat} {xs : Nat → Int32} (hL : L ≤ 3584) (C0 : lw_At p s m meth c b L xs) : W p l e room_1 s m #[Value.ref b] below meth c s.heap [] 0 0 (lw_Z below #[Value.ref b] s) (entryFrame m ([Value.ref b] : List Value).toArray 9) := by
  obtain ⟨hx, hb, hr, hml, hown, hts, hX, hbl, hlocks, hgv⟩ := C0
  have hg : ∀ w ∈ gw_all, w.before #[Value.ref b] s = true := fun w h => hts w (gw_sub h)
  have hq := flat_of_before _ hgv
  obtain ⟨c0, i0, K0⟩ := u_known hg in_X0 (hg _ mw_76)
  obtain ⟨c1, i1, K1⟩ := u_known hg in_X1 (hg _ mw_42)
  obtain ⟨c2, i2, K2⟩ := u_known hg in_X2 (hg _ mw_33)
  obtain ⟨c3, i3, K3⟩ := u_known hg in_X3 (hg _ mw_494)
  obtain ⟨cI, hI1, hI2⟩ := ar_K (hg _ mw_73)
  obtain ⟨cZ, hZ1, hZ2⟩ := ar_K (hg _ mw_71)
  obtain ⟨cD, hD1, hD2⟩ := ar_K (hg _ mw_72)
  obtain ⟨cJ, hJ1, hJ2⟩ := ar_K (hg _ mw_691)
  have hO1 : va_AO RX1 s := va_AO.of (hts (.arrayOver (.object RX1)) (by decide +kernel))
  have hO2 : va_AO RX0 s := va_AO.of (hts (.arrayOver (.object RX0)) (by decide +kernel))
  obtain ⟨cR, hR1, hR2⟩ := ar_Q (args := #[]) hO1
  obtain ⟨cB, hB1, hB2⟩ := ar_Q (args := #[]) hO2
  have hK : va_K (fun k => match k with | 0 => c0 | 1 => c1 | 2 => c2 | _ => c3, fun k => match k with | 0 => i0 | 1 => i1 | 2 => i2 | _ => i3) vwCl [(cI, .int), (cZ, .boolean), (cD, .double), (cR, .object RX1), (cB, .object RX0), (cJ, .long)] s := by
    refine ⟨fun k q h => ?_, fun k q h => ?_⟩
    · match k, h with
      | 0, h => exact Option.some.inj (show some (RX0, TX0, 12) = some q from h) ▸ K0
      | 1, h => exact Option.some.inj (show some (RX1, TX1, 7) = some q from h) ▸ K1
      | 2, h => exact Option.some.inj (show some (RX2, TX2, 7) = some q from h) ▸ K2
      | 3, h => exact Option.some.inj (show some (RX3, TX3, 28) = some q from h) ▸ K3
      | k + 4, h => simp at h
    · match k, h with
      | 0, h => exact Option.some.inj (show some (cI, FieldType.int) = some q from h) ▸ ⟨hI1, hI2⟩
      | 1, h => exact Option.some.inj (show some (cZ, FieldType.boolean) = some q from h) ▸ ⟨hZ1, hZ2⟩
      | 2, h => exact Option.some.inj (show some (cD, FieldType.double) = some q from h) ▸ ⟨hD1, hD2⟩
      | 3, h => exact Option.some.inj (show some (cR, FieldType.object RX1) = some q from h) ▸ ⟨hR1, hR2⟩
      | 4, h => exact Option.some.inj (show some (cB, FieldType.object RX0) = some q from h) ▸ ⟨hB1, hB2⟩
      | 5, h => exact Option.some.inj (show some (cJ, FieldType.long) = some q from h) ▸ ⟨hJ1, hJ2⟩
      | k + 6, h => simp at h
  have hZ : nw_ok s := fun w h => va_Nw.of (nw_tb w h) (hts w (nw_in w h))
  have hX0 : ex_ok s := fun w h => va_Nw.of (ex_tb w h) (hts w (ex_in w h))
  obtain ⟨a0, hs0⟩ := str_R (own := RX2) (k := 125) (tx := ev_t0) K2.2.1 (hts (.stringRef RX2 125 ev_t0) (by decide +kernel))
  obtain ⟨a1, hs1⟩ := str_R (own := RX2) (k := 130) (tx := ev_t1) K2.2.1 (hts (.stringRef RX2 130 ev_t1) (by decide +kernel))
  obtain ⟨a2, hs2⟩ := str_R (own := RX2) (k := 93) (tx := ev_t2) K2.2.1 (hts (.stringRef RX2 93 ev_t2) (by decide +kernel))
  obtain ⟨a3, hs3⟩ := str_R (own := RX2) (k := 103) (tx := ev_t3) K2.2.1 (hts (.stringRef RX2 103 ev_t3) (by decide +kernel))
  have hAn : ∀ q : Nat, q < s.heap.size → ¬ s.heap.size ≤ q := fun q h => Nat.not_le.mpr h
  have hE : ev_ok (fun k => match k with | 0 => a0 | 1 => a1 | 2 => a2 | _ => a3) (fun q => s.heap.size ≤ q) s s.heap :=
    ⟨hX0, ⟨hs0, hs1, hs2, hs3⟩, vx_Zqof (hts (.laysStatic Jvm.Bundle.tN "UNASSIGNED_STACK" Jvm.Bundle.steD) (by decide +kernel)) (hts (.initialized Jvm.Bundle.tN) (by decide +kernel)) (hq _ (by decide +kernel)) hAn, vx_Zqof (hts (.laysStatic Jvm.Bundle.tN "SUPPRESSED_SENTINEL" Jvm.Bundle.listD) (by decide +kernel)) (hts (.initialized Jvm.Bundle.tN) (by decide +kernel)) (hq _ (by decide +kernel)) hAn⟩
  have hN : nc_ok s := ⟨va_Nc.of (hq _ (by decide +kernel)), va_Nc.of (hq _ (by decide +kernel)), va_Nc.of (hq _ (by decide +kernel)), va_Nc.of (hq _ (by decide +kernel))⟩
  have hl := lv_entry ([Value.ref b]) (n := 9) (Nat.le_of_ble_eq_true rfl)
  rw [lg_entry_eq]
  generalize (lg_sl ([Value.ref b]) ++ List.replicate (9 - (lg_sl ([Value.ref b])).length) Slot.unset).toArray = ls at hl ⊢
  exact g_entry hlt hL hx hb hml hown hg hZ hK hE hN hX hbl (hAn b hbl) (fun _ h => h) (fun _ h => h) hO1 hO2 (fun H ls => lw_ret hx hb hr hlocks dL_law_1263) hl
set_option maxHeartbeats 4000000 in
theorem lw_walk (l : Launch) (hlt : l.stackTraces = false) (b : Addr) (xs : List Int32) : MetFree l x (headSpec (Jvm.Cond.code x code maxLocals ret :: tables_1) room_1) (lw_P b xs) (fun _ _ _ _ _ => True) lw_Q := by
  refine MetFree.of_bodyS (code := code) (maxLocals := maxLocals) (ret := ret) (by decide) ?_ ?_
  · intro args s m h hn
    obtain ⟨meth, c, h1, h2, h3, h4, h5, h6, -, -⟩ := Cond.code_spec hn (atoms_spec (ws := Jvm.Cond.code x code maxLocals ret :: tables_1) h _ List.mem_cons_self)
    exact ⟨meth, c, h1, h2, h3, h4, h5, h6⟩
  · intro p e s m args below meth c s₁ B hml0 hP _
    obtain ⟨rfl, hx, hbd, hgv⟩ := hP
    obtain ⟨scr, harrAt, hlist, hof, hsmall⟩ := hx
    obtain ⟨hcb, hkn, -, -⟩ := State.arrayAt?_spec harrAt
    have hown : s.vm.findClass R_law = some m.cls := findClass_of_methodNamed B.named
    have hts0 : ∀ c ∈ (Jvm.Cond.code x code maxLocals ret :: tables_1), c.before #[Value.ref b] s = true := atoms_spec (ws := Jvm.Cond.code x code maxLocals ret :: tables_1) B.pre
    have hts : ∀ w ∈ lw_tbl, w.before #[Value.ref b] s = true := k2_hts_sels lw_privs (fun w hw => hts0 w (List.mem_cons_of_mem _ hw)) lw_privs_ok
    have hml : c.maxLocals = 9 := B.maxLocals_eq (hts0 _ List.mem_cons_self)
    have X₀ : Stand p l e room_1 s m #[Value.ref b] below meth c s₁ [] 0 0 := Stand.of_body B
    have hh0 : s₁.heap = s.heap := by rw [B.state]; rfl
    have hsz : scr.slots.size = xs.length := by rw [← Array.length_toList, hlist, List.length_map]
    have hval : ∀ j : Nat, j < xs.length → scr.slots[j]? = some (.int (xs.getD j 0)) := fun j hj => by
      rw [← Array.getElem?_toList, hlist]
      simp [hj]
    have hbl : b < s.heap.size := (Array.getElem?_eq_some_iff.mp hcb).1
    have hX : va_X b xs.length (fun j => xs.getD j 0) s s.heap := ⟨scr, hcb, hof, hkn, hsz, hval⟩
    have K : W p l e room_1 s m #[Value.ref b] below meth c s₁.heap [] 0 0 (lw_Z below #[Value.ref b] s) (entryFrame m ([Value.ref b] : List Value).toArray 9) := by
      rw [hh0]
      exact whole_start l hlt hbd ⟨B.exec, B.bytes, B.returns, hml, hown, hts, hX, hbl, B.notSynchronized, hgv⟩
    obtain ⟨t, a1, o, b1, b2, b3⟩ := K s₁ rfl X₀
    exact ⟨t, o, a1, b1, b2, b3⟩
theorem lw_pre_spec {args : Array Value} {s : State} (h : (Jvm.Cond.and given_1 narrow_1).before args s = true) (hr : rest_1_c.before args s = true) : ∃ (b : Addr) (xs : List Int32), lw_P b xs args s := by
  have hs := flat_of_before _ h
  have hq := flat_of_before _ hr
  have hc : (Cond.count 1).before args s = true := hs _ (by decide +kernel)
  have harr : (Cond.arrayOf (.arg 0) .int).before args s = true := hs _ (by decide +kernel)
  have hle : (Cond.le (.length (.arg 0)) (.int 3584)).before args s = true := hs _ (by decide +kernel)
  have hlen : (Cond.isInt (.length (.arg 0))).before args s = true := hq _ (by decide +kernel)
  have hall : (Cond.all (.arg 0) (.isInt (.elem (.arg 0) (.index 0)))).before args s = true := hq _ (by decide +kernel)
  obtain ⟨b, xs, hb, hx⟩ := State.ints_of_pre rfl harr hlen hall
  have hsm : xs.length < 2 ^ 31 := hx.choose_spec.2.2.2
  have hev : (Term.length (.arg 0)).eval args s none [] s = some (.int xs.length.toInt32) := hx.length_eval hb
  have hv := Cond.le_ints hev (show (Term.int 3584).eval args s none [] s = some (.int 3584) from rfl)
  have hd : xs.length.toInt32 ≤ 3584 := by
    simpa [Cond.before, Cond.holds, hv] using hle
  have hN : xs.length ≤ 3584 := (Int32.ofNat_le_ofNat hsm (by decide)).mp (show Int32.ofNat xs.length ≤ Int32.ofNat 3584 from hd)
  exact ⟨b, xs, Cond.one_arg hc (show args[0]? = some (.ref b) from hb), hx, hN, h⟩
theorem lw_comes (l : Launch) (hlt : l.stackTraces = false) : Comes l x (Jvm.Cond.code x code maxLocals ret :: tables_1) room_1 (fun tb e args s => Calls_1 tb e args s ∧ rest_1 tb e args s ∧ Pre_1 tb e args s)
    (fun _ _ args s o t => lw_Q args s o t) := by
  intro p e ha hc hk s m args below hf hfit hheap happ hpre
  obtain ⟨b, xs, hP⟩ := lw_pre_spec hpre.2.2 hpre.2.1
  obtain ⟨k, o, h1, h2, h3, hQ⟩ := lw_walk l hlt b xs p e ha hc hk s m args below hf ((Spec.applies_iff_loose hf).mp happ).1 hP trivial
  exact ⟨k, o, h1, h2, h3, hQ⟩
theorem lw_frame {s t : State} {o : Outcome} {args : Array Value} (h : Framed s o t [] 639599 7177307) :
    Framed s o t (fieldLocs frame_1_writes args s ++ arrayLocs frame_1_arrays args s ++ staticLocs frame_1_statics s) 639599 7177307 := h
theorem lw_limb (L : Cond) (hL : ∀ (args : Array Value) (s t : State), L.after args s (.returned (some (.int 1))) t = true) :
    ArmFor flags0 classFile x code maxLocals ret World_1 tables_1 room_1 Calls_1 rest_1 Pre_1
      (fun tb e a s o t => postC L tb e a s o t ∧ Framed s o t (fieldLocs frame_1_writes a s ++ arrayLocs frame_1_arrays a s ++ staticLocs frame_1_statics s) 639599 7177307) := by
  intro l hfl _ _ p e ha hc hk s m args below hf hfit hheap happ hpre
  obtain ⟨k, o, h1, h2, h3, rfl, hF⟩ := lw_comes l (by unfold Launch.stackTraces; rw [hfl]; decide) p e ha hc hk s m args below hf hfit hheap happ hpre
  exact ⟨k, _, h1, h2, h3, hL args s _, lw_frame hF⟩
theorem i_vc : Claimed_1_1 ∧ Claimed_1_2 := ⟨lw_limb limb_1_1 (fun args s t => by simp [limb_1_1, Cond.after, Cond.holds, Cond.value]), lw_limb limb_1_2 (fun args s t => Cond.after_iff.mpr (by
  first | (rw [show limb_1_2 = Cond.eq .result (.int 1) from rfl, Cond.eq_ints (x := 1) (y := 1) rfl rfl]; simp; done) | (simp [limb_1_2, Cond.value, Term.eval]; done)))⟩
