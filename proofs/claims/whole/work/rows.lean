section
-- ===== PART A: goes FIRST, ahead of the names: the tables' words, and 'selects' of the private methods out of them =====
/-- a private method of a class that the tables say can be made, by its rows of tables_1 -/
def lw_okq (q : MethodName × Nat) : Prop := (q.1.cls ≠ "java/lang/invoke/MethodHandle" ∧ q.1.cls ≠ "java/lang/invoke/VarHandle") ∧ Cond.instantiable q.1.cls q.2 ∈ tables_1 ∧ Cond.privateMethod q.1 ∈ tables_1 ∧ Cond.instanceMethod q.1 ∈ tables_1
theorem lw_p0 : lw_okq (⟨"java/lang/Throwable", "fillInStackTrace", "(I)Ljava/lang/Throwable;"⟩, 6) := ⟨⟨by decide +kernel, by decide +kernel⟩, List.mem_of_getElem? (i := 189) (by decide +kernel), List.mem_of_getElem? (i := 187) (by decide +kernel), List.mem_of_getElem? (i := 188) (by decide +kernel)⟩
theorem lw_p1 : lw_okq (⟨"ScanForge", "isHalted", "()Z"⟩, 7) := ⟨⟨by decide +kernel, by decide +kernel⟩, List.mem_of_getElem? (i := 13) (by decide +kernel), List.mem_of_getElem? (i := 334) (by decide +kernel), List.mem_of_getElem? (i := 335) (by decide +kernel)⟩
theorem lw_p2 : lw_okq (⟨"ScanForge", "scanOnce", "()V"⟩, 7) := ⟨⟨by decide +kernel, by decide +kernel⟩, List.mem_of_getElem? (i := 13) (by decide +kernel), List.mem_of_getElem? (i := 354) (by decide +kernel), List.mem_of_getElem? (i := 355) (by decide +kernel)⟩
theorem lw_p3 : lw_okq (⟨"ScanForge$Rung", "lookAtCell", "(I[Z)Z"⟩, 7) := ⟨⟨by decide +kernel, by decide +kernel⟩, List.mem_of_getElem? (i := 22) (by decide +kernel), List.mem_of_getElem? (i := 362) (by decide +kernel), List.mem_of_getElem? (i := 363) (by decide +kernel)⟩
theorem lw_p4 : lw_okq (⟨"ScanForge$Rung", "join", "(II)V"⟩, 7) := ⟨⟨by decide +kernel, by decide +kernel⟩, List.mem_of_getElem? (i := 22) (by decide +kernel), List.mem_of_getElem? (i := 370) (by decide +kernel), List.mem_of_getElem? (i := 371) (by decide +kernel)⟩
theorem lw_p5 : lw_okq (⟨"ScanForge", "drive", "(IIZ)V"⟩, 7) := ⟨⟨by decide +kernel, by decide +kernel⟩, List.mem_of_getElem? (i := 13) (by decide +kernel), List.mem_of_getElem? (i := 375) (by decide +kernel), List.mem_of_getElem? (i := 376) (by decide +kernel)⟩
theorem lw_p6 : lw_okq (⟨"ScanForge$Block", "delay", "(Z[Z)V"⟩, 12) := ⟨⟨by decide +kernel, by decide +kernel⟩, List.mem_of_getElem? (i := 56) (by decide +kernel), List.mem_of_getElem? (i := 383) (by decide +kernel), List.mem_of_getElem? (i := 384) (by decide +kernel)⟩
theorem lw_p7 : lw_okq (⟨"ScanForge$Block", "countRuns", "(Z[Z)V"⟩, 12) := ⟨⟨by decide +kernel, by decide +kernel⟩, List.mem_of_getElem? (i := 56) (by decide +kernel), List.mem_of_getElem? (i := 387) (by decide +kernel), List.mem_of_getElem? (i := 388) (by decide +kernel)⟩
theorem lw_p8 : lw_okq (⟨"ScanForge$Block", "regulate", "(Z[D)Z"⟩, 12) := ⟨⟨by decide +kernel, by decide +kernel⟩, List.mem_of_getElem? (i := 56) (by decide +kernel), List.mem_of_getElem? (i := 391) (by decide +kernel), List.mem_of_getElem? (i := 392) (by decide +kernel)⟩
theorem lw_p9 : lw_okq (⟨"ScanForge$Block", "keep", "(D[D)Z"⟩, 12) := ⟨⟨by decide +kernel, by decide +kernel⟩, List.mem_of_getElem? (i := 56) (by decide +kernel), List.mem_of_getElem? (i := 402) (by decide +kernel), List.mem_of_getElem? (i := 403) (by decide +kernel)⟩
theorem lw_p10 : lw_okq (⟨"ScanForge$Block", "calculate", "([D)Z"⟩, 12) := ⟨⟨by decide +kernel, by decide +kernel⟩, List.mem_of_getElem? (i := 56) (by decide +kernel), List.mem_of_getElem? (i := 407) (by decide +kernel), List.mem_of_getElem? (i := 408) (by decide +kernel)⟩
theorem lw_p11 : lw_okq (⟨"ScanForge", "takeFault", "(I)V"⟩, 7) := ⟨⟨by decide +kernel, by decide +kernel⟩, List.mem_of_getElem? (i := 13) (by decide +kernel), List.mem_of_getElem? (i := 411) (by decide +kernel), List.mem_of_getElem? (i := 412) (by decide +kernel)⟩
theorem lw_p12 : lw_okq (⟨"ScanForge", "bitsOn", "()I"⟩, 7) := ⟨⟨by decide +kernel, by decide +kernel⟩, List.mem_of_getElem? (i := 13) (by decide +kernel), List.mem_of_getElem? (i := 470) (by decide +kernel), List.mem_of_getElem? (i := 471) (by decide +kernel)⟩
theorem lw_p13 : lw_okq (⟨"ScanForgeModel", "fail", "(I)I"⟩, 28) := ⟨⟨by decide +kernel, by decide +kernel⟩, List.mem_of_getElem? (i := 474) (by decide +kernel), List.mem_of_getElem? (i := 576) (by decide +kernel), List.mem_of_getElem? (i := 577) (by decide +kernel)⟩
theorem lw_p14 : lw_okq (⟨"ScanForgeModel", "rung", "(I)Z"⟩, 28) := ⟨⟨by decide +kernel, by decide +kernel⟩, List.mem_of_getElem? (i := 474) (by decide +kernel), List.mem_of_getElem? (i := 621) (by decide +kernel), List.mem_of_getElem? (i := 622) (by decide +kernel)⟩
theorem lw_p15 : lw_okq (⟨"ScanForgeModel", "column", "(II)V"⟩, 28) := ⟨⟨by decide +kernel, by decide +kernel⟩, List.mem_of_getElem? (i := 474) (by decide +kernel), List.mem_of_getElem? (i := 625) (by decide +kernel), List.mem_of_getElem? (i := 626) (by decide +kernel)⟩
def lw_privs_1 : List (MethodName × Nat) := [(⟨"java/lang/Throwable", "fillInStackTrace", "(I)Ljava/lang/Throwable;"⟩, 6), (⟨"ScanForge", "isHalted", "()Z"⟩, 7), (⟨"ScanForge", "scanOnce", "()V"⟩, 7), (⟨"ScanForge$Rung", "lookAtCell", "(I[Z)Z"⟩, 7), (⟨"ScanForge$Rung", "join", "(II)V"⟩, 7), (⟨"ScanForge", "drive", "(IIZ)V"⟩, 7), (⟨"ScanForge$Block", "delay", "(Z[Z)V"⟩, 12), (⟨"ScanForge$Block", "countRuns", "(Z[Z)V"⟩, 12), (⟨"ScanForge$Block", "regulate", "(Z[D)Z"⟩, 12), (⟨"ScanForge$Block", "keep", "(D[D)Z"⟩, 12), (⟨"ScanForge$Block", "calculate", "([D)Z"⟩, 12), (⟨"ScanForge", "takeFault", "(I)V"⟩, 7), (⟨"ScanForge", "bitsOn", "()I"⟩, 7), (⟨"ScanForgeModel", "fail", "(I)I"⟩, 28), (⟨"ScanForgeModel", "rung", "(I)Z"⟩, 28), (⟨"ScanForgeModel", "column", "(II)V"⟩, 28)]
theorem lw_r1 : ∀ q ∈ lw_privs_1, lw_okq q := List.forall_mem_cons.mpr ⟨lw_p0, List.forall_mem_cons.mpr ⟨lw_p1, List.forall_mem_cons.mpr ⟨lw_p2, List.forall_mem_cons.mpr ⟨lw_p3, List.forall_mem_cons.mpr ⟨lw_p4, List.forall_mem_cons.mpr ⟨lw_p5, List.forall_mem_cons.mpr ⟨lw_p6, List.forall_mem_cons.mpr ⟨lw_p7, List.forall_mem_cons.mpr ⟨lw_p8, List.forall_mem_cons.mpr ⟨lw_p9, List.forall_mem_cons.mpr ⟨lw_p10, List.forall_mem_cons.mpr ⟨lw_p11, List.forall_mem_cons.mpr ⟨lw_p12, List.forall_mem_cons.mpr ⟨lw_p13, List.forall_mem_cons.mpr ⟨lw_p14, List.forall_mem_cons.mpr ⟨lw_p15, fun _ h => absurd h List.not_mem_nil⟩⟩⟩⟩⟩⟩⟩⟩⟩⟩⟩⟩⟩⟩⟩⟩
theorem lw_p16 : lw_okq (⟨"ScanForgeModel", "conducts", "(I)Z"⟩, 28) := ⟨⟨by decide +kernel, by decide +kernel⟩, List.mem_of_getElem? (i := 474) (by decide +kernel), List.mem_of_getElem? (i := 629) (by decide +kernel), List.mem_of_getElem? (i := 630) (by decide +kernel)⟩
theorem lw_p17 : lw_okq (⟨"ScanForgeModel", "perform", "(IZ)Z"⟩, 28) := ⟨⟨by decide +kernel, by decide +kernel⟩, List.mem_of_getElem? (i := 474) (by decide +kernel), List.mem_of_getElem? (i := 633) (by decide +kernel), List.mem_of_getElem? (i := 634) (by decide +kernel)⟩
theorem lw_p18 : lw_okq (⟨"ScanForgeModel", "tally", "(IZ)V"⟩, 28) := ⟨⟨by decide +kernel, by decide +kernel⟩, List.mem_of_getElem? (i := 474) (by decide +kernel), List.mem_of_getElem? (i := 637) (by decide +kernel), List.mem_of_getElem? (i := 638) (by decide +kernel)⟩
theorem lw_p19 : lw_okq (⟨"ScanForgeModel", "reckon", "(I)Z"⟩, 28) := ⟨⟨by decide +kernel, by decide +kernel⟩, List.mem_of_getElem? (i := 474) (by decide +kernel), List.mem_of_getElem? (i := 641) (by decide +kernel), List.mem_of_getElem? (i := 642) (by decide +kernel)⟩
def lw_privs_2 : List (MethodName × Nat) := [(⟨"ScanForgeModel", "conducts", "(I)Z"⟩, 28), (⟨"ScanForgeModel", "perform", "(IZ)Z"⟩, 28), (⟨"ScanForgeModel", "tally", "(IZ)V"⟩, 28), (⟨"ScanForgeModel", "reckon", "(I)Z"⟩, 28)]
theorem lw_r2 : ∀ q ∈ lw_privs_2, lw_okq q := List.forall_mem_cons.mpr ⟨lw_p16, List.forall_mem_cons.mpr ⟨lw_p17, List.forall_mem_cons.mpr ⟨lw_p18, List.forall_mem_cons.mpr ⟨lw_p19, fun _ h => absurd h List.not_mem_nil⟩⟩⟩⟩
def lw_privs : List (MethodName × Nat) := lw_privs_1 ++ (lw_privs_2)
def lw_tbl : List Cond := k2_sels lw_privs ++ tables_1
theorem lw_privs_ok : ∀ q ∈ lw_privs, lw_okq q := by
  show ∀ q ∈ lw_privs_1 ++ (lw_privs_2), lw_okq q
  exact List.forall_mem_append.mpr ⟨lw_r1, lw_r2⟩
/-! ===== BEGIN words of one list among another's, by their places ===== -/
theorem goodIn_r {big : List Cond} (ws : List Cond) (ps : List Nat) (hp : ws = ps.filterMap (fun i => big[i]?)) (h : ws.all goodWord = true) : GoodIn big ws := by
  intro w hw
  have h1 := List.all_eq_true.mp h w hw
  rw [hp] at hw
  obtain ⟨i, -, hi⟩ := List.mem_filterMap.mp hw
  have hm : w ∈ big := by first | exact List.mem_of_getElem? hi | exact List.getElem?_mem hi
  exact ⟨hm, good_of_word h1⟩
theorem goodIn_app {big a b : List Cond} (ha : GoodIn big a) (hb : GoodIn big b) : GoodIn big (a ++ b) := fun w h => (List.mem_append.mp h).elim (ha w) (hb w)
theorem goodIn_ca {big a b : List Cond} {c : Cond} (ha : GoodIn big (c :: a)) (hb : GoodIn big b) : GoodIn big (c :: (a ++ b)) := fun w h => (List.mem_cons.mp h).elim (fun e => ha w (List.mem_cons.mpr (Or.inl e))) (fun h => (List.mem_append.mp h).elim (fun h => ha w (List.mem_cons.mpr (Or.inr h))) (hb w))
theorem goodIn_sub {big ws : List Cond} (hm : ∀ w ∈ ws, w ∈ big) (h : ws.all goodWord = true) : GoodIn big ws := fun w hw => ⟨hm w hw, good_of_word (List.all_eq_true.mp h w hw)⟩
/-! ===== END ===== -/

/-! ===== BEGIN exceptions that leave a method, and their catching by the caller (launches without stack traces) ===== -/
section VXA
/-! The laws vx_back, vx_callV, vx_callS, vx_callSW, vx_throw0, vx_throwS follow proofs of the library, with one case more: JvmDerived/the library, Shelf42/LK1.lean (callV, callS), Shelf/KitTraced.lean (throwNew0V, throwNewS). -/
/-- where a method has thrown q: the class by its name, the cell, what was written, the world -/
def vx_T (XC : String → State → State → Prop) (st : State) (q : Addr) (t : State) (mc ms : Nat) (free : Addr → Prop) : Prop :=
  ∃ (E : String) (ce : Cell) (L : List Loc), XC E st t ∧ t.heap[q]? = some ce ∧ ce.vm = .none ∧ st.vm.findClass E = some ce.cls ∧ st.WarmedH t.vm ∧ st.sameButNew ({ t with vm := st.vm } : State) L mc ms ∧ ∀ z ∈ L, free z.base
def vx_Q (Qc : Array Value → State → Outcome → State → Prop) (XC : String → State → State → Prop) (mc ms : Nat) (free : Addr → Prop) : Array Value → State → Outcome → State → Prop := fun a st o t =>
  (Qc a st o t ∧ ∃ L, FrameEnd st o t L mc ms ∧ ∀ q ∈ L, free q.base) ∨ ∃ q, o = .threw q ∧ vx_T XC st q t mc ms free
/-- a callee that returns or throws -/
def vx_Met (l : Launch) (y : MethodName) (ws : List Cond) (rm : Room) (Pc : Array Value → State → Prop) (Qc : Array Value → State → Outcome → State → Prop) (XC : String → State → State → Prop) (mc ms : Nat) (free : Addr → Prop) : Prop :=
  MetFree l y (headSpec ws rm) Pc (fun _ _ _ _ _ => True) (vx_Q Qc XC mc ms free)
def vx_Post (XC : String → State → State → Prop) (mc ms : Nat) (free : Addr → Prop) : Pt → Array Value → Addr → Pt → Prop := fun A a q B =>
  ∃ (g : JFrame) (mk : MethodId) (t : State) (L : List Loc) (E : String) (ce : Cell), B.U.heap = t.heap ∧ B.U.vm = t.vm ∧ XC E (A.U.calling g mk a) t ∧ t.heap[q]? = some ce ∧ ce.vm = .none ∧ A.U.vm.findClass E = some ce.cls ∧ B.locs = A.locs ++ L ∧ (∀ z ∈ L, free z.base) ∧ B.cells = A.cells + mc ∧ B.slots = A.slots + ms
def vx_Back (l : Launch) (R : Room) (p : Program) (e : Env) (below : List Frame) (s : State) (sargs : Array Value) (y : MethodName) (len W9 : Nat)
    (Pre : Pt → Array Value → Prop) (Post : Pt → Array Value → Option Value → Pt → Prop) (PostX : Pt → Array Value → Addr → Pt → Prop) : Prop :=
  ∀ (m : MethodId) (meth : Method) (c : Code) (A : Pt) (g : JFrame) (ig : Instr) (mk : MethodId) (a : Array Value),
    Stand p l e R s m sargs below meth c A.U A.locs A.cells A.slots → g.method = m → g.locals.size = c.maxLocals → decode c.code g.pc = .ok (ig, len) →
    2 * g.monitorRoom + (g.stack.map fun v => v.category).sum ≤ W9 → A.U.methodNamed? y = some mk → Pre A a →
    (∃ (v : Option Value) (B : Pt), Stand p l e R s m sargs below meth c B.U B.locs B.cells B.slots ∧ Post A a v B ∧
      Steps p.tables e below (doInvoke e (A.U.setTop g) [] mk a).1 (B.U.setTop { g with pc := g.pc + len, stack := v.toList ++ g.stack })) ∨
    (∃ (q : Addr) (B : Pt), Stand p l e R s m sargs below meth c B.U B.locs B.cells B.slots ∧ PostX A a q B ∧
      Steps p.tables e below (doInvoke e (A.U.setTop g) [] mk a).1 ((B.U.setTop g).pushFrame (.throwing q)))
section Payer
variable {l : Launch} {R : Room} {p : Program} {e : Env} {below : List Frame} {s : State} {sargs : Array Value} {y : MethodName} {len W9 : Nat}
theorem vx_back {ws : List Cond} {rm : Room} {Pc : Array Value → State → Prop} {Qc : Array Value → State → Outcome → State → Prop} {XC : String → State → State → Prop} {mc ms : Nat} {free : Addr → Prop} {bytes : ByteArray} {maxL : Nat} {ret : Option FieldType}
    (hM : vx_Met l y ws rm Pc Qc XC mc ms free) (hblind : FrameBlind Pc) (hrc : rm.cells = mc) (hrs : rm.slots = ms)
    (hframes : rm.frames + 1 ≤ R.frames) (hlocals : W9 + (maxL + 11) + rm.locals ≤ R.locals)
    (hws : ∀ w ∈ ws, ∀ a' U, s.WarmedH U.vm → w.before a' U = true) (hcode : Cond.code y bytes maxL ret ∈ ws) (hinit : ∀ a' U, s.WarmedH U.vm → (Cond.initialized y.cls).before a' U = true) :
    vx_Back l R p e below s sargs y len W9 (PreOf R mc ms Pc) (PostOf Qc mc ms free) (vx_Post XC mc ms free) := by
  intro m meth c A g ig mk a X hg hsize hdg hW hn hp
  have h1 : (headSpec ws rm).pre.before a A.U = true := atoms_intro fun w hw => hws w hw _ _ X.warmed
  have h2 : (Cond.code y bytes maxL ret).before a A.U = true := hws _ hcode _ _ X.warmed
  have h3 : (Cond.initialized y.cls).before a A.U = true := hinit _ _ X.warmed
  have h4 : A.cells + (headSpec ws rm).room.cells ≤ R.cells := by rw [show (headSpec ws rm).room.cells = mc from hrc]; exact hp.1
  have h5 : A.slots + (headSpec ws rm).room.slots ≤ R.slots := by rw [show (headSpec ws rm).room.slots = ms from hrs]; exact hp.2.1
  have hPc : Pc a (A.U.calling g mk a) := hblind _ _ _ _ hp.2.2
  obtain ⟨U, Ls, c0, s0⟩ := A
  dsimp only [Pt.U, Pt.locs, Pt.cells, Pt.slots] at h1 h2 h3 h4 h5 X hn hPc ⊢
  obtain ⟨methY, cY, hmY, hcY, -, hlY, -, -, -, -⟩ := Cond.code_spec hn h2
  obtain ⟨kY, hkY, -⟩ := className_of_methodNamed hn
  have hinitY : kY.init = .initialized := Cond.initialized_spec (findClass_of_methodNamed hn) hkY h3
  have h : At U g.method c below := by rw [hg]; exact X.here
  have hlocals9 : W9 + (maxL + 11) + (headSpec ws rm).room.locals ≤ R.locals := hlocals
  have happ : (headSpec ws rm).appliesLoose y e.platform (U.calling g mk a) = true :=
    Spec.appliesLoose_calling (g := g) h hdg hn hkY hinitY
      (X.room_calling (g := g) (R' := (headSpec ws rm).room) hsize hmY hcY hframes (by rw [hlY]; omega) h4 h5) h1
  obtain ⟨mid, hmid⟩ := h.above
  have hfr : (U.setTop g).frames = (.java g :: mid) ++ below := by rw [State.frames_setTop' g h.top, hmid]; rfl
  obtain ⟨o, s₂, hsteps, -, hend, hq⟩ := Steps.callFree hM p X.admits X.cas X.clock (acts := []) hfr happ hPc trivial
  have hq' : vx_Q Qc XC mc ms free a (U.calling g mk a) o s₂ := hq
  rw [State.frames_setTop' g h.top] at hend
  obtain ⟨g₀, hg0⟩ := Option.isSome_iff_exists.mp h.top
  obtain ⟨r, hr⟩ := State.topJava?_eq_some.mp hg0
  have hr' : (({ U with heap := s₂.heap, slotsUsed := s₂.slotsUsed } : State).setVm s₂.vm).frames = .java g₀ :: r := hr
  rcases hq' with ⟨hqc, L, hfe, hL⟩ | ⟨q, rfl, E, ce, L, hx, hce, hcv, hcl, hW₂, hsm, hL⟩
  · obtain ⟨⟨v, rfl⟩, hW₂, e2, q2, q3, q4, q5, q6⟩ := id hfe
    have e3 : s₂ = ({ (U.calling g mk a).setFrames s₂.frames with heap := s₂.heap, slotsUsed := s₂.slotsUsed } : State).setVm s₂.vm := by
      have : s₂ = ({ s₂ with vm := (U.calling g mk a).vm } : State).setVm s₂.vm := rfl
      rw [e2] at this
      exact this
    obtain ⟨c₂, i₂, len₂, hc₂, hd₂, hf₂⟩ := hend
    have hW' : U.WarmedH s₂.vm := hW₂
    have hcc : c₂ = c := by
      have h1 : s₂.code? g.method = U.code? g.method := by
        rw [State.code?_eq, State.code?_eq, hW'.alike.method?]
      exact Option.some.inj (hc₂.symm.trans (h1.trans h.code))
    subst hcc
    have hlen : len₂ = len := by rw [hdg] at hd₂; cases hd₂; rfl
    subst hlen
    have hs₂ : s₂ = (({ U with heap := s₂.heap, slotsUsed := s₂.slotsUsed } : State).setVm s₂.vm).setTop { g with pc := g.pc + len₂, stack := v.toList ++ g.stack } := by
      refine e3.trans ?_
      rw [hf₂, State.calling_eq h.top, State.setFrames_setFrames, State.setTop_of_frames _ hr', hr]
      rfl
    have hsame : U.sameButNew ({ U with heap := s₂.heap, slotsUsed := s₂.slotsUsed } : State) L mc ms := by
      refine ⟨?_, q2, q3, q4, q5, q6⟩
      obtain ⟨t, ht, -⟩ := State.frames_cons hr
      show ({ U with heap := s₂.heap, slotsUsed := s₂.slotsUsed } : State) = { U.setFrames U.frames with heap := s₂.heap, slotsUsed := s₂.slotsUsed }
      rw [State.setFrames_self ht]
    subst hg
    refine Or.inl ⟨v, ⟨(({ U with heap := s₂.heap, slotsUsed := s₂.slotsUsed } : State).setVm s₂.vm), Ls ++ L, c0 + mc, s0 + ms⟩,
      ⟨X.admits, X.cas, X.clock, X.frames, X.room, X.hears, X.method, X.code, (X.here.setHeapUsed s₂.heap s₂.slotsUsed).setVm hW'.alike, X.tail, State.WarmedH.trans X.warmed hW', X.limits, X.bytes, X.same.trans (hsame.setVm s.vm)⟩,
      ⟨g, mk, s₂, L, rfl, rfl, hqc, rfl, hL, rfl, rfl⟩, ?_⟩
    show Steps p.tables e below _ ((({ U with heap := s₂.heap, slotsUsed := s₂.slotsUsed } : State).setVm s₂.vm).setTop { g with pc := g.pc + len₂, stack := v.toList ++ g.stack })
    rw [← hs₂]
    exact hsteps
  · obtain ⟨e2, q2, q3, q4, q5, q6⟩ := id hsm
    have e3 : s₂ = ({ (U.calling g mk a).setFrames s₂.frames with heap := s₂.heap, slotsUsed := s₂.slotsUsed } : State).setVm s₂.vm := by
      have : s₂ = ({ s₂ with vm := (U.calling g mk a).vm } : State).setVm s₂.vm := rfl
      rw [e2] at this
      exact this
    have hf₂ : s₂.frames = .throwing q :: .java g :: U.frames.tail := hend
    have hW' : U.WarmedH s₂.vm := hW₂
    have hs₂ : s₂ = ((({ U with heap := s₂.heap, slotsUsed := s₂.slotsUsed } : State).setVm s₂.vm).setTop g).pushFrame (.throwing q) := by
      refine e3.trans ?_
      rw [hf₂, State.calling_eq h.top, State.setFrames_setFrames, State.pushFrame, State.frames_setTop _ hr', State.setTop_of_frames _ hr', State.setFrames_setFrames, hr]
      rfl
    have hsame : U.sameButNew ({ U with heap := s₂.heap, slotsUsed := s₂.slotsUsed } : State) L mc ms := by
      refine ⟨?_, q2, q3, q4, q5, q6⟩
      obtain ⟨t, ht, -⟩ := State.frames_cons hr
      show ({ U with heap := s₂.heap, slotsUsed := s₂.slotsUsed } : State) = { U.setFrames U.frames with heap := s₂.heap, slotsUsed := s₂.slotsUsed }
      rw [State.setFrames_self ht]
    subst hg
    refine Or.inr ⟨q, ⟨(({ U with heap := s₂.heap, slotsUsed := s₂.slotsUsed } : State).setVm s₂.vm), Ls ++ L, c0 + mc, s0 + ms⟩,
      ⟨X.admits, X.cas, X.clock, X.frames, X.room, X.hears, X.method, X.code, (X.here.setHeapUsed s₂.heap s₂.slotsUsed).setVm hW'.alike, X.tail, State.WarmedH.trans X.warmed hW', X.limits, X.bytes, X.same.trans (hsame.setVm s.vm)⟩,
      ⟨g, mk, s₂, L, E, ce, rfl, rfl, hx, hce, hcv, hcl, rfl, hL, rfl, rfl⟩, ?_⟩
    show Steps p.tables e below _ (((({ U with heap := s₂.heap, slotsUsed := s₂.slotsUsed } : State).setVm s₂.vm).setTop g).pushFrame (.throwing q))
    rw [← hs₂]
    exact hsteps
end Payer
section Calls
variable {p : Program} {l : Launch} {e : Env} {R : Room} {s : State} {m : MethodId} {args : Array Value} {below : List Frame} {meth : Method} {c : Code} {T : State} {locs : List Loc} {cells slots : Nat}
theorem vx_callV (X : Stand p l e R s m args below meth c T locs cells slots) (hexec : p.tables.exec = Jvm.exec) {own C : String} {index : Nat} {y : MethodName} {bytes : ByteArray} {maxL : Nat} {ret : Option FieldType}
    (hown : s.vm.findClass own = some m.cls) (hlink : (Cond.methodLink own index y).before args s = true) (hinst : (Cond.instanceMethod y).before args s = true) (hsel : (Cond.selects C y y).before args s = true)
    (hcode : (Cond.code y bytes maxL ret).before args s = true) (hy : y.cls ≠ "java/lang/invoke/MethodHandle" ∧ y.cls ≠ "java/lang/invoke/VarHandle")
    {W9 : Nat} {Pre : Pt → Array Value → Prop} {Post : Pt → Array Value → Option Value → Pt → Prop} {PostX : Pt → Array Value → Addr → Pt → Prop} (hK : vx_Back l R p e below s args y 3 W9 Pre Post PostX)
    {b : Addr} {cellB : Cell} (hcell : T.heap[b]? = some cellB) (hobj : cellB.vm.isStatics = false) (hcls : s.vm.findClass C = some cellB.cls)
    {g : JFrame} (hg : g.method = m) (hsize : g.locals.size = c.maxLocals) {argsL rest : List Value} (hlen : ∀ sig, parseMethodDescriptor y.desc = some sig → argsL.length = sig.parameters.length)
    (hstack : g.stack = argsL.reverse ++ .ref b :: rest) (hW : 2 * g.monitorRoom + (rest.map fun v => v.category).sum ≤ W9) (hdg : decode c.code g.pc = .ok (.invokevirtual index, 3))
    (hpre : ∀ vm₁, s.WarmedH vm₁ → Pre ⟨T.setVm vm₁, locs, cells, slots⟩ (Value.ref b :: argsL).toArray) :
    (∃ (v : Option Value) (vm₁ : Vm) (B : Pt), s.WarmedH vm₁ ∧ Stand p l e R s m args below meth c B.U B.locs B.cells B.slots ∧ Post ⟨T.setVm vm₁, locs, cells, slots⟩ (Value.ref b :: argsL).toArray v B ∧
      ∀ target, Steps p.tables e below (B.U.setTop { g with pc := g.pc + 3, stack := v.toList ++ rest }) target → Steps p.tables e below (T.setTop g) target) ∨
    (∃ (q : Addr) (vm₁ : Vm) (B : Pt), s.WarmedH vm₁ ∧ Stand p l e R s m args below meth c B.U B.locs B.cells B.slots ∧ PostX ⟨T.setVm vm₁, locs, cells, slots⟩ (Value.ref b :: argsL).toArray q B ∧
      Steps p.tables e below (T.setTop g) ((B.U.setTop { g with stack := rest }).pushFrame (.throwing q))) := by
  obtain ⟨mk, methM, hnamed, hmethM, hstM, habM⟩ := Cond.instanceMethod_spec hinst
  obtain ⟨methM', cM, hmethM', -, -, -, -, -, -, hsigM⟩ := Cond.code_spec hnamed hcode
  cases hmethM.symm.trans hmethM'
  obtain ⟨c2, r2, m2, q1, q2, q3, q4, kP, hkP, hkPi⟩ := Cond.selects_spec hsel
  cases hcls.symm.trans q1
  cases (State.methodFound?_of_named hnamed hy).symm.trans q2
  cases hnamed.symm.trans q3
  have hselP : selectMethod e.platform s.vm cellB.cls mk = .method mk := by rw [Launch.admits_selectMethod X.admits]; exact q4
  obtain ⟨vm₁, X₁, hstep₁⟩ := X.invokevirtual hexec hown hlink hnamed hmethM hstM hkP hkPi hy (a := b) (cell := cellB) hcell
    (fun z h => by rw [h] at hobj; cases hobj) hselP hmethM habM hkP hkPi (g := g) hg (argsL := argsL) (rest := rest) (hlen _ hsigM) hstack hdg
  rcases hK m meth c ⟨T.setVm vm₁, locs, cells, slots⟩ { g with stack := rest } (.invokevirtual index) mk (Value.ref b :: argsL).toArray X₁ hg hsize hdg hW (X₁.named hnamed) (hpre vm₁ X₁.warmed) with ⟨v, B, X', hpost, hsteps⟩ | ⟨q, B, X', hpost, hsteps⟩
  · exact Or.inl ⟨v, vm₁, B, X₁.warmed, X', hpost, fun target h => hstep₁ _ fun acts => by rw [doInvoke_state]; exact hsteps.trans h⟩
  · exact Or.inr ⟨q, vm₁, B, X₁.warmed, X', hpost, hstep₁ _ fun acts => by rw [doInvoke_state]; exact hsteps⟩
theorem vx_callS (X : Stand p l e R s m args below meth c T locs cells slots) (hexec : p.tables.exec = Jvm.exec) {own : String} {index : Nat} {y : MethodName} {bytes : ByteArray} {maxL : Nat} {ret : Option FieldType}
    (hown : s.vm.findClass own = some m.cls) (hlink : (Cond.methodLink own index y).before args s = true) (hstat : (Cond.static y).before args s = true) (hinit : (Cond.initialized y.cls).before args s = true)
    (hcode : (Cond.code y bytes maxL ret).before args s = true) (hy : y.cls ≠ "java/lang/invoke/MethodHandle" ∧ y.cls ≠ "java/lang/invoke/VarHandle")
    {W9 : Nat} {Pre : Pt → Array Value → Prop} {Post : Pt → Array Value → Option Value → Pt → Prop} {PostX : Pt → Array Value → Addr → Pt → Prop} (hK : vx_Back l R p e below s args y 3 W9 Pre Post PostX)
    {g : JFrame} (hg : g.method = m) (hsize : g.locals.size = c.maxLocals) {argsL rest : List Value} (hlen : ∀ sig, parseMethodDescriptor y.desc = some sig → argsL.length = sig.parameters.length)
    (hstack : g.stack = argsL.reverse ++ rest) (hW : 2 * g.monitorRoom + (rest.map fun v => v.category).sum ≤ W9) (hdg : decode c.code g.pc = .ok (.invokestatic index, 3))
    (hpre : ∀ vm₁, s.WarmedH vm₁ → Pre ⟨T.setVm vm₁, locs, cells, slots⟩ argsL.toArray) :
    (∃ (v : Option Value) (vm₁ : Vm) (B : Pt), s.WarmedH vm₁ ∧ Stand p l e R s m args below meth c B.U B.locs B.cells B.slots ∧ Post ⟨T.setVm vm₁, locs, cells, slots⟩ argsL.toArray v B ∧
      ∀ target, Steps p.tables e below (B.U.setTop { g with pc := g.pc + 3, stack := v.toList ++ rest }) target → Steps p.tables e below (T.setTop g) target) ∨
    (∃ (q : Addr) (vm₁ : Vm) (B : Pt), s.WarmedH vm₁ ∧ Stand p l e R s m args below meth c B.U B.locs B.cells B.slots ∧ PostX ⟨T.setVm vm₁, locs, cells, slots⟩ argsL.toArray q B ∧
      Steps p.tables e below (T.setTop g) ((B.U.setTop { g with stack := rest }).pushFrame (.throwing q))) := by
  obtain ⟨mk, hnamed⟩ := Cond.code_named hcode
  obtain ⟨methM, cM, hmethM, -, -, -, -, -, -, hsigM⟩ := Cond.code_spec hnamed hcode
  have hstatic : methM.isStatic = true := Cond.static_spec hnamed hmethM hstat
  obtain ⟨kP, hkP, -⟩ := className_of_methodNamed hnamed
  have hinitP : kP.init = .initialized := Cond.initialized_spec (findClass_of_methodNamed hnamed) hkP hinit
  obtain ⟨vm₁, X₁, hstep₁⟩ := X.invokestatic hexec hown hlink hnamed hmethM hstatic hkP hinitP hy (g := g) hg (argsL := argsL) (rest := rest) (hlen _ hsigM) hstack hdg
  rcases hK m meth c ⟨T.setVm vm₁, locs, cells, slots⟩ { g with stack := rest } (.invokestatic index) mk argsL.toArray X₁ hg hsize hdg hW (X₁.named hnamed) (hpre vm₁ X₁.warmed) with ⟨v, B, X', hpost, hsteps⟩ | ⟨q, B, X', hpost, hsteps⟩
  · exact Or.inl ⟨v, vm₁, B, X₁.warmed, X', hpost, fun target h => hstep₁ _ fun acts => by rw [doInvoke_state]; exact hsteps.trans h⟩
  · exact Or.inr ⟨q, vm₁, B, X₁.warmed, X', hpost, hstep₁ _ fun acts => by rw [doInvoke_state]; exact hsteps⟩
end Calls
theorem vx_cls {s : State} {T : State} {vm₁ : Vm} {E : String} {k : ClassId} (hW : s.WarmedH vm₁) (h : (T.setVm vm₁).vm.findClass E = some k) : s.vm.findClass E = some k := by
  have h1 : vm₁.findClass E = some k := h
  rw [hW.alike.findClass] at h1
  exact h1
/-- the method's frame g, with q thrown over it -/
def vx_W (p : Program) (l : Launch) (e : Env) (R : Room) (s : State) (m : MethodId) (args : Array Value) (below : List Frame) (meth : Method) (c : Code) (H : Heap) (locs : List Loc) (cells slots : Nat) (Q : State → Prop) (g : JFrame) (q : Addr) : Prop :=
  ∀ T : State, T.heap = H → Stand p l e R s m args below meth c T locs cells slots → ∃ t, Steps p.tables e below ((T.setTop g).pushFrame (.throwing q)) t ∧ Q t
def vx_Run (p : Program) (l : Launch) (e : Env) (R : Room) (s : State) (m : MethodId) (args : Array Value) (below : List Frame) (meth : Method) (c : Code) (H : Heap) (locs : List Loc) (cells slots mc ms : Nat) (g : JFrame) (rest : List Value) (Qa : State → Outcome → State → Prop) (XC : String → State → State → Prop) (free : Addr → Prop) : Prop :=
  ∀ T : State, T.heap = H → Stand p l e R s m args below meth c T locs cells slots →
    (∃ (v : Option Value) (st₀ t T' : State) (L : List Loc), st₀.heap = H ∧ Stand p l e R s m args below meth c T' (locs ++ L) (cells + mc) (slots + ms) ∧ (∀ q ∈ L, free q.base) ∧ T'.heap = t.heap ∧ T'.vm = t.vm ∧ Qa st₀ (.returned v) t ∧
      Goes p e below T g T' { g with pc := g.pc + 3, stack := v.toList ++ rest }) ∨
    (∃ (q : Addr) (st₀ t T' : State) (L : List Loc) (E : String) (ce : Cell), st₀.heap = H ∧ Stand p l e R s m args below meth c T' (locs ++ L) (cells + mc) (slots + ms) ∧ (∀ z ∈ L, free z.base) ∧ T'.heap = t.heap ∧ T'.vm = t.vm ∧ XC E st₀ t ∧ t.heap[q]? = some ce ∧ ce.vm = .none ∧ s.vm.findClass E = some ce.cls ∧
      Steps p.tables e below (T.setTop g) ((T'.setTop { g with stack := rest }).pushFrame (.throwing q)))
def vx_X {S : Type} (px : S → Prop) (B : String → S → State → Prop) (A : Nat → Prop) : String → State → State → Prop := fun E st t => ∃ u : S, px u ∧ B E u t ∧ va_F A st t
section Runs
variable {p : Program} {l : Launch} {e : Env} {R : Room} {s : State} {m : MethodId} {args : Array Value} {below : List Frame} {meth : Method} {c : Code} {H : Heap} {locs : List Loc} {cells slots : Nat}
variable {y : MethodName} {bytes cc : ByteArray} {maxL nL mc ms n index : Nat} {ret : Option FieldType} {ws : List Cond} {rm : Room} {Pc : Array Value → State → Prop} {Qc : Array Value → State → Outcome → State → Prop} {XC : String → State → State → Prop} {free : Addr → Prop} {Ts : List Cond} {own C : String} {b : Addr} {As rest : List Value} {g : JFrame}
theorem vx_callBack (cb : CallB R s args own index y bytes maxL ret ws rm mc ms n) (hM : vx_Met l y ws rm Pc Qc XC mc ms free) (hbl : FrameBlind Pc) : vx_Back l R p e below s args y 3 8 (PreOf R mc ms Pc) (PostOf Qc mc ms free) (vx_Post XC mc ms free) := by
  obtain ⟨hrc, hrs, hfr, hlo, hws, hcw, -, hini, -⟩ := cb
  exact vx_back (bytes := bytes) (maxL := maxL) (ret := ret) hM hbl hrc hrs hfr hlo hws hcw (fun a' U hW => word_at hW (Or.inl (by first | rfl | simp [Cond.onTables, Cond.keeps, Cond.steady])) hini)
theorem vx_runV (S : CallFix p m c cc nL s args Ts own) (hM : vx_Met l y ws rm Pc Qc XC mc ms free) (cw : CallW R s args own C index y bytes maxL ret ws rm mc ms n) (hp : PreV s H C b Pc As)
    (hg : g.method = m) (hn : As.length = n) (hsize : g.locals.size = nL) (hstack : g.stack = As.reverse ++ .ref b :: rest) (hW : 2 * g.monitorRoom + (rest.map fun v => v.category).sum ≤ 8) (hdg : decode cc g.pc = .ok (.invokevirtual index, 3)) (hf : cells + mc ≤ R.cells ∧ slots + ms ≤ R.slots) :
    vx_Run p l e R s m args below meth c H locs cells slots mc ms g rest (Qc (Value.ref b :: As).toArray) XC free := by
  have hK : vx_Back l R p e below s args y 3 8 (PreOf R mc ms Pc) (PostOf Qc mc ms free) (vx_Post XC mc ms free) := vx_callBack cw.1 hM hp.1
  obtain ⟨⟨-, -, -, -, -, -, hcode, -, hy, hlen, hl⟩, hin, hse⟩ := cw
  obtain ⟨hx, hb, hml, ho, -⟩ := S
  obtain ⟨-, ⟨cellB, hcB, hoB, hclB⟩, hPc⟩ := hp
  intro T hT X
  rcases vx_callV X hx (C := C) (bytes := bytes) (maxL := maxL) (ret := ret) ho hl hin hse hcode hy hK (by rw [hT]; exact hcB) hoB hclB hg (hsize.trans hml.symm) (argsL := As) (rest := rest) (fun sig h => hn.trans (hlen sig h)) hstack hW (by rw [hb]; exact hdg)
    (fun vm₁ hW₁ => ⟨hf.1, hf.2, hPc (T.setVm vm₁) hT hW₁⟩) with ⟨v, vm₁, ⟨U', l2, c2, s2⟩, hW₁, X', ⟨g', mk, t, L, e1, e2, hq, h1, hL, h2, h3⟩, st⟩ | ⟨q, vm₁, ⟨U', l2, c2, s2⟩, hW₁, X', ⟨g', mk, t, L, E, ce, e1, e2, hq, hce, hcv, hcl, h1, hL, h2, h3⟩, st⟩
  · dsimp only [Pt.U, Pt.locs, Pt.cells, Pt.slots] at X' e1 e2 h1 h2 h3 st
    subst h1; subst h2; subst h3
    exact Or.inl ⟨v, (T.setVm vm₁).calling g' mk (Value.ref b :: As).toArray, t, U', L, hT, X', hL, e1, e2, hq, st⟩
  · dsimp only [Pt.U, Pt.locs, Pt.cells, Pt.slots] at X' e1 e2 h1 h2 h3 st hcl
    subst h1; subst h2; subst h3
    exact Or.inr ⟨q, (T.setVm vm₁).calling g' mk (Value.ref b :: As).toArray, t, U', L, E, ce, hT, X', hL, e1, e2, hq, hce, hcv, vx_cls hW₁ hcl, st⟩
theorem vx_runS (S : CallFix p m c cc nL s args Ts own) (hM : vx_Met l y ws rm Pc Qc XC mc ms free) (cw : CallB R s args own index y bytes maxL ret ws rm mc ms n ∧ (Cond.static y).before args s = true) (hp : PreS s H Pc As)
    (hg : g.method = m) (hn : As.length = n) (hsize : g.locals.size = nL) (hstack : g.stack = As.reverse ++ rest) (hW : 2 * g.monitorRoom + (rest.map fun v => v.category).sum ≤ 8) (hdg : decode cc g.pc = .ok (.invokestatic index, 3)) (hf : cells + mc ≤ R.cells ∧ slots + ms ≤ R.slots) :
    vx_Run p l e R s m args below meth c H locs cells slots mc ms g rest (Qc As.toArray) XC free := by
  have hK : vx_Back l R p e below s args y 3 8 (PreOf R mc ms Pc) (PostOf Qc mc ms free) (vx_Post XC mc ms free) := vx_callBack cw.1 hM hp.1
  obtain ⟨⟨-, -, -, -, -, -, hcode, hini, hy, hlen, hl⟩, hstt⟩ := cw
  obtain ⟨hx, hb, hml, ho, -⟩ := S
  intro T hT X
  rcases vx_callS X hx (bytes := bytes) (maxL := maxL) (ret := ret) ho hl hstt hini hcode hy hK hg (hsize.trans hml.symm) (argsL := As) (rest := rest) (fun sig h => hn.trans (hlen sig h)) hstack hW (by rw [hb]; exact hdg)
    (fun vm₁ hW₁ => ⟨hf.1, hf.2, hp.2 (T.setVm vm₁) hT hW₁⟩) with ⟨v, vm₁, ⟨U', l2, c2, s2⟩, hW₁, X', ⟨g', mk, t, L, e1, e2, hq, h1, hL, h2, h3⟩, st⟩ | ⟨q, vm₁, ⟨U', l2, c2, s2⟩, hW₁, X', ⟨g', mk, t, L, E, ce, e1, e2, hq, hce, hcv, hcl, h1, hL, h2, h3⟩, st⟩
  · dsimp only [Pt.U, Pt.locs, Pt.cells, Pt.slots] at X' e1 e2 h1 h2 h3 st
    subst h1; subst h2; subst h3
    exact Or.inl ⟨v, (T.setVm vm₁).calling g' mk As.toArray, t, U', L, hT, X', hL, e1, e2, hq, st⟩
  · dsimp only [Pt.U, Pt.locs, Pt.cells, Pt.slots] at X' e1 e2 h1 h2 h3 st hcl
    subst h1; subst h2; subst h3
    exact Or.inr ⟨q, (T.setVm vm₁).calling g' mk As.toArray, t, U', L, E, ce, hT, X', hL, e1, e2, hq, hce, hcv, vx_cls hW₁ hcl, st⟩
end Runs
section Rows
variable {p : Program} {l : Launch} {e : Env} {R : Room} {s : State} {m : MethodId} {args : Array Value} {below : List Frame} {meth : Method} {c : Code} {H : Heap} {locs : List Loc} {cells slots : Nat} {Q : State → Prop}
variable {mc ms : Nat} {free : Addr → Prop} {A0 A1 : Nat → Prop} {H0 : Heap} {a : Array Value} {pc : Nat} {ls : Array Slot} {st0 rest : List Value}
theorem vx_keep {st₀ t T' : State} {L : List Loc} (h0 : st₀.heap = H) (e1 : T'.heap = t.heap) (hS : va_S A0 H0 H locs) (hA : ∀ q, q < H.size → A1 q → A0 q) (hf : ∀ q, free q → A0 q) (hL : ∀ q ∈ L, free q.base) (hF : va_F A1 st₀ t) :
    H.size ≤ T'.heap.size ∧ (∀ q : Nat, q < H.size → ¬ A1 q → T'.heap[q]? = H[q]?) ∧ va_S A0 H0 T'.heap (locs ++ L) := by
  obtain ⟨hz, hk⟩ := hF
  rw [h0] at hz hk
  exact ⟨by rw [e1]; exact hz, fun q h1 h2 => by rw [e1]; exact hk q h1 h2,
    ⟨Nat.le_trans hS.1 (by rw [e1]; exact hz), fun q h1 h2 => by rw [e1, hk q (Nat.lt_of_lt_of_le h1 hS.1) (fun z => h2 (hA q (Nat.lt_of_lt_of_le h1 hS.1) z))]; exact hS.2.1 q h1 h2, fun q hq => by
      rcases List.mem_append.mp hq with h | h
      · exact hS.2.2 q h
      · exact hf _ (hL q h)⟩⟩
theorem vx_calli {S SX : Type} {post : Int32 → S → Prop} {px : SX → Prop} {B : S → State → Prop} {BX : String → SX → State → Prop} {AX : Nat → Prop} (hr : vx_Run p l e R s m args below meth c H locs cells slots mc ms (F0 m pc ls st0) rest (va_Qi post B A1 a) (vx_X px BX AX) free) (hS : va_S A0 H0 H locs) (hA : ∀ q, q < H.size → A1 q → A0 q) (hf : ∀ q, free q → A0 q) (hAX : ∀ q, q < H.size → AX q → A0 q)
    (kx : ∀ (E : String) (ce : Cell) (q9 : Addr) (u : SX) (t : State) (H1 : Heap) (locs1 : List Loc), t.heap = H1 → s.vm.Alike t.vm → px u → BX E u t → H.size ≤ H1.size → (∀ q : Nat, q < H.size → ¬ AX q → H1[q]? = H[q]?) → va_S A0 H0 H1 locs1 → H1[q9]? = some ce → ce.vm = .none → s.vm.findClass E = some ce.cls → vx_W p l e R s m args below meth c H1 locs1 (cells + mc) (slots + ms) Q (F0 m pc ls rest) q9)
    (kk : ∀ (r : Int32) (u : S) (t : State) (H1 : Heap) (locs1 : List Loc), t.heap = H1 → s.vm.Alike t.vm → post r u → B u t → H.size ≤ H1.size → (∀ q : Nat, q < H.size → ¬ A1 q → H1[q]? = H[q]?) → va_S A0 H0 H1 locs1 → W p l e R s m args below meth c H1 locs1 (cells + mc) (slots + ms) Q (F0 m (pc + 3) ls (.int r :: rest))) : W p l e R s m args below meth c H locs cells slots Q (F0 m pc ls st0) := by
  intro T hT X
  rcases hr T hT X with ⟨v, st₀, t, T', L, h0, X', hL, e1, e2, ⟨⟨r, u, hv, hp, hb⟩, hF⟩, st⟩ | ⟨q, st₀, t, T', L, E, ce, h0, X', hL, e1, e2, ⟨u, hp, hb, hF⟩, hce, hcv, hcl, st⟩
  · cases hv
    obtain ⟨k1, k2, k3⟩ := vx_keep h0 e1 hS hA hf hL hF
    obtain ⟨t2, a1, b1⟩ := kk r u t T'.heap (locs ++ L) e1.symm (by rw [← e2]; exact X'.warmed.alike) hp hb k1 k2 k3 T' rfl X'
    exact ⟨t2, st t2 a1, b1⟩
  · obtain ⟨k1, k2, k3⟩ := vx_keep h0 e1 hS hAX hf hL hF
    obtain ⟨t2, a1, b1⟩ := kx E ce q u t T'.heap (locs ++ L) e1.symm (by rw [← e2]; exact X'.warmed.alike) hp hb k1 k2 k3 (by rw [e1]; exact hce) hcv hcl T' rfl X'
    exact ⟨t2, st.trans a1, b1⟩
theorem vx_calll {S SX : Type} {post : Int64 → S → Prop} {px : SX → Prop} {B : S → State → Prop} {BX : String → SX → State → Prop} {AX : Nat → Prop} (hr : vx_Run p l e R s m args below meth c H locs cells slots mc ms (F0 m pc ls st0) rest (va_Ql post B A1 a) (vx_X px BX AX) free) (hS : va_S A0 H0 H locs) (hA : ∀ q, q < H.size → A1 q → A0 q) (hf : ∀ q, free q → A0 q) (hAX : ∀ q, q < H.size → AX q → A0 q)
    (kx : ∀ (E : String) (ce : Cell) (q9 : Addr) (u : SX) (t : State) (H1 : Heap) (locs1 : List Loc), t.heap = H1 → s.vm.Alike t.vm → px u → BX E u t → H.size ≤ H1.size → (∀ q : Nat, q < H.size → ¬ AX q → H1[q]? = H[q]?) → va_S A0 H0 H1 locs1 → H1[q9]? = some ce → ce.vm = .none → s.vm.findClass E = some ce.cls → vx_W p l e R s m args below meth c H1 locs1 (cells + mc) (slots + ms) Q (F0 m pc ls rest) q9)
    (kk : ∀ (r : Int64) (u : S) (t : State) (H1 : Heap) (locs1 : List Loc), t.heap = H1 → s.vm.Alike t.vm → post r u → B u t → H.size ≤ H1.size → (∀ q : Nat, q < H.size → ¬ A1 q → H1[q]? = H[q]?) → va_S A0 H0 H1 locs1 → W p l e R s m args below meth c H1 locs1 (cells + mc) (slots + ms) Q (F0 m (pc + 3) ls (.long r :: rest))) : W p l e R s m args below meth c H locs cells slots Q (F0 m pc ls st0) := by
  intro T hT X
  rcases hr T hT X with ⟨v, st₀, t, T', L, h0, X', hL, e1, e2, ⟨⟨r, u, hv, hp, hb⟩, hF⟩, st⟩ | ⟨q, st₀, t, T', L, E, ce, h0, X', hL, e1, e2, ⟨u, hp, hb, hF⟩, hce, hcv, hcl, st⟩
  · cases hv
    obtain ⟨k1, k2, k3⟩ := vx_keep h0 e1 hS hA hf hL hF
    obtain ⟨t2, a1, b1⟩ := kk r u t T'.heap (locs ++ L) e1.symm (by rw [← e2]; exact X'.warmed.alike) hp hb k1 k2 k3 T' rfl X'
    exact ⟨t2, st t2 a1, b1⟩
  · obtain ⟨k1, k2, k3⟩ := vx_keep h0 e1 hS hAX hf hL hF
    obtain ⟨t2, a1, b1⟩ := kx E ce q u t T'.heap (locs ++ L) e1.symm (by rw [← e2]; exact X'.warmed.alike) hp hb k1 k2 k3 (by rw [e1]; exact hce) hcv hcl T' rfl X'
    exact ⟨t2, st.trans a1, b1⟩
theorem vx_callf {S SX : Type} {post : UInt32 → S → Prop} {px : SX → Prop} {B : S → State → Prop} {BX : String → SX → State → Prop} {AX : Nat → Prop} (hr : vx_Run p l e R s m args below meth c H locs cells slots mc ms (F0 m pc ls st0) rest (va_Qf post B A1 a) (vx_X px BX AX) free) (hS : va_S A0 H0 H locs) (hA : ∀ q, q < H.size → A1 q → A0 q) (hf : ∀ q, free q → A0 q) (hAX : ∀ q, q < H.size → AX q → A0 q)
    (kx : ∀ (E : String) (ce : Cell) (q9 : Addr) (u : SX) (t : State) (H1 : Heap) (locs1 : List Loc), t.heap = H1 → s.vm.Alike t.vm → px u → BX E u t → H.size ≤ H1.size → (∀ q : Nat, q < H.size → ¬ AX q → H1[q]? = H[q]?) → va_S A0 H0 H1 locs1 → H1[q9]? = some ce → ce.vm = .none → s.vm.findClass E = some ce.cls → vx_W p l e R s m args below meth c H1 locs1 (cells + mc) (slots + ms) Q (F0 m pc ls rest) q9)
    (kk : ∀ (r : UInt32) (u : S) (t : State) (H1 : Heap) (locs1 : List Loc), t.heap = H1 → s.vm.Alike t.vm → post r u → B u t → H.size ≤ H1.size → (∀ q : Nat, q < H.size → ¬ A1 q → H1[q]? = H[q]?) → va_S A0 H0 H1 locs1 → W p l e R s m args below meth c H1 locs1 (cells + mc) (slots + ms) Q (F0 m (pc + 3) ls (.float r :: rest))) : W p l e R s m args below meth c H locs cells slots Q (F0 m pc ls st0) := by
  intro T hT X
  rcases hr T hT X with ⟨v, st₀, t, T', L, h0, X', hL, e1, e2, ⟨⟨r, u, hv, hp, hb⟩, hF⟩, st⟩ | ⟨q, st₀, t, T', L, E, ce, h0, X', hL, e1, e2, ⟨u, hp, hb, hF⟩, hce, hcv, hcl, st⟩
  · cases hv
    obtain ⟨k1, k2, k3⟩ := vx_keep h0 e1 hS hA hf hL hF
    obtain ⟨t2, a1, b1⟩ := kk r u t T'.heap (locs ++ L) e1.symm (by rw [← e2]; exact X'.warmed.alike) hp hb k1 k2 k3 T' rfl X'
    exact ⟨t2, st t2 a1, b1⟩
  · obtain ⟨k1, k2, k3⟩ := vx_keep h0 e1 hS hAX hf hL hF
    obtain ⟨t2, a1, b1⟩ := kx E ce q u t T'.heap (locs ++ L) e1.symm (by rw [← e2]; exact X'.warmed.alike) hp hb k1 k2 k3 (by rw [e1]; exact hce) hcv hcl T' rfl X'
    exact ⟨t2, st.trans a1, b1⟩
theorem vx_calld {S SX : Type} {post : UInt64 → S → Prop} {px : SX → Prop} {B : S → State → Prop} {BX : String → SX → State → Prop} {AX : Nat → Prop} (hr : vx_Run p l e R s m args below meth c H locs cells slots mc ms (F0 m pc ls st0) rest (va_Qd post B A1 a) (vx_X px BX AX) free) (hS : va_S A0 H0 H locs) (hA : ∀ q, q < H.size → A1 q → A0 q) (hf : ∀ q, free q → A0 q) (hAX : ∀ q, q < H.size → AX q → A0 q)
    (kx : ∀ (E : String) (ce : Cell) (q9 : Addr) (u : SX) (t : State) (H1 : Heap) (locs1 : List Loc), t.heap = H1 → s.vm.Alike t.vm → px u → BX E u t → H.size ≤ H1.size → (∀ q : Nat, q < H.size → ¬ AX q → H1[q]? = H[q]?) → va_S A0 H0 H1 locs1 → H1[q9]? = some ce → ce.vm = .none → s.vm.findClass E = some ce.cls → vx_W p l e R s m args below meth c H1 locs1 (cells + mc) (slots + ms) Q (F0 m pc ls rest) q9)
    (kk : ∀ (r : UInt64) (u : S) (t : State) (H1 : Heap) (locs1 : List Loc), t.heap = H1 → s.vm.Alike t.vm → post r u → B u t → H.size ≤ H1.size → (∀ q : Nat, q < H.size → ¬ A1 q → H1[q]? = H[q]?) → va_S A0 H0 H1 locs1 → W p l e R s m args below meth c H1 locs1 (cells + mc) (slots + ms) Q (F0 m (pc + 3) ls (.double r :: rest))) : W p l e R s m args below meth c H locs cells slots Q (F0 m pc ls st0) := by
  intro T hT X
  rcases hr T hT X with ⟨v, st₀, t, T', L, h0, X', hL, e1, e2, ⟨⟨r, u, hv, hp, hb⟩, hF⟩, st⟩ | ⟨q, st₀, t, T', L, E, ce, h0, X', hL, e1, e2, ⟨u, hp, hb, hF⟩, hce, hcv, hcl, st⟩
  · cases hv
    obtain ⟨k1, k2, k3⟩ := vx_keep h0 e1 hS hA hf hL hF
    obtain ⟨t2, a1, b1⟩ := kk r u t T'.heap (locs ++ L) e1.symm (by rw [← e2]; exact X'.warmed.alike) hp hb k1 k2 k3 T' rfl X'
    exact ⟨t2, st t2 a1, b1⟩
  · obtain ⟨k1, k2, k3⟩ := vx_keep h0 e1 hS hAX hf hL hF
    obtain ⟨t2, a1, b1⟩ := kx E ce q u t T'.heap (locs ++ L) e1.symm (by rw [← e2]; exact X'.warmed.alike) hp hb k1 k2 k3 (by rw [e1]; exact hce) hcv hcl T' rfl X'
    exact ⟨t2, st.trans a1, b1⟩
theorem vx_callv {S SX : Type} {post : S → Prop} {px : SX → Prop} {B : S → State → Prop} {BX : String → SX → State → Prop} {AX : Nat → Prop} (hr : vx_Run p l e R s m args below meth c H locs cells slots mc ms (F0 m pc ls st0) rest (va_Qv post B A1 a) (vx_X px BX AX) free) (hS : va_S A0 H0 H locs) (hA : ∀ q, q < H.size → A1 q → A0 q) (hf : ∀ q, free q → A0 q) (hAX : ∀ q, q < H.size → AX q → A0 q)
    (kx : ∀ (E : String) (ce : Cell) (q9 : Addr) (u : SX) (t : State) (H1 : Heap) (locs1 : List Loc), t.heap = H1 → s.vm.Alike t.vm → px u → BX E u t → H.size ≤ H1.size → (∀ q : Nat, q < H.size → ¬ AX q → H1[q]? = H[q]?) → va_S A0 H0 H1 locs1 → H1[q9]? = some ce → ce.vm = .none → s.vm.findClass E = some ce.cls → vx_W p l e R s m args below meth c H1 locs1 (cells + mc) (slots + ms) Q (F0 m pc ls rest) q9)
    (kk : ∀ (u : S) (t : State) (H1 : Heap) (locs1 : List Loc), t.heap = H1 → s.vm.Alike t.vm → post u → B u t → H.size ≤ H1.size → (∀ q : Nat, q < H.size → ¬ A1 q → H1[q]? = H[q]?) → va_S A0 H0 H1 locs1 → W p l e R s m args below meth c H1 locs1 (cells + mc) (slots + ms) Q (F0 m (pc + 3) ls (rest))) : W p l e R s m args below meth c H locs cells slots Q (F0 m pc ls st0) := by
  intro T hT X
  rcases hr T hT X with ⟨v, st₀, t, T', L, h0, X', hL, e1, e2, ⟨⟨u, hv, hp, hb⟩, hF⟩, st⟩ | ⟨q, st₀, t, T', L, E, ce, h0, X', hL, e1, e2, ⟨u, hp, hb, hF⟩, hce, hcv, hcl, st⟩
  · cases hv
    obtain ⟨k1, k2, k3⟩ := vx_keep h0 e1 hS hA hf hL hF
    obtain ⟨t2, a1, b1⟩ := kk u t T'.heap (locs ++ L) e1.symm (by rw [← e2]; exact X'.warmed.alike) hp hb k1 k2 k3 T' rfl X'
    exact ⟨t2, st t2 a1, b1⟩
  · obtain ⟨k1, k2, k3⟩ := vx_keep h0 e1 hS hAX hf hL hF
    obtain ⟨t2, a1, b1⟩ := kx E ce q u t T'.heap (locs ++ L) e1.symm (by rw [← e2]; exact X'.warmed.alike) hp hb k1 k2 k3 (by rw [e1]; exact hce) hcv hcl T' rfl X'
    exact ⟨t2, st.trans a1, b1⟩
/-- caught by the row x of this method's table; the rows ahead don't take it -/
theorem vx_catch {own name : String} {E : String} {ce : Cell} {q : Addr} (hown : s.vm.findClass own = some m.cls) (pre : List ExceptionTableEntry) (x : ExceptionTableEntry) (suf : List ExceptionTableEntry) (hsplit : c.exceptionTable.toList = pre ++ x :: suf)
    (hpass : ∀ z ∈ pre, covers z pc = false ∨ (z.catchType ≠ 0 ∧ ∃ nm : String, (Cond.classLink own z.catchType nm).before args s = true ∧ va_Nc E nm s)) (hx : covers x pc = true) (h0 : x.catchType ≠ 0)
    (hlink : (Cond.classLink own x.catchType name).before args s = true) (hcast : (Cond.castable E name).before args s = true) (hcell : H[q]? = some ce) (hv : ce.vm = .none) (hcl : s.vm.findClass E = some ce.cls)
    (kk : W p l e R s m args below meth c H locs cells slots Q (F0 m x.handlerPc ls [.ref q])) : vx_W p l e R s m args below meth c H locs cells slots Q (F0 m pc ls rest) q := by
  intro T hT X
  have hpl : e.platform.magicAccessors = ({} : Platform).magicAccessors := by rw [X.admits.platform]
  obtain ⟨c3, c4, hc3, hc4, hasg⟩ := Cond.castable_spec hcast
  cases Option.some.inj (hc3.symm.trans hcl)
  obtain ⟨c5, hc5, hcl5⟩ := Cond.classLink_spec hown hlink e.platform hpl
  cases Option.some.inj (hc4.symm.trans hc5)
  obtain ⟨vm', X', st⟩ := X.thenCaughtThrough q (g := F0 m pc ls rest) rfl (Steps.refl _) (by rw [hT]; exact hcell) (by rw [hv]; rfl) (by obtain ⟨k9, h9, -⟩ := Vm.findClass_spec hcl; exact ⟨k9, h9⟩) pre x suf hsplit
    (fun z hz => by
      rcases hpass z hz with h | ⟨hz0, nm, hl1, hn1⟩
      · exact Or.inl h
      · obtain ⟨c6, hc6, hcl6⟩ := Cond.classLink_spec hown hl1 e.platform hpl
        obtain ⟨a8, b8, h1, h2, h3⟩ := hn1
        cases Option.some.inj (h1.symm.trans hcl)
        cases Option.some.inj (h2.symm.trans hc6)
        exact Or.inr ⟨hz0, _, hcl6, h3⟩) hx (Or.inr ⟨h0, c4, hcl5, hasg⟩)
  obtain ⟨t, a1, b1⟩ := kk (T.setVm vm') hT X'
  exact ⟨t, st.trans a1, b1⟩
end Rows
section Ends
variable {p : Program} {l : Launch} {e : Env} {R : Room} {s : State} {m : MethodId} {args : Array Value} {below : List Frame} {meth : Method} {c : Code} {H : Heap} {locs : List Loc} {cells slots : Nat} {Q : State → Prop}
variable {mc ms : Nat} {free : Addr → Prop} {A0 A1 : Nat → Prop} {H0 : Heap} {a : Array Value} {ls : Array Slot} {st0 rest : List Value}
variable {Qc : Array Value → State → Outcome → State → Prop} {XC : String → State → State → Prop}
/-- what a body that may throw owes at its end -/
def vx_MQ (below : List Frame) (Qc : Array Value → State → Outcome → State → Prop) (XC : String → State → State → Prop) (a : Array Value) (s : State) (mc ms : Nat) (free : Addr → Prop) : State → Prop := fun t =>
  ∃ o, t.status = .running ∧ Ended t below o ∧ vx_Q Qc XC mc ms free a s o t
theorem vx_ret {g : JFrame} {mc ms : Nat} (k : W p l e R s m args below meth c H locs cells slots (MQ below Qc args s mc ms free) g) : W p l e R s m args below meth c H locs cells slots (vx_MQ below Qc XC args s mc ms free) g := by
  intro T hT X
  obtain ⟨t, a1, o, b1, b2, b3, b4⟩ := k T hT X
  exact ⟨t, a1, o, b1, b2, Or.inl ⟨b3, b4⟩⟩
/-- not caught here: it goes on to the caller -/
theorem vx_widen {g : JFrame} {q : Addr} {k n : Nat} (h1 : cells ≤ k) (h2 : slots ≤ n) (kk : vx_W p l e R s m args below meth c H locs k n Q g q) : vx_W p l e R s m args below meth c H locs cells slots Q g q := fun T hT X => kk T hT (stand_widen X h1 h2)
theorem vx_out {pc : Nat} {E : String} {ce : Cell} {q : Addr} {mc ms : Nat} (hout : ∀ x ∈ c.exceptionTable.toList, covers x pc = false) (hlocks : meth.locks = false) (hcell : H[q]? = some ce) (hv : ce.vm = .none) (hcl : s.vm.findClass E = some ce.cls)
    (hx : ∀ t : State, t.heap = H → s.vm.Alike t.vm → XC E s t) (hf : ∀ z ∈ locs, free z.base) (hc : cells ≤ mc) (hs : slots ≤ ms) :
    vx_W p l e R s m args below meth c H locs cells slots (vx_MQ below Qc XC args s mc ms free) (F0 m pc ls rest) q := by
  intro T hT X
  obtain ⟨st1, hrun, hend, hW, hsm⟩ := X.leaveThrown q (g := F0 m pc ls rest) rfl rfl rfl hout hlocks
  have hcell9 : (T.setFrames (.throwing q :: below)).heap[q]? = some ce := by
    show T.heap[q]? = some ce
    rw [hT]; exact hcell
  exact ⟨_, st1, .threw q, hrun, hend, Or.inr ⟨q, rfl, E, ce, locs, hx _ hT hW.alike, hcell9, hv, hcl, hW, hsm.mono hc hs, hf⟩⟩
theorem vx_frame {U : State} {k n : Nat} (h : s.sameButNew ({ U with vm := s.vm } : State) locs k n) : s.heap.size ≤ U.heap.size ∧ ∀ q : Nat, q < s.heap.size → (∀ z ∈ locs, z.base ≠ q) → U.heap[q]? = s.heap[q]? := by
  obtain ⟨-, h2, -, -, -, h6⟩ := h
  refine ⟨h2, fun q hq hz => ?_⟩
  obtain ⟨c9, e1, e2, e3, e4⟩ := h6 q _ (Array.getElem?_eq_getElem hq)
  have hs : c9.slots = (s.heap[q]).slots := Array.ext_getElem? fun i => e4 i fun hm => hz _ hm rfl
  have h9 : c9 = s.heap[q] := by
    rw [hs] at e2
    exact e2
  have e5 : U.heap[q]? = some c9 := e1
  rw [e5, h9, Array.getElem?_eq_getElem hq]
/-- the words of a throw but the four that speak of the heap -/
def vx_no (w : Cond) : Bool := decide (w ≠ .isRef (.static Jvm.Bundle.tN "UNASSIGNED_STACK" Jvm.Bundle.steD)) && decide (w ≠ .isRef (.static Jvm.Bundle.tN "SUPPRESSED_SENTINEL" Jvm.Bundle.listD)) && decide (w ≠ .laysStatic Jvm.Bundle.tN "UNASSIGNED_STACK" Jvm.Bundle.steD) && decide (w ≠ .laysStatic Jvm.Bundle.tN "SUPPRESSED_SENTINEL" Jvm.Bundle.listD)
def vx_at0 (own : String) (ic : Nat) (X : String) (names : List String) : List Cond := (Jvm.Bundle.ownAtoms0 own ic X names).filter vx_no
def vx_atS (own : String) (ic : Nat) (X : String) (names : List String) : List Cond := (Jvm.Bundle.ownAtoms own ic X names).filter vx_no
/-- a word that the tables alone decide, or a good one -/
def vx_ot (w : Cond) : Bool := w.onTables || goodWord w
theorem vx_ot_at {args a' : Array Value} {s U : State} {w : Cond} (hW : s.WarmedH U.vm) (hvm : s.vm = U.vm) (hg : vx_ot w = true) (h : w.before args s = true) : w.before a' U = true := by
  simp only [vx_ot, Bool.or_eq_true] at hg
  rcases hg with hg | hg
  · exact va_tabs hg hvm h
  · exact word_at hW (good_of_word hg) h
/-- a list's words: the good ones out of the method's own list, the others by premises of their own -/
theorem vx_hat {args : Array Value} {s : State} {L B : List Cond} (h1 : ∀ w ∈ L.filter goodWord, w.before args s = true) (h2 : ∀ w ∈ L.filter (fun w => !goodWord w), w ∈ B) (h3 : ∀ w ∈ B, w.before args s = true) : ∀ w ∈ L, w.before args s = true := by
  intro w hw
  by_cases g : goodWord w = true
  · exact h1 w (List.mem_filter.mpr ⟨hw, g⟩)
  · refine h3 w (h2 w (List.mem_filter.mpr ⟨hw, ?_⟩))
    show (!goodWord w) = true
    cases hgw : goodWord w
    · rfl
    · exact absurd hgw g
theorem vx_c {args : Array Value} {s : State} {w : Cond} {B : List Cond} (h : w.before args s = true) (t : ∀ w ∈ B, w.before args s = true) : ∀ w' ∈ w :: B, w'.before args s = true := fun w' h' => (List.mem_cons.mp h').elim (fun e => by rw [e]; exact h) (t w')
theorem vx_n {args : Array Value} {s : State} : ∀ w ∈ ([] : List Cond), w.before args s = true := fun _ h => nomatch h
theorem vx_own {args : Array Value} {s : State} {L : List Cond} (h1 : ∀ w ∈ L.filter vx_no, w.before args s = true)
    (hU : (Cond.isRef (.static Jvm.Bundle.tN "UNASSIGNED_STACK" Jvm.Bundle.steD)).before args s = true) (hN : (Cond.isRef (.static Jvm.Bundle.tN "SUPPRESSED_SENTINEL" Jvm.Bundle.listD)).before args s = true)
    (lU : (Cond.laysStatic Jvm.Bundle.tN "UNASSIGNED_STACK" Jvm.Bundle.steD).before args s = true) (lN : (Cond.laysStatic Jvm.Bundle.tN "SUPPRESSED_SENTINEL" Jvm.Bundle.listD).before args s = true) : ∀ w ∈ L, w.before args s = true := by
  intro w hw
  by_cases e1 : w = .isRef (.static Jvm.Bundle.tN "UNASSIGNED_STACK" Jvm.Bundle.steD)
  · rw [e1]; exact hU
  · by_cases e2 : w = .isRef (.static Jvm.Bundle.tN "SUPPRESSED_SENTINEL" Jvm.Bundle.listD)
    · rw [e2]; exact hN
    · by_cases e3 : w = .laysStatic Jvm.Bundle.tN "UNASSIGNED_STACK" Jvm.Bundle.steD
      · rw [e3]; exact lU
      · by_cases e4 : w = .laysStatic Jvm.Bundle.tN "SUPPRESSED_SENTINEL" Jvm.Bundle.listD
        · rw [e4]; exact lN
        · exact h1 w (List.mem_filter.mpr ⟨hw, by unfold vx_no; rw [decide_eq_true e1, decide_eq_true e2, decide_eq_true e3, decide_eq_true e4]; rfl⟩)
/-- where a static field lies, its class's statics cell in H -/
def vx_L (C n d : String) (A : Nat → Prop) (U : State) (H : Heap) : Prop := ∃ (c : ClassId) (k : Class) (i : Nat) (f : Field) (a : Nat) (cell : Cell), U.vm.findClass C = some c ∧ U.fieldFound? C n d = some (c, k, i, f) ∧ f.isStatic = true ∧ k.statics = some a ∧ H[a]? = some cell ∧ cell.vm.isStatics = true ∧ cell.cls = c ∧ f.slot < cell.slots.size ∧ k.staticTypes[f.slot]? = some f.type ∧ ¬ A a
theorem vx_L.moved {C n d : String} {A : Nat → Prop} {u U : State} {H : Heap} (hvm : u.vm.Alike U.vm) (h : vx_L C n d A u H) : vx_L C n d A U H := by
  obtain ⟨c, k, i, f, a, cell, h1, h2, h3, h4, h5, h6, h7, h8, h9, h10⟩ := h
  obtain ⟨k', hi', he⟩ := State.fieldFound?_setVm hvm h2
  exact ⟨c, k', i, f, a, cell, by rw [hvm.findClass]; exact h1, hi', h3, by rw [he]; exact h4, h5, h6, h7, h8, by rw [he]; exact h9, h10⟩
theorem vx_L.kept {C n d : String} {A : Nat → Prop} {U : State} {H H1 : Heap} (h : vx_L C n d A U H) (hq : ∀ a : Nat, a < H.size → ¬ A a → H1[a]? = H[a]?) : vx_L C n d A U H1 := by
  obtain ⟨c, k, i, f, a, cell, h1, h2, h3, h4, h5, h6, h7, h8, h9, h10⟩ := h
  exact ⟨c, k, i, f, a, cell, h1, h2, h3, h4, by rw [hq a (Array.getElem?_eq_some_iff.mp h5).1 h10]; exact h5, h6, h7, h8, h9, h10⟩
theorem vx_L.narrow {C n d : String} {A B : Nat → Prop} {U : State} {H : Heap} (h : vx_L C n d A U H) (hAB : ∀ q, B q → A q) : vx_L C n d B U H := by
  obtain ⟨c, k, i, f, a, cell, h1, h2, h3, h4, h5, h6, h7, h8, h9, h10⟩ := h
  exact ⟨c, k, i, f, a, cell, h1, h2, h3, h4, h5, h6, h7, h8, h9, fun z => h10 (hAB _ z)⟩
theorem vx_L.word {C n d : String} {A : Nat → Prop} {s : State} {args : Array Value} (h : vx_L C n d A s s.heap) : (Cond.laysStatic C n d).before args s = true := by
  obtain ⟨c, k, i, f, a, cell, h1, h2, h3, h4, h5, h6, h7, h8, h9, -⟩ := h
  show (Cond.laysStatic C n d).holds args s none s [] = true
  exact Cond.laysStatic_of h1 h2 h3 h4 h5 h6 h7 h8 h9
/-- .. and what it holds: null or some reference -/
def vx_Zq (C n d : String) (A : Nat → Prop) (U : State) (H : Heap) : Prop := va_Zq C n d A U H ∧ vx_L C n d A U H
theorem vx_Zq.moved {C n d : String} {A : Nat → Prop} {u U : State} {H : Heap} (hvm : u.vm.Alike U.vm) (h : vx_Zq C n d A u H) : vx_Zq C n d A U H := ⟨va_Zq.moved hvm h.1, vx_L.moved hvm h.2⟩
theorem vx_Zq.kept {C n d : String} {A : Nat → Prop} {U : State} {H H1 : Heap} (h : vx_Zq C n d A U H) (hq : ∀ a : Nat, a < H.size → ¬ A a → H1[a]? = H[a]?) : vx_Zq C n d A U H1 := ⟨va_Zq.kept h.1 hq, vx_L.kept h.2 hq⟩
theorem vx_Zq.narrow {C n d : String} {A B : Nat → Prop} {U : State} {H : Heap} (h : vx_Zq C n d A U H) (hAB : ∀ q, B q → A q) : vx_Zq C n d B U H := ⟨va_Zq.narrow h.1 hAB, vx_L.narrow h.2 hAB⟩
theorem vx_Zqof {args : Array Value} {s : State} {C n d : String} {A : Nat → Prop} (hl : (Cond.laysStatic C n d).before args s = true) (hini : (Cond.initialized C).before args s = true) (h : (Cond.isRef (.static C n d)).before args s = true) (hA : ∀ a : Nat, a < s.heap.size → ¬ A a) : vx_Zq C n d A s s.heap := by
  refine ⟨va_Zqof hl hini h hA, ?_⟩
  obtain ⟨c, k, i, f, a, cell, h1, h2, h3, h4, h5, h6, h7, h8, h9⟩ := Cond.laysStatic_spec hl
  exact ⟨c, k, i, f, a, cell, h1, h2, h3, h4, h5, h6, h7, h8, h9, hA a (Array.getElem?_eq_some_iff.mp h5).1⟩
theorem vx_isRef {C n d : String} {v : Value} {A : Nat → Prop} {s : State} {args : Array Value} (h : va_Z C n d v A s s.heap) (hv : v.isRef = true) : (Cond.isRef (.static C n d)).before args s = true := by
  obtain ⟨cf, kf, fi, f, a, cell, h1, h2, h3, h4, h5, h6, h7, -⟩ := h
  have he : (Term.static C n d).eval args s none [] s = some v := by
    simp [Term.eval, State.fieldNamed?, h1, h2, h4, h5, h6, h7]
  simp only [Cond.before, Cond.holds, Cond.value, he]
  cases v <;> simp_all [Value.isRef]
theorem vx_isRefq {C n d : String} {A : Nat → Prop} {s : State} {args : Array Value} (h : va_Zq C n d A s s.heap) : (Cond.isRef (.static C n d)).before args s = true := by
  rcases h with h | ⟨t, h⟩
  · exact vx_isRef h rfl
  · exact vx_isRef h rfl
/-- the same frame, seen from here: as if the method were called anew in this heap -/
theorem vx_rebase {T : State} (X : Stand p l e R s m args below meth c T locs cells slots) {R' : Room} (hf : R'.frames ≤ R.frames) (hl : R'.locals ≤ R.locals) (hc : cells + R'.cells ≤ R.cells) (hs : slots + R'.slots ≤ R.slots) :
    Stand p l e R' ((T.setVm s.vm).setFrames (.invoking m args :: below)) m args below meth c T [] 0 0 := by
  have htop : (T.setVm s.vm).topJava?.isSome := X.here.top
  have hF : ((T.setVm s.vm).setFrames (.invoking m args :: below)).frames = .invoking m args :: below := State.frames_setFrames _ (State.cur_lt_of_top htop)
  obtain ⟨g₀, hg0⟩ := Option.isSome_iff_exists.mp htop
  obtain ⟨r, hr⟩ := State.topJava?_eq_some.mp hg0
  have hl9 : e.platform.stackLimits (T.setVm s.vm).me = e.platform.stackLimits s.me := X.limits
  have hb9 : (T.setVm s.vm).me.stackBytes = s.me.stackBytes := X.bytes
  refine ⟨X.admits, X.cas, X.clock, hF, ?_, X.hears, X.method, X.code, X.here, X.tail, X.warmed, ?_, ?_, ?_⟩
  · have h := X.room
    have hU : ((T.setVm s.vm).setFrames (.invoking m args :: below)).localsInUse = s.localsInUse := by
      rw [State.localsInUse_invoking hF (meth := meth) (c := c) X.method X.code, State.localsInUse_invoking X.frames X.method X.code]
    simp only [State.hasRoom, Bool.and_eq_true, decide_eq_true_eq] at h ⊢
    obtain ⟨⟨⟨⟨h1, h2, h3, h4, h5, h6⟩, h7⟩, h8⟩, h9⟩ := h
    rw [X.frames, List.length_cons] at h2 h3
    have q1 := X.heapSize
    have q2 := X.used
    simp only [hF, hU, List.length_cons, State.stackLimits_setFrames, State.stackBytes_setFrames, hl9, hb9]
    refine ⟨⟨⟨⟨by omega, by omega, by omega, by omega, by omega, h6⟩, ?_⟩, ?_⟩, X.book⟩
    · show T.heap.size + R'.cells ≤ e.platform.maxCells
      omega
    · show T.slotsUsed + R'.slots ≤ e.platform.maxSlots
      omega
  · rw [State.stackLimits_setFrames]; rfl
  · rw [State.stackBytes_setFrames]; rfl
  · refine ⟨?_, Nat.le_refl _, Nat.le_refl _, ?_, ?_, fun a c9 h9 => ⟨c9, h9, rfl, rfl, fun _ _ => rfl⟩⟩
    · obtain ⟨t, ht, -⟩ := State.frames_cons hr
      show T.setVm s.vm = { ((T.setVm s.vm).setFrames (.invoking m args :: below)).setFrames (T.setVm s.vm).frames with heap := T.heap, slotsUsed := T.slotsUsed }
      rw [State.setFrames_setFrames, State.setFrames_self ht]
      rfl
    · show T.slotsUsed = T.slotsUsed + ((T.heap.toList.drop T.heap.size).map (·.slots.size)).sum
      rw [List.drop_eq_nil_of_le (Nat.le_of_eq Array.length_toList)]
      rfl
    · show ((T.heap.toList.drop T.heap.size).map (·.slots.size)).sum ≤ 0
      rw [List.drop_eq_nil_of_le (Nat.le_of_eq Array.length_toList)]
      exact Nat.le_refl _
/-- 'throw new E()': new; dup; invokespecial; athrow -/
theorem vx_throw0 {cc : ByteArray} {pc : Nat} (hexec : p.tables.exec = Jvm.exec) (hb : c.code = cc) (hl : l.stackTraces = false) {own cls : String} {names : List String} {ik ic mc ms : Nat} {A : Nat → Prop}
    (hown : s.vm.findClass own = some m.cls) (hcls : Jvm.Bundle.fit cls = true) (hnames : ∀ n ∈ names, Jvm.Bundle.fit n = true)
    (hk : (Cond.classLink own ik cls).before args s = true) (hini : (Cond.initialized cls).before args s = true) (hat : ∀ w ∈ vx_at0 own ic cls names, w.before args s = true)
    (hgood : ∀ w ∈ Cond.classLink own ik cls :: Cond.initialized cls :: vx_at0 own ic cls names, vx_ot w = true)
    (hU : vx_Zq Jvm.Bundle.tN "UNASSIGNED_STACK" Jvm.Bundle.steD A s s.heap) (hN : vx_Zq Jvm.Bundle.tN "SUPPRESSED_SENTINEL" Jvm.Bundle.listD A s s.heap) (hS : va_S A s.heap H locs) (hsize : ls.size = c.maxLocals)
    (d0 : decode cc pc = .ok (.new ik, 3)) (d3 : decode cc (pc + 3) = .ok (.dup, 1)) (d4 : decode cc (pc + 4) = .ok (.invokespecial ic, 3)) (d7 : decode cc (pc + 7) = .ok (.athrow, 1))
    (hout : ∀ x ∈ c.exceptionTable.toList, covers x (pc + 7) = false)
    (hRframes : names.length + 3 < R.frames) (hRlocals : (rest.map fun v => v.category).sum + (13 * (names.length + 1) + 42) ≤ R.locals) (hRcells : cells + 1 ≤ R.cells) (hRslots : slots + 6 ≤ R.slots) (hlocks : meth.locks = false)
    (hx : ∀ t : State, s.vm.Alike t.vm → H.size ≤ t.heap.size → (∀ q : Nat, q < H.size → t.heap[q]? = H[q]?) → XC cls s t)
    (hf : ∀ z ∈ locs, free z.base) (hc : cells + 1 ≤ mc) (hs : slots + 6 ≤ ms) :
    W p l e R s m args below meth c H locs cells slots (vx_MQ below Qc XC args s mc ms free) (F0 m pc ls rest) := by
  intro T hT X
  have htr : e.platform.stackTraces = false := (show e.platform.stackTraces = l.stackTraces by rw [X.admits.platform]).trans hl
  have Y := vx_rebase X (R' := { frames := R.frames, locals := R.locals, cells := 1, slots := 6 }) (Nat.le_refl _) (Nat.le_refl _) hRcells hRslots
  obtain ⟨s', hA⟩ : ∃ z, z = (T.setVm s.vm).setFrames (.invoking m args :: below) := ⟨_, rfl⟩
  rw [← hA] at Y
  have hvm : s'.vm = s.vm := by rw [hA]; rfl
  have hhp : s'.heap = H := by rw [hA]; exact hT
  have hW0 : s.WarmedH s'.vm := by rw [hvm]; exact State.WarmedH.refl s
  have hat' : ∀ w ∈ vx_at0 own ic cls names, w.before args s' = true := fun w hw => vx_ot_at hW0 hvm.symm (hgood w (List.mem_cons_of_mem _ (List.mem_cons_of_mem _ hw))) (hat w hw)
  have hk' : (Cond.classLink own ik cls).before args s' = true := vx_ot_at hW0 hvm.symm (hgood _ List.mem_cons_self) hk
  have hini' : (Cond.initialized cls).before args s' = true := vx_ot_at hW0 hvm.symm (hgood _ (List.mem_cons_of_mem _ List.mem_cons_self)) hini
  have hU' : vx_Zq Jvm.Bundle.tN "UNASSIGNED_STACK" Jvm.Bundle.steD A s' s'.heap := by rw [hhp]; exact vx_Zq.moved hW0.alike (hU.kept hS.2.1)
  have hN' : vx_Zq Jvm.Bundle.tN "SUPPRESSED_SENTINEL" Jvm.Bundle.listD A s' s'.heap := by rw [hhp]; exact vx_Zq.moved hW0.alike (hN.kept hS.2.1)
  have h : ∀ w ∈ Jvm.Bundle.ownAtoms0 own ic cls names, w.before args s' = true := vx_own hat' (vx_isRefq hU'.1) (vx_isRefq hN'.1) hU'.2.word hN'.2.word
  have hown' : s'.vm.findClass own = some m.cls := by rw [hvm]; exact hown
  have hins : (Cond.instantiable cls 6).before args s' = true := h _ (by simp [Jvm.Bundle.ownAtoms0])
  obtain ⟨vm₁, cX, kX, hfX, hkX, -, -, X₁, st1⟩ := Y.newCold hexec (own := own) (C := cls) (index := ik) (n := 6) hown' hk' hins hini'
    (g := F0 m pc ls rest) rfl (by rw [hb]; exact d0) (Nat.le_refl _) (Nat.le_refl _)
  generalize hT1 : (T.setVm vm₁).pushCell { cls := cX, slots := kX.instanceTypes.map defaultValue, vm := .none } = T1 at X₁ st1
  have hcat : (Value.ref T.heap.size).category = 1 := rfl
  have hcellA : T1.heap[T.heap.size]? = some (freshCell cX kX) := by rw [← hT1]; exact State.heap_pushCell_size _ _
  have d3' : decode c.code (pc + 3) = .ok (.dup, 1) := by rw [hb]; exact d3
  obtain ⟨U, hsteps, hrun, hend, hW, hsame, ce, hce, hO⟩ := X₁.ctorThrow0 hexec htr (own := own) (cls := cls) (names := names) (ic := ic) hown' hcls hnames h (fun x hx => nomatch hx) hfX hkX hcellA (by rw [hhp, hT]; exact Nat.le_refl _)
    (g := { method := m, pc := pc + 4, locals := ls, stack := .ref T.heap.size :: .ref T.heap.size :: rest, locked := none }) rfl hsize rfl rfl (rest := rest) rfl
    (by rw [hb]; exact d4) (by rw [hb]; exact d7) hout hRframes (by simp only [List.map_cons, List.sum_cons, hcat]; omega) hlocks
  obtain ⟨f1, f2⟩ := vx_frame hsame
  rw [hhp] at f1 f2
  have hWs : s.WarmedH U.vm := State.WarmedH.trans hW0 hW
  have hcl : s.vm.findClass cls = some ce.cls := by
    have h9 := hO.cls
    rw [hvm] at h9
    exact h9
  have hall : s.sameButNew ({ U with vm := s.vm } : State) locs mc ms := by
    subst hA
    obtain ⟨e1, e2⟩ := hsame
    rw [State.setFrames_setFrames] at e1
    have h2 : (T.setVm s.vm).sameButNew ({ U with vm := s.vm } : State) [] (0 + 1) (0 + 6) := ⟨e1, e2⟩
    have h3 := X.same.trans h2
    rw [List.append_nil] at h3
    exact h3.mono hc hs
  refine ⟨U, ?_, .threw T.heap.size, hrun, hend, Or.inr ⟨T.heap.size, rfl, cls, ce, locs, hx U hWs.alike f1 (fun q hq => f2 q hq (fun z hz => nomatch hz)), hce, hO.vm, hcl, hWs, hall, hf⟩⟩
  refine st1 _ ?_
  show Steps p.tables e below (T1.setTop { method := m, pc := pc + 3, locals := ls, stack := .ref T.heap.size :: rest, locked := none }) _
  jvm_step X₁.here [X₁.here.top, hexec, d3', Value.category]
  exact hsteps
/-- 'throw new E("text")': new; dup; ldc; invokespecial; athrow -/
theorem vx_throwS {cc : ByteArray} {pc : Nat} (hexec : p.tables.exec = Jvm.exec) (hb : c.code = cc) (hl : l.stackTraces = false) {own cls text : String} {names : List String} {ik is ic mc ms sa : Nat} {A : Nat → Prop}
    (hown : s.vm.findClass own = some m.cls) (hcls : Jvm.Bundle.fit cls = true) (hnames : ∀ n ∈ names, Jvm.Bundle.fit n = true)
    (hk : (Cond.classLink own ik cls).before args s = true) (hini : (Cond.initialized cls).before args s = true) (hstr : vk_R own is text sa s) (hat : ∀ w ∈ vx_atS own ic cls names, w.before args s = true)
    (hgood : ∀ w ∈ Cond.classLink own ik cls :: Cond.initialized cls :: vx_atS own ic cls names, vx_ot w = true)
    (hU : vx_Zq Jvm.Bundle.tN "UNASSIGNED_STACK" Jvm.Bundle.steD A s s.heap) (hN : vx_Zq Jvm.Bundle.tN "SUPPRESSED_SENTINEL" Jvm.Bundle.listD A s s.heap) (hS : va_S A s.heap H locs) (hsize : ls.size = c.maxLocals)
    (d0 : decode cc pc = .ok (.new ik, 3)) (d3 : decode cc (pc + 3) = .ok (.dup, 1)) (d4 : decode cc (pc + 4) = .ok (.ldc is, 2)) (d6 : decode cc (pc + 6) = .ok (.invokespecial ic, 3)) (d9 : decode cc (pc + 9) = .ok (.athrow, 1))
    (hout : ∀ x ∈ c.exceptionTable.toList, covers x (pc + 9) = false)
    (hRframes : names.length + 3 < R.frames) (hRlocals : (rest.map fun v => v.category).sum + (13 * (names.length + 1) + 43) ≤ R.locals) (hRcells : cells + 1 ≤ R.cells) (hRslots : slots + 6 ≤ R.slots) (hlocks : meth.locks = false)
    (hx : ∀ t : State, s.vm.Alike t.vm → H.size ≤ t.heap.size → (∀ q : Nat, q < H.size → t.heap[q]? = H[q]?) → XC cls s t)
    (hf : ∀ z ∈ locs, free z.base) (hc : cells + 1 ≤ mc) (hs : slots + 6 ≤ ms) :
    W p l e R s m args below meth c H locs cells slots (vx_MQ below Qc XC args s mc ms free) (F0 m pc ls rest) := by
  intro T hT X
  have htr : e.platform.stackTraces = false := (show e.platform.stackTraces = l.stackTraces by rw [X.admits.platform]).trans hl
  have Y := vx_rebase X (R' := { frames := R.frames, locals := R.locals, cells := 1, slots := 6 }) (Nat.le_refl _) (Nat.le_refl _) hRcells hRslots
  obtain ⟨s', hA⟩ : ∃ z, z = (T.setVm s.vm).setFrames (.invoking m args :: below) := ⟨_, rfl⟩
  rw [← hA] at Y
  have hvm : s'.vm = s.vm := by rw [hA]; rfl
  have hhp : s'.heap = H := by rw [hA]; exact hT
  have hW0 : s.WarmedH s'.vm := by rw [hvm]; exact State.WarmedH.refl s
  have hat' : ∀ w ∈ vx_atS own ic cls names, w.before args s' = true := fun w hw => vx_ot_at hW0 hvm.symm (hgood w (List.mem_cons_of_mem _ (List.mem_cons_of_mem _ hw))) (hat w hw)
  have hk' : (Cond.classLink own ik cls).before args s' = true := vx_ot_at hW0 hvm.symm (hgood _ List.mem_cons_self) hk
  have hini' : (Cond.initialized cls).before args s' = true := vx_ot_at hW0 hvm.symm (hgood _ (List.mem_cons_of_mem _ List.mem_cons_self)) hini
  have hU' : vx_Zq Jvm.Bundle.tN "UNASSIGNED_STACK" Jvm.Bundle.steD A s' s'.heap := by rw [hhp]; exact vx_Zq.moved hW0.alike (hU.kept hS.2.1)
  have hN' : vx_Zq Jvm.Bundle.tN "SUPPRESSED_SENTINEL" Jvm.Bundle.listD A s' s'.heap := by rw [hhp]; exact vx_Zq.moved hW0.alike (hN.kept hS.2.1)
  have h : ∀ w ∈ Jvm.Bundle.ownAtoms own ic cls names, w.before args s' = true := vx_own hat' (vx_isRefq hU'.1) (vx_isRefq hN'.1) hU'.2.word hN'.2.word
  have hown' : s'.vm.findClass own = some m.cls := by rw [hvm]; exact hown
  have hins : (Cond.instantiable cls 6).before args s' = true := h _ (by simp [Jvm.Bundle.ownAtoms])
  obtain ⟨vm₁, cX, kX, hfX, hkX, -, -, X₁, st1⟩ := Y.newCold hexec (own := own) (C := cls) (index := ik) (n := 6) hown' hk' hins hini'
    (g := F0 m pc ls rest) rfl (by rw [hb]; exact d0) (Nat.le_refl _) (Nat.le_refl _)
  generalize hT1 : (T.setVm vm₁).pushCell { cls := cX, slots := kX.instanceTypes.map defaultValue, vm := .none } = T1 at X₁ st1
  have hcat : (Value.ref T.heap.size).category = 1 := rfl
  have hcellA : T1.heap[T.heap.size]? = some (freshCell cX kX) := by rw [← hT1]; exact State.heap_pushCell_size _ _
  have d3' : decode c.code (pc + 3) = .ok (.dup, 1) := by rw [hb]; exact d3
  have d4' : decode c.code (pc + 4) = .ok (.ldc is, 2) := by rw [hb]; exact d4
  have hstr' : vk_R own is text sa s' := vk_R.warm hW0 hstr
  obtain ⟨U, hsteps, hrun, hend, hW, hsame, ce, hce, hO⟩ := X₁.ctorThrowS hexec htr (own := own) (cls := cls) (names := names) (ic := ic) hown' hcls hnames h (fun x hx => nomatch hx) hfX hkX hcellA (by rw [hhp, hT]; exact Nat.le_refl _) (msg := .ref sa) rfl
    (g := { method := m, pc := pc + 6, locals := ls, stack := .ref sa :: .ref T.heap.size :: .ref T.heap.size :: rest, locked := none }) rfl hsize rfl rfl (rest := rest) rfl
    (by rw [hb]; exact d6) (by rw [hb]; exact d9) hout hRframes (by simp only [List.map_cons, List.sum_cons, hcat]; omega) hlocks
  obtain ⟨f1, f2⟩ := vx_frame hsame
  rw [hhp] at f1 f2
  have hWs : s.WarmedH U.vm := State.WarmedH.trans hW0 hW
  have hcl : s.vm.findClass cls = some ce.cls := by
    have h9 := hO.cls
    rw [hvm] at h9
    exact h9
  have hall : s.sameButNew ({ U with vm := s.vm } : State) locs mc ms := by
    subst hA
    obtain ⟨e1, e2⟩ := hsame
    rw [State.setFrames_setFrames] at e1
    have h2 : (T.setVm s.vm).sameButNew ({ U with vm := s.vm } : State) [] (0 + 1) (0 + 6) := ⟨e1, e2⟩
    have h3 := X.same.trans h2
    rw [List.append_nil] at h3
    exact h3.mono hc hs
  refine ⟨U, ?_, .threw T.heap.size, hrun, hend, Or.inr ⟨T.heap.size, rfl, cls, ce, locs, hx U hWs.alike f1 (fun q hq => f2 q hq (fun z hz => nomatch hz)), hce, hO.vm, hcl, hWs, hall, hf⟩⟩
  refine st1 _ ?_
  show Steps p.tables e below (T1.setTop { method := m, pc := pc + 3, locals := ls, stack := .ref T.heap.size :: rest, locked := none }) _
  jvm_step X₁.here [X₁.here.top, hexec, d3', Value.category]
  exact X₁.ldcString hexec (own := own) (text := text) (index := is) (a := sa) hown' hstr'.1 hstr'.2
    (g := { method := m, pc := pc + 4, locals := ls, stack := .ref T.heap.size :: .ref T.heap.size :: rest, locked := none }) rfl d4' _ hsteps
/-- 'throw new E("text")', the text by a wide index -/
theorem vx_throwSW {cc : ByteArray} {pc : Nat} (hexec : p.tables.exec = Jvm.exec) (hb : c.code = cc) (hl : l.stackTraces = false) {own cls text : String} {names : List String} {ik is ic mc ms sa : Nat} {A : Nat → Prop}
    (hown : s.vm.findClass own = some m.cls) (hcls : Jvm.Bundle.fit cls = true) (hnames : ∀ n ∈ names, Jvm.Bundle.fit n = true)
    (hk : (Cond.classLink own ik cls).before args s = true) (hini : (Cond.initialized cls).before args s = true) (hstr : vk_R own is text sa s) (hat : ∀ w ∈ vx_atS own ic cls names, w.before args s = true)
    (hgood : ∀ w ∈ Cond.classLink own ik cls :: Cond.initialized cls :: vx_atS own ic cls names, vx_ot w = true)
    (hU : vx_Zq Jvm.Bundle.tN "UNASSIGNED_STACK" Jvm.Bundle.steD A s s.heap) (hN : vx_Zq Jvm.Bundle.tN "SUPPRESSED_SENTINEL" Jvm.Bundle.listD A s s.heap) (hS : va_S A s.heap H locs) (hsize : ls.size = c.maxLocals)
    (d0 : decode cc pc = .ok (.new ik, 3)) (d3 : decode cc (pc + 3) = .ok (.dup, 1)) (d4 : decode cc (pc + 4) = .ok (.ldc_w is, 3)) (d7 : decode cc (pc + 7) = .ok (.invokespecial ic, 3)) (d10 : decode cc (pc + 10) = .ok (.athrow, 1))
    (hout : ∀ x ∈ c.exceptionTable.toList, covers x (pc + 10) = false)
    (hRframes : names.length + 3 < R.frames) (hRlocals : (rest.map fun v => v.category).sum + (13 * (names.length + 1) + 43) ≤ R.locals) (hRcells : cells + 1 ≤ R.cells) (hRslots : slots + 6 ≤ R.slots) (hlocks : meth.locks = false)
    (hx : ∀ t : State, s.vm.Alike t.vm → H.size ≤ t.heap.size → (∀ q : Nat, q < H.size → t.heap[q]? = H[q]?) → XC cls s t)
    (hf : ∀ z ∈ locs, free z.base) (hc : cells + 1 ≤ mc) (hs : slots + 6 ≤ ms) :
    W p l e R s m args below meth c H locs cells slots (vx_MQ below Qc XC args s mc ms free) (F0 m pc ls rest) := by
  intro T hT X
  have htr : e.platform.stackTraces = false := (show e.platform.stackTraces = l.stackTraces by rw [X.admits.platform]).trans hl
  have Y := vx_rebase X (R' := { frames := R.frames, locals := R.locals, cells := 1, slots := 6 }) (Nat.le_refl _) (Nat.le_refl _) hRcells hRslots
  obtain ⟨s', hA⟩ : ∃ z, z = (T.setVm s.vm).setFrames (.invoking m args :: below) := ⟨_, rfl⟩
  rw [← hA] at Y
  have hvm : s'.vm = s.vm := by rw [hA]; rfl
  have hhp : s'.heap = H := by rw [hA]; exact hT
  have hW0 : s.WarmedH s'.vm := by rw [hvm]; exact State.WarmedH.refl s
  have hat' : ∀ w ∈ vx_atS own ic cls names, w.before args s' = true := fun w hw => vx_ot_at hW0 hvm.symm (hgood w (List.mem_cons_of_mem _ (List.mem_cons_of_mem _ hw))) (hat w hw)
  have hk' : (Cond.classLink own ik cls).before args s' = true := vx_ot_at hW0 hvm.symm (hgood _ List.mem_cons_self) hk
  have hini' : (Cond.initialized cls).before args s' = true := vx_ot_at hW0 hvm.symm (hgood _ (List.mem_cons_of_mem _ List.mem_cons_self)) hini
  have hU' : vx_Zq Jvm.Bundle.tN "UNASSIGNED_STACK" Jvm.Bundle.steD A s' s'.heap := by rw [hhp]; exact vx_Zq.moved hW0.alike (hU.kept hS.2.1)
  have hN' : vx_Zq Jvm.Bundle.tN "SUPPRESSED_SENTINEL" Jvm.Bundle.listD A s' s'.heap := by rw [hhp]; exact vx_Zq.moved hW0.alike (hN.kept hS.2.1)
  have h : ∀ w ∈ Jvm.Bundle.ownAtoms own ic cls names, w.before args s' = true := vx_own hat' (vx_isRefq hU'.1) (vx_isRefq hN'.1) hU'.2.word hN'.2.word
  have hown' : s'.vm.findClass own = some m.cls := by rw [hvm]; exact hown
  have hins : (Cond.instantiable cls 6).before args s' = true := h _ (by simp [Jvm.Bundle.ownAtoms])
  obtain ⟨vm₁, cX, kX, hfX, hkX, -, -, X₁, st1⟩ := Y.newCold hexec (own := own) (C := cls) (index := ik) (n := 6) hown' hk' hins hini'
    (g := F0 m pc ls rest) rfl (by rw [hb]; exact d0) (Nat.le_refl _) (Nat.le_refl _)
  generalize hT1 : (T.setVm vm₁).pushCell { cls := cX, slots := kX.instanceTypes.map defaultValue, vm := .none } = T1 at X₁ st1
  have hcat : (Value.ref T.heap.size).category = 1 := rfl
  have hcellA : T1.heap[T.heap.size]? = some (freshCell cX kX) := by rw [← hT1]; exact State.heap_pushCell_size _ _
  have d3' : decode c.code (pc + 3) = .ok (.dup, 1) := by rw [hb]; exact d3
  have d4' : decode c.code (pc + 4) = .ok (.ldc_w is, 3) := by rw [hb]; exact d4
  have hstr' : vk_R own is text sa s' := vk_R.warm hW0 hstr
  obtain ⟨U, hsteps, hrun, hend, hW, hsame, ce, hce, hO⟩ := X₁.ctorThrowS hexec htr (own := own) (cls := cls) (names := names) (ic := ic) hown' hcls hnames h (fun x hx => nomatch hx) hfX hkX hcellA (by rw [hhp, hT]; exact Nat.le_refl _) (msg := .ref sa) rfl
    (g := { method := m, pc := pc + 7, locals := ls, stack := .ref sa :: .ref T.heap.size :: .ref T.heap.size :: rest, locked := none }) rfl hsize rfl rfl (rest := rest) rfl
    (by rw [hb]; exact d7) (by rw [hb]; exact d10) hout hRframes (by simp only [List.map_cons, List.sum_cons, hcat]; omega) hlocks
  obtain ⟨f1, f2⟩ := vx_frame hsame
  rw [hhp] at f1 f2
  have hWs : s.WarmedH U.vm := State.WarmedH.trans hW0 hW
  have hcl : s.vm.findClass cls = some ce.cls := by
    have h9 := hO.cls
    rw [hvm] at h9
    exact h9
  have hall : s.sameButNew ({ U with vm := s.vm } : State) locs mc ms := by
    subst hA
    obtain ⟨e1, e2⟩ := hsame
    rw [State.setFrames_setFrames] at e1
    have h2 : (T.setVm s.vm).sameButNew ({ U with vm := s.vm } : State) [] (0 + 1) (0 + 6) := ⟨e1, e2⟩
    have h3 := X.same.trans h2
    rw [List.append_nil] at h3
    exact h3.mono hc hs
  refine ⟨U, ?_, .threw T.heap.size, hrun, hend, Or.inr ⟨T.heap.size, rfl, cls, ce, locs, hx U hWs.alike f1 (fun q hq => f2 q hq (fun z hz => nomatch hz)), hce, hO.vm, hcl, hWs, hall, hf⟩⟩
  refine st1 _ ?_
  show Steps p.tables e below (T1.setTop { method := m, pc := pc + 3, locals := ls, stack := .ref T.heap.size :: rest, locked := none }) _
  jvm_step X₁.here [X₁.here.top, hexec, d3', Value.category]
  exact X₁.ldcStringW hexec (own := own) (text := text) (index := is) (a := sa) hown' hstr'.1 hstr'.2
    (g := { method := m, pc := pc + 4, locals := ls, stack := .ref T.heap.size :: .ref T.heap.size :: rest, locked := none }) rfl d4' _ hsteps
end Ends
section Bodies
variable {l : Launch}
theorem vx_ofW {y : MethodName} {ws ws' : List Cond} {rm : Room} {Pc : Array Value → State → Prop} {Qc : Array Value → State → Outcome → State → Prop} {XC : String → State → State → Prop} {mc ms : Nat} {free : Addr → Prop} {cc : ByteArray} {maxL : Nat} {ret : Option FieldType}
    (hy : plainName y.cls = true) (hw : ws = Cond.code y cc maxL ret :: ws')
    (body : ∀ p e s m args below meth c s₁, BodyLoose p l y (headSpec ws rm) cc maxL ret e s m args below meth c s₁ → c.maxLocals = maxL → (∀ x ∈ c.exceptionTable.toList, False) → Pc args s →
      W p l e (headSpec ws rm).room s m args below meth c s.heap [] 0 0 (vx_MQ below Qc XC args s mc ms free) (entryFrame m args maxL)) : vx_Met l y ws rm Pc Qc XC mc ms free := by
  refine MetFree.of_bodyS (code := cc) (maxLocals := maxL) (ret := ret) hy ?_ ?_
  · intro args s m h hn
    obtain ⟨meth, c, h1, h2, h3, h4, h5, h6, -, -⟩ := Cond.code_spec hn (atoms_spec (ws := ws) h _ (by rw [hw]; exact List.mem_cons_self))
    exact ⟨meth, c, h1, h2, h3, h4, h5, h6⟩
  · intro p e s m args below meth c s₁ B hml hP _
    have hh0 : s₁.heap = s.heap := by rw [B.state]; rfl
    have ht : ∀ x ∈ c.exceptionTable.toList, False := by
      obtain ⟨meth9, c9, h1, h2, -, -, -, -, h7, -⟩ := Cond.code_spec B.named (atoms_spec (ws := ws) B.pre _ (by rw [hw]; exact List.mem_cons_self))
      cases Option.some.inj (h1.symm.trans B.method)
      cases Option.some.inj (h2.symm.trans (Stand.of_body B).code)
      intro x hx
      rw [Array.isEmpty_iff.mp h7] at hx
      cases hx
    obtain ⟨t, a1, o, b1, b2, b3⟩ := body p e s m args below meth c s₁ B hml ht hP s₁ hh0 (Stand.of_body B)
    exact ⟨t, o, a1, b1, b2, b3⟩
/-- the table of a body with handlers -/
theorem vx_table {p : Program} {x y : MethodName} {S : Spec} {cc bytes : ByteArray} {maxL maxL' : Nat} {ret ret' : Option FieldType} {e : Env} {s s₁ : State} {m : MethodId} {args : Array Value} {below : List Frame} {meth : Method} {c : Code} {hh : List (Nat × Nat × Nat × Nat)}
    (B : BodyLoose p l y S cc maxL ret e s m args below meth c s₁) (h : (Cond.codeWith y bytes maxL' ret' hh).before args s = true) : c.exceptionTable.toList = tableOf hh := by
  obtain ⟨m9, meth9, c9, hn9, h1, h2, -, -, h6, -⟩ := Cond.codeWith_spec h
  cases Option.some.inj (hn9.symm.trans B.named)
  cases Option.some.inj (h1.symm.trans B.method)
  cases Option.some.inj (h2.symm.trans (Stand.of_body B).code)
  rw [← h6, table_eq]
end Bodies
end VXA
/-! ===== END ===== -/
/-! ===== BEGIN a static call of a method with an exception table ===== -/
section VXS
variable {p : Program} {l : Launch} {e : Env} {R : Room} {s : State} {m : MethodId} {args : Array Value} {below : List Frame} {meth : Method} {c : Code} {T : State} {H : Heap} {locs : List Loc} {cells slots : Nat}
abbrev vx_CSW (R : Room) (s : State) (args : Array Value) (own : String) (index : Nat) (y : MethodName) (bytes : ByteArray) (maxL : Nat) (ret : Option FieldType) (hh : List (Nat × Nat × Nat × Nat)) (ws : List Cond) (rm : Room) (mc ms n : Nat) : Prop :=
  (rm.cells = mc ∧ rm.slots = ms ∧ rm.frames + 1 ≤ R.frames ∧ 8 + (maxL + 11) + rm.locals ≤ R.locals ∧ (∀ w ∈ ws, ∀ (a' : Array Value) (U : State), s.WarmedH U.vm → w.before a' U = true) ∧ Cond.codeWith y bytes maxL ret hh ∈ ws) ∧
  (Cond.codeWith y bytes maxL ret hh).before args s = true ∧ (Cond.initialized y.cls).before args s = true ∧ (y.cls ≠ "java/lang/invoke/MethodHandle" ∧ y.cls ≠ "java/lang/invoke/VarHandle") ∧
  (∀ sig, parseMethodDescriptor y.desc = some sig → n = sig.parameters.length) ∧ (Cond.methodLink own index y).before args s = true ∧ (Cond.static y).before args s = true
theorem vx_cwSW {own : String} {index maxL mc ms : Nat} {y : MethodName} {bytes : ByteArray} {ret : Option FieldType} {hh : List (Nat × Nat × Nat × Nat)} {Ts ws ws' : List Cond} {rm : Room} (n : Nat) (ht : ∀ w ∈ Ts, w.before args s = true) (hT : GoodIn Ts (va_wsS own index y ws)) (hw : ws = Cond.codeWith y bytes maxL ret hh :: ws') (hrc : rm.cells = mc) (hrs : rm.slots = ms)
    (hd : y.cls ≠ "java/lang/invoke/MethodHandle" ∧ y.cls ≠ "java/lang/invoke/VarHandle" ∧ (parseMethodDescriptor y.desc).map (fun d => d.parameters.length) = some n) (hR : rm.frames + 1 ≤ R.frames ∧ 8 + (maxL + 11) + rm.locals ≤ R.locals) :
    vx_CSW R s args own index y bytes maxL ret hh ws rm mc ms n := by
  have ok : ∀ w ∈ va_wsS own index y ws, w.before args s = true := fun w h => ht w (hT w h).1
  have hG : GoodIn Ts ws := fun w h => hT w (by unfold va_wsS; exact List.mem_append_right _ h)
  have hc : Cond.codeWith y bytes maxL ret hh ∈ ws := by rw [hw]; exact List.mem_cons_self
  refine ⟨⟨hrc, hrs, hR.1, hR.2, pay_in ht hG, hc⟩, ht _ (hG _ hc).1, ok _ (by simp [va_wsS]), ⟨hd.1, hd.2.1⟩, fun sig h => ?_, ok _ (by simp [va_wsS]), ok _ (by simp [va_wsS])⟩
  have h2 := hd.2.2
  rw [h] at h2
  exact (Option.some.inj h2).symm
theorem vx_callSW (X : Stand p l e R s m args below meth c T locs cells slots) (hexec : p.tables.exec = Jvm.exec) {own : String} {index : Nat} {y : MethodName} {bytes : ByteArray} {maxL : Nat} {ret : Option FieldType} {hh : List (Nat × Nat × Nat × Nat)}
    (hown : s.vm.findClass own = some m.cls) (hlink : (Cond.methodLink own index y).before args s = true) (hstat : (Cond.static y).before args s = true) (hinit : (Cond.initialized y.cls).before args s = true)
    (hcode : (Cond.codeWith y bytes maxL ret hh).before args s = true) (hy : y.cls ≠ "java/lang/invoke/MethodHandle" ∧ y.cls ≠ "java/lang/invoke/VarHandle")
    {W9 : Nat} {Pre : Pt → Array Value → Prop} {Post : Pt → Array Value → Option Value → Pt → Prop} (hK : Back l R p e below s args y 3 W9 Pre Post)
    {g : JFrame} (hg : g.method = m) (hsize : g.locals.size = c.maxLocals) {argsL rest : List Value} (hlen : ∀ sig, parseMethodDescriptor y.desc = some sig → argsL.length = sig.parameters.length)
    (hstack : g.stack = argsL.reverse ++ rest) (hW : 2 * g.monitorRoom + (rest.map fun v => v.category).sum ≤ W9) (hdg : decode c.code g.pc = .ok (.invokestatic index, 3))
    (hpre : ∀ vm₁, s.WarmedH vm₁ → Pre ⟨T.setVm vm₁, locs, cells, slots⟩ argsL.toArray) :
    ∃ (v : Option Value) (vm₁ : Vm) (B : Pt), s.WarmedH vm₁ ∧ Stand p l e R s m args below meth c B.U B.locs B.cells B.slots ∧ Post ⟨T.setVm vm₁, locs, cells, slots⟩ argsL.toArray v B ∧
      ∀ target, Steps p.tables e below (B.U.setTop { g with pc := g.pc + 3, stack := v.toList ++ rest }) target → Steps p.tables e below (T.setTop g) target := by
  obtain ⟨mk, methM, cM, hnamed, hmethM, -, -, -, -, -, -, hsigM⟩ := Cond.codeWith_spec hcode
  have hstatic : methM.isStatic = true := Cond.static_spec hnamed hmethM hstat
  obtain ⟨kP, hkP, -⟩ := className_of_methodNamed hnamed
  have hinitP : kP.init = .initialized := Cond.initialized_spec (findClass_of_methodNamed hnamed) hkP hinit
  obtain ⟨vm₁, X₁, hstep₁⟩ := X.invokestatic hexec hown hlink hnamed hmethM hstatic hkP hinitP hy (g := g) hg (argsL := argsL) (rest := rest) (hlen _ hsigM) hstack hdg
  obtain ⟨v, B, X', hpost, hsteps⟩ := hK m meth c ⟨T.setVm vm₁, locs, cells, slots⟩ { g with stack := rest } (.invokestatic index) mk argsL.toArray X₁ hg hsize hdg hW (X₁.named hnamed) (hpre vm₁ X₁.warmed)
  exact ⟨v, vm₁, B, X₁.warmed, X', hpost, fun target h => hstep₁ _ fun acts => by rw [doInvoke_state]; exact hsteps.trans h⟩
theorem vx_runSW {y : MethodName} {bytes cc : ByteArray} {maxL nL mc ms n index : Nat} {ret : Option FieldType} {hh : List (Nat × Nat × Nat × Nat)} {ws : List Cond} {rm : Room} {Pc : Array Value → State → Prop} {Qc : Array Value → State → Outcome → State → Prop} {free : Addr → Prop} {Ts : List Cond} {own : String} {As rest : List Value} {g : JFrame}
    (S : CallFix p m c cc nL s args Ts own) (hM : Met l y ws rm Pc Qc mc ms free) (cw : vx_CSW R s args own index y bytes maxL ret hh ws rm mc ms n) (hp : PreS s H Pc As)
    (hg : g.method = m) (hn : As.length = n) (hsize : g.locals.size = nL) (hstack : g.stack = As.reverse ++ rest) (hW : 2 * g.monitorRoom + (rest.map fun v => v.category).sum ≤ 8) (hdg : decode cc g.pc = .ok (.invokestatic index, 3)) (hf : cells + mc ≤ R.cells ∧ slots + ms ≤ R.slots) :
    va_Run p l e R s m args below meth c H locs cells slots mc ms g rest (Qc As.toArray) (free) := by
  obtain ⟨⟨hrc, hrs, hfr, hlo, hws, hcw⟩, hcode, hini, hy, hlen, hl, hstt⟩ := cw
  have hK : Back l R p e below s args y 3 8 (PreOf R mc ms Pc) (PostOf Qc mc ms free) := va_backW (hh := hh) (bytes := bytes) (maxL := maxL) (ret := ret) hM hp.1 hrc hrs hfr hlo hws hcw (fun a' U hW => word_at hW (Or.inl (by first | rfl | simp [Cond.onTables, Cond.keeps, Cond.steady])) hini)
  obtain ⟨hx, hb, hml, ho, -⟩ := S
  intro T hT X
  obtain ⟨v, vm₁, ⟨U', l2, c2, s2⟩, hW₁, X', ⟨g', mk, t, L, e1, e2, hq, h1, hL, h2, h3⟩, st⟩ := vx_callSW X hx (hh := hh) (bytes := bytes) (maxL := maxL) (ret := ret) ho hl hstt hini hcode hy hK hg (hsize.trans hml.symm) (argsL := As) (rest := rest) (fun sig h => hn.trans (hlen sig h)) hstack hW (by rw [hb]; exact hdg)
    (fun vm₁ hW₁ => ⟨hf.1, hf.2, hp.2 (T.setVm vm₁) hT hW₁⟩)
  dsimp only [Pt.U, Pt.locs, Pt.cells, Pt.slots] at X' e1 e2 h1 h2 h3 st
  subst h1; subst h2; subst h3
  exact ⟨v, (T.setVm vm₁).calling g' mk As.toArray, t, U', L, hT, X', hL, e1, e2, hq, st⟩
/-- not caught here, past rows that name other classes: it goes on to the caller -/
theorem vx_outP {p : Program} {l : Launch} {e : Env} {R : Room} {s : State} {m : MethodId} {args : Array Value} {below : List Frame} {meth : Method} {c : Code} {H : Heap} {locs : List Loc} {cells slots : Nat} {free : Addr → Prop} {ls : Array Slot} {rest : List Value} {Qc : Array Value → State → Outcome → State → Prop} {XC : String → State → State → Prop}
    {pc : Nat} {own E : String} {ce : Cell} {q : Addr} {mc ms : Nat} (hown : s.vm.findClass own = some m.cls) (hlocks : meth.locks = false)
    (hpass : ∀ z ∈ c.exceptionTable.toList, covers z pc = false ∨ (z.catchType ≠ 0 ∧ ∃ nm : String, (Cond.classLink own z.catchType nm).before args s = true ∧ va_Nc E nm s)) (hcell : H[q]? = some ce) (hv : ce.vm = .none) (hcl : s.vm.findClass E = some ce.cls)
    (hx : ∀ t : State, t.heap = H → s.vm.Alike t.vm → XC E s t) (hf : ∀ z ∈ locs, free z.base) (hc : cells ≤ mc) (hs : slots ≤ ms) :
    vx_W p l e R s m args below meth c H locs cells slots (vx_MQ below Qc XC args s mc ms free) (F0 m pc ls rest) q := by
  intro T hT X
  have hpl : e.platform.magicAccessors = ({} : Platform).magicAccessors := by rw [X.admits.platform]
  obtain ⟨vm', hW', X', st⟩ := X.outThrough hlocks q (g := F0 m pc ls rest) rfl rfl rfl (cell := ce) (by rw [hT]; exact hcell) (by rw [hv]; rfl)
    (by obtain ⟨k9, h9, -⟩ := Vm.findClass_spec hcl; exact ⟨k9, h9⟩) (fun z hz => by
      rcases hpass z hz with h | ⟨hz0, nm, hl1, hn1⟩
      · exact Or.inl h
      · obtain ⟨c6, hc6, hcl6⟩ := Cond.classLink_spec hown hl1 e.platform hpl
        obtain ⟨a8, b8, h1, h2, h3⟩ := hn1
        cases Option.some.inj (h1.symm.trans hcl)
        cases Option.some.inj (h2.symm.trans hc6)
        exact Or.inr ⟨hz0, _, hcl6, h3⟩)
  obtain ⟨g₀, hfr⟩ := X'.frames_eq
  have hcell9 : ((T.setVm vm').setFrames (.throwing q :: below)).heap[q]? = some ce := by
    show T.heap[q]? = some ce
    rw [hT]; exact hcell
  have hend : Ended ((T.setVm vm').setFrames (.throwing q :: below)) below (.threw q) := State.frames_setFrames _ (State.cur_lt_of_frames hfr)
  refine ⟨(T.setVm vm').setFrames (.throwing q :: below), ?_, .threw q, X'.here.running, hend, Or.inr ⟨q, rfl, E, ce, locs, hx _ hT (X'.ends _).1.alike, hcell9, hv, hcl, (X'.ends _).1, (X'.ends _).2.mono hc hs, hf⟩⟩
  rw [X.pushThrowing_eq]
  exact st
/-- a thing of a world lies in the heap -/
theorem vx_lt {D : va_G} {cl : List vw_C} {ws : va_W} {H1 : Heap} (h : va_P D cl ws H1) {k : Nat} {q : Nat × va_E} (hk : ws[k]? = some q) : q.1 < H1.size := (h k q hk).lt
end VXS
/-! ===== END ===== -/
/-! ===== BEGIN methods with a table of their own: called by a name, returning or throwing ===== -/
section VXH
/-! vx_backW, vx_callVX, vx_callSX, vx_callVW, vx_runVW, vx_runVX, vx_runSX, vx_ofWH follow the same proofs as their sisters above (Free/Laws.lean, Shelf42/LK1.lean); vx_outP calls Shelf42/NT130.lean (outThrough). -/
section
variable {l : Launch} {R : Room} {p : Program} {e : Env} {below : List Frame} {s : State} {sargs : Array Value} {y : MethodName} {len W9 : Nat}
theorem vx_backW {ws : List Cond} {rm : Room} {Pc : Array Value → State → Prop} {Qc : Array Value → State → Outcome → State → Prop} {XC : String → State → State → Prop} {mc ms : Nat} {free : Addr → Prop} {bytes : ByteArray} {maxL : Nat} {ret : Option FieldType} {hh : List (Nat × Nat × Nat × Nat)}
    (hM : vx_Met l y ws rm Pc Qc XC mc ms free) (hblind : FrameBlind Pc) (hrc : rm.cells = mc) (hrs : rm.slots = ms)
    (hframes : rm.frames + 1 ≤ R.frames) (hlocals : W9 + (maxL + 11) + rm.locals ≤ R.locals)
    (hws : ∀ w ∈ ws, ∀ a' U, s.WarmedH U.vm → w.before a' U = true) (hcode : Cond.codeWith y bytes maxL ret hh ∈ ws) (hinit : ∀ a' U, s.WarmedH U.vm → (Cond.initialized y.cls).before a' U = true) :
    vx_Back l R p e below s sargs y len W9 (PreOf R mc ms Pc) (PostOf Qc mc ms free) (vx_Post XC mc ms free) := by
  intro m meth c A g ig mk a X hg hsize hdg hW hn hp
  have h1 : (headSpec ws rm).pre.before a A.U = true := atoms_intro fun w hw => hws w hw _ _ X.warmed
  have h2 : (Cond.codeWith y bytes maxL ret hh).before a A.U = true := hws _ hcode _ _ X.warmed
  have h3 : (Cond.initialized y.cls).before a A.U = true := hinit _ _ X.warmed
  have h4 : A.cells + (headSpec ws rm).room.cells ≤ R.cells := by rw [show (headSpec ws rm).room.cells = mc from hrc]; exact hp.1
  have h5 : A.slots + (headSpec ws rm).room.slots ≤ R.slots := by rw [show (headSpec ws rm).room.slots = ms from hrs]; exact hp.2.1
  have hPc : Pc a (A.U.calling g mk a) := hblind _ _ _ _ hp.2.2
  obtain ⟨U, Ls, c0, s0⟩ := A
  dsimp only [Pt.U, Pt.locs, Pt.cells, Pt.slots] at h1 h2 h3 h4 h5 X hn hPc ⊢
  obtain ⟨m9, methY, cY, hn9, hmY, hcY, -, hlY, -⟩ := Cond.codeWith_spec h2
  cases Option.some.inj (hn9.symm.trans hn)
  obtain ⟨kY, hkY, -⟩ := className_of_methodNamed hn
  have hinitY : kY.init = .initialized := Cond.initialized_spec (findClass_of_methodNamed hn) hkY h3
  have h : At U g.method c below := by rw [hg]; exact X.here
  have hlocals9 : W9 + (maxL + 11) + (headSpec ws rm).room.locals ≤ R.locals := hlocals
  have happ : (headSpec ws rm).appliesLoose y e.platform (U.calling g mk a) = true :=
    Spec.appliesLoose_calling (g := g) h hdg hn hkY hinitY
      (X.room_calling (g := g) (R' := (headSpec ws rm).room) hsize hmY hcY hframes (by rw [hlY]; omega) h4 h5) h1
  obtain ⟨mid, hmid⟩ := h.above
  have hfr : (U.setTop g).frames = (.java g :: mid) ++ below := by rw [State.frames_setTop' g h.top, hmid]; rfl
  obtain ⟨o, s₂, hsteps, -, hend, hq⟩ := Steps.callFree hM p X.admits X.cas X.clock (acts := []) hfr happ hPc trivial
  have hq' : vx_Q Qc XC mc ms free a (U.calling g mk a) o s₂ := hq
  rw [State.frames_setTop' g h.top] at hend
  obtain ⟨g₀, hg0⟩ := Option.isSome_iff_exists.mp h.top
  obtain ⟨r, hr⟩ := State.topJava?_eq_some.mp hg0
  have hr' : (({ U with heap := s₂.heap, slotsUsed := s₂.slotsUsed } : State).setVm s₂.vm).frames = .java g₀ :: r := hr
  rcases hq' with ⟨hqc, L, hfe, hL⟩ | ⟨q, rfl, E, ce, L, hx, hce, hcv, hcl, hW₂, hsm, hL⟩
  · obtain ⟨⟨v, rfl⟩, hW₂, e2, q2, q3, q4, q5, q6⟩ := id hfe
    have e3 : s₂ = ({ (U.calling g mk a).setFrames s₂.frames with heap := s₂.heap, slotsUsed := s₂.slotsUsed } : State).setVm s₂.vm := by
      have : s₂ = ({ s₂ with vm := (U.calling g mk a).vm } : State).setVm s₂.vm := rfl
      rw [e2] at this
      exact this
    obtain ⟨c₂, i₂, len₂, hc₂, hd₂, hf₂⟩ := hend
    have hW' : U.WarmedH s₂.vm := hW₂
    have hcc : c₂ = c := by
      have h1 : s₂.code? g.method = U.code? g.method := by
        rw [State.code?_eq, State.code?_eq, hW'.alike.method?]
      exact Option.some.inj (hc₂.symm.trans (h1.trans h.code))
    subst hcc
    have hlen : len₂ = len := by rw [hdg] at hd₂; cases hd₂; rfl
    subst hlen
    have hs₂ : s₂ = (({ U with heap := s₂.heap, slotsUsed := s₂.slotsUsed } : State).setVm s₂.vm).setTop { g with pc := g.pc + len₂, stack := v.toList ++ g.stack } := by
      refine e3.trans ?_
      rw [hf₂, State.calling_eq h.top, State.setFrames_setFrames, State.setTop_of_frames _ hr', hr]
      rfl
    have hsame : U.sameButNew ({ U with heap := s₂.heap, slotsUsed := s₂.slotsUsed } : State) L mc ms := by
      refine ⟨?_, q2, q3, q4, q5, q6⟩
      obtain ⟨t, ht, -⟩ := State.frames_cons hr
      show ({ U with heap := s₂.heap, slotsUsed := s₂.slotsUsed } : State) = { U.setFrames U.frames with heap := s₂.heap, slotsUsed := s₂.slotsUsed }
      rw [State.setFrames_self ht]
    subst hg
    refine Or.inl ⟨v, ⟨(({ U with heap := s₂.heap, slotsUsed := s₂.slotsUsed } : State).setVm s₂.vm), Ls ++ L, c0 + mc, s0 + ms⟩,
      ⟨X.admits, X.cas, X.clock, X.frames, X.room, X.hears, X.method, X.code, (X.here.setHeapUsed s₂.heap s₂.slotsUsed).setVm hW'.alike, X.tail, State.WarmedH.trans X.warmed hW', X.limits, X.bytes, X.same.trans (hsame.setVm s.vm)⟩,
      ⟨g, mk, s₂, L, rfl, rfl, hqc, rfl, hL, rfl, rfl⟩, ?_⟩
    show Steps p.tables e below _ ((({ U with heap := s₂.heap, slotsUsed := s₂.slotsUsed } : State).setVm s₂.vm).setTop { g with pc := g.pc + len₂, stack := v.toList ++ g.stack })
    rw [← hs₂]
    exact hsteps
  · obtain ⟨e2, q2, q3, q4, q5, q6⟩ := id hsm
    have e3 : s₂ = ({ (U.calling g mk a).setFrames s₂.frames with heap := s₂.heap, slotsUsed := s₂.slotsUsed } : State).setVm s₂.vm := by
      have : s₂ = ({ s₂ with vm := (U.calling g mk a).vm } : State).setVm s₂.vm := rfl
      rw [e2] at this
      exact this
    have hf₂ : s₂.frames = .throwing q :: .java g :: U.frames.tail := hend
    have hW' : U.WarmedH s₂.vm := hW₂
    have hs₂ : s₂ = ((({ U with heap := s₂.heap, slotsUsed := s₂.slotsUsed } : State).setVm s₂.vm).setTop g).pushFrame (.throwing q) := by
      refine e3.trans ?_
      rw [hf₂, State.calling_eq h.top, State.setFrames_setFrames, State.pushFrame, State.frames_setTop _ hr', State.setTop_of_frames _ hr', State.setFrames_setFrames, hr]
      rfl
    have hsame : U.sameButNew ({ U with heap := s₂.heap, slotsUsed := s₂.slotsUsed } : State) L mc ms := by
      refine ⟨?_, q2, q3, q4, q5, q6⟩
      obtain ⟨t, ht, -⟩ := State.frames_cons hr
      show ({ U with heap := s₂.heap, slotsUsed := s₂.slotsUsed } : State) = { U.setFrames U.frames with heap := s₂.heap, slotsUsed := s₂.slotsUsed }
      rw [State.setFrames_self ht]
    subst hg
    refine Or.inr ⟨q, ⟨(({ U with heap := s₂.heap, slotsUsed := s₂.slotsUsed } : State).setVm s₂.vm), Ls ++ L, c0 + mc, s0 + ms⟩,
      ⟨X.admits, X.cas, X.clock, X.frames, X.room, X.hears, X.method, X.code, (X.here.setHeapUsed s₂.heap s₂.slotsUsed).setVm hW'.alike, X.tail, State.WarmedH.trans X.warmed hW', X.limits, X.bytes, X.same.trans (hsame.setVm s.vm)⟩,
      ⟨g, mk, s₂, L, E, ce, rfl, rfl, hx, hce, hcv, hcl, rfl, hL, rfl, rfl⟩, ?_⟩
    show Steps p.tables e below _ (((({ U with heap := s₂.heap, slotsUsed := s₂.slotsUsed } : State).setVm s₂.vm).setTop g).pushFrame (.throwing q))
    rw [← hs₂]
    exact hsteps
end
variable {p : Program} {l : Launch} {e : Env} {R : Room} {s : State} {m : MethodId} {args : Array Value} {below : List Frame} {meth : Method} {c : Code} {T : State} {H : Heap} {locs : List Loc} {cells slots : Nat}
theorem vx_callVX (X : Stand p l e R s m args below meth c T locs cells slots) (hexec : p.tables.exec = Jvm.exec) {own C : String} {index : Nat} {y : MethodName} {bytes : ByteArray} {maxL : Nat} {ret : Option FieldType} {hh : List (Nat × Nat × Nat × Nat)}
    (hown : s.vm.findClass own = some m.cls) (hlink : (Cond.methodLink own index y).before args s = true) (hinst : (Cond.instanceMethod y).before args s = true) (hsel : (Cond.selects C y y).before args s = true)
    (hcode : (Cond.codeWith y bytes maxL ret hh).before args s = true) (hy : y.cls ≠ "java/lang/invoke/MethodHandle" ∧ y.cls ≠ "java/lang/invoke/VarHandle")
    {W9 : Nat} {Pre : Pt → Array Value → Prop} {Post : Pt → Array Value → Option Value → Pt → Prop} {PostX : Pt → Array Value → Addr → Pt → Prop} (hK : vx_Back l R p e below s args y 3 W9 Pre Post PostX)
    {b : Addr} {cellB : Cell} (hcell : T.heap[b]? = some cellB) (hobj : cellB.vm.isStatics = false) (hcls : s.vm.findClass C = some cellB.cls)
    {g : JFrame} (hg : g.method = m) (hsize : g.locals.size = c.maxLocals) {argsL rest : List Value} (hlen : ∀ sig, parseMethodDescriptor y.desc = some sig → argsL.length = sig.parameters.length)
    (hstack : g.stack = argsL.reverse ++ .ref b :: rest) (hW : 2 * g.monitorRoom + (rest.map fun v => v.category).sum ≤ W9) (hdg : decode c.code g.pc = .ok (.invokevirtual index, 3))
    (hpre : ∀ vm₁, s.WarmedH vm₁ → Pre ⟨T.setVm vm₁, locs, cells, slots⟩ (Value.ref b :: argsL).toArray) :
    (∃ (v : Option Value) (vm₁ : Vm) (B : Pt), s.WarmedH vm₁ ∧ Stand p l e R s m args below meth c B.U B.locs B.cells B.slots ∧ Post ⟨T.setVm vm₁, locs, cells, slots⟩ (Value.ref b :: argsL).toArray v B ∧
      ∀ target, Steps p.tables e below (B.U.setTop { g with pc := g.pc + 3, stack := v.toList ++ rest }) target → Steps p.tables e below (T.setTop g) target) ∨
    (∃ (q : Addr) (vm₁ : Vm) (B : Pt), s.WarmedH vm₁ ∧ Stand p l e R s m args below meth c B.U B.locs B.cells B.slots ∧ PostX ⟨T.setVm vm₁, locs, cells, slots⟩ (Value.ref b :: argsL).toArray q B ∧
      Steps p.tables e below (T.setTop g) ((B.U.setTop { g with stack := rest }).pushFrame (.throwing q))) := by
  obtain ⟨mk, methM, hnamed, hmethM, hstM, habM⟩ := Cond.instanceMethod_spec hinst
  obtain ⟨m8, methM', cM, hn8, hmethM', -, -, -, -, -, -, hsigM⟩ := Cond.codeWith_spec hcode
  cases Option.some.inj (hn8.symm.trans hnamed)
  cases hmethM.symm.trans hmethM'
  obtain ⟨c2, r2, m2, q1, q2, q3, q4, kP, hkP, hkPi⟩ := Cond.selects_spec hsel
  cases hcls.symm.trans q1
  cases (State.methodFound?_of_named hnamed hy).symm.trans q2
  cases hnamed.symm.trans q3
  have hselP : selectMethod e.platform s.vm cellB.cls mk = .method mk := by rw [Launch.admits_selectMethod X.admits]; exact q4
  obtain ⟨vm₁, X₁, hstep₁⟩ := X.invokevirtual hexec hown hlink hnamed hmethM hstM hkP hkPi hy (a := b) (cell := cellB) hcell
    (fun z h => by rw [h] at hobj; cases hobj) hselP hmethM habM hkP hkPi (g := g) hg (argsL := argsL) (rest := rest) (hlen _ hsigM) hstack hdg
  rcases hK m meth c ⟨T.setVm vm₁, locs, cells, slots⟩ { g with stack := rest } (.invokevirtual index) mk (Value.ref b :: argsL).toArray X₁ hg hsize hdg hW (X₁.named hnamed) (hpre vm₁ X₁.warmed) with ⟨v, B, X', hpost, hsteps⟩ | ⟨q, B, X', hpost, hsteps⟩
  · exact Or.inl ⟨v, vm₁, B, X₁.warmed, X', hpost, fun target h => hstep₁ _ fun acts => by rw [doInvoke_state]; exact hsteps.trans h⟩
  · exact Or.inr ⟨q, vm₁, B, X₁.warmed, X', hpost, hstep₁ _ fun acts => by rw [doInvoke_state]; exact hsteps⟩
theorem vx_callSX (X : Stand p l e R s m args below meth c T locs cells slots) (hexec : p.tables.exec = Jvm.exec) {own : String} {index : Nat} {y : MethodName} {bytes : ByteArray} {maxL : Nat} {ret : Option FieldType} {hh : List (Nat × Nat × Nat × Nat)}
    (hown : s.vm.findClass own = some m.cls) (hlink : (Cond.methodLink own index y).before args s = true) (hstat : (Cond.static y).before args s = true) (hinit : (Cond.initialized y.cls).before args s = true)
    (hcode : (Cond.codeWith y bytes maxL ret hh).before args s = true) (hy : y.cls ≠ "java/lang/invoke/MethodHandle" ∧ y.cls ≠ "java/lang/invoke/VarHandle")
    {W9 : Nat} {Pre : Pt → Array Value → Prop} {Post : Pt → Array Value → Option Value → Pt → Prop} {PostX : Pt → Array Value → Addr → Pt → Prop} (hK : vx_Back l R p e below s args y 3 W9 Pre Post PostX)
    {g : JFrame} (hg : g.method = m) (hsize : g.locals.size = c.maxLocals) {argsL rest : List Value} (hlen : ∀ sig, parseMethodDescriptor y.desc = some sig → argsL.length = sig.parameters.length)
    (hstack : g.stack = argsL.reverse ++ rest) (hW : 2 * g.monitorRoom + (rest.map fun v => v.category).sum ≤ W9) (hdg : decode c.code g.pc = .ok (.invokestatic index, 3))
    (hpre : ∀ vm₁, s.WarmedH vm₁ → Pre ⟨T.setVm vm₁, locs, cells, slots⟩ argsL.toArray) :
    (∃ (v : Option Value) (vm₁ : Vm) (B : Pt), s.WarmedH vm₁ ∧ Stand p l e R s m args below meth c B.U B.locs B.cells B.slots ∧ Post ⟨T.setVm vm₁, locs, cells, slots⟩ argsL.toArray v B ∧
      ∀ target, Steps p.tables e below (B.U.setTop { g with pc := g.pc + 3, stack := v.toList ++ rest }) target → Steps p.tables e below (T.setTop g) target) ∨
    (∃ (q : Addr) (vm₁ : Vm) (B : Pt), s.WarmedH vm₁ ∧ Stand p l e R s m args below meth c B.U B.locs B.cells B.slots ∧ PostX ⟨T.setVm vm₁, locs, cells, slots⟩ argsL.toArray q B ∧
      Steps p.tables e below (T.setTop g) ((B.U.setTop { g with stack := rest }).pushFrame (.throwing q))) := by
  obtain ⟨mk, methM, cM, hnamed, hmethM, -, -, -, -, -, -, hsigM⟩ := Cond.codeWith_spec hcode
  have hstatic : methM.isStatic = true := Cond.static_spec hnamed hmethM hstat
  obtain ⟨kP, hkP, -⟩ := className_of_methodNamed hnamed
  have hinitP : kP.init = .initialized := Cond.initialized_spec (findClass_of_methodNamed hnamed) hkP hinit
  obtain ⟨vm₁, X₁, hstep₁⟩ := X.invokestatic hexec hown hlink hnamed hmethM hstatic hkP hinitP hy (g := g) hg (argsL := argsL) (rest := rest) (hlen _ hsigM) hstack hdg
  rcases hK m meth c ⟨T.setVm vm₁, locs, cells, slots⟩ { g with stack := rest } (.invokestatic index) mk argsL.toArray X₁ hg hsize hdg hW (X₁.named hnamed) (hpre vm₁ X₁.warmed) with ⟨v, B, X', hpost, hsteps⟩ | ⟨q, B, X', hpost, hsteps⟩
  · exact Or.inl ⟨v, vm₁, B, X₁.warmed, X', hpost, fun target h => hstep₁ _ fun acts => by rw [doInvoke_state]; exact hsteps.trans h⟩
  · exact Or.inr ⟨q, vm₁, B, X₁.warmed, X', hpost, hstep₁ _ fun acts => by rw [doInvoke_state]; exact hsteps⟩
theorem vx_callVW (X : Stand p l e R s m args below meth c T locs cells slots) (hexec : p.tables.exec = Jvm.exec) {own C : String} {index : Nat} {y : MethodName} {bytes : ByteArray} {maxL : Nat} {ret : Option FieldType} {hh : List (Nat × Nat × Nat × Nat)}
    (hown : s.vm.findClass own = some m.cls) (hlink : (Cond.methodLink own index y).before args s = true) (hinst : (Cond.instanceMethod y).before args s = true) (hsel : (Cond.selects C y y).before args s = true)
    (hcode : (Cond.codeWith y bytes maxL ret hh).before args s = true) (hy : y.cls ≠ "java/lang/invoke/MethodHandle" ∧ y.cls ≠ "java/lang/invoke/VarHandle")
    {W9 : Nat} {Pre : Pt → Array Value → Prop} {Post : Pt → Array Value → Option Value → Pt → Prop} (hK : Back l R p e below s args y 3 W9 Pre Post)
    {b : Addr} {cellB : Cell} (hcell : T.heap[b]? = some cellB) (hobj : cellB.vm.isStatics = false) (hcls : s.vm.findClass C = some cellB.cls)
    {g : JFrame} (hg : g.method = m) (hsize : g.locals.size = c.maxLocals) {argsL rest : List Value} (hlen : ∀ sig, parseMethodDescriptor y.desc = some sig → argsL.length = sig.parameters.length)
    (hstack : g.stack = argsL.reverse ++ .ref b :: rest) (hW : 2 * g.monitorRoom + (rest.map fun v => v.category).sum ≤ W9) (hdg : decode c.code g.pc = .ok (.invokevirtual index, 3))
    (hpre : ∀ vm₁, s.WarmedH vm₁ → Pre ⟨T.setVm vm₁, locs, cells, slots⟩ (Value.ref b :: argsL).toArray) :
    ∃ (v : Option Value) (vm₁ : Vm) (B : Pt), s.WarmedH vm₁ ∧ Stand p l e R s m args below meth c B.U B.locs B.cells B.slots ∧ Post ⟨T.setVm vm₁, locs, cells, slots⟩ (Value.ref b :: argsL).toArray v B ∧
      ∀ target, Steps p.tables e below (B.U.setTop { g with pc := g.pc + 3, stack := v.toList ++ rest }) target → Steps p.tables e below (T.setTop g) target := by
  obtain ⟨mk, methM, hnamed, hmethM, hstM, habM⟩ := Cond.instanceMethod_spec hinst
  obtain ⟨m8, methM', cM, hn8, hmethM', -, -, -, -, -, -, hsigM⟩ := Cond.codeWith_spec hcode
  cases Option.some.inj (hn8.symm.trans hnamed)
  cases hmethM.symm.trans hmethM'
  obtain ⟨c2, r2, m2, q1, q2, q3, q4, kP, hkP, hkPi⟩ := Cond.selects_spec hsel
  cases hcls.symm.trans q1
  cases (State.methodFound?_of_named hnamed hy).symm.trans q2
  cases hnamed.symm.trans q3
  have hselP : selectMethod e.platform s.vm cellB.cls mk = .method mk := by rw [Launch.admits_selectMethod X.admits]; exact q4
  obtain ⟨vm₁, X₁, hstep₁⟩ := X.invokevirtual hexec hown hlink hnamed hmethM hstM hkP hkPi hy (a := b) (cell := cellB) hcell
    (fun z h => by rw [h] at hobj; cases hobj) hselP hmethM habM hkP hkPi (g := g) hg (argsL := argsL) (rest := rest) (hlen _ hsigM) hstack hdg
  obtain ⟨v, B, X', hpost, hsteps⟩ := hK m meth c ⟨T.setVm vm₁, locs, cells, slots⟩ { g with stack := rest } (.invokevirtual index) mk (Value.ref b :: argsL).toArray X₁ hg hsize hdg hW (X₁.named hnamed) (hpre vm₁ X₁.warmed)
  exact ⟨v, vm₁, B, X₁.warmed, X', hpost, fun target h => hstep₁ _ fun acts => by rw [doInvoke_state]; exact hsteps.trans h⟩
abbrev vx_CVW (R : Room) (s : State) (args : Array Value) (own C : String) (index : Nat) (y : MethodName) (bytes : ByteArray) (maxL : Nat) (ret : Option FieldType) (hh : List (Nat × Nat × Nat × Nat)) (ws : List Cond) (rm : Room) (mc ms n : Nat) : Prop :=
  (rm.cells = mc ∧ rm.slots = ms ∧ rm.frames + 1 ≤ R.frames ∧ 8 + (maxL + 11) + rm.locals ≤ R.locals ∧ (∀ w ∈ ws, ∀ (a' : Array Value) (U : State), s.WarmedH U.vm → w.before a' U = true) ∧ Cond.codeWith y bytes maxL ret hh ∈ ws) ∧
  (Cond.codeWith y bytes maxL ret hh).before args s = true ∧ (Cond.initialized y.cls).before args s = true ∧ (y.cls ≠ "java/lang/invoke/MethodHandle" ∧ y.cls ≠ "java/lang/invoke/VarHandle") ∧
  (∀ sig, parseMethodDescriptor y.desc = some sig → n = sig.parameters.length) ∧ (Cond.methodLink own index y).before args s = true ∧ (Cond.instanceMethod y).before args s = true ∧ (Cond.selects C y y).before args s = true
theorem vx_cwVW {own C : String} {index maxL mc ms : Nat} {y : MethodName} {bytes : ByteArray} {ret : Option FieldType} {hh : List (Nat × Nat × Nat × Nat)} {Ts ws ws' : List Cond} {rm : Room} (n : Nat) (ht : ∀ w ∈ Ts, w.before args s = true) (hT : GoodIn Ts (wsV own index C y ws)) (hw : ws = Cond.codeWith y bytes maxL ret hh :: ws') (hrc : rm.cells = mc) (hrs : rm.slots = ms)
    (hd : y.cls = C ∧ y.cls ≠ "java/lang/invoke/MethodHandle" ∧ y.cls ≠ "java/lang/invoke/VarHandle" ∧ (parseMethodDescriptor y.desc).map (fun d => d.parameters.length) = some n) (hR : rm.frames + 1 ≤ R.frames ∧ 8 + (maxL + 11) + rm.locals ≤ R.locals) :
    vx_CVW R s args own C index y bytes maxL ret hh ws rm mc ms n := by
  obtain ⟨hC, hd⟩ := hd
  subst hC
  have ok : ∀ w ∈ wsV own index y.cls y ws, w.before args s = true := fun w h => ht w (hT w h).1
  have hG : GoodIn Ts ws := fun w h => hT w (by unfold wsV; exact List.mem_append_right _ h)
  have hc : Cond.codeWith y bytes maxL ret hh ∈ ws := by rw [hw]; exact List.mem_cons_self
  refine ⟨⟨hrc, hrs, hR.1, hR.2, pay_in ht hG, hc⟩, ht _ (hG _ hc).1, ok _ (by simp [wsV]), ⟨hd.1, hd.2.1⟩, fun sig h => ?_, ok _ (by simp [wsV]), ok _ (by simp [wsV]), ok _ (by simp [wsV])⟩
  have h2 := hd.2.2
  rw [h] at h2
  exact (Option.some.inj h2).symm
theorem vx_runVW {y : MethodName} {bytes cc : ByteArray} {maxL nL mc ms n index : Nat} {ret : Option FieldType} {hh : List (Nat × Nat × Nat × Nat)} {ws : List Cond} {rm : Room} {Pc : Array Value → State → Prop} {Qc : Array Value → State → Outcome → State → Prop} {free : Addr → Prop} {Ts : List Cond} {own C : String} {b : Addr} {As rest : List Value} {g : JFrame}
    (S : CallFix p m c cc nL s args Ts own) (hM : Met l y ws rm Pc Qc mc ms free) (cw : vx_CVW R s args own C index y bytes maxL ret hh ws rm mc ms n) (hp : PreV s H C b Pc As)
    (hg : g.method = m) (hn : As.length = n) (hsize : g.locals.size = nL) (hstack : g.stack = As.reverse ++ .ref b :: rest) (hW : 2 * g.monitorRoom + (rest.map fun v => v.category).sum ≤ 8) (hdg : decode cc g.pc = .ok (.invokevirtual index, 3)) (hf : cells + mc ≤ R.cells ∧ slots + ms ≤ R.slots) :
    va_Run p l e R s m args below meth c H locs cells slots mc ms g rest (Qc (Value.ref b :: As).toArray) free := by
  obtain ⟨⟨hrc, hrs, hfr, hlo, hws, hcw⟩, hcode, hini, hy, hlen, hl, hin, hse⟩ := cw
  have hK : Back l R p e below s args y 3 8 (PreOf R mc ms Pc) (PostOf Qc mc ms free) := va_backW (hh := hh) (bytes := bytes) (maxL := maxL) (ret := ret) hM hp.1 hrc hrs hfr hlo hws hcw (fun a' U hW => word_at hW (Or.inl (by first | rfl | simp [Cond.onTables, Cond.keeps, Cond.steady])) hini)
  obtain ⟨hx, hb, hml, ho, -⟩ := S
  obtain ⟨-, ⟨cellB, hcB, hoB, hclB⟩, hPc⟩ := hp
  intro T hT X
  obtain ⟨v, vm₁, ⟨U', l2, c2, s2⟩, hW₁, X', ⟨g', mk, t, L, e1, e2, hq, h1, hL, h2, h3⟩, st⟩ := vx_callVW X hx (C := C) (hh := hh) (bytes := bytes) (maxL := maxL) (ret := ret) ho hl hin hse hcode hy hK (by rw [hT]; exact hcB) hoB hclB hg (hsize.trans hml.symm) (argsL := As) (rest := rest) (fun sig h => hn.trans (hlen sig h)) hstack hW (by rw [hb]; exact hdg)
    (fun vm₁ hW₁ => ⟨hf.1, hf.2, hPc (T.setVm vm₁) hT hW₁⟩)
  dsimp only [Pt.U, Pt.locs, Pt.cells, Pt.slots] at X' e1 e2 h1 h2 h3 st
  subst h1; subst h2; subst h3
  exact ⟨v, (T.setVm vm₁).calling g' mk (Value.ref b :: As).toArray, t, U', L, hT, X', hL, e1, e2, hq, st⟩
section
variable {y : MethodName} {bytes cc : ByteArray} {maxL nL mc ms n index : Nat} {ret : Option FieldType} {ws : List Cond} {rm : Room} {Pc : Array Value → State → Prop} {Qc : Array Value → State → Outcome → State → Prop} {XC : String → State → State → Prop} {free : Addr → Prop} {Ts : List Cond} {own C : String} {b : Addr} {As rest : List Value} {g : JFrame}
theorem vx_runVX {hh : List (Nat × Nat × Nat × Nat)} (S : CallFix p m c cc nL s args Ts own) (hM : vx_Met l y ws rm Pc Qc XC mc ms free) (cw : vx_CVW R s args own C index y bytes maxL ret hh ws rm mc ms n) (hp : PreV s H C b Pc As)
    (hg : g.method = m) (hn : As.length = n) (hsize : g.locals.size = nL) (hstack : g.stack = As.reverse ++ .ref b :: rest) (hW : 2 * g.monitorRoom + (rest.map fun v => v.category).sum ≤ 8) (hdg : decode cc g.pc = .ok (.invokevirtual index, 3)) (hf : cells + mc ≤ R.cells ∧ slots + ms ≤ R.slots) :
    vx_Run p l e R s m args below meth c H locs cells slots mc ms g rest (Qc (Value.ref b :: As).toArray) XC free := by
  obtain ⟨⟨hrc, hrs, hfr, hlo, hws, hcw⟩, hcode, hini, hy, hlen, hl, hin, hse⟩ := cw
  have hK : vx_Back l R p e below s args y 3 8 (PreOf R mc ms Pc) (PostOf Qc mc ms free) (vx_Post XC mc ms free) := vx_backW (hh := hh) (bytes := bytes) (maxL := maxL) (ret := ret) hM hp.1 hrc hrs hfr hlo hws hcw (fun a' U hW => word_at hW (Or.inl (by first | rfl | simp [Cond.onTables, Cond.keeps, Cond.steady])) hini)
  obtain ⟨hx, hb, hml, ho, -⟩ := S
  obtain ⟨-, ⟨cellB, hcB, hoB, hclB⟩, hPc⟩ := hp
  intro T hT X
  rcases vx_callVX X hx (C := C) (hh := hh) (bytes := bytes) (maxL := maxL) (ret := ret) ho hl hin hse hcode hy hK (by rw [hT]; exact hcB) hoB hclB hg (hsize.trans hml.symm) (argsL := As) (rest := rest) (fun sig h => hn.trans (hlen sig h)) hstack hW (by rw [hb]; exact hdg)
    (fun vm₁ hW₁ => ⟨hf.1, hf.2, hPc (T.setVm vm₁) hT hW₁⟩) with ⟨v, vm₁, ⟨U', l2, c2, s2⟩, hW₁, X', ⟨g', mk, t, L, e1, e2, hq, h1, hL, h2, h3⟩, st⟩ | ⟨q, vm₁, ⟨U', l2, c2, s2⟩, hW₁, X', ⟨g', mk, t, L, E, ce, e1, e2, hq, hce, hcv, hcl, h1, hL, h2, h3⟩, st⟩
  · dsimp only [Pt.U, Pt.locs, Pt.cells, Pt.slots] at X' e1 e2 h1 h2 h3 st
    subst h1; subst h2; subst h3
    exact Or.inl ⟨v, (T.setVm vm₁).calling g' mk (Value.ref b :: As).toArray, t, U', L, hT, X', hL, e1, e2, hq, st⟩
  · dsimp only [Pt.U, Pt.locs, Pt.cells, Pt.slots] at X' e1 e2 h1 h2 h3 st hcl
    subst h1; subst h2; subst h3
    exact Or.inr ⟨q, (T.setVm vm₁).calling g' mk (Value.ref b :: As).toArray, t, U', L, E, ce, hT, X', hL, e1, e2, hq, hce, hcv, vx_cls hW₁ hcl, st⟩
theorem vx_runSX {hh : List (Nat × Nat × Nat × Nat)} (S : CallFix p m c cc nL s args Ts own) (hM : vx_Met l y ws rm Pc Qc XC mc ms free) (cw : vx_CSW R s args own index y bytes maxL ret hh ws rm mc ms n) (hp : PreS s H Pc As)
    (hg : g.method = m) (hn : As.length = n) (hsize : g.locals.size = nL) (hstack : g.stack = As.reverse ++ rest) (hW : 2 * g.monitorRoom + (rest.map fun v => v.category).sum ≤ 8) (hdg : decode cc g.pc = .ok (.invokestatic index, 3)) (hf : cells + mc ≤ R.cells ∧ slots + ms ≤ R.slots) :
    vx_Run p l e R s m args below meth c H locs cells slots mc ms g rest (Qc As.toArray) XC free := by
  obtain ⟨⟨hrc, hrs, hfr, hlo, hws, hcw⟩, hcode, hini, hy, hlen, hl, hstt⟩ := cw
  have hK : vx_Back l R p e below s args y 3 8 (PreOf R mc ms Pc) (PostOf Qc mc ms free) (vx_Post XC mc ms free) := vx_backW (hh := hh) (bytes := bytes) (maxL := maxL) (ret := ret) hM hp.1 hrc hrs hfr hlo hws hcw (fun a' U hW => word_at hW (Or.inl (by first | rfl | simp [Cond.onTables, Cond.keeps, Cond.steady])) hini)
  obtain ⟨hx, hb, hml, ho, -⟩ := S
  intro T hT X
  rcases vx_callSX X hx (hh := hh) (bytes := bytes) (maxL := maxL) (ret := ret) ho hl hstt hini hcode hy hK hg (hsize.trans hml.symm) (argsL := As) (rest := rest) (fun sig h => hn.trans (hlen sig h)) hstack hW (by rw [hb]; exact hdg)
    (fun vm₁ hW₁ => ⟨hf.1, hf.2, hp.2 (T.setVm vm₁) hT hW₁⟩) with ⟨v, vm₁, ⟨U', l2, c2, s2⟩, hW₁, X', ⟨g', mk, t, L, e1, e2, hq, h1, hL, h2, h3⟩, st⟩ | ⟨q, vm₁, ⟨U', l2, c2, s2⟩, hW₁, X', ⟨g', mk, t, L, E, ce, e1, e2, hq, hce, hcv, hcl, h1, hL, h2, h3⟩, st⟩
  · dsimp only [Pt.U, Pt.locs, Pt.cells, Pt.slots] at X' e1 e2 h1 h2 h3 st
    subst h1; subst h2; subst h3
    exact Or.inl ⟨v, (T.setVm vm₁).calling g' mk As.toArray, t, U', L, hT, X', hL, e1, e2, hq, st⟩
  · dsimp only [Pt.U, Pt.locs, Pt.cells, Pt.slots] at X' e1 e2 h1 h2 h3 st hcl
    subst h1; subst h2; subst h3
    exact Or.inr ⟨q, (T.setVm vm₁).calling g' mk As.toArray, t, U', L, E, ce, hT, X', hL, e1, e2, hq, hce, hcv, vx_cls hW₁ hcl, st⟩
end
end VXH
theorem vx_ofWH {l : Launch} {y : MethodName} {ws ws' : List Cond} {rm : Room} {Pc : Array Value → State → Prop} {Qc : Array Value → State → Outcome → State → Prop} {XC : String → State → State → Prop} {mc ms : Nat} {free : Addr → Prop} {cc : ByteArray} {maxL : Nat} {ret : Option FieldType} {hh : List (Nat × Nat × Nat × Nat)}
    (hy : plainName y.cls = true) (hw : ws = Cond.codeWith y cc maxL ret hh :: ws')
    (body : ∀ p e s m args below meth c s₁, BodyLoose p l y (headSpec ws rm) cc maxL ret e s m args below meth c s₁ → c.maxLocals = maxL → Pc args s →
      W p l e (headSpec ws rm).room s m args below meth c s.heap [] 0 0 (vx_MQ below Qc XC args s mc ms free) (entryFrame m args maxL)) : vx_Met l y ws rm Pc Qc XC mc ms free := by
  refine MetFree.of_bodyS (code := cc) (maxLocals := maxL) (ret := ret) hy ?_ ?_
  · intro args s m h hn
    obtain ⟨m9, meth, c, hn9, h1, h2, h3, h4, -, h5, h6, -⟩ := Cond.codeWith_spec (atoms_spec (ws := ws) h _ (by rw [hw]; exact List.mem_cons_self))
    cases hn.symm.trans hn9
    exact ⟨meth, c, h1, h2, h3, h4, h5, h6⟩
  · intro p e s m args below meth c s₁ B hml hP _
    have hh0 : s₁.heap = s.heap := by rw [B.state]; rfl
    obtain ⟨t, a1, o, b1, b2, b3⟩ := body p e s m args below meth c s₁ B hml hP s₁ hh0 (Stand.of_body B)
    exact ⟨t, o, a1, b1, b2, b3⟩
/-! ===== END ===== -/
end
section
/-! names, printed by wip/whole/names.py: classes, fields, methods, words, decode rows -/
def RX0 : String := "ScanForge$Block"
def TX0 : u_T := fun k => match k with
  | 0 => ("ScanForge$Block", "kind", "I", false)
  | 1 => ("ScanForge$Block", "a", "I", false)
  | 2 => ("ScanForge$Block", "b", "I", false)
  | 3 => ("ScanForge$Block", "c", "I", false)
  | 4 => ("ScanForge$Block", "n", "D", false)
  | 5 => ("ScanForge$Block", "guarded", "Z", false)
  | 6 => ("ScanForge$Block", "counted", "I", false)
  | 7 => ("ScanForge$Block", "hadPower", "Z", false)
  | 8 => ("ScanForge$Block", "sum", "D", false)
  | 9 => ("ScanForge$Block", "errorBefore", "D", false)
  | 10 => ("ScanForge$Block", "runs", "I", false)
  | _ => ("ScanForge$Block", "faults", "I", false)
def tyX0 : Nat → FieldType := fun k => match k with
  | 0 => .int
  | 1 => .int
  | 2 => .int
  | 3 => .int
  | 4 => .double
  | 5 => .boolean
  | 6 => .int
  | 7 => .boolean
  | 8 => .double
  | 9 => .double
  | 10 => .int
  | _ => .int
theorem nmX0 : ∀ a, a < 12 → ∀ b, b < 12 → a ≠ b → (TX0 a).2.1 ≠ (TX0 b).2.1 := by decide +kernel
theorem tyX0_ok : ∀ k, k < 12 → parseFieldDescriptor (TX0 k).2.2.1 = some (tyX0 k) := by decide +kernel
def RX1 : String := "ScanForge$Rung"
def TX1 : u_T := fun k => match k with
  | 0 => ("ScanForge$Rung", "cellKinds", "[I", true)
  | 1 => ("ScanForge$Rung", "cellBits", "[I", true)
  | 2 => ("ScanForge$Rung", "wasOn", "[Z", true)
  | 3 => ("ScanForge$Rung", "links", "[Z", true)
  | 4 => ("ScanForge$Rung", "powers", "[Z", true)
  | 5 => ("ScanForge$Rung", "coilKinds", "[I", true)
  | _ => ("ScanForge$Rung", "coilNumbers", "[I", true)
def tyX1 : Nat → FieldType := fun k => match k with
  | 0 => .array .int
  | 1 => .array .int
  | 2 => .array .boolean
  | 3 => .array .boolean
  | 4 => .array .boolean
  | 5 => .array .int
  | _ => .array .int
theorem nmX1 : ∀ a, a < 7 → ∀ b, b < 7 → a ≠ b → (TX1 a).2.1 ≠ (TX1 b).2.1 := by decide +kernel
theorem tyX1_ok : ∀ k, k < 7 → parseFieldDescriptor (TX1 k).2.2.1 = some (tyX1 k) := by decide +kernel
def RX2 : String := "ScanForge"
def TX2 : u_T := fun k => match k with
  | 0 => ("ScanForge", "bits", "[Z", true)
  | 1 => ("ScanForge", "registers", "[D", true)
  | 2 => ("ScanForge", "rungs", "[LScanForge$Rung;", true)
  | 3 => ("ScanForge", "blocks", "[LScanForge$Block;", true)
  | 4 => ("ScanForge", "scans", "I", false)
  | 5 => ("ScanForge", "faults", "I", false)
  | _ => ("ScanForge", "haltedBy", "I", false)
def tyX2 : Nat → FieldType := fun k => match k with
  | 0 => .array .boolean
  | 1 => .array .double
  | 2 => .array (.object "ScanForge$Rung")
  | 3 => .array (.object "ScanForge$Block")
  | 4 => .int
  | 5 => .int
  | _ => .int
theorem nmX2 : ∀ a, a < 7 → ∀ b, b < 7 → a ≠ b → (TX2 a).2.1 ≠ (TX2 b).2.1 := by decide +kernel
theorem tyX2_ok : ∀ k, k < 7 → parseFieldDescriptor (TX2 k).2.2.1 = some (tyX2 k) := by decide +kernel
def RX3 : String := "ScanForgeModel"
def TX3 : u_T := fun k => match k with
  | 0 => ("ScanForgeModel", "bit", "[Z", true)
  | 1 => ("ScanForgeModel", "was", "[Z", true)
  | 2 => ("ScanForgeModel", "link", "[Z", true)
  | 3 => ("ScanForgeModel", "power", "[Z", true)
  | 4 => ("ScanForgeModel", "seen", "[Z", true)
  | 5 => ("ScanForgeModel", "guarded", "[Z", true)
  | 6 => ("ScanForgeModel", "had", "[Z", true)
  | 7 => ("ScanForgeModel", "now", "[Z", true)
  | 8 => ("ScanForgeModel", "register", "[D", true)
  | 9 => ("ScanForgeModel", "amount", "[D", true)
  | 10 => ("ScanForgeModel", "sum", "[D", true)
  | 11 => ("ScanForgeModel", "last", "[D", true)
  | 12 => ("ScanForgeModel", "kind", "[I", true)
  | 13 => ("ScanForgeModel", "of", "[I", true)
  | 14 => ("ScanForgeModel", "coil", "[I", true)
  | 15 => ("ScanForgeModel", "coilOf", "[I", true)
  | 16 => ("ScanForgeModel", "block", "[I", true)
  | 17 => ("ScanForgeModel", "first", "[I", true)
  | 18 => ("ScanForgeModel", "second", "[I", true)
  | 19 => ("ScanForgeModel", "third", "[I", true)
  | 20 => ("ScanForgeModel", "counted", "[I", true)
  | 21 => ("ScanForgeModel", "runs", "[I", true)
  | 22 => ("ScanForgeModel", "faults", "[I", true)
  | 23 => ("ScanForgeModel", "scans", "I", false)
  | 24 => ("ScanForgeModel", "all", "I", false)
  | 25 => ("ScanForgeModel", "thrown", "I", false)
  | 26 => ("ScanForgeModel", "by", "I", false)
  | _ => ("ScanForgeModel", "halted", "Z", false)
def tyX3 : Nat → FieldType := fun k => match k with
  | 0 => .array .boolean
  | 1 => .array .boolean
  | 2 => .array .boolean
  | 3 => .array .boolean
  | 4 => .array .boolean
  | 5 => .array .boolean
  | 6 => .array .boolean
  | 7 => .array .boolean
  | 8 => .array .double
  | 9 => .array .double
  | 10 => .array .double
  | 11 => .array .double
  | 12 => .array .int
  | 13 => .array .int
  | 14 => .array .int
  | 15 => .array .int
  | 16 => .array .int
  | 17 => .array .int
  | 18 => .array .int
  | 19 => .array .int
  | 20 => .array .int
  | 21 => .array .int
  | 22 => .array .int
  | 23 => .int
  | 24 => .int
  | 25 => .int
  | 26 => .int
  | _ => .boolean
theorem nmX3 : ∀ a, a < 28 → ∀ b, b < 28 → a ≠ b → (TX3 a).2.1 ≠ (TX3 b).2.1 := by decide +kernel
theorem tyX3_ok : ∀ k, k < 28 → parseFieldDescriptor (TX3 k).2.2.1 = some (tyX3 k) := by decide +kernel
def RL : String := "ScanForgeLaw"
abbrev vwCl : List vw_C := [(RX0, TX0, 12), (RX1, TX1, 7), (RX2, TX2, 7), (RX3, TX3, 28)]
/-- the good words of the tables -/
def gw_all : List Cond := lw_tbl.filter goodWord
theorem gw_in {w : Cond} {k : Nat} (h : lw_tbl[k]? = some w) (g : goodWord w = true) : w ∈ gw_all := List.mem_filter.mpr ⟨List.mem_of_getElem? h, g⟩
theorem gw_sub {w : Cond} (h : w ∈ gw_all) : w ∈ lw_tbl := (List.mem_filter.mp h).1
theorem gw_good {w : Cond} (h : w ∈ gw_all) : (w.onTables && w.keeps) = true ∨ ∃ ty, w = .arrayClass ty := good_of_word (List.mem_filter.mp h).2
abbrev cX2_init : ByteArray := prog_1_method_1_code
def yX2_init : MethodName := ⟨RX2, "<init>", "()V"⟩
def wX2_init : List Cond := .code yX2_init cX2_init 2 none :: gw_all
abbrev cX1_init : ByteArray := prog_3_method_1_code
def yX1_init : MethodName := ⟨RX1, "<init>", "()V"⟩
def wX1_init : List Cond := .code yX1_init cX1_init 1 none :: gw_all
abbrev cX0_init : ByteArray := prog_2_method_1_code
def yX0_init : MethodName := ⟨RX0, "<init>", "()V"⟩
def wX0_init : List Cond := .code yX0_init cX0_init 1 none :: gw_all
abbrev cX2_resume : ByteArray := prog_1_method_10_code
def yX2_resume : MethodName := ⟨RX2, "resume", "()I"⟩
def wX2_resume : List Cond := .code yX2_resume cX2_resume 2 (some .int) :: gw_all
abbrev cL_cell : ByteArray := method_3_code
def yL_cell : MethodName := ⟨RL, "cell", "(LScanForge;IIIII[J)I"⟩
def wL_cell : List Cond := .codeWith yL_cell cL_cell 8 (some .int) [(0, 16, 19, 13), (0, 16, 23, 15)] :: gw_all
abbrev cX2_cell : ByteArray := prog_1_method_2_code
def yX2_cell : MethodName := ⟨RX2, "cell", "(IIIII)I"⟩
def wX2_cell : List Cond := .code yX2_cell cX2_cell 6 (some .int) :: gw_all
abbrev cX2_isCell : ByteArray := prog_1_method_22_code
def yX2_isCell : MethodName := ⟨RX2, "isCell", "(II)Z"⟩
def wX2_isCell : List Cond := .code yX2_isCell cX2_isCell 2 (some .boolean) :: gw_all
abbrev cX2_isBetween : ByteArray := prog_1_method_18_code
def yX2_isBetween : MethodName := ⟨RX2, "isBetween", "(III)Z"⟩
def wX2_isBetween : List Cond := .code yX2_isBetween cX2_isBetween 3 (some .boolean) :: gw_all
abbrev cX2_looksAtBit : ByteArray := prog_1_method_21_code
def yX2_looksAtBit : MethodName := ⟨RX2, "looksAtBit", "(I)Z"⟩
def wX2_looksAtBit : List Cond := .code yX2_looksAtBit cX2_looksAtBit 1 (some .boolean) :: gw_all
abbrev cX2_isIndex : ByteArray := prog_1_method_19_code
def yX2_isIndex : MethodName := ⟨RX2, "isIndex", "(II)Z"⟩
def wX2_isIndex : List Cond := .code yX2_isIndex cX2_isIndex 2 (some .boolean) :: gw_all
abbrev cX2_demandNumbers : ByteArray := prog_1_method_16_code
def yX2_demandNumbers : MethodName := ⟨RX2, "demandNumbers", "(Z)V"⟩
def wX2_demandNumbers : List Cond := .code yX2_demandNumbers cX2_demandNumbers 1 none :: gw_all
abbrev cX2_isRow : ByteArray := prog_1_method_20_code
def yX2_isRow : MethodName := ⟨RX2, "isRow", "(II)Z"⟩
def wX2_isRow : List Cond := .code yX2_isRow cX2_isRow 2 (some .boolean) :: gw_all
abbrev cX2_demandPlace : ByteArray := prog_1_method_17_code
def yX2_demandPlace : MethodName := ⟨RX2, "demandPlace", "(Z)V"⟩
def wX2_demandPlace : List Cond := .code yX2_demandPlace cX2_demandPlace 1 none :: gw_all
abbrev cX1_changeCell : ByteArray := prog_3_method_2_code
def yX1_changeCell : MethodName := ⟨RX1, "changeCell", "(IIII)I"⟩
def wX1_changeCell : List Cond := .code yX1_changeCell cX1_changeCell 7 (some .int) :: gw_all
abbrev cL_link : ByteArray := method_4_code
def yL_link : MethodName := ⟨RL, "link", "(LScanForge;IIIZ[J)I"⟩
def wL_link : List Cond := .codeWith yL_link cL_link 7 (some .int) [(0, 21, 24, 15)] :: gw_all
abbrev cX2_link : ByteArray := prog_1_method_3_code
def yX2_link : MethodName := ⟨RX2, "link", "(IIIZ)Z"⟩
def wX2_link : List Cond := .code yX2_link cX2_link 5 (some .boolean) :: gw_all
abbrev cX1_changeLink : ByteArray := prog_3_method_3_code
def yX1_changeLink : MethodName := ⟨RX1, "changeLink", "(IIZ)Z"⟩
def wX1_changeLink : List Cond := .code yX1_changeLink cX1_changeLink 6 (some .boolean) :: gw_all
abbrev cL_coil : ByteArray := method_5_code
def yL_coil : MethodName := ⟨RL, "coil", "(LScanForge;IIII[J)I"⟩
def wL_coil : List Cond := .codeWith yL_coil cL_coil 7 (some .int) [(0, 14, 17, 13), (0, 14, 21, 15)] :: gw_all
abbrev cX2_coil : ByteArray := prog_1_method_4_code
def yX2_coil : MethodName := ⟨RX2, "coil", "(IIII)I"⟩
def wX2_coil : List Cond := .code yX2_coil cX2_coil 5 (some .int) :: gw_all
abbrev cX2_isCoil : ByteArray := prog_1_method_23_code
def yX2_isCoil : MethodName := ⟨RX2, "isCoil", "(II)Z"⟩
def wX2_isCoil : List Cond := .code yX2_isCoil cX2_isCoil 2 (some .boolean) :: gw_all
abbrev cX1_changeCoil : ByteArray := prog_3_method_4_code
def yX1_changeCoil : MethodName := ⟨RX1, "changeCoil", "(III)I"⟩
def wX1_changeCoil : List Cond := .code yX1_changeCoil cX1_changeCoil 5 (some .int) :: gw_all
abbrev cL_block : ByteArray := method_6_code
def yL_block : MethodName := ⟨RL, "block", "(LScanForge;IIIIID[J)I"⟩
def wL_block : List Cond := .codeWith yL_block cL_block 10 (some .int) [(0, 18, 21, 13), (0, 18, 25, 15)] :: gw_all
abbrev cX2_block : ByteArray := prog_1_method_5_code
def yX2_block : MethodName := ⟨RX2, "block", "(IIIIID)I"⟩
def wX2_block : List Cond := .code yX2_block cX2_block 8 (some .int) :: gw_all
abbrev cX2_isBlock : ByteArray := prog_1_method_24_code
def yX2_isBlock : MethodName := ⟨RX2, "isBlock", "(IIIID)Z"⟩
def wX2_isBlock : List Cond := .code yX2_isBlock cX2_isBlock 6 (some .boolean) :: gw_all
abbrev cX2_isBlockBit : ByteArray := prog_1_method_26_code
def yX2_isBlockBit : MethodName := ⟨RX2, "isBlockBit", "(I)Z"⟩
def wX2_isBlockBit : List Cond := .code yX2_isBlockBit cX2_isBlockBit 1 (some .boolean) :: gw_all
abbrev cX2_isCountable : ByteArray := prog_1_method_27_code
def yX2_isCountable : MethodName := ⟨RX2, "isCountable", "(D)Z"⟩
def wX2_isCountable : List Cond := .code yX2_isCountable cX2_isCountable 2 (some .boolean) :: gw_all
abbrev cX2_areRegisters : ByteArray := prog_1_method_25_code
def yX2_areRegisters : MethodName := ⟨RX2, "areRegisters", "(II)Z"⟩
def wX2_areRegisters : List Cond := .code yX2_areRegisters cX2_areRegisters 2 (some .boolean) :: gw_all
abbrev cX2_isSetting : ByteArray := prog_1_method_28_code
def yX2_isSetting : MethodName := ⟨RX2, "isSetting", "(D)Z"⟩
def wX2_isSetting : List Cond := .code yX2_isSetting cX2_isSetting 2 (some .boolean) :: gw_all
abbrev cX0_become : ByteArray := prog_2_method_2_code
def yX0_become : MethodName := ⟨RX0, "become", "(IIIID)I"⟩
def wX0_become : List Cond := .code yX0_become cX0_become 8 (some .int) :: gw_all
abbrev cL_guard : ByteArray := method_7_code
def yL_guard : MethodName := ⟨RL, "guard", "(LScanForge;IZ[J)I"⟩
def wL_guard : List Cond := .codeWith yL_guard cL_guard 5 (some .int) [(0, 17, 20, 15)] :: gw_all
abbrev cX2_guard : ByteArray := prog_1_method_6_code
def yX2_guard : MethodName := ⟨RX2, "guard", "(IZ)Z"⟩
def wX2_guard : List Cond := .code yX2_guard cX2_guard 4 (some .boolean) :: gw_all
abbrev cL_input : ByteArray := method_8_code
def yL_input : MethodName := ⟨RL, "input", "(LScanForge;IZ[J)I"⟩
def wL_input : List Cond := .codeWith yL_input cL_input 5 (some .int) [(0, 17, 20, 15)] :: gw_all
abbrev cX2_input : ByteArray := prog_1_method_7_code
def yX2_input : MethodName := ⟨RX2, "input", "(IZ)Z"⟩
def wX2_input : List Cond := .code yX2_input cX2_input 4 (some .boolean) :: gw_all
abbrev cL_set : ByteArray := method_9_code
def yL_set : MethodName := ⟨RL, "set", "(LScanForge;ID[D)I"⟩
def wL_set : List Cond := .codeWith yL_set cL_set 6 (some .int) [(0, 10, 13, 13), (0, 10, 17, 15)] :: gw_all
abbrev cX2_set : ByteArray := prog_1_method_8_code
def yX2_set : MethodName := ⟨RX2, "set", "(ID)D"⟩
def wX2_set : List Cond := .code yX2_set cX2_set 6 (some .double) :: gw_all
abbrev cX2_isValue : ByteArray := prog_1_method_29_code
def yX2_isValue : MethodName := ⟨RX2, "isValue", "(D)Z"⟩
def wX2_isValue : List Cond := .code yX2_isValue cX2_isValue 2 (some .boolean) :: gw_all
abbrev cL_scan : ByteArray := method_10_code
def yL_scan : MethodName := ⟨RL, "scan", "(LScanForge;I[J)I"⟩
def wL_scan : List Cond := .codeWith yL_scan cL_scan 4 (some .int) [(0, 9, 12, 13), (0, 9, 15, 44), (0, 9, 18, 46)] :: gw_all
abbrev cX2_scan : ByteArray := prog_1_method_9_code
def yX2_scan : MethodName := ⟨RX2, "scan", "(I)I"⟩
def wX2_scan : List Cond := .code yX2_scan cX2_scan 3 (some .int) :: gw_all
abbrev cX2_isHalted : ByteArray := prog_1_method_30_code
def yX2_isHalted : MethodName := ⟨RX2, "isHalted", "()Z"⟩
def wX2_isHalted : List Cond := .code yX2_isHalted cX2_isHalted 1 (some .boolean) :: gw_all
abbrev cX2_scanOnce : ByteArray := prog_1_method_32_code
def yX2_scanOnce : MethodName := ⟨RX2, "scanOnce", "()V"⟩
def wX2_scanOnce : List Cond := .code yX2_scanOnce cX2_scanOnce 3 none :: gw_all
abbrev cX1_look : ByteArray := prog_3_method_6_code
def yX1_look : MethodName := ⟨RX1, "look", "([Z)V"⟩
def wX1_look : List Cond := .code yX1_look cX1_look 5 none :: gw_all
abbrev cX1_lookAtCell : ByteArray := prog_3_method_7_code
def yX1_lookAtCell : MethodName := ⟨RX1, "lookAtCell", "(I[Z)Z"⟩
def wX1_lookAtCell : List Cond := .code yX1_lookAtCell cX1_lookAtCell 5 (some .boolean) :: gw_all
abbrev cX1_hadPower : ByteArray := prog_3_method_5_code
def yX1_hadPower : MethodName := ⟨RX1, "hadPower", "(II)Z"⟩
def wX1_hadPower : List Cond := .code yX1_hadPower cX1_hadPower 3 (some .boolean) :: gw_all
abbrev cX1_join : ByteArray := prog_3_method_8_code
def yX1_join : MethodName := ⟨RX1, "join", "(II)V"⟩
def wX1_join : List Cond := .code yX1_join cX1_join 6 none :: gw_all
abbrev cX2_drive : ByteArray := prog_1_method_33_code
def yX2_drive : MethodName := ⟨RX2, "drive", "(IIZ)V"⟩
def wX2_drive : List Cond := .code yX2_drive cX2_drive 4 none :: gw_all
abbrev cX0_run : ByteArray := prog_2_method_4_code
def yX0_run : MethodName := ⟨RX0, "run", "(Z[Z[D)Z"⟩
def wX0_run : List Cond := .code yX0_run cX0_run 5 (some .boolean) :: gw_all
abbrev cX0_delay : ByteArray := prog_2_method_5_code
def yX0_delay : MethodName := ⟨RX0, "delay", "(Z[Z)V"⟩
def wX0_delay : List Cond := .code yX0_delay cX0_delay 3 none :: gw_all
abbrev cX0_countRuns : ByteArray := prog_2_method_6_code
def yX0_countRuns : MethodName := ⟨RX0, "countRuns", "(Z[Z)V"⟩
def wX0_countRuns : List Cond := .code yX0_countRuns cX0_countRuns 3 none :: gw_all
abbrev cX0_regulate : ByteArray := prog_2_method_8_code
def yX0_regulate : MethodName := ⟨RX0, "regulate", "(Z[D)Z"⟩
def wX0_regulate : List Cond := .code yX0_regulate cX0_regulate 7 (some .boolean) :: gw_all
abbrev cX0_limited : ByteArray := prog_2_method_10_code
def yX0_limited : MethodName := ⟨RX0, "limited", "(DDD)D"⟩
def wX0_limited : List Cond := .code yX0_limited cX0_limited 6 (some .double) :: gw_all
abbrev cX0_keep : ByteArray := prog_2_method_9_code
def yX0_keep : MethodName := ⟨RX0, "keep", "(D[D)Z"⟩
def wX0_keep : List Cond := .code yX0_keep cX0_keep 4 (some .boolean) :: gw_all
abbrev cX0_calculate : ByteArray := prog_2_method_7_code
def yX0_calculate : MethodName := ⟨RX0, "calculate", "([D)Z"⟩
def wX0_calculate : List Cond := .code yX0_calculate cX0_calculate 6 (some .boolean) :: gw_all
abbrev cX2_takeFault : ByteArray := prog_1_method_34_code
def yX2_takeFault : MethodName := ⟨RX2, "takeFault", "(I)V"⟩
def wX2_takeFault : List Cond := .code yX2_takeFault cX2_takeFault 3 none :: gw_all
abbrev cL_bit : ByteArray := method_11_code
def yL_bit : MethodName := ⟨RL, "bit", "(LScanForge;I[J)I"⟩
def wL_bit : List Cond := .codeWith yL_bit cL_bit 4 (some .int) [(0, 16, 19, 15)] :: gw_all
abbrev cX2_bit : ByteArray := prog_1_method_11_code
def yX2_bit : MethodName := ⟨RX2, "bit", "(I)Z"⟩
def wX2_bit : List Cond := .code yX2_bit cX2_bit 2 (some .boolean) :: gw_all
abbrev cL_register : ByteArray := method_12_code
def yL_register : MethodName := ⟨RL, "register", "(LScanForge;I[D)I"⟩
def wL_register : List Cond := .codeWith yL_register cL_register 4 (some .int) [(0, 8, 11, 15)] :: gw_all
abbrev cX2_register : ByteArray := prog_1_method_12_code
def yX2_register : MethodName := ⟨RX2, "register", "(I)D"⟩
def wX2_register : List Cond := .code yX2_register cX2_register 2 (some .double) :: gw_all
abbrev cL_power : ByteArray := method_13_code
def yL_power : MethodName := ⟨RL, "power", "(LScanForge;III[J)I"⟩
def wL_power : List Cond := .codeWith yL_power cL_power 6 (some .int) [(0, 19, 22, 15)] :: gw_all
abbrev cX2_power : ByteArray := prog_1_method_13_code
def yX2_power : MethodName := ⟨RX2, "power", "(III)Z"⟩
def wX2_power : List Cond := .code yX2_power cX2_power 4 (some .boolean) :: gw_all
abbrev cL_told : ByteArray := method_14_code
def yL_told : MethodName := ⟨RL, "told", "(LScanForge;II[J)I"⟩
def wL_told : List Cond := .codeWith yL_told cL_told 5 (some .int) [(0, 10, 13, 13), (0, 10, 17, 15)] :: gw_all
abbrev cX2_told : ByteArray := prog_1_method_14_code
def yX2_told : MethodName := ⟨RX2, "told", "(II)I"⟩
def wX2_told : List Cond := .code yX2_told cX2_told 3 (some .int) :: gw_all
abbrev cX0_tell : ByteArray := prog_2_method_3_code
def yX0_tell : MethodName := ⟨RX0, "tell", "(I)I"⟩
def wX0_tell : List Cond := .code yX0_tell cX0_tell 2 (some .int) :: gw_all
abbrev cL_count : ByteArray := method_15_code
def yL_count : MethodName := ⟨RL, "count", "(LScanForge;I[J)I"⟩
def wL_count : List Cond := .codeWith yL_count cL_count 4 (some .int) [(0, 9, 12, 13)] :: gw_all
abbrev cX2_count : ByteArray := prog_1_method_15_code
def yX2_count : MethodName := ⟨RX2, "count", "(I)I"⟩
def wX2_count : List Cond := .code yX2_count cX2_count 2 (some .int) :: gw_all
abbrev cX2_bitsOn : ByteArray := prog_1_method_31_code
def yX2_bitsOn : MethodName := ⟨RX2, "bitsOn", "()I"⟩
def wX2_bitsOn : List Cond := .code yX2_bitsOn cX2_bitsOn 3 (some .int) :: gw_all
abbrev cX3_init : ByteArray := prog_5_method_1_code
def yX3_init : MethodName := ⟨RX3, "<init>", "()V"⟩
def wX3_init : List Cond := .code yX3_init cX3_init 1 none :: gw_all
abbrev cX3_thrown : ByteArray := prog_5_method_2_code
def yX3_thrown : MethodName := ⟨RX3, "thrown", "()I"⟩
def wX3_thrown : List Cond := .code yX3_thrown cX3_thrown 1 (some .int) :: gw_all
abbrev cX3_cell : ByteArray := prog_5_method_6_code
def yX3_cell : MethodName := ⟨RX3, "cell", "(IIIII)I"⟩
def wX3_cell : List Cond := .code yX3_cell cX3_cell 8 (some .int) :: gw_all
abbrev cX3_in : ByteArray := prog_5_method_3_code
def yX3_in : MethodName := ⟨RX3, "in", "(III)Z"⟩
def wX3_in : List Cond := .code yX3_in cX3_in 3 (some .boolean) :: gw_all
abbrev cX3_fail : ByteArray := prog_5_method_4_code
def yX3_fail : MethodName := ⟨RX3, "fail", "(I)I"⟩
def wX3_fail : List Cond := .code yX3_fail cX3_fail 2 (some .int) :: gw_all
abbrev cX3_at : ByteArray := prog_5_method_5_code
def yX3_at : MethodName := ⟨RX3, "at", "(III)I"⟩
def wX3_at : List Cond := .code yX3_at cX3_at 3 (some .int) :: gw_all
abbrev cX3_link : ByteArray := prog_5_method_7_code
def yX3_link : MethodName := ⟨RX3, "link", "(IIIZ)Z"⟩
def wX3_link : List Cond := .code yX3_link cX3_link 7 (some .boolean) :: gw_all
abbrev cX3_coil : ByteArray := prog_5_method_8_code
def yX3_coil : MethodName := ⟨RX3, "coil", "(IIII)I"⟩
def wX3_coil : List Cond := .code yX3_coil cX3_coil 6 (some .int) :: gw_all
abbrev cX3_block : ByteArray := prog_5_method_11_code
def yX3_block : MethodName := ⟨RX3, "block", "(IIIIID)I"⟩
def wX3_block : List Cond := .code yX3_block cX3_block 10 (some .int) :: gw_all
abbrev cX3_fits : ByteArray := prog_5_method_10_code
def yX3_fits : MethodName := ⟨RX3, "fits", "(IIIID)Z"⟩
def wX3_fits : List Cond := .code yX3_fits cX3_fits 6 (some .boolean) :: gw_all
abbrev cX3_isRegister : ByteArray := prog_5_method_9_code
def yX3_isRegister : MethodName := ⟨RX3, "isRegister", "(I)Z"⟩
def wX3_isRegister : List Cond := .code yX3_isRegister cX3_isRegister 1 (some .boolean) :: gw_all
abbrev cX3_guard : ByteArray := prog_5_method_12_code
def yX3_guard : MethodName := ⟨RX3, "guard", "(IZ)Z"⟩
def wX3_guard : List Cond := .code yX3_guard cX3_guard 4 (some .boolean) :: gw_all
abbrev cX3_input : ByteArray := prog_5_method_13_code
def yX3_input : MethodName := ⟨RX3, "input", "(IZ)Z"⟩
def wX3_input : List Cond := .code yX3_input cX3_input 4 (some .boolean) :: gw_all
abbrev cX3_set : ByteArray := prog_5_method_14_code
def yX3_set : MethodName := ⟨RX3, "set", "(ID)D"⟩
def wX3_set : List Cond := .code yX3_set cX3_set 6 (some .double) :: gw_all
abbrev cX3_scan : ByteArray := prog_5_method_21_code
def yX3_scan : MethodName := ⟨RX3, "scan", "(I)I"⟩
def wX3_scan : List Cond := .code yX3_scan cX3_scan 4 (some .int) :: gw_all
abbrev cX3_rung : ByteArray := prog_5_method_20_code
def yX3_rung : MethodName := ⟨RX3, "rung", "(I)Z"⟩
def wX3_rung : List Cond := .code yX3_rung cX3_rung 6 (some .boolean) :: gw_all
abbrev cX3_column : ByteArray := prog_5_method_19_code
def yX3_column : MethodName := ⟨RX3, "column", "(II)V"⟩
def wX3_column : List Cond := .code yX3_column cX3_column 6 none :: gw_all
abbrev cX3_conducts : ByteArray := prog_5_method_18_code
def yX3_conducts : MethodName := ⟨RX3, "conducts", "(I)Z"⟩
def wX3_conducts : List Cond := .code yX3_conducts cX3_conducts 4 (some .boolean) :: gw_all
abbrev cX3_perform : ByteArray := prog_5_method_17_code
def yX3_perform : MethodName := ⟨RX3, "perform", "(IZ)Z"⟩
def wX3_perform : List Cond := .code yX3_perform cX3_perform 6 (some .boolean) :: gw_all
abbrev cX3_tally : ByteArray := prog_5_method_16_code
def yX3_tally : MethodName := ⟨RX3, "tally", "(IZ)V"⟩
def wX3_tally : List Cond := .code yX3_tally cX3_tally 3 none :: gw_all
abbrev cX3_reckon : ByteArray := prog_5_method_15_code
def yX3_reckon : MethodName := ⟨RX3, "reckon", "(I)Z"⟩
def wX3_reckon : List Cond := .code yX3_reckon cX3_reckon 12 (some .boolean) :: gw_all
abbrev cX3_resume : ByteArray := prog_5_method_22_code
def yX3_resume : MethodName := ⟨RX3, "resume", "()I"⟩
def wX3_resume : List Cond := .code yX3_resume cX3_resume 2 (some .int) :: gw_all
abbrev cX3_bit : ByteArray := prog_5_method_23_code
def yX3_bit : MethodName := ⟨RX3, "bit", "(I)Z"⟩
def wX3_bit : List Cond := .code yX3_bit cX3_bit 2 (some .boolean) :: gw_all
abbrev cX3_register : ByteArray := prog_5_method_24_code
def yX3_register : MethodName := ⟨RX3, "register", "(I)D"⟩
def wX3_register : List Cond := .code yX3_register cX3_register 2 (some .double) :: gw_all
abbrev cX3_power : ByteArray := prog_5_method_25_code
def yX3_power : MethodName := ⟨RX3, "power", "(III)Z"⟩
def wX3_power : List Cond := .code yX3_power cX3_power 4 (some .boolean) :: gw_all
abbrev cX3_told : ByteArray := prog_5_method_26_code
def yX3_told : MethodName := ⟨RX3, "told", "(II)I"⟩
def wX3_told : List Cond := .code yX3_told cX3_told 3 (some .int) :: gw_all
abbrev cX3_count : ByteArray := prog_5_method_27_code
def yX3_count : MethodName := ⟨RX3, "count", "(I)I"⟩
def wX3_count : List Cond := .code yX3_count cX3_count 4 (some .int) :: gw_all
abbrev cL_law : ByteArray := code
def yL_law : MethodName := ⟨RL, "law", "([I)Z"⟩
end
section
/-! the words, by their places -/
set_option maxRecDepth 20000 in
theorem mw_20 : Cond.initialized RL ∈ gw_all := gw_in (k := 20) (by decide +kernel) (by decide +kernel)
set_option maxRecDepth 20000 in
theorem mw_21 : Cond.initialized RX2 ∈ gw_all := gw_in (k := 21) (by decide +kernel) (by decide +kernel)
set_option maxRecDepth 20000 in
theorem mw_22 : Cond.initialized RX1 ∈ gw_all := gw_in (k := 22) (by decide +kernel) (by decide +kernel)
set_option maxRecDepth 20000 in
theorem mw_23 : Cond.initialized RX0 ∈ gw_all := gw_in (k := 23) (by decide +kernel) (by decide +kernel)
set_option maxRecDepth 20000 in
theorem mw_24 : Cond.initialized RX3 ∈ gw_all := gw_in (k := 24) (by decide +kernel) (by decide +kernel)
set_option maxRecDepth 20000 in
theorem mw_25 : Cond.initialized "java/lang/Throwable" ∈ gw_all := gw_in (k := 25) (by decide +kernel) (by decide +kernel)
set_option maxRecDepth 20000 in
theorem mw_26 : Cond.initialized "java/lang/Exception" ∈ gw_all := gw_in (k := 26) (by decide +kernel) (by decide +kernel)
set_option maxRecDepth 20000 in
theorem mw_27 : Cond.initialized "java/lang/RuntimeException" ∈ gw_all := gw_in (k := 27) (by decide +kernel) (by decide +kernel)
set_option maxRecDepth 20000 in
theorem mw_28 : Cond.initialized "java/lang/IllegalArgumentException" ∈ gw_all := gw_in (k := 28) (by decide +kernel) (by decide +kernel)
set_option maxRecDepth 20000 in
theorem mw_29 : Cond.initialized "java/lang/IndexOutOfBoundsException" ∈ gw_all := gw_in (k := 29) (by decide +kernel) (by decide +kernel)
set_option maxRecDepth 20000 in
theorem mw_30 : Cond.initialized "java/lang/IllegalStateException" ∈ gw_all := gw_in (k := 30) (by decide +kernel) (by decide +kernel)
set_option maxRecDepth 20000 in
theorem mw_31 : Cond.initialized "java/lang/ArithmeticException" ∈ gw_all := gw_in (k := 31) (by decide +kernel) (by decide +kernel)
set_option maxRecDepth 20000 in
theorem mw_32 : Cond.classLink RL 8 RX2 ∈ gw_all := gw_in (k := 32) (by decide +kernel) (by decide +kernel)
set_option maxRecDepth 20000 in
theorem mw_33 : Cond.instantiable RX2 7 ∈ gw_all := gw_in (k := 33) (by decide +kernel) (by decide +kernel)
set_option maxRecDepth 20000 in
theorem mw_34 : Cond.methodLink RL 67 yX2_init ∈ gw_all := gw_in (k := 34) (by decide +kernel) (by decide +kernel)
set_option maxRecDepth 20000 in
theorem mw_35 : Cond.instanceMethod yX2_init ∈ gw_all := gw_in (k := 35) (by decide +kernel) (by decide +kernel)
set_option maxRecDepth 20000 in
theorem mw_36 : Cond.code yX2_init prog_1_method_1_code 2 none ∈ gw_all := gw_in (k := 36) (by decide +kernel) (by decide +kernel)
set_option maxRecDepth 20000 in
theorem mw_37 : Cond.methodLink RX2 1 objectInit ∈ gw_all := gw_in (k := 37) (by decide +kernel) (by decide +kernel)
set_option maxRecDepth 20000 in
theorem mw_38 : Cond.instanceMethod objectInit ∈ gw_all := gw_in (k := 38) (by decide +kernel) (by decide +kernel)
set_option maxRecDepth 20000 in
theorem mw_39 : Cond.code objectInit object_method_1_code 1 none ∈ gw_all := gw_in (k := 39) (by decide +kernel) (by decide +kernel)
set_option maxRecDepth 20000 in
theorem mw_40 : Cond.classLink RX2 17 RX1 ∈ gw_all := gw_in (k := 40) (by decide +kernel) (by decide +kernel)
set_option maxRecDepth 20000 in
theorem mw_42 : Cond.instantiable RX1 7 ∈ gw_all := gw_in (k := 42) (by decide +kernel) (by decide +kernel)
set_option maxRecDepth 20000 in
theorem mw_44 : Cond.instanceMethod yX1_init ∈ gw_all := gw_in (k := 44) (by decide +kernel) (by decide +kernel)
set_option maxRecDepth 20000 in
theorem mw_45 : Cond.code yX1_init prog_3_method_1_code 1 none ∈ gw_all := gw_in (k := 45) (by decide +kernel) (by decide +kernel)
set_option maxRecDepth 20000 in
theorem mw_46 : Cond.methodLink RX1 3 objectInit ∈ gw_all := gw_in (k := 46) (by decide +kernel) (by decide +kernel)
set_option maxRecDepth 20000 in
theorem mw_47 : Cond.fieldLink RX1 9 "ScanForge$Rung" "cellKinds" "[I" ∈ gw_all := gw_in (k := 47) (by decide +kernel) (by decide +kernel)
set_option maxRecDepth 20000 in
theorem mw_48 : Cond.fieldLink RX1 15 "ScanForge$Rung" "cellBits" "[I" ∈ gw_all := gw_in (k := 48) (by decide +kernel) (by decide +kernel)
set_option maxRecDepth 20000 in
theorem mw_49 : Cond.fieldLink RX1 18 "ScanForge$Rung" "wasOn" "[Z" ∈ gw_all := gw_in (k := 49) (by decide +kernel) (by decide +kernel)
set_option maxRecDepth 20000 in
theorem mw_50 : Cond.fieldLink RX1 22 "ScanForge$Rung" "links" "[Z" ∈ gw_all := gw_in (k := 50) (by decide +kernel) (by decide +kernel)
set_option maxRecDepth 20000 in
theorem mw_51 : Cond.fieldLink RX1 25 "ScanForge$Rung" "powers" "[Z" ∈ gw_all := gw_in (k := 51) (by decide +kernel) (by decide +kernel)
set_option maxRecDepth 20000 in
theorem mw_52 : Cond.fieldLink RX1 28 "ScanForge$Rung" "coilKinds" "[I" ∈ gw_all := gw_in (k := 52) (by decide +kernel) (by decide +kernel)
set_option maxRecDepth 20000 in
theorem mw_54 : Cond.fieldLink RX1 31 "ScanForge$Rung" "coilNumbers" "[I" ∈ gw_all := gw_in (k := 54) (by decide +kernel) (by decide +kernel)
set_option maxRecDepth 20000 in
theorem mw_71 : Cond.arrayClass .boolean ∈ gw_all := gw_in (k := 71) (by decide +kernel) (by decide +kernel)
set_option maxRecDepth 20000 in
theorem mw_72 : Cond.arrayClass .double ∈ gw_all := gw_in (k := 72) (by decide +kernel) (by decide +kernel)
set_option maxRecDepth 20000 in
theorem mw_73 : Cond.arrayClass .int ∈ gw_all := gw_in (k := 73) (by decide +kernel) (by decide +kernel)
set_option maxRecDepth 20000 in
theorem mw_74 : Cond.classLink RX2 24 RX0 ∈ gw_all := gw_in (k := 74) (by decide +kernel) (by decide +kernel)
set_option maxRecDepth 20000 in
theorem mw_76 : Cond.instantiable RX0 12 ∈ gw_all := gw_in (k := 76) (by decide +kernel) (by decide +kernel)
set_option maxRecDepth 20000 in
theorem mw_78 : Cond.instanceMethod yX0_init ∈ gw_all := gw_in (k := 78) (by decide +kernel) (by decide +kernel)
set_option maxRecDepth 20000 in
theorem mw_79 : Cond.code yX0_init prog_2_method_1_code 1 none ∈ gw_all := gw_in (k := 79) (by decide +kernel) (by decide +kernel)
set_option maxRecDepth 20000 in
theorem mw_80 : Cond.methodLink RX0 3 objectInit ∈ gw_all := gw_in (k := 80) (by decide +kernel) (by decide +kernel)
set_option maxRecDepth 20000 in
theorem mw_81 : Cond.fieldLink RX0 9 "ScanForge$Block" "kind" "I" ∈ gw_all := gw_in (k := 81) (by decide +kernel) (by decide +kernel)
set_option maxRecDepth 20000 in
theorem mw_82 : Cond.fieldLink RX0 15 "ScanForge$Block" "a" "I" ∈ gw_all := gw_in (k := 82) (by decide +kernel) (by decide +kernel)
set_option maxRecDepth 20000 in
theorem mw_83 : Cond.fieldLink RX0 18 "ScanForge$Block" "b" "I" ∈ gw_all := gw_in (k := 83) (by decide +kernel) (by decide +kernel)
set_option maxRecDepth 20000 in
theorem mw_84 : Cond.fieldLink RX0 21 "ScanForge$Block" "c" "I" ∈ gw_all := gw_in (k := 84) (by decide +kernel) (by decide +kernel)
set_option maxRecDepth 20000 in
theorem mw_85 : Cond.fieldLink RX0 24 "ScanForge$Block" "n" "D" ∈ gw_all := gw_in (k := 85) (by decide +kernel) (by decide +kernel)
set_option maxRecDepth 20000 in
theorem mw_86 : Cond.fieldLink RX0 47 "ScanForge$Block" "guarded" "Z" ∈ gw_all := gw_in (k := 86) (by decide +kernel) (by decide +kernel)
set_option maxRecDepth 20000 in
theorem mw_88 : Cond.fieldLink RX0 28 "ScanForge$Block" "counted" "I" ∈ gw_all := gw_in (k := 88) (by decide +kernel) (by decide +kernel)
set_option maxRecDepth 20000 in
theorem mw_89 : Cond.fieldLink RX0 31 "ScanForge$Block" "hadPower" "Z" ∈ gw_all := gw_in (k := 89) (by decide +kernel) (by decide +kernel)
set_option maxRecDepth 20000 in
theorem mw_90 : Cond.fieldLink RX0 35 "ScanForge$Block" "sum" "D" ∈ gw_all := gw_in (k := 90) (by decide +kernel) (by decide +kernel)
set_option maxRecDepth 20000 in
theorem mw_91 : Cond.fieldLink RX0 38 "ScanForge$Block" "errorBefore" "D" ∈ gw_all := gw_in (k := 91) (by decide +kernel) (by decide +kernel)
set_option maxRecDepth 20000 in
theorem mw_92 : Cond.fieldLink RX0 41 "ScanForge$Block" "runs" "I" ∈ gw_all := gw_in (k := 92) (by decide +kernel) (by decide +kernel)
set_option maxRecDepth 20000 in
theorem mw_93 : Cond.fieldLink RX0 44 "ScanForge$Block" "faults" "I" ∈ gw_all := gw_in (k := 93) (by decide +kernel) (by decide +kernel)
set_option maxRecDepth 20000 in
theorem mw_119 : Cond.fieldLink RX2 9 "ScanForge" "bits" "[Z" ∈ gw_all := gw_in (k := 119) (by decide +kernel) (by decide +kernel)
set_option maxRecDepth 20000 in
theorem mw_120 : Cond.fieldLink RX2 13 "ScanForge" "registers" "[D" ∈ gw_all := gw_in (k := 120) (by decide +kernel) (by decide +kernel)
set_option maxRecDepth 20000 in
theorem mw_121 : Cond.fieldLink RX2 19 "ScanForge" "rungs" "[LScanForge$Rung;" ∈ gw_all := gw_in (k := 121) (by decide +kernel) (by decide +kernel)
set_option maxRecDepth 20000 in
theorem mw_122 : Cond.fieldLink RX2 26 "ScanForge" "blocks" "[LScanForge$Block;" ∈ gw_all := gw_in (k := 122) (by decide +kernel) (by decide +kernel)
set_option maxRecDepth 20000 in
theorem mw_123 : Cond.fieldLink RX2 106 "ScanForge" "scans" "I" ∈ gw_all := gw_in (k := 123) (by decide +kernel) (by decide +kernel)
set_option maxRecDepth 20000 in
theorem mw_124 : Cond.fieldLink RX2 120 "ScanForge" "faults" "I" ∈ gw_all := gw_in (k := 124) (by decide +kernel) (by decide +kernel)
set_option maxRecDepth 20000 in
theorem mw_125 : Cond.fieldLink RX2 31 "ScanForge" "haltedBy" "I" ∈ gw_all := gw_in (k := 125) (by decide +kernel) (by decide +kernel)
set_option maxRecDepth 20000 in
theorem mw_141 : Cond.methodLink RL 110 yX2_resume ∈ gw_all := gw_in (k := 141) (by decide +kernel) (by decide +kernel)
set_option maxRecDepth 20000 in
theorem mw_142 : Cond.instanceMethod yX2_resume ∈ gw_all := gw_in (k := 142) (by decide +kernel) (by decide +kernel)
set_option maxRecDepth 20000 in
theorem mw_143 : Cond.selects RX2 yX2_resume yX2_resume ∈ gw_all := gw_in (k := 143) (by decide +kernel) (by decide +kernel)
set_option maxRecDepth 20000 in
theorem mw_144 : Cond.code yX2_resume prog_1_method_10_code 2 (some .int) ∈ gw_all := gw_in (k := 144) (by decide +kernel) (by decide +kernel)
set_option maxRecDepth 20000 in
theorem mw_145 : Cond.methodLink RL 71 yL_cell ∈ gw_all := gw_in (k := 145) (by decide +kernel) (by decide +kernel)
set_option maxRecDepth 20000 in
theorem mw_146 : Cond.static yL_cell ∈ gw_all := gw_in (k := 146) (by decide +kernel) (by decide +kernel)
set_option maxRecDepth 20000 in
theorem mw_147 : Cond.codeWith yL_cell method_3_code 8 (some .int) [(0, 16, 19, 13), (0, 16, 23, 15)] ∈ gw_all := gw_in (k := 147) (by decide +kernel) (by decide +kernel)
set_option maxRecDepth 20000 in
theorem mw_148 : Cond.classLink RL 13 "java/lang/IllegalArgumentException" ∈ gw_all := gw_in (k := 148) (by decide +kernel) (by decide +kernel)
set_option maxRecDepth 20000 in
theorem mw_149 : Cond.classLink RL 15 "java/lang/IndexOutOfBoundsException" ∈ gw_all := gw_in (k := 149) (by decide +kernel) (by decide +kernel)
set_option maxRecDepth 20000 in
theorem mw_150 : Cond.methodLink RL 7 yX2_cell ∈ gw_all := gw_in (k := 150) (by decide +kernel) (by decide +kernel)
set_option maxRecDepth 20000 in
theorem mw_151 : Cond.instanceMethod yX2_cell ∈ gw_all := gw_in (k := 151) (by decide +kernel) (by decide +kernel)
set_option maxRecDepth 20000 in
theorem mw_152 : Cond.selects RX2 yX2_cell yX2_cell ∈ gw_all := gw_in (k := 152) (by decide +kernel) (by decide +kernel)
set_option maxRecDepth 20000 in
theorem mw_153 : Cond.code yX2_cell prog_1_method_2_code 6 (some .int) ∈ gw_all := gw_in (k := 153) (by decide +kernel) (by decide +kernel)
set_option maxRecDepth 20000 in
theorem mw_154 : Cond.methodLink RX2 35 yX2_isCell ∈ gw_all := gw_in (k := 154) (by decide +kernel) (by decide +kernel)
set_option maxRecDepth 20000 in
theorem mw_155 : Cond.static yX2_isCell ∈ gw_all := gw_in (k := 155) (by decide +kernel) (by decide +kernel)
set_option maxRecDepth 20000 in
theorem mw_156 : Cond.code yX2_isCell prog_1_method_22_code 2 (some .boolean) ∈ gw_all := gw_in (k := 156) (by decide +kernel) (by decide +kernel)
set_option maxRecDepth 20000 in
theorem mw_157 : Cond.methodLink RX2 83 yX2_isBetween ∈ gw_all := gw_in (k := 157) (by decide +kernel) (by decide +kernel)
set_option maxRecDepth 20000 in
theorem mw_158 : Cond.static yX2_isBetween ∈ gw_all := gw_in (k := 158) (by decide +kernel) (by decide +kernel)
set_option maxRecDepth 20000 in
theorem mw_159 : Cond.code yX2_isBetween prog_1_method_18_code 3 (some .boolean) ∈ gw_all := gw_in (k := 159) (by decide +kernel) (by decide +kernel)
set_option maxRecDepth 20000 in
theorem mw_160 : Cond.methodLink RX2 133 yX2_looksAtBit ∈ gw_all := gw_in (k := 160) (by decide +kernel) (by decide +kernel)
set_option maxRecDepth 20000 in
theorem mw_161 : Cond.static yX2_looksAtBit ∈ gw_all := gw_in (k := 161) (by decide +kernel) (by decide +kernel)
set_option maxRecDepth 20000 in
theorem mw_162 : Cond.code yX2_looksAtBit prog_1_method_21_code 1 (some .boolean) ∈ gw_all := gw_in (k := 162) (by decide +kernel) (by decide +kernel)
set_option maxRecDepth 20000 in
theorem mw_163 : Cond.methodLink RX2 46 yX2_isIndex ∈ gw_all := gw_in (k := 163) (by decide +kernel) (by decide +kernel)
set_option maxRecDepth 20000 in
theorem mw_164 : Cond.static yX2_isIndex ∈ gw_all := gw_in (k := 164) (by decide +kernel) (by decide +kernel)
set_option maxRecDepth 20000 in
theorem mw_165 : Cond.code yX2_isIndex prog_1_method_19_code 2 (some .boolean) ∈ gw_all := gw_in (k := 165) (by decide +kernel) (by decide +kernel)
set_option maxRecDepth 20000 in
theorem mw_166 : Cond.methodLink RX2 39 yX2_demandNumbers ∈ gw_all := gw_in (k := 166) (by decide +kernel) (by decide +kernel)
set_option maxRecDepth 20000 in
theorem mw_167 : Cond.static yX2_demandNumbers ∈ gw_all := gw_in (k := 167) (by decide +kernel) (by decide +kernel)
set_option maxRecDepth 20000 in
theorem mw_168 : Cond.code yX2_demandNumbers prog_1_method_16_code 1 none ∈ gw_all := gw_in (k := 168) (by decide +kernel) (by decide +kernel)
set_option maxRecDepth 20000 in
theorem mw_169 : Cond.classLink RX2 123 "java/lang/IllegalArgumentException" ∈ gw_all := gw_in (k := 169) (by decide +kernel) (by decide +kernel)
set_option maxRecDepth 20000 in
theorem mw_170 : Cond.instantiable "java/lang/IllegalArgumentException" 6 ∈ gw_all := gw_in (k := 170) (by decide +kernel) (by decide +kernel)
set_option maxRecDepth 20000 in
theorem mw_209 : Cond.instantiable "java/lang/Throwable" 6 ∈ gw_all := gw_in (k := 209) (by decide +kernel) (by decide +kernel)
set_option maxRecDepth 20000 in
theorem mw_237 : Cond.arrayClass .byte ∈ gw_all := gw_in (k := 237) (by decide +kernel) (by decide +kernel)
set_option maxRecDepth 20000 in
theorem mw_238 : Cond.methodLink RX2 43 yX2_isRow ∈ gw_all := gw_in (k := 238) (by decide +kernel) (by decide +kernel)
set_option maxRecDepth 20000 in
theorem mw_239 : Cond.static yX2_isRow ∈ gw_all := gw_in (k := 239) (by decide +kernel) (by decide +kernel)
set_option maxRecDepth 20000 in
theorem mw_240 : Cond.code yX2_isRow prog_1_method_20_code 2 (some .boolean) ∈ gw_all := gw_in (k := 240) (by decide +kernel) (by decide +kernel)
set_option maxRecDepth 20000 in
theorem mw_241 : Cond.methodLink RX2 49 yX2_demandPlace ∈ gw_all := gw_in (k := 241) (by decide +kernel) (by decide +kernel)
set_option maxRecDepth 20000 in
theorem mw_242 : Cond.static yX2_demandPlace ∈ gw_all := gw_in (k := 242) (by decide +kernel) (by decide +kernel)
set_option maxRecDepth 20000 in
theorem mw_243 : Cond.code yX2_demandPlace prog_1_method_17_code 1 none ∈ gw_all := gw_in (k := 243) (by decide +kernel) (by decide +kernel)
set_option maxRecDepth 20000 in
theorem mw_244 : Cond.classLink RX2 128 "java/lang/IndexOutOfBoundsException" ∈ gw_all := gw_in (k := 244) (by decide +kernel) (by decide +kernel)
set_option maxRecDepth 20000 in
theorem mw_245 : Cond.instantiable "java/lang/IndexOutOfBoundsException" 6 ∈ gw_all := gw_in (k := 245) (by decide +kernel) (by decide +kernel)
set_option maxRecDepth 20000 in
theorem mw_260 : Cond.methodLink RX2 52 yX1_changeCell ∈ gw_all := gw_in (k := 260) (by decide +kernel) (by decide +kernel)
set_option maxRecDepth 20000 in
theorem mw_261 : Cond.instanceMethod yX1_changeCell ∈ gw_all := gw_in (k := 261) (by decide +kernel) (by decide +kernel)
set_option maxRecDepth 20000 in
theorem mw_262 : Cond.selects RX1 yX1_changeCell yX1_changeCell ∈ gw_all := gw_in (k := 262) (by decide +kernel) (by decide +kernel)
set_option maxRecDepth 20000 in
theorem mw_263 : Cond.code yX1_changeCell prog_3_method_2_code 7 (some .int) ∈ gw_all := gw_in (k := 263) (by decide +kernel) (by decide +kernel)
set_option maxRecDepth 20000 in
theorem mw_265 : Cond.methodLink RL 81 yL_link ∈ gw_all := gw_in (k := 265) (by decide +kernel) (by decide +kernel)
set_option maxRecDepth 20000 in
theorem mw_266 : Cond.static yL_link ∈ gw_all := gw_in (k := 266) (by decide +kernel) (by decide +kernel)
set_option maxRecDepth 20000 in
theorem mw_267 : Cond.codeWith yL_link method_4_code 7 (some .int) [(0, 21, 24, 15)] ∈ gw_all := gw_in (k := 267) (by decide +kernel) (by decide +kernel)
set_option maxRecDepth 20000 in
theorem mw_268 : Cond.methodLink RL 17 yX2_link ∈ gw_all := gw_in (k := 268) (by decide +kernel) (by decide +kernel)
set_option maxRecDepth 20000 in
theorem mw_269 : Cond.instanceMethod yX2_link ∈ gw_all := gw_in (k := 269) (by decide +kernel) (by decide +kernel)
set_option maxRecDepth 20000 in
theorem mw_270 : Cond.selects RX2 yX2_link yX2_link ∈ gw_all := gw_in (k := 270) (by decide +kernel) (by decide +kernel)
set_option maxRecDepth 20000 in
theorem mw_271 : Cond.code yX2_link prog_1_method_3_code 5 (some .boolean) ∈ gw_all := gw_in (k := 271) (by decide +kernel) (by decide +kernel)
set_option maxRecDepth 20000 in
theorem mw_272 : Cond.methodLink RX2 56 yX1_changeLink ∈ gw_all := gw_in (k := 272) (by decide +kernel) (by decide +kernel)
set_option maxRecDepth 20000 in
theorem mw_273 : Cond.instanceMethod yX1_changeLink ∈ gw_all := gw_in (k := 273) (by decide +kernel) (by decide +kernel)
set_option maxRecDepth 20000 in
theorem mw_274 : Cond.selects RX1 yX1_changeLink yX1_changeLink ∈ gw_all := gw_in (k := 274) (by decide +kernel) (by decide +kernel)
set_option maxRecDepth 20000 in
theorem mw_275 : Cond.code yX1_changeLink prog_3_method_3_code 6 (some .boolean) ∈ gw_all := gw_in (k := 275) (by decide +kernel) (by decide +kernel)
set_option maxRecDepth 20000 in
theorem mw_276 : Cond.methodLink RL 85 yL_coil ∈ gw_all := gw_in (k := 276) (by decide +kernel) (by decide +kernel)
set_option maxRecDepth 20000 in
theorem mw_277 : Cond.static yL_coil ∈ gw_all := gw_in (k := 277) (by decide +kernel) (by decide +kernel)
set_option maxRecDepth 20000 in
theorem mw_278 : Cond.codeWith yL_coil method_5_code 7 (some .int) [(0, 14, 17, 13), (0, 14, 21, 15)] ∈ gw_all := gw_in (k := 278) (by decide +kernel) (by decide +kernel)
set_option maxRecDepth 20000 in
theorem mw_279 : Cond.methodLink RL 21 yX2_coil ∈ gw_all := gw_in (k := 279) (by decide +kernel) (by decide +kernel)
set_option maxRecDepth 20000 in
theorem mw_280 : Cond.instanceMethod yX2_coil ∈ gw_all := gw_in (k := 280) (by decide +kernel) (by decide +kernel)
set_option maxRecDepth 20000 in
theorem mw_281 : Cond.selects RX2 yX2_coil yX2_coil ∈ gw_all := gw_in (k := 281) (by decide +kernel) (by decide +kernel)
set_option maxRecDepth 20000 in
theorem mw_282 : Cond.code yX2_coil prog_1_method_4_code 5 (some .int) ∈ gw_all := gw_in (k := 282) (by decide +kernel) (by decide +kernel)
set_option maxRecDepth 20000 in
theorem mw_283 : Cond.methodLink RX2 60 yX2_isCoil ∈ gw_all := gw_in (k := 283) (by decide +kernel) (by decide +kernel)
set_option maxRecDepth 20000 in
theorem mw_284 : Cond.static yX2_isCoil ∈ gw_all := gw_in (k := 284) (by decide +kernel) (by decide +kernel)
set_option maxRecDepth 20000 in
theorem mw_285 : Cond.code yX2_isCoil prog_1_method_23_code 2 (some .boolean) ∈ gw_all := gw_in (k := 285) (by decide +kernel) (by decide +kernel)
set_option maxRecDepth 20000 in
theorem mw_286 : Cond.methodLink RX2 63 yX1_changeCoil ∈ gw_all := gw_in (k := 286) (by decide +kernel) (by decide +kernel)
set_option maxRecDepth 20000 in
theorem mw_287 : Cond.instanceMethod yX1_changeCoil ∈ gw_all := gw_in (k := 287) (by decide +kernel) (by decide +kernel)
set_option maxRecDepth 20000 in
theorem mw_288 : Cond.selects RX1 yX1_changeCoil yX1_changeCoil ∈ gw_all := gw_in (k := 288) (by decide +kernel) (by decide +kernel)
set_option maxRecDepth 20000 in
theorem mw_289 : Cond.code yX1_changeCoil prog_3_method_4_code 5 (some .int) ∈ gw_all := gw_in (k := 289) (by decide +kernel) (by decide +kernel)
set_option maxRecDepth 20000 in
theorem mw_290 : Cond.methodLink RL 91 yL_block ∈ gw_all := gw_in (k := 290) (by decide +kernel) (by decide +kernel)
set_option maxRecDepth 20000 in
theorem mw_291 : Cond.static yL_block ∈ gw_all := gw_in (k := 291) (by decide +kernel) (by decide +kernel)
set_option maxRecDepth 20000 in
theorem mw_292 : Cond.codeWith yL_block method_6_code 10 (some .int) [(0, 18, 21, 13), (0, 18, 25, 15)] ∈ gw_all := gw_in (k := 292) (by decide +kernel) (by decide +kernel)
set_option maxRecDepth 20000 in
theorem mw_293 : Cond.methodLink RL 25 yX2_block ∈ gw_all := gw_in (k := 293) (by decide +kernel) (by decide +kernel)
set_option maxRecDepth 20000 in
theorem mw_294 : Cond.instanceMethod yX2_block ∈ gw_all := gw_in (k := 294) (by decide +kernel) (by decide +kernel)
set_option maxRecDepth 20000 in
theorem mw_295 : Cond.selects RX2 yX2_block yX2_block ∈ gw_all := gw_in (k := 295) (by decide +kernel) (by decide +kernel)
set_option maxRecDepth 20000 in
theorem mw_296 : Cond.code yX2_block prog_1_method_5_code 8 (some .int) ∈ gw_all := gw_in (k := 296) (by decide +kernel) (by decide +kernel)
set_option maxRecDepth 20000 in
theorem mw_297 : Cond.methodLink RX2 67 yX2_isBlock ∈ gw_all := gw_in (k := 297) (by decide +kernel) (by decide +kernel)
set_option maxRecDepth 20000 in
theorem mw_298 : Cond.static yX2_isBlock ∈ gw_all := gw_in (k := 298) (by decide +kernel) (by decide +kernel)
set_option maxRecDepth 20000 in
theorem mw_299 : Cond.code yX2_isBlock prog_1_method_24_code 6 (some .boolean) ∈ gw_all := gw_in (k := 299) (by decide +kernel) (by decide +kernel)
set_option maxRecDepth 20000 in
theorem mw_300 : Cond.methodLink RX2 137 yX2_isBlockBit ∈ gw_all := gw_in (k := 300) (by decide +kernel) (by decide +kernel)
set_option maxRecDepth 20000 in
theorem mw_301 : Cond.static yX2_isBlockBit ∈ gw_all := gw_in (k := 301) (by decide +kernel) (by decide +kernel)
set_option maxRecDepth 20000 in
theorem mw_302 : Cond.code yX2_isBlockBit prog_1_method_26_code 1 (some .boolean) ∈ gw_all := gw_in (k := 302) (by decide +kernel) (by decide +kernel)
set_option maxRecDepth 20000 in
theorem mw_303 : Cond.methodLink RX2 140 yX2_isCountable ∈ gw_all := gw_in (k := 303) (by decide +kernel) (by decide +kernel)
set_option maxRecDepth 20000 in
theorem mw_304 : Cond.static yX2_isCountable ∈ gw_all := gw_in (k := 304) (by decide +kernel) (by decide +kernel)
set_option maxRecDepth 20000 in
theorem mw_305 : Cond.code yX2_isCountable prog_1_method_27_code 2 (some .boolean) ∈ gw_all := gw_in (k := 305) (by decide +kernel) (by decide +kernel)
set_option maxRecDepth 20000 in
theorem mw_306 : Cond.constantDouble RX2 149 4652007308841189376 ∈ gw_all := gw_in (k := 306) (by decide +kernel) (by decide +kernel)
set_option maxRecDepth 20000 in
theorem mw_307 : Cond.methodLink RX2 143 yX2_areRegisters ∈ gw_all := gw_in (k := 307) (by decide +kernel) (by decide +kernel)
set_option maxRecDepth 20000 in
theorem mw_308 : Cond.static yX2_areRegisters ∈ gw_all := gw_in (k := 308) (by decide +kernel) (by decide +kernel)
set_option maxRecDepth 20000 in
theorem mw_309 : Cond.code yX2_areRegisters prog_1_method_25_code 2 (some .boolean) ∈ gw_all := gw_in (k := 309) (by decide +kernel) (by decide +kernel)
set_option maxRecDepth 20000 in
theorem mw_310 : Cond.methodLink RX2 146 yX2_isSetting ∈ gw_all := gw_in (k := 310) (by decide +kernel) (by decide +kernel)
set_option maxRecDepth 20000 in
theorem mw_311 : Cond.static yX2_isSetting ∈ gw_all := gw_in (k := 311) (by decide +kernel) (by decide +kernel)
end
section
/-! the words, by their places -/
set_option maxRecDepth 20000 in
theorem mw_312 : Cond.code yX2_isSetting prog_1_method_28_code 2 (some .boolean) ∈ gw_all := gw_in (k := 312) (by decide +kernel) (by decide +kernel)
set_option maxRecDepth 20000 in
theorem mw_313 : Cond.constantDouble RX2 151 13875379345695965184 ∈ gw_all := gw_in (k := 313) (by decide +kernel) (by decide +kernel)
set_option maxRecDepth 20000 in
theorem mw_314 : Cond.methodLink RX2 71 yX0_become ∈ gw_all := gw_in (k := 314) (by decide +kernel) (by decide +kernel)
set_option maxRecDepth 20000 in
theorem mw_315 : Cond.instanceMethod yX0_become ∈ gw_all := gw_in (k := 315) (by decide +kernel) (by decide +kernel)
set_option maxRecDepth 20000 in
theorem mw_316 : Cond.selects RX0 yX0_become yX0_become ∈ gw_all := gw_in (k := 316) (by decide +kernel) (by decide +kernel)
set_option maxRecDepth 20000 in
theorem mw_317 : Cond.code yX0_become prog_2_method_2_code 8 (some .int) ∈ gw_all := gw_in (k := 317) (by decide +kernel) (by decide +kernel)
set_option maxRecDepth 20000 in
theorem mw_318 : Cond.methodLink RL 95 yL_guard ∈ gw_all := gw_in (k := 318) (by decide +kernel) (by decide +kernel)
set_option maxRecDepth 20000 in
theorem mw_319 : Cond.static yL_guard ∈ gw_all := gw_in (k := 319) (by decide +kernel) (by decide +kernel)
set_option maxRecDepth 20000 in
theorem mw_320 : Cond.codeWith yL_guard method_7_code 5 (some .int) [(0, 17, 20, 15)] ∈ gw_all := gw_in (k := 320) (by decide +kernel) (by decide +kernel)
set_option maxRecDepth 20000 in
theorem mw_321 : Cond.methodLink RL 29 yX2_guard ∈ gw_all := gw_in (k := 321) (by decide +kernel) (by decide +kernel)
set_option maxRecDepth 20000 in
theorem mw_322 : Cond.instanceMethod yX2_guard ∈ gw_all := gw_in (k := 322) (by decide +kernel) (by decide +kernel)
set_option maxRecDepth 20000 in
theorem mw_323 : Cond.selects RX2 yX2_guard yX2_guard ∈ gw_all := gw_in (k := 323) (by decide +kernel) (by decide +kernel)
set_option maxRecDepth 20000 in
theorem mw_324 : Cond.code yX2_guard prog_1_method_6_code 4 (some .boolean) ∈ gw_all := gw_in (k := 324) (by decide +kernel) (by decide +kernel)
set_option maxRecDepth 20000 in
theorem mw_325 : Cond.methodLink RL 99 yL_input ∈ gw_all := gw_in (k := 325) (by decide +kernel) (by decide +kernel)
set_option maxRecDepth 20000 in
theorem mw_326 : Cond.static yL_input ∈ gw_all := gw_in (k := 326) (by decide +kernel) (by decide +kernel)
set_option maxRecDepth 20000 in
theorem mw_327 : Cond.codeWith yL_input method_8_code 5 (some .int) [(0, 17, 20, 15)] ∈ gw_all := gw_in (k := 327) (by decide +kernel) (by decide +kernel)
set_option maxRecDepth 20000 in
theorem mw_328 : Cond.methodLink RL 33 yX2_input ∈ gw_all := gw_in (k := 328) (by decide +kernel) (by decide +kernel)
set_option maxRecDepth 20000 in
theorem mw_329 : Cond.instanceMethod yX2_input ∈ gw_all := gw_in (k := 329) (by decide +kernel) (by decide +kernel)
set_option maxRecDepth 20000 in
theorem mw_330 : Cond.selects RX2 yX2_input yX2_input ∈ gw_all := gw_in (k := 330) (by decide +kernel) (by decide +kernel)
set_option maxRecDepth 20000 in
theorem mw_331 : Cond.code yX2_input prog_1_method_7_code 4 (some .boolean) ∈ gw_all := gw_in (k := 331) (by decide +kernel) (by decide +kernel)
set_option maxRecDepth 20000 in
theorem mw_332 : Cond.methodLink RL 102 yL_set ∈ gw_all := gw_in (k := 332) (by decide +kernel) (by decide +kernel)
set_option maxRecDepth 20000 in
theorem mw_333 : Cond.static yL_set ∈ gw_all := gw_in (k := 333) (by decide +kernel) (by decide +kernel)
set_option maxRecDepth 20000 in
theorem mw_334 : Cond.codeWith yL_set method_9_code 6 (some .int) [(0, 10, 13, 13), (0, 10, 17, 15)] ∈ gw_all := gw_in (k := 334) (by decide +kernel) (by decide +kernel)
set_option maxRecDepth 20000 in
theorem mw_335 : Cond.methodLink RL 36 yX2_set ∈ gw_all := gw_in (k := 335) (by decide +kernel) (by decide +kernel)
set_option maxRecDepth 20000 in
theorem mw_336 : Cond.instanceMethod yX2_set ∈ gw_all := gw_in (k := 336) (by decide +kernel) (by decide +kernel)
set_option maxRecDepth 20000 in
theorem mw_337 : Cond.selects RX2 yX2_set yX2_set ∈ gw_all := gw_in (k := 337) (by decide +kernel) (by decide +kernel)
set_option maxRecDepth 20000 in
theorem mw_338 : Cond.code yX2_set prog_1_method_8_code 6 (some .double) ∈ gw_all := gw_in (k := 338) (by decide +kernel) (by decide +kernel)
set_option maxRecDepth 20000 in
theorem mw_339 : Cond.methodLink RX2 79 yX2_isValue ∈ gw_all := gw_in (k := 339) (by decide +kernel) (by decide +kernel)
set_option maxRecDepth 20000 in
theorem mw_340 : Cond.static yX2_isValue ∈ gw_all := gw_in (k := 340) (by decide +kernel) (by decide +kernel)
set_option maxRecDepth 20000 in
theorem mw_341 : Cond.code yX2_isValue prog_1_method_29_code 2 (some .boolean) ∈ gw_all := gw_in (k := 341) (by decide +kernel) (by decide +kernel)
set_option maxRecDepth 20000 in
theorem mw_342 : Cond.constantDouble RX2 153 14009883241494872064 ∈ gw_all := gw_in (k := 342) (by decide +kernel) (by decide +kernel)
set_option maxRecDepth 20000 in
theorem mw_343 : Cond.constantDouble RX2 155 4786511204640096256 ∈ gw_all := gw_in (k := 343) (by decide +kernel) (by decide +kernel)
set_option maxRecDepth 20000 in
theorem mw_344 : Cond.methodLink RL 106 yL_scan ∈ gw_all := gw_in (k := 344) (by decide +kernel) (by decide +kernel)
set_option maxRecDepth 20000 in
theorem mw_345 : Cond.static yL_scan ∈ gw_all := gw_in (k := 345) (by decide +kernel) (by decide +kernel)
set_option maxRecDepth 20000 in
theorem mw_346 : Cond.codeWith yL_scan method_10_code 4 (some .int) [(0, 9, 12, 13), (0, 9, 15, 44), (0, 9, 18, 46)] ∈ gw_all := gw_in (k := 346) (by decide +kernel) (by decide +kernel)
set_option maxRecDepth 20000 in
theorem mw_347 : Cond.classLink RL 44 "java/lang/IllegalStateException" ∈ gw_all := gw_in (k := 347) (by decide +kernel) (by decide +kernel)
set_option maxRecDepth 20000 in
theorem mw_348 : Cond.classLink RL 46 "java/lang/ArithmeticException" ∈ gw_all := gw_in (k := 348) (by decide +kernel) (by decide +kernel)
set_option maxRecDepth 20000 in
theorem mw_349 : Cond.methodLink RL 40 yX2_scan ∈ gw_all := gw_in (k := 349) (by decide +kernel) (by decide +kernel)
set_option maxRecDepth 20000 in
theorem mw_350 : Cond.instanceMethod yX2_scan ∈ gw_all := gw_in (k := 350) (by decide +kernel) (by decide +kernel)
set_option maxRecDepth 20000 in
theorem mw_351 : Cond.selects RX2 yX2_scan yX2_scan ∈ gw_all := gw_in (k := 351) (by decide +kernel) (by decide +kernel)
set_option maxRecDepth 20000 in
theorem mw_352 : Cond.code yX2_scan prog_1_method_9_code 3 (some .int) ∈ gw_all := gw_in (k := 352) (by decide +kernel) (by decide +kernel)
set_option maxRecDepth 20000 in
theorem mw_353 : Cond.methodLink RX2 87 yX2_isHalted ∈ gw_all := gw_in (k := 353) (by decide +kernel) (by decide +kernel)
set_option maxRecDepth 20000 in
theorem mw_355 : Cond.instanceMethod yX2_isHalted ∈ gw_all := gw_in (k := 355) (by decide +kernel) (by decide +kernel)
set_option maxRecDepth 20000 in
theorem mw_356 : Cond.code yX2_isHalted prog_1_method_30_code 1 (some .boolean) ∈ gw_all := gw_in (k := 356) (by decide +kernel) (by decide +kernel)
set_option maxRecDepth 20000 in
theorem mw_357 : Cond.classLink RX2 91 "java/lang/IllegalStateException" ∈ gw_all := gw_in (k := 357) (by decide +kernel) (by decide +kernel)
set_option maxRecDepth 20000 in
theorem mw_358 : Cond.instantiable "java/lang/IllegalStateException" 6 ∈ gw_all := gw_in (k := 358) (by decide +kernel) (by decide +kernel)
set_option maxRecDepth 20000 in
theorem mw_373 : Cond.methodLink RX2 98 yX2_scanOnce ∈ gw_all := gw_in (k := 373) (by decide +kernel) (by decide +kernel)
set_option maxRecDepth 20000 in
theorem mw_375 : Cond.instanceMethod yX2_scanOnce ∈ gw_all := gw_in (k := 375) (by decide +kernel) (by decide +kernel)
set_option maxRecDepth 20000 in
theorem mw_376 : Cond.code yX2_scanOnce prog_1_method_32_code 3 none ∈ gw_all := gw_in (k := 376) (by decide +kernel) (by decide +kernel)
set_option maxRecDepth 20000 in
theorem mw_377 : Cond.methodLink RX2 157 yX1_look ∈ gw_all := gw_in (k := 377) (by decide +kernel) (by decide +kernel)
set_option maxRecDepth 20000 in
theorem mw_378 : Cond.instanceMethod yX1_look ∈ gw_all := gw_in (k := 378) (by decide +kernel) (by decide +kernel)
set_option maxRecDepth 20000 in
theorem mw_379 : Cond.selects RX1 yX1_look yX1_look ∈ gw_all := gw_in (k := 379) (by decide +kernel) (by decide +kernel)
set_option maxRecDepth 20000 in
theorem mw_380 : Cond.code yX1_look prog_3_method_6_code 5 none ∈ gw_all := gw_in (k := 380) (by decide +kernel) (by decide +kernel)
set_option maxRecDepth 20000 in
theorem mw_381 : Cond.methodLink RX1 38 yX1_lookAtCell ∈ gw_all := gw_in (k := 381) (by decide +kernel) (by decide +kernel)
set_option maxRecDepth 20000 in
theorem mw_383 : Cond.instanceMethod yX1_lookAtCell ∈ gw_all := gw_in (k := 383) (by decide +kernel) (by decide +kernel)
set_option maxRecDepth 20000 in
theorem mw_384 : Cond.code yX1_lookAtCell prog_3_method_7_code 5 (some .boolean) ∈ gw_all := gw_in (k := 384) (by decide +kernel) (by decide +kernel)
set_option maxRecDepth 20000 in
theorem mw_385 : Cond.methodLink RX1 42 yX1_hadPower ∈ gw_all := gw_in (k := 385) (by decide +kernel) (by decide +kernel)
set_option maxRecDepth 20000 in
theorem mw_386 : Cond.instanceMethod yX1_hadPower ∈ gw_all := gw_in (k := 386) (by decide +kernel) (by decide +kernel)
set_option maxRecDepth 20000 in
theorem mw_387 : Cond.selects RX1 yX1_hadPower yX1_hadPower ∈ gw_all := gw_in (k := 387) (by decide +kernel) (by decide +kernel)
set_option maxRecDepth 20000 in
theorem mw_388 : Cond.code yX1_hadPower prog_3_method_5_code 3 (some .boolean) ∈ gw_all := gw_in (k := 388) (by decide +kernel) (by decide +kernel)
set_option maxRecDepth 20000 in
theorem mw_389 : Cond.methodLink RX1 46 yX1_join ∈ gw_all := gw_in (k := 389) (by decide +kernel) (by decide +kernel)
set_option maxRecDepth 20000 in
theorem mw_391 : Cond.instanceMethod yX1_join ∈ gw_all := gw_in (k := 391) (by decide +kernel) (by decide +kernel)
set_option maxRecDepth 20000 in
theorem mw_392 : Cond.code yX1_join prog_3_method_8_code 6 none ∈ gw_all := gw_in (k := 392) (by decide +kernel) (by decide +kernel)
set_option maxRecDepth 20000 in
theorem mw_393 : Cond.methodLink RX2 109 yX1_hadPower ∈ gw_all := gw_in (k := 393) (by decide +kernel) (by decide +kernel)
set_option maxRecDepth 20000 in
theorem mw_394 : Cond.methodLink RX2 168 yX2_drive ∈ gw_all := gw_in (k := 394) (by decide +kernel) (by decide +kernel)
set_option maxRecDepth 20000 in
theorem mw_396 : Cond.instanceMethod yX2_drive ∈ gw_all := gw_in (k := 396) (by decide +kernel) (by decide +kernel)
set_option maxRecDepth 20000 in
theorem mw_397 : Cond.code yX2_drive prog_1_method_33_code 4 none ∈ gw_all := gw_in (k := 397) (by decide +kernel) (by decide +kernel)
set_option maxRecDepth 20000 in
theorem mw_398 : Cond.methodLink RX2 172 yX0_run ∈ gw_all := gw_in (k := 398) (by decide +kernel) (by decide +kernel)
set_option maxRecDepth 20000 in
theorem mw_399 : Cond.instanceMethod yX0_run ∈ gw_all := gw_in (k := 399) (by decide +kernel) (by decide +kernel)
set_option maxRecDepth 20000 in
theorem mw_400 : Cond.selects RX0 yX0_run yX0_run ∈ gw_all := gw_in (k := 400) (by decide +kernel) (by decide +kernel)
set_option maxRecDepth 20000 in
theorem mw_401 : Cond.code yX0_run prog_2_method_4_code 5 (some .boolean) ∈ gw_all := gw_in (k := 401) (by decide +kernel) (by decide +kernel)
set_option maxRecDepth 20000 in
theorem mw_402 : Cond.methodLink RX0 50 yX0_delay ∈ gw_all := gw_in (k := 402) (by decide +kernel) (by decide +kernel)
set_option maxRecDepth 20000 in
theorem mw_404 : Cond.instanceMethod yX0_delay ∈ gw_all := gw_in (k := 404) (by decide +kernel) (by decide +kernel)
set_option maxRecDepth 20000 in
theorem mw_405 : Cond.code yX0_delay prog_2_method_5_code 3 none ∈ gw_all := gw_in (k := 405) (by decide +kernel) (by decide +kernel)
set_option maxRecDepth 20000 in
theorem mw_406 : Cond.methodLink RX0 54 yX0_countRuns ∈ gw_all := gw_in (k := 406) (by decide +kernel) (by decide +kernel)
set_option maxRecDepth 20000 in
theorem mw_408 : Cond.instanceMethod yX0_countRuns ∈ gw_all := gw_in (k := 408) (by decide +kernel) (by decide +kernel)
set_option maxRecDepth 20000 in
theorem mw_409 : Cond.code yX0_countRuns prog_2_method_6_code 3 none ∈ gw_all := gw_in (k := 409) (by decide +kernel) (by decide +kernel)
set_option maxRecDepth 20000 in
theorem mw_410 : Cond.methodLink RX0 57 yX0_regulate ∈ gw_all := gw_in (k := 410) (by decide +kernel) (by decide +kernel)
set_option maxRecDepth 20000 in
theorem mw_412 : Cond.instanceMethod yX0_regulate ∈ gw_all := gw_in (k := 412) (by decide +kernel) (by decide +kernel)
set_option maxRecDepth 20000 in
theorem mw_413 : Cond.code yX0_regulate prog_2_method_8_code 7 (some .boolean) ∈ gw_all := gw_in (k := 413) (by decide +kernel) (by decide +kernel)
set_option maxRecDepth 20000 in
theorem mw_414 : Cond.constantDouble RX0 73 4593671619917905920 ∈ gw_all := gw_in (k := 414) (by decide +kernel) (by decide +kernel)
set_option maxRecDepth 20000 in
theorem mw_415 : Cond.constantDouble RX0 75 13875379345695965184 ∈ gw_all := gw_in (k := 415) (by decide +kernel) (by decide +kernel)
set_option maxRecDepth 20000 in
theorem mw_416 : Cond.constantDouble RX0 77 4652007308841189376 ∈ gw_all := gw_in (k := 416) (by decide +kernel) (by decide +kernel)
set_option maxRecDepth 20000 in
theorem mw_417 : Cond.methodLink RX0 69 yX0_limited ∈ gw_all := gw_in (k := 417) (by decide +kernel) (by decide +kernel)
set_option maxRecDepth 20000 in
theorem mw_418 : Cond.static yX0_limited ∈ gw_all := gw_in (k := 418) (by decide +kernel) (by decide +kernel)
set_option maxRecDepth 20000 in
theorem mw_419 : Cond.code yX0_limited prog_2_method_10_code 6 (some .double) ∈ gw_all := gw_in (k := 419) (by decide +kernel) (by decide +kernel)
set_option maxRecDepth 20000 in
theorem mw_420 : Cond.constantDouble RX0 79 4602678819172646912 ∈ gw_all := gw_in (k := 420) (by decide +kernel) (by decide +kernel)
set_option maxRecDepth 20000 in
theorem mw_421 : Cond.methodLink RX0 65 yX0_keep ∈ gw_all := gw_in (k := 421) (by decide +kernel) (by decide +kernel)
set_option maxRecDepth 20000 in
theorem mw_423 : Cond.instanceMethod yX0_keep ∈ gw_all := gw_in (k := 423) (by decide +kernel) (by decide +kernel)
set_option maxRecDepth 20000 in
theorem mw_424 : Cond.code yX0_keep prog_2_method_9_code 4 (some .boolean) ∈ gw_all := gw_in (k := 424) (by decide +kernel) (by decide +kernel)
set_option maxRecDepth 20000 in
theorem mw_426 : Cond.methodLink RX0 61 yX0_calculate ∈ gw_all := gw_in (k := 426) (by decide +kernel) (by decide +kernel)
set_option maxRecDepth 20000 in
theorem mw_428 : Cond.instanceMethod yX0_calculate ∈ gw_all := gw_in (k := 428) (by decide +kernel) (by decide +kernel)
set_option maxRecDepth 20000 in
theorem mw_429 : Cond.code yX0_calculate prog_2_method_7_code 6 (some .boolean) ∈ gw_all := gw_in (k := 429) (by decide +kernel) (by decide +kernel)
set_option maxRecDepth 20000 in
theorem mw_430 : Cond.methodLink RX2 176 yX2_takeFault ∈ gw_all := gw_in (k := 430) (by decide +kernel) (by decide +kernel)
set_option maxRecDepth 20000 in
theorem mw_432 : Cond.instanceMethod yX2_takeFault ∈ gw_all := gw_in (k := 432) (by decide +kernel) (by decide +kernel)
set_option maxRecDepth 20000 in
theorem mw_433 : Cond.code yX2_takeFault prog_1_method_34_code 3 none ∈ gw_all := gw_in (k := 433) (by decide +kernel) (by decide +kernel)
set_option maxRecDepth 20000 in
theorem mw_434 : Cond.classLink RX2 101 "java/lang/ArithmeticException" ∈ gw_all := gw_in (k := 434) (by decide +kernel) (by decide +kernel)
set_option maxRecDepth 20000 in
theorem mw_435 : Cond.instantiable "java/lang/ArithmeticException" 6 ∈ gw_all := gw_in (k := 435) (by decide +kernel) (by decide +kernel)
set_option maxRecDepth 20000 in
theorem mw_450 : Cond.methodLink RL 114 yL_bit ∈ gw_all := gw_in (k := 450) (by decide +kernel) (by decide +kernel)
set_option maxRecDepth 20000 in
theorem mw_451 : Cond.static yL_bit ∈ gw_all := gw_in (k := 451) (by decide +kernel) (by decide +kernel)
set_option maxRecDepth 20000 in
theorem mw_452 : Cond.codeWith yL_bit method_11_code 4 (some .int) [(0, 16, 19, 15)] ∈ gw_all := gw_in (k := 452) (by decide +kernel) (by decide +kernel)
set_option maxRecDepth 20000 in
theorem mw_453 : Cond.methodLink RL 48 yX2_bit ∈ gw_all := gw_in (k := 453) (by decide +kernel) (by decide +kernel)
set_option maxRecDepth 20000 in
theorem mw_454 : Cond.instanceMethod yX2_bit ∈ gw_all := gw_in (k := 454) (by decide +kernel) (by decide +kernel)
set_option maxRecDepth 20000 in
theorem mw_455 : Cond.selects RX2 yX2_bit yX2_bit ∈ gw_all := gw_in (k := 455) (by decide +kernel) (by decide +kernel)
set_option maxRecDepth 20000 in
theorem mw_456 : Cond.code yX2_bit prog_1_method_11_code 2 (some .boolean) ∈ gw_all := gw_in (k := 456) (by decide +kernel) (by decide +kernel)
set_option maxRecDepth 20000 in
theorem mw_457 : Cond.methodLink RL 117 yL_register ∈ gw_all := gw_in (k := 457) (by decide +kernel) (by decide +kernel)
set_option maxRecDepth 20000 in
theorem mw_458 : Cond.static yL_register ∈ gw_all := gw_in (k := 458) (by decide +kernel) (by decide +kernel)
set_option maxRecDepth 20000 in
theorem mw_459 : Cond.codeWith yL_register method_12_code 4 (some .int) [(0, 8, 11, 15)] ∈ gw_all := gw_in (k := 459) (by decide +kernel) (by decide +kernel)
set_option maxRecDepth 20000 in
theorem mw_460 : Cond.methodLink RL 52 yX2_register ∈ gw_all := gw_in (k := 460) (by decide +kernel) (by decide +kernel)
set_option maxRecDepth 20000 in
theorem mw_461 : Cond.instanceMethod yX2_register ∈ gw_all := gw_in (k := 461) (by decide +kernel) (by decide +kernel)
set_option maxRecDepth 20000 in
theorem mw_462 : Cond.selects RX2 yX2_register yX2_register ∈ gw_all := gw_in (k := 462) (by decide +kernel) (by decide +kernel)
set_option maxRecDepth 20000 in
theorem mw_463 : Cond.code yX2_register prog_1_method_12_code 2 (some .double) ∈ gw_all := gw_in (k := 463) (by decide +kernel) (by decide +kernel)
set_option maxRecDepth 20000 in
theorem mw_464 : Cond.methodLink RL 121 yL_power ∈ gw_all := gw_in (k := 464) (by decide +kernel) (by decide +kernel)
set_option maxRecDepth 20000 in
theorem mw_465 : Cond.static yL_power ∈ gw_all := gw_in (k := 465) (by decide +kernel) (by decide +kernel)
set_option maxRecDepth 20000 in
theorem mw_466 : Cond.codeWith yL_power method_13_code 6 (some .int) [(0, 19, 22, 15)] ∈ gw_all := gw_in (k := 466) (by decide +kernel) (by decide +kernel)
set_option maxRecDepth 20000 in
theorem mw_467 : Cond.methodLink RL 56 yX2_power ∈ gw_all := gw_in (k := 467) (by decide +kernel) (by decide +kernel)
set_option maxRecDepth 20000 in
theorem mw_468 : Cond.instanceMethod yX2_power ∈ gw_all := gw_in (k := 468) (by decide +kernel) (by decide +kernel)
set_option maxRecDepth 20000 in
theorem mw_469 : Cond.selects RX2 yX2_power yX2_power ∈ gw_all := gw_in (k := 469) (by decide +kernel) (by decide +kernel)
set_option maxRecDepth 20000 in
theorem mw_470 : Cond.code yX2_power prog_1_method_13_code 4 (some .boolean) ∈ gw_all := gw_in (k := 470) (by decide +kernel) (by decide +kernel)
set_option maxRecDepth 20000 in
theorem mw_471 : Cond.methodLink RL 125 yL_told ∈ gw_all := gw_in (k := 471) (by decide +kernel) (by decide +kernel)
set_option maxRecDepth 20000 in
theorem mw_472 : Cond.static yL_told ∈ gw_all := gw_in (k := 472) (by decide +kernel) (by decide +kernel)
set_option maxRecDepth 20000 in
theorem mw_473 : Cond.codeWith yL_told method_14_code 5 (some .int) [(0, 10, 13, 13), (0, 10, 17, 15)] ∈ gw_all := gw_in (k := 473) (by decide +kernel) (by decide +kernel)
set_option maxRecDepth 20000 in
theorem mw_474 : Cond.methodLink RL 60 yX2_told ∈ gw_all := gw_in (k := 474) (by decide +kernel) (by decide +kernel)
set_option maxRecDepth 20000 in
theorem mw_475 : Cond.instanceMethod yX2_told ∈ gw_all := gw_in (k := 475) (by decide +kernel) (by decide +kernel)
set_option maxRecDepth 20000 in
theorem mw_476 : Cond.selects RX2 yX2_told yX2_told ∈ gw_all := gw_in (k := 476) (by decide +kernel) (by decide +kernel)
set_option maxRecDepth 20000 in
theorem mw_477 : Cond.code yX2_told prog_1_method_14_code 3 (some .int) ∈ gw_all := gw_in (k := 477) (by decide +kernel) (by decide +kernel)
set_option maxRecDepth 20000 in
theorem mw_478 : Cond.methodLink RX2 112 yX0_tell ∈ gw_all := gw_in (k := 478) (by decide +kernel) (by decide +kernel)
set_option maxRecDepth 20000 in
theorem mw_479 : Cond.instanceMethod yX0_tell ∈ gw_all := gw_in (k := 479) (by decide +kernel) (by decide +kernel)
set_option maxRecDepth 20000 in
theorem mw_480 : Cond.selects RX0 yX0_tell yX0_tell ∈ gw_all := gw_in (k := 480) (by decide +kernel) (by decide +kernel)
set_option maxRecDepth 20000 in
theorem mw_481 : Cond.code yX0_tell prog_2_method_3_code 2 (some .int) ∈ gw_all := gw_in (k := 481) (by decide +kernel) (by decide +kernel)
set_option maxRecDepth 20000 in
theorem mw_482 : Cond.methodLink RL 129 yL_count ∈ gw_all := gw_in (k := 482) (by decide +kernel) (by decide +kernel)
set_option maxRecDepth 20000 in
theorem mw_483 : Cond.static yL_count ∈ gw_all := gw_in (k := 483) (by decide +kernel) (by decide +kernel)
set_option maxRecDepth 20000 in
theorem mw_484 : Cond.codeWith yL_count method_15_code 4 (some .int) [(0, 9, 12, 13)] ∈ gw_all := gw_in (k := 484) (by decide +kernel) (by decide +kernel)
set_option maxRecDepth 20000 in
theorem mw_485 : Cond.methodLink RL 64 yX2_count ∈ gw_all := gw_in (k := 485) (by decide +kernel) (by decide +kernel)
set_option maxRecDepth 20000 in
theorem mw_486 : Cond.instanceMethod yX2_count ∈ gw_all := gw_in (k := 486) (by decide +kernel) (by decide +kernel)
set_option maxRecDepth 20000 in
theorem mw_487 : Cond.selects RX2 yX2_count yX2_count ∈ gw_all := gw_in (k := 487) (by decide +kernel) (by decide +kernel)
set_option maxRecDepth 20000 in
theorem mw_488 : Cond.code yX2_count prog_1_method_15_code 2 (some .int) ∈ gw_all := gw_in (k := 488) (by decide +kernel) (by decide +kernel)
set_option maxRecDepth 20000 in
theorem mw_489 : Cond.methodLink RX2 116 yX2_bitsOn ∈ gw_all := gw_in (k := 489) (by decide +kernel) (by decide +kernel)
set_option maxRecDepth 20000 in
theorem mw_491 : Cond.instanceMethod yX2_bitsOn ∈ gw_all := gw_in (k := 491) (by decide +kernel) (by decide +kernel)
set_option maxRecDepth 20000 in
theorem mw_492 : Cond.code yX2_bitsOn prog_1_method_31_code 3 (some .int) ∈ gw_all := gw_in (k := 492) (by decide +kernel) (by decide +kernel)
set_option maxRecDepth 20000 in
theorem mw_493 : Cond.classLink RL 68 RX3 ∈ gw_all := gw_in (k := 493) (by decide +kernel) (by decide +kernel)
set_option maxRecDepth 20000 in
theorem mw_494 : Cond.instantiable RX3 28 ∈ gw_all := gw_in (k := 494) (by decide +kernel) (by decide +kernel)
set_option maxRecDepth 20000 in
theorem mw_495 : Cond.methodLink RL 70 yX3_init ∈ gw_all := gw_in (k := 495) (by decide +kernel) (by decide +kernel)
set_option maxRecDepth 20000 in
theorem mw_496 : Cond.instanceMethod yX3_init ∈ gw_all := gw_in (k := 496) (by decide +kernel) (by decide +kernel)
set_option maxRecDepth 20000 in
theorem mw_497 : Cond.code yX3_init prog_5_method_1_code 1 none ∈ gw_all := gw_in (k := 497) (by decide +kernel) (by decide +kernel)
set_option maxRecDepth 20000 in
theorem mw_498 : Cond.methodLink RX3 1 objectInit ∈ gw_all := gw_in (k := 498) (by decide +kernel) (by decide +kernel)
set_option maxRecDepth 20000 in
theorem mw_499 : Cond.fieldLink RX3 7 "ScanForgeModel" "bit" "[Z" ∈ gw_all := gw_in (k := 499) (by decide +kernel) (by decide +kernel)
set_option maxRecDepth 20000 in
theorem mw_500 : Cond.fieldLink RX3 13 "ScanForgeModel" "was" "[Z" ∈ gw_all := gw_in (k := 500) (by decide +kernel) (by decide +kernel)
set_option maxRecDepth 20000 in
theorem mw_501 : Cond.fieldLink RX3 16 "ScanForgeModel" "link" "[Z" ∈ gw_all := gw_in (k := 501) (by decide +kernel) (by decide +kernel)
set_option maxRecDepth 20000 in
theorem mw_502 : Cond.fieldLink RX3 19 "ScanForgeModel" "power" "[Z" ∈ gw_all := gw_in (k := 502) (by decide +kernel) (by decide +kernel)
end
section
/-! the words, by their places -/
set_option maxRecDepth 20000 in
theorem mw_503 : Cond.fieldLink RX3 22 "ScanForgeModel" "seen" "[Z" ∈ gw_all := gw_in (k := 503) (by decide +kernel) (by decide +kernel)
set_option maxRecDepth 20000 in
theorem mw_504 : Cond.fieldLink RX3 25 "ScanForgeModel" "guarded" "[Z" ∈ gw_all := gw_in (k := 504) (by decide +kernel) (by decide +kernel)
set_option maxRecDepth 20000 in
theorem mw_505 : Cond.fieldLink RX3 28 "ScanForgeModel" "had" "[Z" ∈ gw_all := gw_in (k := 505) (by decide +kernel) (by decide +kernel)
set_option maxRecDepth 20000 in
theorem mw_506 : Cond.fieldLink RX3 31 "ScanForgeModel" "now" "[Z" ∈ gw_all := gw_in (k := 506) (by decide +kernel) (by decide +kernel)
set_option maxRecDepth 20000 in
theorem mw_507 : Cond.fieldLink RX3 34 "ScanForgeModel" "register" "[D" ∈ gw_all := gw_in (k := 507) (by decide +kernel) (by decide +kernel)
set_option maxRecDepth 20000 in
theorem mw_508 : Cond.fieldLink RX3 38 "ScanForgeModel" "amount" "[D" ∈ gw_all := gw_in (k := 508) (by decide +kernel) (by decide +kernel)
set_option maxRecDepth 20000 in
theorem mw_509 : Cond.fieldLink RX3 41 "ScanForgeModel" "sum" "[D" ∈ gw_all := gw_in (k := 509) (by decide +kernel) (by decide +kernel)
set_option maxRecDepth 20000 in
theorem mw_510 : Cond.fieldLink RX3 44 "ScanForgeModel" "last" "[D" ∈ gw_all := gw_in (k := 510) (by decide +kernel) (by decide +kernel)
set_option maxRecDepth 20000 in
theorem mw_511 : Cond.fieldLink RX3 47 "ScanForgeModel" "kind" "[I" ∈ gw_all := gw_in (k := 511) (by decide +kernel) (by decide +kernel)
set_option maxRecDepth 20000 in
theorem mw_512 : Cond.fieldLink RX3 51 "ScanForgeModel" "of" "[I" ∈ gw_all := gw_in (k := 512) (by decide +kernel) (by decide +kernel)
set_option maxRecDepth 20000 in
theorem mw_513 : Cond.fieldLink RX3 54 "ScanForgeModel" "coil" "[I" ∈ gw_all := gw_in (k := 513) (by decide +kernel) (by decide +kernel)
set_option maxRecDepth 20000 in
theorem mw_514 : Cond.fieldLink RX3 57 "ScanForgeModel" "coilOf" "[I" ∈ gw_all := gw_in (k := 514) (by decide +kernel) (by decide +kernel)
set_option maxRecDepth 20000 in
theorem mw_515 : Cond.fieldLink RX3 60 "ScanForgeModel" "block" "[I" ∈ gw_all := gw_in (k := 515) (by decide +kernel) (by decide +kernel)
set_option maxRecDepth 20000 in
theorem mw_516 : Cond.fieldLink RX3 63 "ScanForgeModel" "first" "[I" ∈ gw_all := gw_in (k := 516) (by decide +kernel) (by decide +kernel)
set_option maxRecDepth 20000 in
theorem mw_517 : Cond.fieldLink RX3 66 "ScanForgeModel" "second" "[I" ∈ gw_all := gw_in (k := 517) (by decide +kernel) (by decide +kernel)
set_option maxRecDepth 20000 in
theorem mw_518 : Cond.fieldLink RX3 69 "ScanForgeModel" "third" "[I" ∈ gw_all := gw_in (k := 518) (by decide +kernel) (by decide +kernel)
set_option maxRecDepth 20000 in
theorem mw_519 : Cond.fieldLink RX3 72 "ScanForgeModel" "counted" "[I" ∈ gw_all := gw_in (k := 519) (by decide +kernel) (by decide +kernel)
set_option maxRecDepth 20000 in
theorem mw_520 : Cond.fieldLink RX3 75 "ScanForgeModel" "runs" "[I" ∈ gw_all := gw_in (k := 520) (by decide +kernel) (by decide +kernel)
set_option maxRecDepth 20000 in
theorem mw_521 : Cond.fieldLink RX3 78 "ScanForgeModel" "faults" "[I" ∈ gw_all := gw_in (k := 521) (by decide +kernel) (by decide +kernel)
set_option maxRecDepth 20000 in
theorem mw_522 : Cond.fieldLink RX3 145 "ScanForgeModel" "scans" "I" ∈ gw_all := gw_in (k := 522) (by decide +kernel) (by decide +kernel)
set_option maxRecDepth 20000 in
theorem mw_523 : Cond.fieldLink RX3 127 "ScanForgeModel" "all" "I" ∈ gw_all := gw_in (k := 523) (by decide +kernel) (by decide +kernel)
set_option maxRecDepth 20000 in
theorem mw_524 : Cond.fieldLink RX3 85 "ScanForgeModel" "thrown" "I" ∈ gw_all := gw_in (k := 524) (by decide +kernel) (by decide +kernel)
set_option maxRecDepth 20000 in
theorem mw_525 : Cond.fieldLink RX3 81 "ScanForgeModel" "by" "I" ∈ gw_all := gw_in (k := 525) (by decide +kernel) (by decide +kernel)
set_option maxRecDepth 20000 in
theorem mw_526 : Cond.fieldLink RX3 130 "ScanForgeModel" "halted" "Z" ∈ gw_all := gw_in (k := 526) (by decide +kernel) (by decide +kernel)
set_option maxRecDepth 20000 in
theorem mw_584 : Cond.methodLink RL 77 yX3_thrown ∈ gw_all := gw_in (k := 584) (by decide +kernel) (by decide +kernel)
set_option maxRecDepth 20000 in
theorem mw_585 : Cond.instanceMethod yX3_thrown ∈ gw_all := gw_in (k := 585) (by decide +kernel) (by decide +kernel)
set_option maxRecDepth 20000 in
theorem mw_586 : Cond.selects RX3 yX3_thrown yX3_thrown ∈ gw_all := gw_in (k := 586) (by decide +kernel) (by decide +kernel)
set_option maxRecDepth 20000 in
theorem mw_587 : Cond.code yX3_thrown prog_5_method_2_code 1 (some .int) ∈ gw_all := gw_in (k := 587) (by decide +kernel) (by decide +kernel)
set_option maxRecDepth 20000 in
theorem mw_588 : Cond.methodLink RL 76 yX3_cell ∈ gw_all := gw_in (k := 588) (by decide +kernel) (by decide +kernel)
set_option maxRecDepth 20000 in
theorem mw_589 : Cond.instanceMethod yX3_cell ∈ gw_all := gw_in (k := 589) (by decide +kernel) (by decide +kernel)
set_option maxRecDepth 20000 in
theorem mw_590 : Cond.selects RX3 yX3_cell yX3_cell ∈ gw_all := gw_in (k := 590) (by decide +kernel) (by decide +kernel)
set_option maxRecDepth 20000 in
theorem mw_591 : Cond.code yX3_cell prog_5_method_6_code 8 (some .int) ∈ gw_all := gw_in (k := 591) (by decide +kernel) (by decide +kernel)
set_option maxRecDepth 20000 in
theorem mw_592 : Cond.methodLink RX3 88 yX3_in ∈ gw_all := gw_in (k := 592) (by decide +kernel) (by decide +kernel)
set_option maxRecDepth 20000 in
theorem mw_593 : Cond.static yX3_in ∈ gw_all := gw_in (k := 593) (by decide +kernel) (by decide +kernel)
set_option maxRecDepth 20000 in
theorem mw_594 : Cond.code yX3_in prog_5_method_3_code 3 (some .boolean) ∈ gw_all := gw_in (k := 594) (by decide +kernel) (by decide +kernel)
set_option maxRecDepth 20000 in
theorem mw_595 : Cond.methodLink RX3 92 yX3_fail ∈ gw_all := gw_in (k := 595) (by decide +kernel) (by decide +kernel)
set_option maxRecDepth 20000 in
theorem mw_597 : Cond.instanceMethod yX3_fail ∈ gw_all := gw_in (k := 597) (by decide +kernel) (by decide +kernel)
set_option maxRecDepth 20000 in
theorem mw_598 : Cond.code yX3_fail prog_5_method_4_code 2 (some .int) ∈ gw_all := gw_in (k := 598) (by decide +kernel) (by decide +kernel)
set_option maxRecDepth 20000 in
theorem mw_599 : Cond.methodLink RX3 96 yX3_at ∈ gw_all := gw_in (k := 599) (by decide +kernel) (by decide +kernel)
set_option maxRecDepth 20000 in
theorem mw_600 : Cond.static yX3_at ∈ gw_all := gw_in (k := 600) (by decide +kernel) (by decide +kernel)
set_option maxRecDepth 20000 in
theorem mw_601 : Cond.code yX3_at prog_5_method_5_code 3 (some .int) ∈ gw_all := gw_in (k := 601) (by decide +kernel) (by decide +kernel)
set_option maxRecDepth 20000 in
theorem mw_602 : Cond.methodLink RL 84 yX3_link ∈ gw_all := gw_in (k := 602) (by decide +kernel) (by decide +kernel)
set_option maxRecDepth 20000 in
theorem mw_603 : Cond.instanceMethod yX3_link ∈ gw_all := gw_in (k := 603) (by decide +kernel) (by decide +kernel)
set_option maxRecDepth 20000 in
theorem mw_604 : Cond.selects RX3 yX3_link yX3_link ∈ gw_all := gw_in (k := 604) (by decide +kernel) (by decide +kernel)
set_option maxRecDepth 20000 in
theorem mw_605 : Cond.code yX3_link prog_5_method_7_code 7 (some .boolean) ∈ gw_all := gw_in (k := 605) (by decide +kernel) (by decide +kernel)
set_option maxRecDepth 20000 in
theorem mw_606 : Cond.methodLink RL 88 yX3_coil ∈ gw_all := gw_in (k := 606) (by decide +kernel) (by decide +kernel)
set_option maxRecDepth 20000 in
theorem mw_607 : Cond.instanceMethod yX3_coil ∈ gw_all := gw_in (k := 607) (by decide +kernel) (by decide +kernel)
set_option maxRecDepth 20000 in
theorem mw_608 : Cond.selects RX3 yX3_coil yX3_coil ∈ gw_all := gw_in (k := 608) (by decide +kernel) (by decide +kernel)
set_option maxRecDepth 20000 in
theorem mw_609 : Cond.code yX3_coil prog_5_method_8_code 6 (some .int) ∈ gw_all := gw_in (k := 609) (by decide +kernel) (by decide +kernel)
set_option maxRecDepth 20000 in
theorem mw_610 : Cond.methodLink RL 94 yX3_block ∈ gw_all := gw_in (k := 610) (by decide +kernel) (by decide +kernel)
set_option maxRecDepth 20000 in
theorem mw_611 : Cond.instanceMethod yX3_block ∈ gw_all := gw_in (k := 611) (by decide +kernel) (by decide +kernel)
set_option maxRecDepth 20000 in
theorem mw_612 : Cond.selects RX3 yX3_block yX3_block ∈ gw_all := gw_in (k := 612) (by decide +kernel) (by decide +kernel)
set_option maxRecDepth 20000 in
theorem mw_613 : Cond.code yX3_block prog_5_method_11_code 10 (some .int) ∈ gw_all := gw_in (k := 613) (by decide +kernel) (by decide +kernel)
set_option maxRecDepth 20000 in
theorem mw_614 : Cond.methodLink RX3 108 yX3_fits ∈ gw_all := gw_in (k := 614) (by decide +kernel) (by decide +kernel)
set_option maxRecDepth 20000 in
theorem mw_615 : Cond.static yX3_fits ∈ gw_all := gw_in (k := 615) (by decide +kernel) (by decide +kernel)
set_option maxRecDepth 20000 in
theorem mw_616 : Cond.code yX3_fits prog_5_method_10_code 6 (some .boolean) ∈ gw_all := gw_in (k := 616) (by decide +kernel) (by decide +kernel)
set_option maxRecDepth 20000 in
theorem mw_617 : Cond.constantDouble RX3 100 4652007308841189376 ∈ gw_all := gw_in (k := 617) (by decide +kernel) (by decide +kernel)
set_option maxRecDepth 20000 in
theorem mw_618 : Cond.methodLink RX3 102 yX3_isRegister ∈ gw_all := gw_in (k := 618) (by decide +kernel) (by decide +kernel)
set_option maxRecDepth 20000 in
theorem mw_619 : Cond.static yX3_isRegister ∈ gw_all := gw_in (k := 619) (by decide +kernel) (by decide +kernel)
set_option maxRecDepth 20000 in
theorem mw_620 : Cond.code yX3_isRegister prog_5_method_9_code 1 (some .boolean) ∈ gw_all := gw_in (k := 620) (by decide +kernel) (by decide +kernel)
set_option maxRecDepth 20000 in
theorem mw_621 : Cond.constantDouble RX3 106 13875379345695965184 ∈ gw_all := gw_in (k := 621) (by decide +kernel) (by decide +kernel)
set_option maxRecDepth 20000 in
theorem mw_622 : Cond.methodLink RL 98 yX3_guard ∈ gw_all := gw_in (k := 622) (by decide +kernel) (by decide +kernel)
set_option maxRecDepth 20000 in
theorem mw_623 : Cond.instanceMethod yX3_guard ∈ gw_all := gw_in (k := 623) (by decide +kernel) (by decide +kernel)
set_option maxRecDepth 20000 in
theorem mw_624 : Cond.selects RX3 yX3_guard yX3_guard ∈ gw_all := gw_in (k := 624) (by decide +kernel) (by decide +kernel)
set_option maxRecDepth 20000 in
theorem mw_625 : Cond.code yX3_guard prog_5_method_12_code 4 (some .boolean) ∈ gw_all := gw_in (k := 625) (by decide +kernel) (by decide +kernel)
set_option maxRecDepth 20000 in
theorem mw_626 : Cond.methodLink RL 101 yX3_input ∈ gw_all := gw_in (k := 626) (by decide +kernel) (by decide +kernel)
set_option maxRecDepth 20000 in
theorem mw_627 : Cond.instanceMethod yX3_input ∈ gw_all := gw_in (k := 627) (by decide +kernel) (by decide +kernel)
set_option maxRecDepth 20000 in
theorem mw_628 : Cond.selects RX3 yX3_input yX3_input ∈ gw_all := gw_in (k := 628) (by decide +kernel) (by decide +kernel)
set_option maxRecDepth 20000 in
theorem mw_629 : Cond.code yX3_input prog_5_method_13_code 4 (some .boolean) ∈ gw_all := gw_in (k := 629) (by decide +kernel) (by decide +kernel)
set_option maxRecDepth 20000 in
theorem mw_630 : Cond.methodLink RL 105 yX3_set ∈ gw_all := gw_in (k := 630) (by decide +kernel) (by decide +kernel)
set_option maxRecDepth 20000 in
theorem mw_631 : Cond.instanceMethod yX3_set ∈ gw_all := gw_in (k := 631) (by decide +kernel) (by decide +kernel)
set_option maxRecDepth 20000 in
theorem mw_632 : Cond.selects RX3 yX3_set yX3_set ∈ gw_all := gw_in (k := 632) (by decide +kernel) (by decide +kernel)
set_option maxRecDepth 20000 in
theorem mw_633 : Cond.code yX3_set prog_5_method_14_code 6 (some .double) ∈ gw_all := gw_in (k := 633) (by decide +kernel) (by decide +kernel)
set_option maxRecDepth 20000 in
theorem mw_634 : Cond.constantDouble RX3 112 4786511204640096256 ∈ gw_all := gw_in (k := 634) (by decide +kernel) (by decide +kernel)
set_option maxRecDepth 20000 in
theorem mw_635 : Cond.constantDouble RX3 114 14009883241494872064 ∈ gw_all := gw_in (k := 635) (by decide +kernel) (by decide +kernel)
set_option maxRecDepth 20000 in
theorem mw_636 : Cond.methodLink RL 109 yX3_scan ∈ gw_all := gw_in (k := 636) (by decide +kernel) (by decide +kernel)
set_option maxRecDepth 20000 in
theorem mw_637 : Cond.instanceMethod yX3_scan ∈ gw_all := gw_in (k := 637) (by decide +kernel) (by decide +kernel)
set_option maxRecDepth 20000 in
theorem mw_638 : Cond.selects RX3 yX3_scan yX3_scan ∈ gw_all := gw_in (k := 638) (by decide +kernel) (by decide +kernel)
set_option maxRecDepth 20000 in
theorem mw_639 : Cond.code yX3_scan prog_5_method_21_code 4 (some .int) ∈ gw_all := gw_in (k := 639) (by decide +kernel) (by decide +kernel)
set_option maxRecDepth 20000 in
theorem mw_640 : Cond.methodLink RX3 148 yX3_rung ∈ gw_all := gw_in (k := 640) (by decide +kernel) (by decide +kernel)
set_option maxRecDepth 20000 in
theorem mw_642 : Cond.instanceMethod yX3_rung ∈ gw_all := gw_in (k := 642) (by decide +kernel) (by decide +kernel)
set_option maxRecDepth 20000 in
theorem mw_643 : Cond.code yX3_rung prog_5_method_20_code 6 (some .boolean) ∈ gw_all := gw_in (k := 643) (by decide +kernel) (by decide +kernel)
set_option maxRecDepth 20000 in
theorem mw_644 : Cond.methodLink RX3 137 yX3_column ∈ gw_all := gw_in (k := 644) (by decide +kernel) (by decide +kernel)
set_option maxRecDepth 20000 in
theorem mw_646 : Cond.instanceMethod yX3_column ∈ gw_all := gw_in (k := 646) (by decide +kernel) (by decide +kernel)
set_option maxRecDepth 20000 in
theorem mw_647 : Cond.code yX3_column prog_5_method_19_code 6 none ∈ gw_all := gw_in (k := 647) (by decide +kernel) (by decide +kernel)
set_option maxRecDepth 20000 in
theorem mw_648 : Cond.methodLink RX3 134 yX3_conducts ∈ gw_all := gw_in (k := 648) (by decide +kernel) (by decide +kernel)
set_option maxRecDepth 20000 in
theorem mw_650 : Cond.instanceMethod yX3_conducts ∈ gw_all := gw_in (k := 650) (by decide +kernel) (by decide +kernel)
set_option maxRecDepth 20000 in
theorem mw_651 : Cond.code yX3_conducts prog_5_method_18_code 4 (some .boolean) ∈ gw_all := gw_in (k := 651) (by decide +kernel) (by decide +kernel)
set_option maxRecDepth 20000 in
theorem mw_652 : Cond.methodLink RX3 141 yX3_perform ∈ gw_all := gw_in (k := 652) (by decide +kernel) (by decide +kernel)
set_option maxRecDepth 20000 in
theorem mw_654 : Cond.instanceMethod yX3_perform ∈ gw_all := gw_in (k := 654) (by decide +kernel) (by decide +kernel)
set_option maxRecDepth 20000 in
theorem mw_655 : Cond.code yX3_perform prog_5_method_17_code 6 (some .boolean) ∈ gw_all := gw_in (k := 655) (by decide +kernel) (by decide +kernel)
set_option maxRecDepth 20000 in
theorem mw_656 : Cond.methodLink RX3 120 yX3_tally ∈ gw_all := gw_in (k := 656) (by decide +kernel) (by decide +kernel)
set_option maxRecDepth 20000 in
theorem mw_658 : Cond.instanceMethod yX3_tally ∈ gw_all := gw_in (k := 658) (by decide +kernel) (by decide +kernel)
set_option maxRecDepth 20000 in
theorem mw_659 : Cond.code yX3_tally prog_5_method_16_code 3 none ∈ gw_all := gw_in (k := 659) (by decide +kernel) (by decide +kernel)
set_option maxRecDepth 20000 in
theorem mw_660 : Cond.methodLink RX3 124 yX3_reckon ∈ gw_all := gw_in (k := 660) (by decide +kernel) (by decide +kernel)
set_option maxRecDepth 20000 in
theorem mw_662 : Cond.instanceMethod yX3_reckon ∈ gw_all := gw_in (k := 662) (by decide +kernel) (by decide +kernel)
set_option maxRecDepth 20000 in
theorem mw_663 : Cond.code yX3_reckon prog_5_method_15_code 12 (some .boolean) ∈ gw_all := gw_in (k := 663) (by decide +kernel) (by decide +kernel)
set_option maxRecDepth 20000 in
theorem mw_664 : Cond.constantDouble RX3 116 4593671619917905920 ∈ gw_all := gw_in (k := 664) (by decide +kernel) (by decide +kernel)
set_option maxRecDepth 20000 in
theorem mw_665 : Cond.constantDouble RX3 118 4602678819172646912 ∈ gw_all := gw_in (k := 665) (by decide +kernel) (by decide +kernel)
set_option maxRecDepth 20000 in
theorem mw_666 : Cond.methodLink RL 113 yX3_resume ∈ gw_all := gw_in (k := 666) (by decide +kernel) (by decide +kernel)
set_option maxRecDepth 20000 in
theorem mw_667 : Cond.instanceMethod yX3_resume ∈ gw_all := gw_in (k := 667) (by decide +kernel) (by decide +kernel)
set_option maxRecDepth 20000 in
theorem mw_668 : Cond.selects RX3 yX3_resume yX3_resume ∈ gw_all := gw_in (k := 668) (by decide +kernel) (by decide +kernel)
set_option maxRecDepth 20000 in
theorem mw_669 : Cond.code yX3_resume prog_5_method_22_code 2 (some .int) ∈ gw_all := gw_in (k := 669) (by decide +kernel) (by decide +kernel)
set_option maxRecDepth 20000 in
theorem mw_670 : Cond.methodLink RL 116 yX3_bit ∈ gw_all := gw_in (k := 670) (by decide +kernel) (by decide +kernel)
set_option maxRecDepth 20000 in
theorem mw_671 : Cond.instanceMethod yX3_bit ∈ gw_all := gw_in (k := 671) (by decide +kernel) (by decide +kernel)
set_option maxRecDepth 20000 in
theorem mw_672 : Cond.selects RX3 yX3_bit yX3_bit ∈ gw_all := gw_in (k := 672) (by decide +kernel) (by decide +kernel)
set_option maxRecDepth 20000 in
theorem mw_673 : Cond.code yX3_bit prog_5_method_23_code 2 (some .boolean) ∈ gw_all := gw_in (k := 673) (by decide +kernel) (by decide +kernel)
set_option maxRecDepth 20000 in
theorem mw_674 : Cond.methodLink RL 120 yX3_register ∈ gw_all := gw_in (k := 674) (by decide +kernel) (by decide +kernel)
set_option maxRecDepth 20000 in
theorem mw_675 : Cond.instanceMethod yX3_register ∈ gw_all := gw_in (k := 675) (by decide +kernel) (by decide +kernel)
set_option maxRecDepth 20000 in
theorem mw_676 : Cond.selects RX3 yX3_register yX3_register ∈ gw_all := gw_in (k := 676) (by decide +kernel) (by decide +kernel)
set_option maxRecDepth 20000 in
theorem mw_677 : Cond.code yX3_register prog_5_method_24_code 2 (some .double) ∈ gw_all := gw_in (k := 677) (by decide +kernel) (by decide +kernel)
set_option maxRecDepth 20000 in
theorem mw_678 : Cond.methodLink RL 124 yX3_power ∈ gw_all := gw_in (k := 678) (by decide +kernel) (by decide +kernel)
set_option maxRecDepth 20000 in
theorem mw_679 : Cond.instanceMethod yX3_power ∈ gw_all := gw_in (k := 679) (by decide +kernel) (by decide +kernel)
set_option maxRecDepth 20000 in
theorem mw_680 : Cond.selects RX3 yX3_power yX3_power ∈ gw_all := gw_in (k := 680) (by decide +kernel) (by decide +kernel)
set_option maxRecDepth 20000 in
theorem mw_681 : Cond.code yX3_power prog_5_method_25_code 4 (some .boolean) ∈ gw_all := gw_in (k := 681) (by decide +kernel) (by decide +kernel)
set_option maxRecDepth 20000 in
theorem mw_682 : Cond.methodLink RL 128 yX3_told ∈ gw_all := gw_in (k := 682) (by decide +kernel) (by decide +kernel)
set_option maxRecDepth 20000 in
theorem mw_683 : Cond.instanceMethod yX3_told ∈ gw_all := gw_in (k := 683) (by decide +kernel) (by decide +kernel)
set_option maxRecDepth 20000 in
theorem mw_684 : Cond.selects RX3 yX3_told yX3_told ∈ gw_all := gw_in (k := 684) (by decide +kernel) (by decide +kernel)
set_option maxRecDepth 20000 in
theorem mw_685 : Cond.code yX3_told prog_5_method_26_code 3 (some .int) ∈ gw_all := gw_in (k := 685) (by decide +kernel) (by decide +kernel)
set_option maxRecDepth 20000 in
theorem mw_686 : Cond.methodLink RL 131 yX3_count ∈ gw_all := gw_in (k := 686) (by decide +kernel) (by decide +kernel)
set_option maxRecDepth 20000 in
theorem mw_687 : Cond.instanceMethod yX3_count ∈ gw_all := gw_in (k := 687) (by decide +kernel) (by decide +kernel)
set_option maxRecDepth 20000 in
theorem mw_688 : Cond.selects RX3 yX3_count yX3_count ∈ gw_all := gw_in (k := 688) (by decide +kernel) (by decide +kernel)
set_option maxRecDepth 20000 in
theorem mw_689 : Cond.code yX3_count prog_5_method_27_code 4 (some .int) ∈ gw_all := gw_in (k := 689) (by decide +kernel) (by decide +kernel)
set_option maxRecDepth 20000 in
theorem mw_690 : Cond.constantDouble RL 89 4593671619917905920 ∈ gw_all := gw_in (k := 690) (by decide +kernel) (by decide +kernel)
set_option maxRecDepth 20000 in
theorem mw_691 : Cond.arrayClass .long ∈ gw_all := gw_in (k := 691) (by decide +kernel) (by decide +kernel)
set_option maxRecDepth 20000 in
theorem mw_1 : Cond.selects RX2 yX2_isHalted yX2_isHalted ∈ gw_all := gw_in (k := 1) (by decide +kernel) (by decide +kernel)
set_option maxRecDepth 20000 in
theorem mw_2 : Cond.selects RX2 yX2_scanOnce yX2_scanOnce ∈ gw_all := gw_in (k := 2) (by decide +kernel) (by decide +kernel)
set_option maxRecDepth 20000 in
theorem mw_3 : Cond.selects RX1 yX1_lookAtCell yX1_lookAtCell ∈ gw_all := gw_in (k := 3) (by decide +kernel) (by decide +kernel)
set_option maxRecDepth 20000 in
theorem mw_4 : Cond.selects RX1 yX1_join yX1_join ∈ gw_all := gw_in (k := 4) (by decide +kernel) (by decide +kernel)
set_option maxRecDepth 20000 in
theorem mw_5 : Cond.selects RX2 yX2_drive yX2_drive ∈ gw_all := gw_in (k := 5) (by decide +kernel) (by decide +kernel)
set_option maxRecDepth 20000 in
theorem mw_6 : Cond.selects RX0 yX0_delay yX0_delay ∈ gw_all := gw_in (k := 6) (by decide +kernel) (by decide +kernel)
set_option maxRecDepth 20000 in
theorem mw_7 : Cond.selects RX0 yX0_countRuns yX0_countRuns ∈ gw_all := gw_in (k := 7) (by decide +kernel) (by decide +kernel)
set_option maxRecDepth 20000 in
theorem mw_8 : Cond.selects RX0 yX0_regulate yX0_regulate ∈ gw_all := gw_in (k := 8) (by decide +kernel) (by decide +kernel)
set_option maxRecDepth 20000 in
theorem mw_9 : Cond.selects RX0 yX0_keep yX0_keep ∈ gw_all := gw_in (k := 9) (by decide +kernel) (by decide +kernel)
set_option maxRecDepth 20000 in
theorem mw_10 : Cond.selects RX0 yX0_calculate yX0_calculate ∈ gw_all := gw_in (k := 10) (by decide +kernel) (by decide +kernel)
set_option maxRecDepth 20000 in
theorem mw_11 : Cond.selects RX2 yX2_takeFault yX2_takeFault ∈ gw_all := gw_in (k := 11) (by decide +kernel) (by decide +kernel)
set_option maxRecDepth 20000 in
theorem mw_12 : Cond.selects RX2 yX2_bitsOn yX2_bitsOn ∈ gw_all := gw_in (k := 12) (by decide +kernel) (by decide +kernel)
set_option maxRecDepth 20000 in
theorem mw_13 : Cond.selects RX3 yX3_fail yX3_fail ∈ gw_all := gw_in (k := 13) (by decide +kernel) (by decide +kernel)
set_option maxRecDepth 20000 in
theorem mw_14 : Cond.selects RX3 yX3_rung yX3_rung ∈ gw_all := gw_in (k := 14) (by decide +kernel) (by decide +kernel)
set_option maxRecDepth 20000 in
theorem mw_15 : Cond.selects RX3 yX3_column yX3_column ∈ gw_all := gw_in (k := 15) (by decide +kernel) (by decide +kernel)
set_option maxRecDepth 20000 in
theorem mw_16 : Cond.selects RX3 yX3_conducts yX3_conducts ∈ gw_all := gw_in (k := 16) (by decide +kernel) (by decide +kernel)
set_option maxRecDepth 20000 in
theorem mw_17 : Cond.selects RX3 yX3_perform yX3_perform ∈ gw_all := gw_in (k := 17) (by decide +kernel) (by decide +kernel)
set_option maxRecDepth 20000 in
theorem mw_18 : Cond.selects RX3 yX3_tally yX3_tally ∈ gw_all := gw_in (k := 18) (by decide +kernel) (by decide +kernel)
set_option maxRecDepth 20000 in
theorem mw_19 : Cond.selects RX3 yX3_reckon yX3_reckon ∈ gw_all := gw_in (k := 19) (by decide +kernel) (by decide +kernel)
set_option maxRecDepth 20000 in
theorem in_X0 : ∀ w ∈ u_ws RX0 TX0 12, w ∈ gw_all := by decide +kernel
set_option maxRecDepth 20000 in
theorem in_X1 : ∀ w ∈ u_ws RX1 TX1 7, w ∈ gw_all := by decide +kernel
set_option maxRecDepth 20000 in
theorem in_X2 : ∀ w ∈ u_ws RX2 TX2 7, w ∈ gw_all := by decide +kernel
set_option maxRecDepth 20000 in
theorem in_X3 : ∀ w ∈ u_ws RX3 TX3 28, w ∈ gw_all := by decide +kernel
end
section
/-! decode rows -/
theorem dX2_init_0 : decode cX2_init 0 = .ok (.aload_n 0, 1) := by decide +kernel
theorem dX2_init_1 : decode cX2_init 1 = .ok (.invokespecial 1, 3) := by decide +kernel
theorem dX2_init_4 : decode cX2_init 4 = .ok (.aload_n 0, 1) := by decide +kernel
theorem dX2_init_5 : decode cX2_init 5 = .ok (.bipush 24, 2) := by decide +kernel
theorem dX2_init_7 : decode cX2_init 7 = .ok (.newarray .boolean, 2) := by decide +kernel
theorem dX2_init_9 : decode cX2_init 9 = .ok (.putfield 9, 3) := by decide +kernel
theorem dX2_init_12 : decode cX2_init 12 = .ok (.aload_n 0, 1) := by decide +kernel
theorem dX2_init_13 : decode cX2_init 13 = .ok (.bipush 8, 2) := by decide +kernel
theorem dX2_init_15 : decode cX2_init 15 = .ok (.newarray .double, 2) := by decide +kernel
theorem dX2_init_17 : decode cX2_init 17 = .ok (.putfield 13, 3) := by decide +kernel
theorem dX2_init_20 : decode cX2_init 20 = .ok (.aload_n 0, 1) := by decide +kernel
theorem dX2_init_21 : decode cX2_init 21 = .ok (.iconst 5, 1) := by decide +kernel
theorem dX2_init_22 : decode cX2_init 22 = .ok (.anewarray 17, 3) := by decide +kernel
theorem dX2_init_25 : decode cX2_init 25 = .ok (.putfield 19, 3) := by decide +kernel
theorem dX2_init_28 : decode cX2_init 28 = .ok (.iconst 0, 1) := by decide +kernel
theorem dX2_init_29 : decode cX2_init 29 = .ok (.istore_n 1, 1) := by decide +kernel
theorem dX2_init_30 : decode cX2_init 30 = .ok (.iload_n 1, 1) := by decide +kernel
theorem dX2_init_31 : decode cX2_init 31 = .ok (.iconst 5, 1) := by decide +kernel
theorem dX2_init_32 : decode cX2_init 32 = .ok (.if_icmp .ge 22, 3) := by decide +kernel
theorem dX2_init_35 : decode cX2_init 35 = .ok (.aload_n 0, 1) := by decide +kernel
theorem dX2_init_36 : decode cX2_init 36 = .ok (.getfield 19, 3) := by decide +kernel
theorem dX2_init_39 : decode cX2_init 39 = .ok (.iload_n 1, 1) := by decide +kernel
theorem dX2_init_40 : decode cX2_init 40 = .ok (.new 17, 3) := by decide +kernel
theorem dX2_init_43 : decode cX2_init 43 = .ok (.dup, 1) := by decide +kernel
theorem dX2_init_44 : decode cX2_init 44 = .ok (.invokespecial 23, 3) := by decide +kernel
theorem dX2_init_47 : decode cX2_init 47 = .ok (.aastore, 1) := by decide +kernel
theorem dX2_init_48 : decode cX2_init 48 = .ok (.iinc 1 1, 3) := by decide +kernel
theorem dX2_init_51 : decode cX2_init 51 = .ok (.goto (-21), 3) := by decide +kernel
theorem dX2_init_54 : decode cX2_init 54 = .ok (.aload_n 0, 1) := by decide +kernel
theorem dX2_init_55 : decode cX2_init 55 = .ok (.bipush 8, 2) := by decide +kernel
theorem dX2_init_57 : decode cX2_init 57 = .ok (.anewarray 24, 3) := by decide +kernel
theorem dX2_init_60 : decode cX2_init 60 = .ok (.putfield 26, 3) := by decide +kernel
theorem dX2_init_63 : decode cX2_init 63 = .ok (.iconst 0, 1) := by decide +kernel
theorem dX2_init_64 : decode cX2_init 64 = .ok (.istore_n 1, 1) := by decide +kernel
theorem dX2_init_65 : decode cX2_init 65 = .ok (.iload_n 1, 1) := by decide +kernel
theorem dX2_init_66 : decode cX2_init 66 = .ok (.bipush 8, 2) := by decide +kernel
theorem dX2_init_68 : decode cX2_init 68 = .ok (.if_icmp .ge 22, 3) := by decide +kernel
theorem dX2_init_71 : decode cX2_init 71 = .ok (.aload_n 0, 1) := by decide +kernel
theorem dX2_init_72 : decode cX2_init 72 = .ok (.getfield 26, 3) := by decide +kernel
theorem dX2_init_75 : decode cX2_init 75 = .ok (.iload_n 1, 1) := by decide +kernel
theorem dX2_init_76 : decode cX2_init 76 = .ok (.new 24, 3) := by decide +kernel
theorem dX2_init_79 : decode cX2_init 79 = .ok (.dup, 1) := by decide +kernel
theorem dX2_init_80 : decode cX2_init 80 = .ok (.invokespecial 30, 3) := by decide +kernel
theorem dX2_init_83 : decode cX2_init 83 = .ok (.aastore, 1) := by decide +kernel
theorem dX2_init_84 : decode cX2_init 84 = .ok (.iinc 1 1, 3) := by decide +kernel
theorem dX2_init_87 : decode cX2_init 87 = .ok (.goto (-22), 3) := by decide +kernel
theorem dX2_init_90 : decode cX2_init 90 = .ok (.aload_n 0, 1) := by decide +kernel
theorem dX2_init_91 : decode cX2_init 91 = .ok (.iconst (-1), 1) := by decide +kernel
theorem dX2_init_92 : decode cX2_init 92 = .ok (.putfield 31, 3) := by decide +kernel
theorem dX2_init_95 : decode cX2_init 95 = .ok (.return_, 1) := by decide +kernel
theorem dX1_init_0 : decode cX1_init 0 = .ok (.aload_n 0, 1) := by decide +kernel
theorem dX1_init_1 : decode cX1_init 1 = .ok (.invokespecial 3, 3) := by decide +kernel
theorem dX1_init_4 : decode cX1_init 4 = .ok (.aload_n 0, 1) := by decide +kernel
theorem dX1_init_5 : decode cX1_init 5 = .ok (.bipush 12, 2) := by decide +kernel
theorem dX1_init_7 : decode cX1_init 7 = .ok (.newarray .int, 2) := by decide +kernel
theorem dX1_init_9 : decode cX1_init 9 = .ok (.putfield 9, 3) := by decide +kernel
theorem dX1_init_12 : decode cX1_init 12 = .ok (.aload_n 0, 1) := by decide +kernel
theorem dX1_init_13 : decode cX1_init 13 = .ok (.bipush 12, 2) := by decide +kernel
theorem dX1_init_15 : decode cX1_init 15 = .ok (.newarray .int, 2) := by decide +kernel
theorem dX1_init_17 : decode cX1_init 17 = .ok (.putfield 15, 3) := by decide +kernel
theorem dX1_init_20 : decode cX1_init 20 = .ok (.aload_n 0, 1) := by decide +kernel
theorem dX1_init_21 : decode cX1_init 21 = .ok (.bipush 12, 2) := by decide +kernel
theorem dX1_init_23 : decode cX1_init 23 = .ok (.newarray .boolean, 2) := by decide +kernel
theorem dX1_init_25 : decode cX1_init 25 = .ok (.putfield 18, 3) := by decide +kernel
theorem dX1_init_28 : decode cX1_init 28 = .ok (.aload_n 0, 1) := by decide +kernel
theorem dX1_init_29 : decode cX1_init 29 = .ok (.bipush 8, 2) := by decide +kernel
theorem dX1_init_31 : decode cX1_init 31 = .ok (.newarray .boolean, 2) := by decide +kernel
theorem dX1_init_33 : decode cX1_init 33 = .ok (.putfield 22, 3) := by decide +kernel
theorem dX1_init_36 : decode cX1_init 36 = .ok (.aload_n 0, 1) := by decide +kernel
theorem dX1_init_37 : decode cX1_init 37 = .ok (.bipush 15, 2) := by decide +kernel
theorem dX1_init_39 : decode cX1_init 39 = .ok (.newarray .boolean, 2) := by decide +kernel
theorem dX1_init_41 : decode cX1_init 41 = .ok (.putfield 25, 3) := by decide +kernel
theorem dX1_init_44 : decode cX1_init 44 = .ok (.aload_n 0, 1) := by decide +kernel
theorem dX1_init_45 : decode cX1_init 45 = .ok (.iconst 3, 1) := by decide +kernel
theorem dX1_init_46 : decode cX1_init 46 = .ok (.newarray .int, 2) := by decide +kernel
theorem dX1_init_48 : decode cX1_init 48 = .ok (.putfield 28, 3) := by decide +kernel
theorem dX1_init_51 : decode cX1_init 51 = .ok (.aload_n 0, 1) := by decide +kernel
theorem dX1_init_52 : decode cX1_init 52 = .ok (.iconst 3, 1) := by decide +kernel
theorem dX1_init_53 : decode cX1_init 53 = .ok (.newarray .int, 2) := by decide +kernel
theorem dX1_init_55 : decode cX1_init 55 = .ok (.putfield 31, 3) := by decide +kernel
theorem dX1_init_58 : decode cX1_init 58 = .ok (.return_, 1) := by decide +kernel
theorem dX0_init_0 : decode cX0_init 0 = .ok (.aload_n 0, 1) := by decide +kernel
theorem dX0_init_1 : decode cX0_init 1 = .ok (.invokespecial 3, 3) := by decide +kernel
theorem dX0_init_4 : decode cX0_init 4 = .ok (.return_, 1) := by decide +kernel
theorem dX2_resume_0 : decode cX2_resume 0 = .ok (.aload_n 0, 1) := by decide +kernel
theorem dX2_resume_1 : decode cX2_resume 1 = .ok (.getfield 31, 3) := by decide +kernel
theorem dX2_resume_4 : decode cX2_resume 4 = .ok (.istore_n 1, 1) := by decide +kernel
theorem dX2_resume_5 : decode cX2_resume 5 = .ok (.aload_n 0, 1) := by decide +kernel
theorem dX2_resume_6 : decode cX2_resume 6 = .ok (.iconst (-1), 1) := by decide +kernel
theorem dX2_resume_7 : decode cX2_resume 7 = .ok (.putfield 31, 3) := by decide +kernel
theorem dX2_resume_10 : decode cX2_resume 10 = .ok (.iload_n 1, 1) := by decide +kernel
theorem dX2_resume_11 : decode cX2_resume 11 = .ok (.ireturn, 1) := by decide +kernel
theorem dL_cell_0 : decode cL_cell 0 = .ok (.aload 6, 2) := by decide +kernel
theorem dL_cell_2 : decode cL_cell 2 = .ok (.iconst 0, 1) := by decide +kernel
theorem dL_cell_3 : decode cL_cell 3 = .ok (.aload_n 0, 1) := by decide +kernel
theorem dL_cell_4 : decode cL_cell 4 = .ok (.iload_n 1, 1) := by decide +kernel
theorem dL_cell_5 : decode cL_cell 5 = .ok (.iload_n 2, 1) := by decide +kernel
theorem dL_cell_6 : decode cL_cell 6 = .ok (.iload_n 3, 1) := by decide +kernel
theorem dL_cell_7 : decode cL_cell 7 = .ok (.iload 4, 2) := by decide +kernel
theorem dL_cell_9 : decode cL_cell 9 = .ok (.iload 5, 2) := by decide +kernel
theorem dL_cell_11 : decode cL_cell 11 = .ok (.invokevirtual 7, 3) := by decide +kernel
theorem dL_cell_14 : decode cL_cell 14 = .ok (.i2l, 1) := by decide +kernel
theorem dL_cell_15 : decode cL_cell 15 = .ok (.lastore, 1) := by decide +kernel
theorem dL_cell_16 : decode cL_cell 16 = .ok (.goto 11, 3) := by decide +kernel
theorem dL_cell_19 : decode cL_cell 19 = .ok (.astore 7, 2) := by decide +kernel
theorem dL_cell_21 : decode cL_cell 21 = .ok (.iconst 1, 1) := by decide +kernel
theorem dL_cell_22 : decode cL_cell 22 = .ok (.ireturn, 1) := by decide +kernel
theorem dL_cell_23 : decode cL_cell 23 = .ok (.astore 7, 2) := by decide +kernel
theorem dL_cell_25 : decode cL_cell 25 = .ok (.iconst 2, 1) := by decide +kernel
theorem dL_cell_26 : decode cL_cell 26 = .ok (.ireturn, 1) := by decide +kernel
theorem dL_cell_27 : decode cL_cell 27 = .ok (.iconst 0, 1) := by decide +kernel
theorem dL_cell_28 : decode cL_cell 28 = .ok (.ireturn, 1) := by decide +kernel
theorem dX2_cell_0 : decode cX2_cell 0 = .ok (.iload 4, 2) := by decide +kernel
theorem dX2_cell_2 : decode cX2_cell 2 = .ok (.iload 5, 2) := by decide +kernel
theorem dX2_cell_4 : decode cX2_cell 4 = .ok (.invokestatic 35, 3) := by decide +kernel
theorem dX2_cell_7 : decode cX2_cell 7 = .ok (.invokestatic 39, 3) := by decide +kernel
theorem dX2_cell_10 : decode cX2_cell 10 = .ok (.iload_n 1, 1) := by decide +kernel
theorem dX2_cell_11 : decode cX2_cell 11 = .ok (.iload_n 2, 1) := by decide +kernel
theorem dX2_cell_12 : decode cX2_cell 12 = .ok (.invokestatic 43, 3) := by decide +kernel
theorem dX2_cell_15 : decode cX2_cell 15 = .ok (.ifCond .eq 15, 3) := by decide +kernel
theorem dX2_cell_18 : decode cX2_cell 18 = .ok (.iload_n 3, 1) := by decide +kernel
theorem dX2_cell_19 : decode cX2_cell 19 = .ok (.iconst 4, 1) := by decide +kernel
theorem dX2_cell_20 : decode cX2_cell 20 = .ok (.invokestatic 46, 3) := by decide +kernel
theorem dX2_cell_23 : decode cX2_cell 23 = .ok (.ifCond .eq 7, 3) := by decide +kernel
theorem dX2_cell_26 : decode cX2_cell 26 = .ok (.iconst 1, 1) := by decide +kernel
theorem dX2_cell_27 : decode cX2_cell 27 = .ok (.goto 4, 3) := by decide +kernel
theorem dX2_cell_30 : decode cX2_cell 30 = .ok (.iconst 0, 1) := by decide +kernel
theorem dX2_cell_31 : decode cX2_cell 31 = .ok (.invokestatic 49, 3) := by decide +kernel
theorem dX2_cell_34 : decode cX2_cell 34 = .ok (.aload_n 0, 1) := by decide +kernel
theorem dX2_cell_35 : decode cX2_cell 35 = .ok (.getfield 19, 3) := by decide +kernel
theorem dX2_cell_38 : decode cX2_cell 38 = .ok (.iload_n 1, 1) := by decide +kernel
theorem dX2_cell_39 : decode cX2_cell 39 = .ok (.aaload, 1) := by decide +kernel
theorem dX2_cell_40 : decode cX2_cell 40 = .ok (.iload_n 2, 1) := by decide +kernel
theorem dX2_cell_41 : decode cX2_cell 41 = .ok (.iload_n 3, 1) := by decide +kernel
theorem dX2_cell_42 : decode cX2_cell 42 = .ok (.iload 4, 2) := by decide +kernel
theorem dX2_cell_44 : decode cX2_cell 44 = .ok (.iload 5, 2) := by decide +kernel
theorem dX2_cell_46 : decode cX2_cell 46 = .ok (.invokevirtual 52, 3) := by decide +kernel
theorem dX2_cell_49 : decode cX2_cell 49 = .ok (.ireturn, 1) := by decide +kernel
theorem dX2_isCell_0 : decode cX2_isCell 0 = .ok (.iload_n 0, 1) := by decide +kernel
theorem dX2_isCell_1 : decode cX2_isCell 1 = .ok (.iconst 0, 1) := by decide +kernel
theorem dX2_isCell_2 : decode cX2_isCell 2 = .ok (.iconst 5, 1) := by decide +kernel
theorem dX2_isCell_3 : decode cX2_isCell 3 = .ok (.invokestatic 83, 3) := by decide +kernel
theorem dX2_isCell_6 : decode cX2_isCell 6 = .ok (.ifCond .eq 23, 3) := by decide +kernel
theorem dX2_isCell_9 : decode cX2_isCell 9 = .ok (.iload_n 0, 1) := by decide +kernel
theorem dX2_isCell_10 : decode cX2_isCell 10 = .ok (.invokestatic 133, 3) := by decide +kernel
theorem dX2_isCell_13 : decode cX2_isCell 13 = .ok (.ifCond .eq 12, 3) := by decide +kernel
theorem dX2_isCell_16 : decode cX2_isCell 16 = .ok (.iload_n 1, 1) := by decide +kernel
theorem dX2_isCell_17 : decode cX2_isCell 17 = .ok (.bipush 24, 2) := by decide +kernel
theorem dX2_isCell_19 : decode cX2_isCell 19 = .ok (.invokestatic 46, 3) := by decide +kernel
theorem dX2_isCell_22 : decode cX2_isCell 22 = .ok (.ifCond .eq 7, 3) := by decide +kernel
theorem dX2_isCell_25 : decode cX2_isCell 25 = .ok (.iconst 1, 1) := by decide +kernel
theorem dX2_isCell_26 : decode cX2_isCell 26 = .ok (.goto 4, 3) := by decide +kernel
theorem dX2_isCell_29 : decode cX2_isCell 29 = .ok (.iconst 0, 1) := by decide +kernel
theorem dX2_isCell_30 : decode cX2_isCell 30 = .ok (.ireturn, 1) := by decide +kernel
theorem dX2_isBetween_0 : decode cX2_isBetween 0 = .ok (.iload_n 0, 1) := by decide +kernel
theorem dX2_isBetween_1 : decode cX2_isBetween 1 = .ok (.iload_n 1, 1) := by decide +kernel
theorem dX2_isBetween_2 : decode cX2_isBetween 2 = .ok (.if_icmp .lt 12, 3) := by decide +kernel
theorem dX2_isBetween_5 : decode cX2_isBetween 5 = .ok (.iload_n 0, 1) := by decide +kernel
theorem dX2_isBetween_6 : decode cX2_isBetween 6 = .ok (.iload_n 2, 1) := by decide +kernel
theorem dX2_isBetween_7 : decode cX2_isBetween 7 = .ok (.if_icmp .gt 7, 3) := by decide +kernel
theorem dX2_isBetween_10 : decode cX2_isBetween 10 = .ok (.iconst 1, 1) := by decide +kernel
theorem dX2_isBetween_11 : decode cX2_isBetween 11 = .ok (.goto 4, 3) := by decide +kernel
theorem dX2_isBetween_14 : decode cX2_isBetween 14 = .ok (.iconst 0, 1) := by decide +kernel
theorem dX2_isBetween_15 : decode cX2_isBetween 15 = .ok (.ireturn, 1) := by decide +kernel
theorem dX2_looksAtBit_0 : decode cX2_looksAtBit 0 = .ok (.iload_n 0, 1) := by decide +kernel
theorem dX2_looksAtBit_1 : decode cX2_looksAtBit 1 = .ok (.iconst 2, 1) := by decide +kernel
theorem dX2_looksAtBit_2 : decode cX2_looksAtBit 2 = .ok (.iconst 5, 1) := by decide +kernel
theorem dX2_looksAtBit_3 : decode cX2_looksAtBit 3 = .ok (.invokestatic 83, 3) := by decide +kernel
theorem dX2_looksAtBit_6 : decode cX2_looksAtBit 6 = .ok (.ireturn, 1) := by decide +kernel
theorem dX2_isIndex_0 : decode cX2_isIndex 0 = .ok (.iload_n 0, 1) := by decide +kernel
theorem dX2_isIndex_1 : decode cX2_isIndex 1 = .ok (.ifCond .lt 12, 3) := by decide +kernel
theorem dX2_isIndex_4 : decode cX2_isIndex 4 = .ok (.iload_n 0, 1) := by decide +kernel
theorem dX2_isIndex_5 : decode cX2_isIndex 5 = .ok (.iload_n 1, 1) := by decide +kernel
theorem dX2_isIndex_6 : decode cX2_isIndex 6 = .ok (.if_icmp .ge 7, 3) := by decide +kernel
theorem dX2_isIndex_9 : decode cX2_isIndex 9 = .ok (.iconst 1, 1) := by decide +kernel
theorem dX2_isIndex_10 : decode cX2_isIndex 10 = .ok (.goto 4, 3) := by decide +kernel
theorem dX2_isIndex_13 : decode cX2_isIndex 13 = .ok (.iconst 0, 1) := by decide +kernel
theorem dX2_isIndex_14 : decode cX2_isIndex 14 = .ok (.ireturn, 1) := by decide +kernel
theorem dX2_demandNumbers_0 : decode cX2_demandNumbers 0 = .ok (.iload_n 0, 1) := by decide +kernel
theorem dX2_demandNumbers_1 : decode cX2_demandNumbers 1 = .ok (.ifCond .ne 13, 3) := by decide +kernel
theorem dX2_demandNumbers_4 : decode cX2_demandNumbers 4 = .ok (.new 123, 3) := by decide +kernel
theorem dX2_demandNumbers_7 : decode cX2_demandNumbers 7 = .ok (.dup, 1) := by decide +kernel
theorem dX2_demandNumbers_8 : decode cX2_demandNumbers 8 = .ok (.ldc 125, 2) := by decide +kernel
theorem dX2_demandNumbers_10 : decode cX2_demandNumbers 10 = .ok (.invokespecial 127, 3) := by decide +kernel
theorem dX2_demandNumbers_13 : decode cX2_demandNumbers 13 = .ok (.athrow, 1) := by decide +kernel
theorem dX2_demandNumbers_14 : decode cX2_demandNumbers 14 = .ok (.return_, 1) := by decide +kernel
theorem dX2_isRow_0 : decode cX2_isRow 0 = .ok (.iload_n 0, 1) := by decide +kernel
theorem dX2_isRow_1 : decode cX2_isRow 1 = .ok (.iconst 5, 1) := by decide +kernel
theorem dX2_isRow_2 : decode cX2_isRow 2 = .ok (.invokestatic 46, 3) := by decide +kernel
theorem dX2_isRow_5 : decode cX2_isRow 5 = .ok (.ifCond .eq 15, 3) := by decide +kernel
theorem dX2_isRow_8 : decode cX2_isRow 8 = .ok (.iload_n 1, 1) := by decide +kernel
theorem dX2_isRow_9 : decode cX2_isRow 9 = .ok (.iconst 3, 1) := by decide +kernel
theorem dX2_isRow_10 : decode cX2_isRow 10 = .ok (.invokestatic 46, 3) := by decide +kernel
theorem dX2_isRow_13 : decode cX2_isRow 13 = .ok (.ifCond .eq 7, 3) := by decide +kernel
theorem dX2_isRow_16 : decode cX2_isRow 16 = .ok (.iconst 1, 1) := by decide +kernel
theorem dX2_isRow_17 : decode cX2_isRow 17 = .ok (.goto 4, 3) := by decide +kernel
theorem dX2_isRow_20 : decode cX2_isRow 20 = .ok (.iconst 0, 1) := by decide +kernel
theorem dX2_isRow_21 : decode cX2_isRow 21 = .ok (.ireturn, 1) := by decide +kernel
theorem dX2_demandPlace_0 : decode cX2_demandPlace 0 = .ok (.iload_n 0, 1) := by decide +kernel
theorem dX2_demandPlace_1 : decode cX2_demandPlace 1 = .ok (.ifCond .ne 13, 3) := by decide +kernel
theorem dX2_demandPlace_4 : decode cX2_demandPlace 4 = .ok (.new 128, 3) := by decide +kernel
theorem dX2_demandPlace_7 : decode cX2_demandPlace 7 = .ok (.dup, 1) := by decide +kernel
theorem dX2_demandPlace_8 : decode cX2_demandPlace 8 = .ok (.ldc 130, 2) := by decide +kernel
theorem dX2_demandPlace_10 : decode cX2_demandPlace 10 = .ok (.invokespecial 132, 3) := by decide +kernel
theorem dX2_demandPlace_13 : decode cX2_demandPlace 13 = .ok (.athrow, 1) := by decide +kernel
theorem dX2_demandPlace_14 : decode cX2_demandPlace 14 = .ok (.return_, 1) := by decide +kernel
theorem dX1_changeCell_0 : decode cX1_changeCell 0 = .ok (.iload_n 1, 1) := by decide +kernel
theorem dX1_changeCell_1 : decode cX1_changeCell 1 = .ok (.iconst 4, 1) := by decide +kernel
theorem dX1_changeCell_2 : decode cX1_changeCell 2 = .ok (.imul, 1) := by decide +kernel
theorem dX1_changeCell_3 : decode cX1_changeCell 3 = .ok (.iload_n 2, 1) := by decide +kernel
theorem dX1_changeCell_4 : decode cX1_changeCell 4 = .ok (.iadd, 1) := by decide +kernel
theorem dX1_changeCell_5 : decode cX1_changeCell 5 = .ok (.istore 5, 2) := by decide +kernel
theorem dX1_changeCell_7 : decode cX1_changeCell 7 = .ok (.aload_n 0, 1) := by decide +kernel
theorem dX1_changeCell_8 : decode cX1_changeCell 8 = .ok (.getfield 9, 3) := by decide +kernel
theorem dX1_changeCell_11 : decode cX1_changeCell 11 = .ok (.iload 5, 2) := by decide +kernel
theorem dX1_changeCell_13 : decode cX1_changeCell 13 = .ok (.iaload, 1) := by decide +kernel
theorem dX1_changeCell_14 : decode cX1_changeCell 14 = .ok (.istore 6, 2) := by decide +kernel
theorem dX1_changeCell_16 : decode cX1_changeCell 16 = .ok (.aload_n 0, 1) := by decide +kernel
theorem dX1_changeCell_17 : decode cX1_changeCell 17 = .ok (.getfield 9, 3) := by decide +kernel
theorem dX1_changeCell_20 : decode cX1_changeCell 20 = .ok (.iload 5, 2) := by decide +kernel
theorem dX1_changeCell_22 : decode cX1_changeCell 22 = .ok (.iload_n 3, 1) := by decide +kernel
theorem dX1_changeCell_23 : decode cX1_changeCell 23 = .ok (.iastore, 1) := by decide +kernel
theorem dX1_changeCell_24 : decode cX1_changeCell 24 = .ok (.aload_n 0, 1) := by decide +kernel
theorem dX1_changeCell_25 : decode cX1_changeCell 25 = .ok (.getfield 15, 3) := by decide +kernel
theorem dX1_changeCell_28 : decode cX1_changeCell 28 = .ok (.iload 5, 2) := by decide +kernel
theorem dX1_changeCell_30 : decode cX1_changeCell 30 = .ok (.iload_n 3, 1) := by decide +kernel
theorem dX1_changeCell_31 : decode cX1_changeCell 31 = .ok (.invokestatic 34, 3) := by decide +kernel
theorem dX1_changeCell_34 : decode cX1_changeCell 34 = .ok (.ifCond .eq 8, 3) := by decide +kernel
theorem dX1_changeCell_37 : decode cX1_changeCell 37 = .ok (.iload 4, 2) := by decide +kernel
theorem dX1_changeCell_39 : decode cX1_changeCell 39 = .ok (.goto 4, 3) := by decide +kernel
theorem dX1_changeCell_42 : decode cX1_changeCell 42 = .ok (.iconst 0, 1) := by decide +kernel
theorem dX1_changeCell_43 : decode cX1_changeCell 43 = .ok (.iastore, 1) := by decide +kernel
theorem dX1_changeCell_44 : decode cX1_changeCell 44 = .ok (.aload_n 0, 1) := by decide +kernel
theorem dX1_changeCell_45 : decode cX1_changeCell 45 = .ok (.getfield 18, 3) := by decide +kernel
theorem dX1_changeCell_48 : decode cX1_changeCell 48 = .ok (.iload 5, 2) := by decide +kernel
theorem dX1_changeCell_50 : decode cX1_changeCell 50 = .ok (.iconst 0, 1) := by decide +kernel
theorem dX1_changeCell_51 : decode cX1_changeCell 51 = .ok (.bastore, 1) := by decide +kernel
theorem dX1_changeCell_52 : decode cX1_changeCell 52 = .ok (.iload 6, 2) := by decide +kernel
theorem dX1_changeCell_54 : decode cX1_changeCell 54 = .ok (.ireturn, 1) := by decide +kernel
theorem dL_link_0 : decode cL_link 0 = .ok (.aload 5, 2) := by decide +kernel
theorem dL_link_2 : decode cL_link 2 = .ok (.iconst 0, 1) := by decide +kernel
theorem dL_link_3 : decode cL_link 3 = .ok (.aload_n 0, 1) := by decide +kernel
theorem dL_link_4 : decode cL_link 4 = .ok (.iload_n 1, 1) := by decide +kernel
theorem dL_link_5 : decode cL_link 5 = .ok (.iload_n 2, 1) := by decide +kernel
theorem dL_link_6 : decode cL_link 6 = .ok (.iload_n 3, 1) := by decide +kernel
theorem dL_link_7 : decode cL_link 7 = .ok (.iload 4, 2) := by decide +kernel
theorem dL_link_9 : decode cL_link 9 = .ok (.invokevirtual 17, 3) := by decide +kernel
theorem dL_link_12 : decode cL_link 12 = .ok (.ifCond .eq 7, 3) := by decide +kernel
theorem dL_link_15 : decode cL_link 15 = .ok (.lconst 1, 1) := by decide +kernel
theorem dL_link_16 : decode cL_link 16 = .ok (.goto 4, 3) := by decide +kernel
theorem dL_link_19 : decode cL_link 19 = .ok (.lconst 0, 1) := by decide +kernel
theorem dL_link_20 : decode cL_link 20 = .ok (.lastore, 1) := by decide +kernel
theorem dL_link_21 : decode cL_link 21 = .ok (.goto 7, 3) := by decide +kernel
theorem dL_link_24 : decode cL_link 24 = .ok (.astore 6, 2) := by decide +kernel
theorem dL_link_26 : decode cL_link 26 = .ok (.iconst 1, 1) := by decide +kernel
theorem dL_link_27 : decode cL_link 27 = .ok (.ireturn, 1) := by decide +kernel
theorem dL_link_28 : decode cL_link 28 = .ok (.iconst 0, 1) := by decide +kernel
theorem dL_link_29 : decode cL_link 29 = .ok (.ireturn, 1) := by decide +kernel
theorem dX2_link_0 : decode cX2_link 0 = .ok (.iload_n 1, 1) := by decide +kernel
theorem dX2_link_1 : decode cX2_link 1 = .ok (.iconst 5, 1) := by decide +kernel
theorem dX2_link_2 : decode cX2_link 2 = .ok (.invokestatic 46, 3) := by decide +kernel
theorem dX2_link_5 : decode cX2_link 5 = .ok (.ifCond .eq 23, 3) := by decide +kernel
theorem dX2_link_8 : decode cX2_link 8 = .ok (.iload_n 2, 1) := by decide +kernel
theorem dX2_link_9 : decode cX2_link 9 = .ok (.iconst 2, 1) := by decide +kernel
theorem dX2_link_10 : decode cX2_link 10 = .ok (.invokestatic 46, 3) := by decide +kernel
theorem dX2_link_13 : decode cX2_link 13 = .ok (.ifCond .eq 15, 3) := by decide +kernel
theorem dX2_link_16 : decode cX2_link 16 = .ok (.iload_n 3, 1) := by decide +kernel
theorem dX2_link_17 : decode cX2_link 17 = .ok (.iconst 4, 1) := by decide +kernel
theorem dX2_link_18 : decode cX2_link 18 = .ok (.invokestatic 46, 3) := by decide +kernel
theorem dX2_link_21 : decode cX2_link 21 = .ok (.ifCond .eq 7, 3) := by decide +kernel
theorem dX2_link_24 : decode cX2_link 24 = .ok (.iconst 1, 1) := by decide +kernel
theorem dX2_link_25 : decode cX2_link 25 = .ok (.goto 4, 3) := by decide +kernel
theorem dX2_link_28 : decode cX2_link 28 = .ok (.iconst 0, 1) := by decide +kernel
theorem dX2_link_29 : decode cX2_link 29 = .ok (.invokestatic 49, 3) := by decide +kernel
theorem dX2_link_32 : decode cX2_link 32 = .ok (.aload_n 0, 1) := by decide +kernel
theorem dX2_link_33 : decode cX2_link 33 = .ok (.getfield 19, 3) := by decide +kernel
theorem dX2_link_36 : decode cX2_link 36 = .ok (.iload_n 1, 1) := by decide +kernel
theorem dX2_link_37 : decode cX2_link 37 = .ok (.aaload, 1) := by decide +kernel
theorem dX2_link_38 : decode cX2_link 38 = .ok (.iload_n 2, 1) := by decide +kernel
theorem dX2_link_39 : decode cX2_link 39 = .ok (.iload_n 3, 1) := by decide +kernel
theorem dX2_link_40 : decode cX2_link 40 = .ok (.iload 4, 2) := by decide +kernel
theorem dX2_link_42 : decode cX2_link 42 = .ok (.invokevirtual 56, 3) := by decide +kernel
theorem dX2_link_45 : decode cX2_link 45 = .ok (.ireturn, 1) := by decide +kernel
theorem dX1_changeLink_0 : decode cX1_changeLink 0 = .ok (.iload_n 1, 1) := by decide +kernel
theorem dX1_changeLink_1 : decode cX1_changeLink 1 = .ok (.iconst 4, 1) := by decide +kernel
theorem dX1_changeLink_2 : decode cX1_changeLink 2 = .ok (.imul, 1) := by decide +kernel
theorem dX1_changeLink_3 : decode cX1_changeLink 3 = .ok (.iload_n 2, 1) := by decide +kernel
theorem dX1_changeLink_4 : decode cX1_changeLink 4 = .ok (.iadd, 1) := by decide +kernel
theorem dX1_changeLink_5 : decode cX1_changeLink 5 = .ok (.istore 4, 2) := by decide +kernel
theorem dX1_changeLink_7 : decode cX1_changeLink 7 = .ok (.aload_n 0, 1) := by decide +kernel
theorem dX1_changeLink_8 : decode cX1_changeLink 8 = .ok (.getfield 22, 3) := by decide +kernel
theorem dX1_changeLink_11 : decode cX1_changeLink 11 = .ok (.iload 4, 2) := by decide +kernel
theorem dX1_changeLink_13 : decode cX1_changeLink 13 = .ok (.baload, 1) := by decide +kernel
theorem dX1_changeLink_14 : decode cX1_changeLink 14 = .ok (.istore 5, 2) := by decide +kernel
theorem dX1_changeLink_16 : decode cX1_changeLink 16 = .ok (.aload_n 0, 1) := by decide +kernel
theorem dX1_changeLink_17 : decode cX1_changeLink 17 = .ok (.getfield 22, 3) := by decide +kernel
theorem dX1_changeLink_20 : decode cX1_changeLink 20 = .ok (.iload 4, 2) := by decide +kernel
theorem dX1_changeLink_22 : decode cX1_changeLink 22 = .ok (.iload_n 3, 1) := by decide +kernel
theorem dX1_changeLink_23 : decode cX1_changeLink 23 = .ok (.bastore, 1) := by decide +kernel
theorem dX1_changeLink_24 : decode cX1_changeLink 24 = .ok (.iload 5, 2) := by decide +kernel
theorem dX1_changeLink_26 : decode cX1_changeLink 26 = .ok (.ireturn, 1) := by decide +kernel
theorem dL_coil_0 : decode cL_coil 0 = .ok (.aload 5, 2) := by decide +kernel
theorem dL_coil_2 : decode cL_coil 2 = .ok (.iconst 0, 1) := by decide +kernel
theorem dL_coil_3 : decode cL_coil 3 = .ok (.aload_n 0, 1) := by decide +kernel
theorem dL_coil_4 : decode cL_coil 4 = .ok (.iload_n 1, 1) := by decide +kernel
theorem dL_coil_5 : decode cL_coil 5 = .ok (.iload_n 2, 1) := by decide +kernel
theorem dL_coil_6 : decode cL_coil 6 = .ok (.iload_n 3, 1) := by decide +kernel
theorem dL_coil_7 : decode cL_coil 7 = .ok (.iload 4, 2) := by decide +kernel
theorem dL_coil_9 : decode cL_coil 9 = .ok (.invokevirtual 21, 3) := by decide +kernel
theorem dL_coil_12 : decode cL_coil 12 = .ok (.i2l, 1) := by decide +kernel
theorem dL_coil_13 : decode cL_coil 13 = .ok (.lastore, 1) := by decide +kernel
theorem dL_coil_14 : decode cL_coil 14 = .ok (.goto 11, 3) := by decide +kernel
theorem dL_coil_17 : decode cL_coil 17 = .ok (.astore 6, 2) := by decide +kernel
theorem dL_coil_19 : decode cL_coil 19 = .ok (.iconst 1, 1) := by decide +kernel
theorem dL_coil_20 : decode cL_coil 20 = .ok (.ireturn, 1) := by decide +kernel
theorem dL_coil_21 : decode cL_coil 21 = .ok (.astore 6, 2) := by decide +kernel
theorem dL_coil_23 : decode cL_coil 23 = .ok (.iconst 2, 1) := by decide +kernel
theorem dL_coil_24 : decode cL_coil 24 = .ok (.ireturn, 1) := by decide +kernel
theorem dL_coil_25 : decode cL_coil 25 = .ok (.iconst 0, 1) := by decide +kernel
theorem dL_coil_26 : decode cL_coil 26 = .ok (.ireturn, 1) := by decide +kernel
theorem dX2_coil_0 : decode cX2_coil 0 = .ok (.iload_n 3, 1) := by decide +kernel
theorem dX2_coil_1 : decode cX2_coil 1 = .ok (.iload 4, 2) := by decide +kernel
theorem dX2_coil_3 : decode cX2_coil 3 = .ok (.invokestatic 60, 3) := by decide +kernel
theorem dX2_coil_6 : decode cX2_coil 6 = .ok (.invokestatic 39, 3) := by decide +kernel
theorem dX2_coil_9 : decode cX2_coil 9 = .ok (.iload_n 1, 1) := by decide +kernel
theorem dX2_coil_10 : decode cX2_coil 10 = .ok (.iload_n 2, 1) := by decide +kernel
theorem dX2_coil_11 : decode cX2_coil 11 = .ok (.invokestatic 43, 3) := by decide +kernel
theorem dX2_coil_14 : decode cX2_coil 14 = .ok (.invokestatic 49, 3) := by decide +kernel
theorem dX2_coil_17 : decode cX2_coil 17 = .ok (.aload_n 0, 1) := by decide +kernel
theorem dX2_coil_18 : decode cX2_coil 18 = .ok (.getfield 19, 3) := by decide +kernel
theorem dX2_coil_21 : decode cX2_coil 21 = .ok (.iload_n 1, 1) := by decide +kernel
theorem dX2_coil_22 : decode cX2_coil 22 = .ok (.aaload, 1) := by decide +kernel
theorem dX2_coil_23 : decode cX2_coil 23 = .ok (.iload_n 2, 1) := by decide +kernel
theorem dX2_coil_24 : decode cX2_coil 24 = .ok (.iload_n 3, 1) := by decide +kernel
theorem dX2_coil_25 : decode cX2_coil 25 = .ok (.iload 4, 2) := by decide +kernel
theorem dX2_coil_27 : decode cX2_coil 27 = .ok (.invokevirtual 63, 3) := by decide +kernel
theorem dX2_coil_30 : decode cX2_coil 30 = .ok (.ireturn, 1) := by decide +kernel
theorem dX2_isCoil_0 : decode cX2_isCoil 0 = .ok (.iload_n 0, 1) := by decide +kernel
theorem dX2_isCoil_1 : decode cX2_isCoil 1 = .ok (.tableswitch 53 0 4 #[35, 37, 37, 37, 46], 35) := by decide +kernel
theorem dX2_isCoil_36 : decode cX2_isCoil 36 = .ok (.iconst 1, 1) := by decide +kernel
theorem dX2_isCoil_37 : decode cX2_isCoil 37 = .ok (.ireturn, 1) := by decide +kernel
theorem dX2_isCoil_38 : decode cX2_isCoil 38 = .ok (.iload_n 1, 1) := by decide +kernel
theorem dX2_isCoil_39 : decode cX2_isCoil 39 = .ok (.bipush 8, 2) := by decide +kernel
theorem dX2_isCoil_41 : decode cX2_isCoil 41 = .ok (.bipush 23, 2) := by decide +kernel
theorem dX2_isCoil_43 : decode cX2_isCoil 43 = .ok (.invokestatic 83, 3) := by decide +kernel
theorem dX2_isCoil_46 : decode cX2_isCoil 46 = .ok (.ireturn, 1) := by decide +kernel
theorem dX2_isCoil_47 : decode cX2_isCoil 47 = .ok (.iload_n 1, 1) := by decide +kernel
theorem dX2_isCoil_48 : decode cX2_isCoil 48 = .ok (.bipush 8, 2) := by decide +kernel
theorem dX2_isCoil_50 : decode cX2_isCoil 50 = .ok (.invokestatic 46, 3) := by decide +kernel
theorem dX2_isCoil_53 : decode cX2_isCoil 53 = .ok (.ireturn, 1) := by decide +kernel
theorem dX2_isCoil_54 : decode cX2_isCoil 54 = .ok (.iconst 0, 1) := by decide +kernel
theorem dX2_isCoil_55 : decode cX2_isCoil 55 = .ok (.ireturn, 1) := by decide +kernel
theorem dX1_changeCoil_0 : decode cX1_changeCoil 0 = .ok (.aload_n 0, 1) := by decide +kernel
theorem dX1_changeCoil_1 : decode cX1_changeCoil 1 = .ok (.getfield 28, 3) := by decide +kernel
theorem dX1_changeCoil_4 : decode cX1_changeCoil 4 = .ok (.iload_n 1, 1) := by decide +kernel
theorem dX1_changeCoil_5 : decode cX1_changeCoil 5 = .ok (.iaload, 1) := by decide +kernel
theorem dX1_changeCoil_6 : decode cX1_changeCoil 6 = .ok (.istore 4, 2) := by decide +kernel
theorem dX1_changeCoil_8 : decode cX1_changeCoil 8 = .ok (.aload_n 0, 1) := by decide +kernel
theorem dX1_changeCoil_9 : decode cX1_changeCoil 9 = .ok (.getfield 28, 3) := by decide +kernel
theorem dX1_changeCoil_12 : decode cX1_changeCoil 12 = .ok (.iload_n 1, 1) := by decide +kernel
theorem dX1_changeCoil_13 : decode cX1_changeCoil 13 = .ok (.iload_n 2, 1) := by decide +kernel
theorem dX1_changeCoil_14 : decode cX1_changeCoil 14 = .ok (.iastore, 1) := by decide +kernel
theorem dX1_changeCoil_15 : decode cX1_changeCoil 15 = .ok (.aload_n 0, 1) := by decide +kernel
theorem dX1_changeCoil_16 : decode cX1_changeCoil 16 = .ok (.getfield 31, 3) := by decide +kernel
theorem dX1_changeCoil_19 : decode cX1_changeCoil 19 = .ok (.iload_n 1, 1) := by decide +kernel
theorem dX1_changeCoil_20 : decode cX1_changeCoil 20 = .ok (.iload_n 3, 1) := by decide +kernel
theorem dX1_changeCoil_21 : decode cX1_changeCoil 21 = .ok (.iastore, 1) := by decide +kernel
theorem dX1_changeCoil_22 : decode cX1_changeCoil 22 = .ok (.iload 4, 2) := by decide +kernel
theorem dX1_changeCoil_24 : decode cX1_changeCoil 24 = .ok (.ireturn, 1) := by decide +kernel
theorem dL_block_0 : decode cL_block 0 = .ok (.aload 8, 2) := by decide +kernel
theorem dL_block_2 : decode cL_block 2 = .ok (.iconst 0, 1) := by decide +kernel
theorem dL_block_3 : decode cL_block 3 = .ok (.aload_n 0, 1) := by decide +kernel
theorem dL_block_4 : decode cL_block 4 = .ok (.iload_n 1, 1) := by decide +kernel
theorem dL_block_5 : decode cL_block 5 = .ok (.iload_n 2, 1) := by decide +kernel
theorem dL_block_6 : decode cL_block 6 = .ok (.iload_n 3, 1) := by decide +kernel
theorem dL_block_7 : decode cL_block 7 = .ok (.iload 4, 2) := by decide +kernel
theorem dL_block_9 : decode cL_block 9 = .ok (.iload 5, 2) := by decide +kernel
theorem dL_block_11 : decode cL_block 11 = .ok (.dload 6, 2) := by decide +kernel
theorem dL_block_13 : decode cL_block 13 = .ok (.invokevirtual 25, 3) := by decide +kernel
theorem dL_block_16 : decode cL_block 16 = .ok (.i2l, 1) := by decide +kernel
theorem dL_block_17 : decode cL_block 17 = .ok (.lastore, 1) := by decide +kernel
theorem dL_block_18 : decode cL_block 18 = .ok (.goto 11, 3) := by decide +kernel
theorem dL_block_21 : decode cL_block 21 = .ok (.astore 9, 2) := by decide +kernel
theorem dL_block_23 : decode cL_block 23 = .ok (.iconst 1, 1) := by decide +kernel
theorem dL_block_24 : decode cL_block 24 = .ok (.ireturn, 1) := by decide +kernel
theorem dL_block_25 : decode cL_block 25 = .ok (.astore 9, 2) := by decide +kernel
theorem dL_block_27 : decode cL_block 27 = .ok (.iconst 2, 1) := by decide +kernel
theorem dL_block_28 : decode cL_block 28 = .ok (.ireturn, 1) := by decide +kernel
theorem dL_block_29 : decode cL_block 29 = .ok (.iconst 0, 1) := by decide +kernel
theorem dL_block_30 : decode cL_block 30 = .ok (.ireturn, 1) := by decide +kernel
theorem dX2_block_0 : decode cX2_block 0 = .ok (.iload_n 2, 1) := by decide +kernel
theorem dX2_block_1 : decode cX2_block 1 = .ok (.iload_n 3, 1) := by decide +kernel
theorem dX2_block_2 : decode cX2_block 2 = .ok (.iload 4, 2) := by decide +kernel
theorem dX2_block_4 : decode cX2_block 4 = .ok (.iload 5, 2) := by decide +kernel
theorem dX2_block_6 : decode cX2_block 6 = .ok (.dload 6, 2) := by decide +kernel
theorem dX2_block_8 : decode cX2_block 8 = .ok (.invokestatic 67, 3) := by decide +kernel
theorem dX2_block_11 : decode cX2_block 11 = .ok (.invokestatic 39, 3) := by decide +kernel
theorem dX2_block_14 : decode cX2_block 14 = .ok (.iload_n 1, 1) := by decide +kernel
theorem dX2_block_15 : decode cX2_block 15 = .ok (.bipush 8, 2) := by decide +kernel
theorem dX2_block_17 : decode cX2_block 17 = .ok (.invokestatic 46, 3) := by decide +kernel
theorem dX2_block_20 : decode cX2_block 20 = .ok (.invokestatic 49, 3) := by decide +kernel
theorem dX2_block_23 : decode cX2_block 23 = .ok (.aload_n 0, 1) := by decide +kernel
theorem dX2_block_24 : decode cX2_block 24 = .ok (.getfield 26, 3) := by decide +kernel
theorem dX2_block_27 : decode cX2_block 27 = .ok (.iload_n 1, 1) := by decide +kernel
theorem dX2_block_28 : decode cX2_block 28 = .ok (.aaload, 1) := by decide +kernel
theorem dX2_block_29 : decode cX2_block 29 = .ok (.iload_n 2, 1) := by decide +kernel
theorem dX2_block_30 : decode cX2_block 30 = .ok (.iload_n 3, 1) := by decide +kernel
theorem dX2_block_31 : decode cX2_block 31 = .ok (.iload 4, 2) := by decide +kernel
theorem dX2_block_33 : decode cX2_block 33 = .ok (.iload 5, 2) := by decide +kernel
theorem dX2_block_35 : decode cX2_block 35 = .ok (.dload 6, 2) := by decide +kernel
theorem dX2_block_37 : decode cX2_block 37 = .ok (.invokevirtual 71, 3) := by decide +kernel
theorem dX2_block_40 : decode cX2_block 40 = .ok (.ireturn, 1) := by decide +kernel
theorem dX2_isBlock_0 : decode cX2_isBlock 0 = .ok (.iload_n 0, 1) := by decide +kernel
theorem dX2_isBlock_1 : decode cX2_isBlock 1 = .ok (.tableswitch 153 0 9 #[55, 57, 57, 78, 99, 99, 99, 99, 122, 122], 55) := by decide +kernel
theorem dX2_isBlock_56 : decode cX2_isBlock 56 = .ok (.iconst 1, 1) := by decide +kernel
theorem dX2_isBlock_57 : decode cX2_isBlock 57 = .ok (.ireturn, 1) := by decide +kernel
theorem dX2_isBlock_58 : decode cX2_isBlock 58 = .ok (.iload_n 3, 1) := by decide +kernel
theorem dX2_isBlock_59 : decode cX2_isBlock 59 = .ok (.invokestatic 137, 3) := by decide +kernel
theorem dX2_isBlock_62 : decode cX2_isBlock 62 = .ok (.ifCond .eq 15, 3) := by decide +kernel
theorem dX2_isBlock_65 : decode cX2_isBlock 65 = .ok (.dload 4, 2) := by decide +kernel
theorem dX2_isBlock_67 : decode cX2_isBlock 67 = .ok (.invokestatic 140, 3) := by decide +kernel
theorem dX2_isBlock_70 : decode cX2_isBlock 70 = .ok (.ifCond .eq 7, 3) := by decide +kernel
theorem dX2_isBlock_73 : decode cX2_isBlock 73 = .ok (.iconst 1, 1) := by decide +kernel
theorem dX2_isBlock_74 : decode cX2_isBlock 74 = .ok (.goto 4, 3) := by decide +kernel
theorem dX2_isBlock_77 : decode cX2_isBlock 77 = .ok (.iconst 0, 1) := by decide +kernel
theorem dX2_isBlock_78 : decode cX2_isBlock 78 = .ok (.ireturn, 1) := by decide +kernel
theorem dX2_isBlock_79 : decode cX2_isBlock 79 = .ok (.iload_n 1, 1) := by decide +kernel
theorem dX2_isBlock_80 : decode cX2_isBlock 80 = .ok (.iload_n 2, 1) := by decide +kernel
theorem dX2_isBlock_81 : decode cX2_isBlock 81 = .ok (.invokestatic 143, 3) := by decide +kernel
theorem dX2_isBlock_84 : decode cX2_isBlock 84 = .ok (.ifCond .eq 14, 3) := by decide +kernel
theorem dX2_isBlock_87 : decode cX2_isBlock 87 = .ok (.iload_n 3, 1) := by decide +kernel
theorem dX2_isBlock_88 : decode cX2_isBlock 88 = .ok (.invokestatic 137, 3) := by decide +kernel
theorem dX2_isBlock_91 : decode cX2_isBlock 91 = .ok (.ifCond .eq 7, 3) := by decide +kernel
theorem dX2_isBlock_94 : decode cX2_isBlock 94 = .ok (.iconst 1, 1) := by decide +kernel
theorem dX2_isBlock_95 : decode cX2_isBlock 95 = .ok (.goto 4, 3) := by decide +kernel
theorem dX2_isBlock_98 : decode cX2_isBlock 98 = .ok (.iconst 0, 1) := by decide +kernel
theorem dX2_isBlock_99 : decode cX2_isBlock 99 = .ok (.ireturn, 1) := by decide +kernel
theorem dX2_isBlock_100 : decode cX2_isBlock 100 = .ok (.iload_n 1, 1) := by decide +kernel
theorem dX2_isBlock_101 : decode cX2_isBlock 101 = .ok (.iload_n 2, 1) := by decide +kernel
theorem dX2_isBlock_102 : decode cX2_isBlock 102 = .ok (.invokestatic 143, 3) := by decide +kernel
theorem dX2_isBlock_105 : decode cX2_isBlock 105 = .ok (.ifCond .eq 16, 3) := by decide +kernel
theorem dX2_isBlock_108 : decode cX2_isBlock 108 = .ok (.iload_n 3, 1) := by decide +kernel
theorem dX2_isBlock_109 : decode cX2_isBlock 109 = .ok (.bipush 8, 2) := by decide +kernel
theorem dX2_isBlock_111 : decode cX2_isBlock 111 = .ok (.invokestatic 46, 3) := by decide +kernel
theorem dX2_isBlock_114 : decode cX2_isBlock 114 = .ok (.ifCond .eq 7, 3) := by decide +kernel
theorem dX2_isBlock_117 : decode cX2_isBlock 117 = .ok (.iconst 1, 1) := by decide +kernel
theorem dX2_isBlock_118 : decode cX2_isBlock 118 = .ok (.goto 4, 3) := by decide +kernel
theorem dX2_isBlock_121 : decode cX2_isBlock 121 = .ok (.iconst 0, 1) := by decide +kernel
theorem dX2_isBlock_122 : decode cX2_isBlock 122 = .ok (.ireturn, 1) := by decide +kernel
theorem dX2_isBlock_123 : decode cX2_isBlock 123 = .ok (.iload_n 1, 1) := by decide +kernel
theorem dX2_isBlock_124 : decode cX2_isBlock 124 = .ok (.iload_n 2, 1) := by decide +kernel
theorem dX2_isBlock_125 : decode cX2_isBlock 125 = .ok (.invokestatic 143, 3) := by decide +kernel
theorem dX2_isBlock_128 : decode cX2_isBlock 128 = .ok (.ifCond .eq 24, 3) := by decide +kernel
theorem dX2_isBlock_131 : decode cX2_isBlock 131 = .ok (.iload_n 3, 1) := by decide +kernel
theorem dX2_isBlock_132 : decode cX2_isBlock 132 = .ok (.bipush 8, 2) := by decide +kernel
theorem dX2_isBlock_134 : decode cX2_isBlock 134 = .ok (.invokestatic 46, 3) := by decide +kernel
theorem dX2_isBlock_137 : decode cX2_isBlock 137 = .ok (.ifCond .eq 15, 3) := by decide +kernel
theorem dX2_isBlock_140 : decode cX2_isBlock 140 = .ok (.dload 4, 2) := by decide +kernel
theorem dX2_isBlock_142 : decode cX2_isBlock 142 = .ok (.invokestatic 146, 3) := by decide +kernel
theorem dX2_isBlock_145 : decode cX2_isBlock 145 = .ok (.ifCond .eq 7, 3) := by decide +kernel
theorem dX2_isBlock_148 : decode cX2_isBlock 148 = .ok (.iconst 1, 1) := by decide +kernel
theorem dX2_isBlock_149 : decode cX2_isBlock 149 = .ok (.goto 4, 3) := by decide +kernel
theorem dX2_isBlock_152 : decode cX2_isBlock 152 = .ok (.iconst 0, 1) := by decide +kernel
theorem dX2_isBlock_153 : decode cX2_isBlock 153 = .ok (.ireturn, 1) := by decide +kernel
theorem dX2_isBlock_154 : decode cX2_isBlock 154 = .ok (.iconst 0, 1) := by decide +kernel
theorem dX2_isBlock_155 : decode cX2_isBlock 155 = .ok (.ireturn, 1) := by decide +kernel
theorem dX2_isBlockBit_0 : decode cX2_isBlockBit 0 = .ok (.iload_n 0, 1) := by decide +kernel
theorem dX2_isBlockBit_1 : decode cX2_isBlockBit 1 = .ok (.bipush 8, 2) := by decide +kernel
theorem dX2_isBlockBit_3 : decode cX2_isBlockBit 3 = .ok (.bipush 21, 2) := by decide +kernel
theorem dX2_isBlockBit_5 : decode cX2_isBlockBit 5 = .ok (.invokestatic 83, 3) := by decide +kernel
theorem dX2_isBlockBit_8 : decode cX2_isBlockBit 8 = .ok (.ireturn, 1) := by decide +kernel
theorem dX2_isCountable_0 : decode cX2_isCountable 0 = .ok (.dload_n 0, 1) := by decide +kernel
theorem dX2_isCountable_1 : decode cX2_isCountable 1 = .ok (.dconst 1, 1) := by decide +kernel
theorem dX2_isCountable_2 : decode cX2_isCountable 2 = .ok (.dcmp .l, 1) := by decide +kernel
theorem dX2_isCountable_3 : decode cX2_isCountable 3 = .ok (.ifCond .lt 23, 3) := by decide +kernel
theorem dX2_isCountable_6 : decode cX2_isCountable 6 = .ok (.dload_n 0, 1) := by decide +kernel
theorem dX2_isCountable_7 : decode cX2_isCountable 7 = .ok (.ldc2_w 149, 3) := by decide +kernel
theorem dX2_isCountable_10 : decode cX2_isCountable 10 = .ok (.dcmp .g, 1) := by decide +kernel
theorem dX2_isCountable_11 : decode cX2_isCountable 11 = .ok (.ifCond .gt 15, 3) := by decide +kernel
theorem dX2_isCountable_14 : decode cX2_isCountable 14 = .ok (.dload_n 0, 1) := by decide +kernel
theorem dX2_isCountable_15 : decode cX2_isCountable 15 = .ok (.dload_n 0, 1) := by decide +kernel
theorem dX2_isCountable_16 : decode cX2_isCountable 16 = .ok (.d2i, 1) := by decide +kernel
theorem dX2_isCountable_17 : decode cX2_isCountable 17 = .ok (.i2d, 1) := by decide +kernel
theorem dX2_isCountable_18 : decode cX2_isCountable 18 = .ok (.dcmp .l, 1) := by decide +kernel
theorem dX2_isCountable_19 : decode cX2_isCountable 19 = .ok (.ifCond .ne 7, 3) := by decide +kernel
theorem dX2_isCountable_22 : decode cX2_isCountable 22 = .ok (.iconst 1, 1) := by decide +kernel
theorem dX2_isCountable_23 : decode cX2_isCountable 23 = .ok (.goto 4, 3) := by decide +kernel
theorem dX2_isCountable_26 : decode cX2_isCountable 26 = .ok (.iconst 0, 1) := by decide +kernel
theorem dX2_isCountable_27 : decode cX2_isCountable 27 = .ok (.ireturn, 1) := by decide +kernel
theorem dX2_areRegisters_0 : decode cX2_areRegisters 0 = .ok (.iload_n 0, 1) := by decide +kernel
theorem dX2_areRegisters_1 : decode cX2_areRegisters 1 = .ok (.bipush 8, 2) := by decide +kernel
theorem dX2_areRegisters_3 : decode cX2_areRegisters 3 = .ok (.invokestatic 46, 3) := by decide +kernel
theorem dX2_areRegisters_6 : decode cX2_areRegisters 6 = .ok (.ifCond .eq 16, 3) := by decide +kernel
theorem dX2_areRegisters_9 : decode cX2_areRegisters 9 = .ok (.iload_n 1, 1) := by decide +kernel
theorem dX2_areRegisters_10 : decode cX2_areRegisters 10 = .ok (.bipush 8, 2) := by decide +kernel
theorem dX2_areRegisters_12 : decode cX2_areRegisters 12 = .ok (.invokestatic 46, 3) := by decide +kernel
theorem dX2_areRegisters_15 : decode cX2_areRegisters 15 = .ok (.ifCond .eq 7, 3) := by decide +kernel
theorem dX2_areRegisters_18 : decode cX2_areRegisters 18 = .ok (.iconst 1, 1) := by decide +kernel
theorem dX2_areRegisters_19 : decode cX2_areRegisters 19 = .ok (.goto 4, 3) := by decide +kernel
theorem dX2_areRegisters_22 : decode cX2_areRegisters 22 = .ok (.iconst 0, 1) := by decide +kernel
end
section
/-! decode rows -/
theorem dX2_areRegisters_23 : decode cX2_areRegisters 23 = .ok (.ireturn, 1) := by decide +kernel
theorem dX2_isSetting_0 : decode cX2_isSetting 0 = .ok (.dload_n 0, 1) := by decide +kernel
theorem dX2_isSetting_1 : decode cX2_isSetting 1 = .ok (.ldc2_w 151, 3) := by decide +kernel
theorem dX2_isSetting_4 : decode cX2_isSetting 4 = .ok (.dcmp .l, 1) := by decide +kernel
theorem dX2_isSetting_5 : decode cX2_isSetting 5 = .ok (.ifCond .lt 15, 3) := by decide +kernel
theorem dX2_isSetting_8 : decode cX2_isSetting 8 = .ok (.dload_n 0, 1) := by decide +kernel
theorem dX2_isSetting_9 : decode cX2_isSetting 9 = .ok (.ldc2_w 149, 3) := by decide +kernel
theorem dX2_isSetting_12 : decode cX2_isSetting 12 = .ok (.dcmp .g, 1) := by decide +kernel
theorem dX2_isSetting_13 : decode cX2_isSetting 13 = .ok (.ifCond .gt 7, 3) := by decide +kernel
theorem dX2_isSetting_16 : decode cX2_isSetting 16 = .ok (.iconst 1, 1) := by decide +kernel
theorem dX2_isSetting_17 : decode cX2_isSetting 17 = .ok (.goto 4, 3) := by decide +kernel
theorem dX2_isSetting_20 : decode cX2_isSetting 20 = .ok (.iconst 0, 1) := by decide +kernel
theorem dX2_isSetting_21 : decode cX2_isSetting 21 = .ok (.ireturn, 1) := by decide +kernel
theorem dX0_become_0 : decode cX0_become 0 = .ok (.aload_n 0, 1) := by decide +kernel
theorem dX0_become_1 : decode cX0_become 1 = .ok (.getfield 9, 3) := by decide +kernel
theorem dX0_become_4 : decode cX0_become 4 = .ok (.istore 7, 2) := by decide +kernel
theorem dX0_become_6 : decode cX0_become 6 = .ok (.aload_n 0, 1) := by decide +kernel
theorem dX0_become_7 : decode cX0_become 7 = .ok (.iload_n 1, 1) := by decide +kernel
theorem dX0_become_8 : decode cX0_become 8 = .ok (.putfield 9, 3) := by decide +kernel
theorem dX0_become_11 : decode cX0_become 11 = .ok (.aload_n 0, 1) := by decide +kernel
theorem dX0_become_12 : decode cX0_become 12 = .ok (.iload_n 2, 1) := by decide +kernel
theorem dX0_become_13 : decode cX0_become 13 = .ok (.putfield 15, 3) := by decide +kernel
theorem dX0_become_16 : decode cX0_become 16 = .ok (.aload_n 0, 1) := by decide +kernel
theorem dX0_become_17 : decode cX0_become 17 = .ok (.iload_n 3, 1) := by decide +kernel
theorem dX0_become_18 : decode cX0_become 18 = .ok (.putfield 18, 3) := by decide +kernel
theorem dX0_become_21 : decode cX0_become 21 = .ok (.aload_n 0, 1) := by decide +kernel
theorem dX0_become_22 : decode cX0_become 22 = .ok (.iload 4, 2) := by decide +kernel
theorem dX0_become_24 : decode cX0_become 24 = .ok (.putfield 21, 3) := by decide +kernel
theorem dX0_become_27 : decode cX0_become 27 = .ok (.aload_n 0, 1) := by decide +kernel
theorem dX0_become_28 : decode cX0_become 28 = .ok (.dload 5, 2) := by decide +kernel
theorem dX0_become_30 : decode cX0_become 30 = .ok (.putfield 24, 3) := by decide +kernel
theorem dX0_become_33 : decode cX0_become 33 = .ok (.aload_n 0, 1) := by decide +kernel
theorem dX0_become_34 : decode cX0_become 34 = .ok (.iconst 0, 1) := by decide +kernel
theorem dX0_become_35 : decode cX0_become 35 = .ok (.putfield 28, 3) := by decide +kernel
theorem dX0_become_38 : decode cX0_become 38 = .ok (.aload_n 0, 1) := by decide +kernel
theorem dX0_become_39 : decode cX0_become 39 = .ok (.iconst 0, 1) := by decide +kernel
theorem dX0_become_40 : decode cX0_become 40 = .ok (.putfield 31, 3) := by decide +kernel
theorem dX0_become_43 : decode cX0_become 43 = .ok (.aload_n 0, 1) := by decide +kernel
theorem dX0_become_44 : decode cX0_become 44 = .ok (.dconst 0, 1) := by decide +kernel
theorem dX0_become_45 : decode cX0_become 45 = .ok (.putfield 35, 3) := by decide +kernel
theorem dX0_become_48 : decode cX0_become 48 = .ok (.aload_n 0, 1) := by decide +kernel
theorem dX0_become_49 : decode cX0_become 49 = .ok (.dconst 0, 1) := by decide +kernel
theorem dX0_become_50 : decode cX0_become 50 = .ok (.putfield 38, 3) := by decide +kernel
theorem dX0_become_53 : decode cX0_become 53 = .ok (.aload_n 0, 1) := by decide +kernel
theorem dX0_become_54 : decode cX0_become 54 = .ok (.iconst 0, 1) := by decide +kernel
theorem dX0_become_55 : decode cX0_become 55 = .ok (.putfield 41, 3) := by decide +kernel
theorem dX0_become_58 : decode cX0_become 58 = .ok (.aload_n 0, 1) := by decide +kernel
theorem dX0_become_59 : decode cX0_become 59 = .ok (.iconst 0, 1) := by decide +kernel
theorem dX0_become_60 : decode cX0_become 60 = .ok (.putfield 44, 3) := by decide +kernel
theorem dX0_become_63 : decode cX0_become 63 = .ok (.iload 7, 2) := by decide +kernel
theorem dX0_become_65 : decode cX0_become 65 = .ok (.ireturn, 1) := by decide +kernel
theorem dL_guard_0 : decode cL_guard 0 = .ok (.aload_n 3, 1) := by decide +kernel
theorem dL_guard_1 : decode cL_guard 1 = .ok (.iconst 0, 1) := by decide +kernel
theorem dL_guard_2 : decode cL_guard 2 = .ok (.aload_n 0, 1) := by decide +kernel
theorem dL_guard_3 : decode cL_guard 3 = .ok (.iload_n 1, 1) := by decide +kernel
theorem dL_guard_4 : decode cL_guard 4 = .ok (.iload_n 2, 1) := by decide +kernel
theorem dL_guard_5 : decode cL_guard 5 = .ok (.invokevirtual 29, 3) := by decide +kernel
theorem dL_guard_8 : decode cL_guard 8 = .ok (.ifCond .eq 7, 3) := by decide +kernel
theorem dL_guard_11 : decode cL_guard 11 = .ok (.lconst 1, 1) := by decide +kernel
theorem dL_guard_12 : decode cL_guard 12 = .ok (.goto 4, 3) := by decide +kernel
theorem dL_guard_15 : decode cL_guard 15 = .ok (.lconst 0, 1) := by decide +kernel
theorem dL_guard_16 : decode cL_guard 16 = .ok (.lastore, 1) := by decide +kernel
theorem dL_guard_17 : decode cL_guard 17 = .ok (.goto 7, 3) := by decide +kernel
theorem dL_guard_20 : decode cL_guard 20 = .ok (.astore 4, 2) := by decide +kernel
theorem dL_guard_22 : decode cL_guard 22 = .ok (.iconst 1, 1) := by decide +kernel
theorem dL_guard_23 : decode cL_guard 23 = .ok (.ireturn, 1) := by decide +kernel
theorem dL_guard_24 : decode cL_guard 24 = .ok (.iconst 0, 1) := by decide +kernel
theorem dL_guard_25 : decode cL_guard 25 = .ok (.ireturn, 1) := by decide +kernel
theorem dX2_guard_0 : decode cX2_guard 0 = .ok (.iload_n 1, 1) := by decide +kernel
theorem dX2_guard_1 : decode cX2_guard 1 = .ok (.bipush 8, 2) := by decide +kernel
theorem dX2_guard_3 : decode cX2_guard 3 = .ok (.invokestatic 46, 3) := by decide +kernel
theorem dX2_guard_6 : decode cX2_guard 6 = .ok (.invokestatic 49, 3) := by decide +kernel
theorem dX2_guard_9 : decode cX2_guard 9 = .ok (.aload_n 0, 1) := by decide +kernel
theorem dX2_guard_10 : decode cX2_guard 10 = .ok (.getfield 26, 3) := by decide +kernel
theorem dX2_guard_13 : decode cX2_guard 13 = .ok (.iload_n 1, 1) := by decide +kernel
theorem dX2_guard_14 : decode cX2_guard 14 = .ok (.aaload, 1) := by decide +kernel
theorem dX2_guard_15 : decode cX2_guard 15 = .ok (.getfield 75, 3) := by decide +kernel
theorem dX2_guard_18 : decode cX2_guard 18 = .ok (.istore_n 3, 1) := by decide +kernel
theorem dX2_guard_19 : decode cX2_guard 19 = .ok (.aload_n 0, 1) := by decide +kernel
theorem dX2_guard_20 : decode cX2_guard 20 = .ok (.getfield 26, 3) := by decide +kernel
theorem dX2_guard_23 : decode cX2_guard 23 = .ok (.iload_n 1, 1) := by decide +kernel
theorem dX2_guard_24 : decode cX2_guard 24 = .ok (.aaload, 1) := by decide +kernel
theorem dX2_guard_25 : decode cX2_guard 25 = .ok (.iload_n 2, 1) := by decide +kernel
theorem dX2_guard_26 : decode cX2_guard 26 = .ok (.putfield 75, 3) := by decide +kernel
theorem dX2_guard_29 : decode cX2_guard 29 = .ok (.iload_n 3, 1) := by decide +kernel
theorem dX2_guard_30 : decode cX2_guard 30 = .ok (.ireturn, 1) := by decide +kernel
theorem dL_input_0 : decode cL_input 0 = .ok (.aload_n 3, 1) := by decide +kernel
theorem dL_input_1 : decode cL_input 1 = .ok (.iconst 0, 1) := by decide +kernel
theorem dL_input_2 : decode cL_input 2 = .ok (.aload_n 0, 1) := by decide +kernel
theorem dL_input_3 : decode cL_input 3 = .ok (.iload_n 1, 1) := by decide +kernel
theorem dL_input_4 : decode cL_input 4 = .ok (.iload_n 2, 1) := by decide +kernel
theorem dL_input_5 : decode cL_input 5 = .ok (.invokevirtual 33, 3) := by decide +kernel
theorem dL_input_8 : decode cL_input 8 = .ok (.ifCond .eq 7, 3) := by decide +kernel
theorem dL_input_11 : decode cL_input 11 = .ok (.lconst 1, 1) := by decide +kernel
theorem dL_input_12 : decode cL_input 12 = .ok (.goto 4, 3) := by decide +kernel
theorem dL_input_15 : decode cL_input 15 = .ok (.lconst 0, 1) := by decide +kernel
theorem dL_input_16 : decode cL_input 16 = .ok (.lastore, 1) := by decide +kernel
theorem dL_input_17 : decode cL_input 17 = .ok (.goto 7, 3) := by decide +kernel
theorem dL_input_20 : decode cL_input 20 = .ok (.astore 4, 2) := by decide +kernel
theorem dL_input_22 : decode cL_input 22 = .ok (.iconst 1, 1) := by decide +kernel
theorem dL_input_23 : decode cL_input 23 = .ok (.ireturn, 1) := by decide +kernel
theorem dL_input_24 : decode cL_input 24 = .ok (.iconst 0, 1) := by decide +kernel
theorem dL_input_25 : decode cL_input 25 = .ok (.ireturn, 1) := by decide +kernel
theorem dX2_input_0 : decode cX2_input 0 = .ok (.iload_n 1, 1) := by decide +kernel
theorem dX2_input_1 : decode cX2_input 1 = .ok (.bipush 8, 2) := by decide +kernel
theorem dX2_input_3 : decode cX2_input 3 = .ok (.invokestatic 46, 3) := by decide +kernel
theorem dX2_input_6 : decode cX2_input 6 = .ok (.invokestatic 49, 3) := by decide +kernel
theorem dX2_input_9 : decode cX2_input 9 = .ok (.aload_n 0, 1) := by decide +kernel
theorem dX2_input_10 : decode cX2_input 10 = .ok (.getfield 9, 3) := by decide +kernel
theorem dX2_input_13 : decode cX2_input 13 = .ok (.iload_n 1, 1) := by decide +kernel
theorem dX2_input_14 : decode cX2_input 14 = .ok (.baload, 1) := by decide +kernel
theorem dX2_input_15 : decode cX2_input 15 = .ok (.istore_n 3, 1) := by decide +kernel
theorem dX2_input_16 : decode cX2_input 16 = .ok (.aload_n 0, 1) := by decide +kernel
theorem dX2_input_17 : decode cX2_input 17 = .ok (.getfield 9, 3) := by decide +kernel
theorem dX2_input_20 : decode cX2_input 20 = .ok (.iload_n 1, 1) := by decide +kernel
theorem dX2_input_21 : decode cX2_input 21 = .ok (.iload_n 2, 1) := by decide +kernel
theorem dX2_input_22 : decode cX2_input 22 = .ok (.bastore, 1) := by decide +kernel
theorem dX2_input_23 : decode cX2_input 23 = .ok (.iload_n 3, 1) := by decide +kernel
theorem dX2_input_24 : decode cX2_input 24 = .ok (.ireturn, 1) := by decide +kernel
theorem dL_set_0 : decode cL_set 0 = .ok (.aload 4, 2) := by decide +kernel
theorem dL_set_2 : decode cL_set 2 = .ok (.iconst 0, 1) := by decide +kernel
theorem dL_set_3 : decode cL_set 3 = .ok (.aload_n 0, 1) := by decide +kernel
theorem dL_set_4 : decode cL_set 4 = .ok (.iload_n 1, 1) := by decide +kernel
theorem dL_set_5 : decode cL_set 5 = .ok (.dload_n 2, 1) := by decide +kernel
theorem dL_set_6 : decode cL_set 6 = .ok (.invokevirtual 36, 3) := by decide +kernel
theorem dL_set_9 : decode cL_set 9 = .ok (.dastore, 1) := by decide +kernel
theorem dL_set_10 : decode cL_set 10 = .ok (.goto 11, 3) := by decide +kernel
theorem dL_set_13 : decode cL_set 13 = .ok (.astore 5, 2) := by decide +kernel
theorem dL_set_15 : decode cL_set 15 = .ok (.iconst 1, 1) := by decide +kernel
theorem dL_set_16 : decode cL_set 16 = .ok (.ireturn, 1) := by decide +kernel
theorem dL_set_17 : decode cL_set 17 = .ok (.astore 5, 2) := by decide +kernel
theorem dL_set_19 : decode cL_set 19 = .ok (.iconst 2, 1) := by decide +kernel
theorem dL_set_20 : decode cL_set 20 = .ok (.ireturn, 1) := by decide +kernel
theorem dL_set_21 : decode cL_set 21 = .ok (.iconst 0, 1) := by decide +kernel
theorem dL_set_22 : decode cL_set 22 = .ok (.ireturn, 1) := by decide +kernel
theorem dX2_set_0 : decode cX2_set 0 = .ok (.dload_n 2, 1) := by decide +kernel
theorem dX2_set_1 : decode cX2_set 1 = .ok (.invokestatic 79, 3) := by decide +kernel
theorem dX2_set_4 : decode cX2_set 4 = .ok (.invokestatic 39, 3) := by decide +kernel
theorem dX2_set_7 : decode cX2_set 7 = .ok (.iload_n 1, 1) := by decide +kernel
theorem dX2_set_8 : decode cX2_set 8 = .ok (.bipush 8, 2) := by decide +kernel
theorem dX2_set_10 : decode cX2_set 10 = .ok (.invokestatic 46, 3) := by decide +kernel
theorem dX2_set_13 : decode cX2_set 13 = .ok (.invokestatic 49, 3) := by decide +kernel
theorem dX2_set_16 : decode cX2_set 16 = .ok (.aload_n 0, 1) := by decide +kernel
theorem dX2_set_17 : decode cX2_set 17 = .ok (.getfield 13, 3) := by decide +kernel
theorem dX2_set_20 : decode cX2_set 20 = .ok (.iload_n 1, 1) := by decide +kernel
theorem dX2_set_21 : decode cX2_set 21 = .ok (.daload, 1) := by decide +kernel
theorem dX2_set_22 : decode cX2_set 22 = .ok (.dstore 4, 2) := by decide +kernel
theorem dX2_set_24 : decode cX2_set 24 = .ok (.aload_n 0, 1) := by decide +kernel
theorem dX2_set_25 : decode cX2_set 25 = .ok (.getfield 13, 3) := by decide +kernel
theorem dX2_set_28 : decode cX2_set 28 = .ok (.iload_n 1, 1) := by decide +kernel
theorem dX2_set_29 : decode cX2_set 29 = .ok (.dload_n 2, 1) := by decide +kernel
theorem dX2_set_30 : decode cX2_set 30 = .ok (.dastore, 1) := by decide +kernel
theorem dX2_set_31 : decode cX2_set 31 = .ok (.dload 4, 2) := by decide +kernel
theorem dX2_set_33 : decode cX2_set 33 = .ok (.dreturn, 1) := by decide +kernel
theorem dX2_isValue_0 : decode cX2_isValue 0 = .ok (.dload_n 0, 1) := by decide +kernel
theorem dX2_isValue_1 : decode cX2_isValue 1 = .ok (.ldc2_w 153, 3) := by decide +kernel
theorem dX2_isValue_4 : decode cX2_isValue 4 = .ok (.dcmp .l, 1) := by decide +kernel
theorem dX2_isValue_5 : decode cX2_isValue 5 = .ok (.ifCond .lt 15, 3) := by decide +kernel
theorem dX2_isValue_8 : decode cX2_isValue 8 = .ok (.dload_n 0, 1) := by decide +kernel
theorem dX2_isValue_9 : decode cX2_isValue 9 = .ok (.ldc2_w 155, 3) := by decide +kernel
theorem dX2_isValue_12 : decode cX2_isValue 12 = .ok (.dcmp .g, 1) := by decide +kernel
theorem dX2_isValue_13 : decode cX2_isValue 13 = .ok (.ifCond .gt 7, 3) := by decide +kernel
theorem dX2_isValue_16 : decode cX2_isValue 16 = .ok (.iconst 1, 1) := by decide +kernel
theorem dX2_isValue_17 : decode cX2_isValue 17 = .ok (.goto 4, 3) := by decide +kernel
theorem dX2_isValue_20 : decode cX2_isValue 20 = .ok (.iconst 0, 1) := by decide +kernel
theorem dX2_isValue_21 : decode cX2_isValue 21 = .ok (.ireturn, 1) := by decide +kernel
theorem dL_scan_0 : decode cL_scan 0 = .ok (.aload_n 2, 1) := by decide +kernel
theorem dL_scan_1 : decode cL_scan 1 = .ok (.iconst 0, 1) := by decide +kernel
theorem dL_scan_2 : decode cL_scan 2 = .ok (.aload_n 0, 1) := by decide +kernel
theorem dL_scan_3 : decode cL_scan 3 = .ok (.iload_n 1, 1) := by decide +kernel
theorem dL_scan_4 : decode cL_scan 4 = .ok (.invokevirtual 40, 3) := by decide +kernel
theorem dL_scan_7 : decode cL_scan 7 = .ok (.i2l, 1) := by decide +kernel
theorem dL_scan_8 : decode cL_scan 8 = .ok (.lastore, 1) := by decide +kernel
theorem dL_scan_9 : decode cL_scan 9 = .ok (.goto 12, 3) := by decide +kernel
theorem dL_scan_12 : decode cL_scan 12 = .ok (.astore_n 3, 1) := by decide +kernel
theorem dL_scan_13 : decode cL_scan 13 = .ok (.iconst 1, 1) := by decide +kernel
theorem dL_scan_14 : decode cL_scan 14 = .ok (.ireturn, 1) := by decide +kernel
theorem dL_scan_15 : decode cL_scan 15 = .ok (.astore_n 3, 1) := by decide +kernel
theorem dL_scan_16 : decode cL_scan 16 = .ok (.iconst 2, 1) := by decide +kernel
theorem dL_scan_17 : decode cL_scan 17 = .ok (.ireturn, 1) := by decide +kernel
theorem dL_scan_18 : decode cL_scan 18 = .ok (.astore_n 3, 1) := by decide +kernel
theorem dL_scan_19 : decode cL_scan 19 = .ok (.iconst 3, 1) := by decide +kernel
theorem dL_scan_20 : decode cL_scan 20 = .ok (.ireturn, 1) := by decide +kernel
theorem dL_scan_21 : decode cL_scan 21 = .ok (.iconst 0, 1) := by decide +kernel
theorem dL_scan_22 : decode cL_scan 22 = .ok (.ireturn, 1) := by decide +kernel
theorem dX2_scan_0 : decode cX2_scan 0 = .ok (.iload_n 1, 1) := by decide +kernel
theorem dX2_scan_1 : decode cX2_scan 1 = .ok (.iconst 1, 1) := by decide +kernel
theorem dX2_scan_2 : decode cX2_scan 2 = .ok (.bipush 50, 2) := by decide +kernel
theorem dX2_scan_4 : decode cX2_scan 4 = .ok (.invokestatic 83, 3) := by decide +kernel
theorem dX2_scan_7 : decode cX2_scan 7 = .ok (.invokestatic 39, 3) := by decide +kernel
theorem dX2_scan_10 : decode cX2_scan 10 = .ok (.aload_n 0, 1) := by decide +kernel
theorem dX2_scan_11 : decode cX2_scan 11 = .ok (.invokevirtual 87, 3) := by decide +kernel
theorem dX2_scan_14 : decode cX2_scan 14 = .ok (.ifCond .eq 13, 3) := by decide +kernel
theorem dX2_scan_17 : decode cX2_scan 17 = .ok (.new 91, 3) := by decide +kernel
theorem dX2_scan_20 : decode cX2_scan 20 = .ok (.dup, 1) := by decide +kernel
theorem dX2_scan_21 : decode cX2_scan 21 = .ok (.ldc 93, 2) := by decide +kernel
theorem dX2_scan_23 : decode cX2_scan 23 = .ok (.invokespecial 95, 3) := by decide +kernel
theorem dX2_scan_26 : decode cX2_scan 26 = .ok (.athrow, 1) := by decide +kernel
theorem dX2_scan_27 : decode cX2_scan 27 = .ok (.iconst 0, 1) := by decide +kernel
theorem dX2_scan_28 : decode cX2_scan 28 = .ok (.istore_n 2, 1) := by decide +kernel
theorem dX2_scan_29 : decode cX2_scan 29 = .ok (.iload_n 2, 1) := by decide +kernel
theorem dX2_scan_30 : decode cX2_scan 30 = .ok (.iload_n 1, 1) := by decide +kernel
theorem dX2_scan_31 : decode cX2_scan 31 = .ok (.if_icmp .ge 30, 3) := by decide +kernel
theorem dX2_scan_34 : decode cX2_scan 34 = .ok (.aload_n 0, 1) := by decide +kernel
theorem dX2_scan_35 : decode cX2_scan 35 = .ok (.invokevirtual 98, 3) := by decide +kernel
theorem dX2_scan_38 : decode cX2_scan 38 = .ok (.aload_n 0, 1) := by decide +kernel
theorem dX2_scan_39 : decode cX2_scan 39 = .ok (.invokevirtual 87, 3) := by decide +kernel
theorem dX2_scan_42 : decode cX2_scan 42 = .ok (.ifCond .eq 13, 3) := by decide +kernel
theorem dX2_scan_45 : decode cX2_scan 45 = .ok (.new 101, 3) := by decide +kernel
theorem dX2_scan_48 : decode cX2_scan 48 = .ok (.dup, 1) := by decide +kernel
theorem dX2_scan_49 : decode cX2_scan 49 = .ok (.ldc 103, 2) := by decide +kernel
theorem dX2_scan_51 : decode cX2_scan 51 = .ok (.invokespecial 105, 3) := by decide +kernel
theorem dX2_scan_54 : decode cX2_scan 54 = .ok (.athrow, 1) := by decide +kernel
theorem dX2_scan_55 : decode cX2_scan 55 = .ok (.iinc 2 1, 3) := by decide +kernel
theorem dX2_scan_58 : decode cX2_scan 58 = .ok (.goto (-29), 3) := by decide +kernel
theorem dX2_scan_61 : decode cX2_scan 61 = .ok (.aload_n 0, 1) := by decide +kernel
theorem dX2_scan_62 : decode cX2_scan 62 = .ok (.getfield 106, 3) := by decide +kernel
theorem dX2_scan_65 : decode cX2_scan 65 = .ok (.ireturn, 1) := by decide +kernel
theorem dX2_isHalted_0 : decode cX2_isHalted 0 = .ok (.aload_n 0, 1) := by decide +kernel
theorem dX2_isHalted_1 : decode cX2_isHalted 1 = .ok (.getfield 31, 3) := by decide +kernel
theorem dX2_isHalted_4 : decode cX2_isHalted 4 = .ok (.iconst (-1), 1) := by decide +kernel
theorem dX2_isHalted_5 : decode cX2_isHalted 5 = .ok (.if_icmp .eq 7, 3) := by decide +kernel
theorem dX2_isHalted_8 : decode cX2_isHalted 8 = .ok (.iconst 1, 1) := by decide +kernel
theorem dX2_isHalted_9 : decode cX2_isHalted 9 = .ok (.goto 4, 3) := by decide +kernel
theorem dX2_isHalted_12 : decode cX2_isHalted 12 = .ok (.iconst 0, 1) := by decide +kernel
theorem dX2_isHalted_13 : decode cX2_isHalted 13 = .ok (.ireturn, 1) := by decide +kernel
theorem dX2_scanOnce_0 : decode cX2_scanOnce 0 = .ok (.aload_n 0, 1) := by decide +kernel
theorem dX2_scanOnce_1 : decode cX2_scanOnce 1 = .ok (.dup, 1) := by decide +kernel
theorem dX2_scanOnce_2 : decode cX2_scanOnce 2 = .ok (.getfield 106, 3) := by decide +kernel
theorem dX2_scanOnce_5 : decode cX2_scanOnce 5 = .ok (.iconst 1, 1) := by decide +kernel
theorem dX2_scanOnce_6 : decode cX2_scanOnce 6 = .ok (.iadd, 1) := by decide +kernel
theorem dX2_scanOnce_7 : decode cX2_scanOnce 7 = .ok (.putfield 106, 3) := by decide +kernel
theorem dX2_scanOnce_10 : decode cX2_scanOnce 10 = .ok (.iconst 0, 1) := by decide +kernel
theorem dX2_scanOnce_11 : decode cX2_scanOnce 11 = .ok (.istore_n 1, 1) := by decide +kernel
theorem dX2_scanOnce_12 : decode cX2_scanOnce 12 = .ok (.iload_n 1, 1) := by decide +kernel
theorem dX2_scanOnce_13 : decode cX2_scanOnce 13 = .ok (.iconst 5, 1) := by decide +kernel
theorem dX2_scanOnce_14 : decode cX2_scanOnce 14 = .ok (.if_icmp .ge 86, 3) := by decide +kernel
theorem dX2_scanOnce_17 : decode cX2_scanOnce 17 = .ok (.aload_n 0, 1) := by decide +kernel
theorem dX2_scanOnce_18 : decode cX2_scanOnce 18 = .ok (.invokevirtual 87, 3) := by decide +kernel
theorem dX2_scanOnce_21 : decode cX2_scanOnce 21 = .ok (.ifCond .ne 79, 3) := by decide +kernel
theorem dX2_scanOnce_24 : decode cX2_scanOnce 24 = .ok (.aload_n 0, 1) := by decide +kernel
theorem dX2_scanOnce_25 : decode cX2_scanOnce 25 = .ok (.getfield 19, 3) := by decide +kernel
theorem dX2_scanOnce_28 : decode cX2_scanOnce 28 = .ok (.iload_n 1, 1) := by decide +kernel
theorem dX2_scanOnce_29 : decode cX2_scanOnce 29 = .ok (.aaload, 1) := by decide +kernel
theorem dX2_scanOnce_30 : decode cX2_scanOnce 30 = .ok (.aload_n 0, 1) := by decide +kernel
theorem dX2_scanOnce_31 : decode cX2_scanOnce 31 = .ok (.getfield 9, 3) := by decide +kernel
theorem dX2_scanOnce_34 : decode cX2_scanOnce 34 = .ok (.invokevirtual 157, 3) := by decide +kernel
theorem dX2_scanOnce_37 : decode cX2_scanOnce 37 = .ok (.iconst 0, 1) := by decide +kernel
theorem dX2_scanOnce_38 : decode cX2_scanOnce 38 = .ok (.istore_n 2, 1) := by decide +kernel
theorem dX2_scanOnce_39 : decode cX2_scanOnce 39 = .ok (.iload_n 2, 1) := by decide +kernel
theorem dX2_scanOnce_40 : decode cX2_scanOnce 40 = .ok (.iconst 3, 1) := by decide +kernel
theorem dX2_scanOnce_41 : decode cX2_scanOnce 41 = .ok (.if_icmp .ge 53, 3) := by decide +kernel
theorem dX2_scanOnce_44 : decode cX2_scanOnce 44 = .ok (.aload_n 0, 1) := by decide +kernel
theorem dX2_scanOnce_45 : decode cX2_scanOnce 45 = .ok (.invokevirtual 87, 3) := by decide +kernel
theorem dX2_scanOnce_48 : decode cX2_scanOnce 48 = .ok (.ifCond .ne 46, 3) := by decide +kernel
theorem dX2_scanOnce_51 : decode cX2_scanOnce 51 = .ok (.aload_n 0, 1) := by decide +kernel
theorem dX2_scanOnce_52 : decode cX2_scanOnce 52 = .ok (.aload_n 0, 1) := by decide +kernel
theorem dX2_scanOnce_53 : decode cX2_scanOnce 53 = .ok (.getfield 19, 3) := by decide +kernel
theorem dX2_scanOnce_56 : decode cX2_scanOnce 56 = .ok (.iload_n 1, 1) := by decide +kernel
theorem dX2_scanOnce_57 : decode cX2_scanOnce 57 = .ok (.aaload, 1) := by decide +kernel
theorem dX2_scanOnce_58 : decode cX2_scanOnce 58 = .ok (.getfield 161, 3) := by decide +kernel
theorem dX2_scanOnce_61 : decode cX2_scanOnce 61 = .ok (.iload_n 2, 1) := by decide +kernel
theorem dX2_scanOnce_62 : decode cX2_scanOnce 62 = .ok (.iaload, 1) := by decide +kernel
theorem dX2_scanOnce_63 : decode cX2_scanOnce 63 = .ok (.aload_n 0, 1) := by decide +kernel
theorem dX2_scanOnce_64 : decode cX2_scanOnce 64 = .ok (.getfield 19, 3) := by decide +kernel
theorem dX2_scanOnce_67 : decode cX2_scanOnce 67 = .ok (.iload_n 1, 1) := by decide +kernel
theorem dX2_scanOnce_68 : decode cX2_scanOnce 68 = .ok (.aaload, 1) := by decide +kernel
theorem dX2_scanOnce_69 : decode cX2_scanOnce 69 = .ok (.getfield 165, 3) := by decide +kernel
theorem dX2_scanOnce_72 : decode cX2_scanOnce 72 = .ok (.iload_n 2, 1) := by decide +kernel
theorem dX2_scanOnce_73 : decode cX2_scanOnce 73 = .ok (.iaload, 1) := by decide +kernel
theorem dX2_scanOnce_74 : decode cX2_scanOnce 74 = .ok (.aload_n 0, 1) := by decide +kernel
theorem dX2_scanOnce_75 : decode cX2_scanOnce 75 = .ok (.getfield 19, 3) := by decide +kernel
theorem dX2_scanOnce_78 : decode cX2_scanOnce 78 = .ok (.iload_n 1, 1) := by decide +kernel
theorem dX2_scanOnce_79 : decode cX2_scanOnce 79 = .ok (.aaload, 1) := by decide +kernel
theorem dX2_scanOnce_80 : decode cX2_scanOnce 80 = .ok (.iload_n 2, 1) := by decide +kernel
theorem dX2_scanOnce_81 : decode cX2_scanOnce 81 = .ok (.iconst 3, 1) := by decide +kernel
theorem dX2_scanOnce_82 : decode cX2_scanOnce 82 = .ok (.invokevirtual 109, 3) := by decide +kernel
theorem dX2_scanOnce_85 : decode cX2_scanOnce 85 = .ok (.invokevirtual 168, 3) := by decide +kernel
theorem dX2_scanOnce_88 : decode cX2_scanOnce 88 = .ok (.iinc 2 1, 3) := by decide +kernel
theorem dX2_scanOnce_91 : decode cX2_scanOnce 91 = .ok (.goto (-52), 3) := by decide +kernel
theorem dX2_scanOnce_94 : decode cX2_scanOnce 94 = .ok (.iinc 1 1, 3) := by decide +kernel
theorem dX2_scanOnce_97 : decode cX2_scanOnce 97 = .ok (.goto (-85), 3) := by decide +kernel
theorem dX2_scanOnce_100 : decode cX2_scanOnce 100 = .ok (.return_, 1) := by decide +kernel
theorem dX1_look_0 : decode cX1_look 0 = .ok (.iconst 0, 1) := by decide +kernel
theorem dX1_look_1 : decode cX1_look 1 = .ok (.istore_n 2, 1) := by decide +kernel
theorem dX1_look_2 : decode cX1_look 2 = .ok (.iload_n 2, 1) := by decide +kernel
theorem dX1_look_3 : decode cX1_look 3 = .ok (.iconst 3, 1) := by decide +kernel
theorem dX1_look_4 : decode cX1_look 4 = .ok (.if_icmp .ge 18, 3) := by decide +kernel
theorem dX1_look_7 : decode cX1_look 7 = .ok (.aload_n 0, 1) := by decide +kernel
theorem dX1_look_8 : decode cX1_look 8 = .ok (.getfield 25, 3) := by decide +kernel
theorem dX1_look_11 : decode cX1_look 11 = .ok (.iload_n 2, 1) := by decide +kernel
theorem dX1_look_12 : decode cX1_look 12 = .ok (.iconst 5, 1) := by decide +kernel
theorem dX1_look_13 : decode cX1_look 13 = .ok (.imul, 1) := by decide +kernel
theorem dX1_look_14 : decode cX1_look 14 = .ok (.iconst 1, 1) := by decide +kernel
theorem dX1_look_15 : decode cX1_look 15 = .ok (.bastore, 1) := by decide +kernel
theorem dX1_look_16 : decode cX1_look 16 = .ok (.iinc 2 1, 3) := by decide +kernel
theorem dX1_look_19 : decode cX1_look 19 = .ok (.goto (-17), 3) := by decide +kernel
theorem dX1_look_22 : decode cX1_look 22 = .ok (.iconst 0, 1) := by decide +kernel
theorem dX1_look_23 : decode cX1_look 23 = .ok (.istore_n 2, 1) := by decide +kernel
theorem dX1_look_24 : decode cX1_look 24 = .ok (.iload_n 2, 1) := by decide +kernel
theorem dX1_look_25 : decode cX1_look 25 = .ok (.iconst 4, 1) := by decide +kernel
theorem dX1_look_26 : decode cX1_look 26 = .ok (.if_icmp .ge 85, 3) := by decide +kernel
theorem dX1_look_29 : decode cX1_look 29 = .ok (.iconst 0, 1) := by decide +kernel
theorem dX1_look_30 : decode cX1_look 30 = .ok (.istore_n 3, 1) := by decide +kernel
theorem dX1_look_31 : decode cX1_look 31 = .ok (.iload_n 3, 1) := by decide +kernel
theorem dX1_look_32 : decode cX1_look 32 = .ok (.iconst 3, 1) := by decide +kernel
theorem dX1_look_33 : decode cX1_look 33 = .ok (.if_icmp .ge 54, 3) := by decide +kernel
theorem dX1_look_36 : decode cX1_look 36 = .ok (.aload_n 0, 1) := by decide +kernel
theorem dX1_look_37 : decode cX1_look 37 = .ok (.iload_n 3, 1) := by decide +kernel
theorem dX1_look_38 : decode cX1_look 38 = .ok (.iconst 4, 1) := by decide +kernel
theorem dX1_look_39 : decode cX1_look 39 = .ok (.imul, 1) := by decide +kernel
theorem dX1_look_40 : decode cX1_look 40 = .ok (.iload_n 2, 1) := by decide +kernel
theorem dX1_look_41 : decode cX1_look 41 = .ok (.iadd, 1) := by decide +kernel
theorem dX1_look_42 : decode cX1_look 42 = .ok (.aload_n 1, 1) := by decide +kernel
theorem dX1_look_43 : decode cX1_look 43 = .ok (.invokevirtual 38, 3) := by decide +kernel
theorem dX1_look_46 : decode cX1_look 46 = .ok (.istore 4, 2) := by decide +kernel
theorem dX1_look_48 : decode cX1_look 48 = .ok (.aload_n 0, 1) := by decide +kernel
theorem dX1_look_49 : decode cX1_look 49 = .ok (.getfield 25, 3) := by decide +kernel
theorem dX1_look_52 : decode cX1_look 52 = .ok (.iload_n 3, 1) := by decide +kernel
theorem dX1_look_53 : decode cX1_look 53 = .ok (.iconst 5, 1) := by decide +kernel
theorem dX1_look_54 : decode cX1_look 54 = .ok (.imul, 1) := by decide +kernel
theorem dX1_look_55 : decode cX1_look 55 = .ok (.iload_n 2, 1) := by decide +kernel
theorem dX1_look_56 : decode cX1_look 56 = .ok (.iadd, 1) := by decide +kernel
theorem dX1_look_57 : decode cX1_look 57 = .ok (.iconst 1, 1) := by decide +kernel
theorem dX1_look_58 : decode cX1_look 58 = .ok (.iadd, 1) := by decide +kernel
theorem dX1_look_59 : decode cX1_look 59 = .ok (.iload 4, 2) := by decide +kernel
theorem dX1_look_61 : decode cX1_look 61 = .ok (.ifCond .eq 18, 3) := by decide +kernel
theorem dX1_look_64 : decode cX1_look 64 = .ok (.aload_n 0, 1) := by decide +kernel
theorem dX1_look_65 : decode cX1_look 65 = .ok (.iload_n 3, 1) := by decide +kernel
theorem dX1_look_66 : decode cX1_look 66 = .ok (.iload_n 2, 1) := by decide +kernel
theorem dX1_look_67 : decode cX1_look 67 = .ok (.iconst 1, 1) := by decide +kernel
theorem dX1_look_68 : decode cX1_look 68 = .ok (.isub, 1) := by decide +kernel
theorem dX1_look_69 : decode cX1_look 69 = .ok (.invokevirtual 42, 3) := by decide +kernel
theorem dX1_look_72 : decode cX1_look 72 = .ok (.ifCond .eq 7, 3) := by decide +kernel
theorem dX1_look_75 : decode cX1_look 75 = .ok (.iconst 1, 1) := by decide +kernel
theorem dX1_look_76 : decode cX1_look 76 = .ok (.goto 4, 3) := by decide +kernel
theorem dX1_look_79 : decode cX1_look 79 = .ok (.iconst 0, 1) := by decide +kernel
theorem dX1_look_80 : decode cX1_look 80 = .ok (.bastore, 1) := by decide +kernel
theorem dX1_look_81 : decode cX1_look 81 = .ok (.iinc 3 1, 3) := by decide +kernel
theorem dX1_look_84 : decode cX1_look 84 = .ok (.goto (-53), 3) := by decide +kernel
theorem dX1_look_87 : decode cX1_look 87 = .ok (.aload_n 0, 1) := by decide +kernel
theorem dX1_look_88 : decode cX1_look 88 = .ok (.iconst 0, 1) := by decide +kernel
theorem dX1_look_89 : decode cX1_look 89 = .ok (.iload_n 2, 1) := by decide +kernel
theorem dX1_look_90 : decode cX1_look 90 = .ok (.invokevirtual 46, 3) := by decide +kernel
theorem dX1_look_93 : decode cX1_look 93 = .ok (.aload_n 0, 1) := by decide +kernel
theorem dX1_look_94 : decode cX1_look 94 = .ok (.iconst 1, 1) := by decide +kernel
theorem dX1_look_95 : decode cX1_look 95 = .ok (.iload_n 2, 1) := by decide +kernel
theorem dX1_look_96 : decode cX1_look 96 = .ok (.invokevirtual 46, 3) := by decide +kernel
theorem dX1_look_99 : decode cX1_look 99 = .ok (.aload_n 0, 1) := by decide +kernel
theorem dX1_look_100 : decode cX1_look 100 = .ok (.iconst 0, 1) := by decide +kernel
theorem dX1_look_101 : decode cX1_look 101 = .ok (.iload_n 2, 1) := by decide +kernel
theorem dX1_look_102 : decode cX1_look 102 = .ok (.invokevirtual 46, 3) := by decide +kernel
theorem dX1_look_105 : decode cX1_look 105 = .ok (.iinc 2 1, 3) := by decide +kernel
theorem dX1_look_108 : decode cX1_look 108 = .ok (.goto (-84), 3) := by decide +kernel
theorem dX1_look_111 : decode cX1_look 111 = .ok (.return_, 1) := by decide +kernel
theorem dX1_lookAtCell_0 : decode cX1_lookAtCell 0 = .ok (.aload_n 2, 1) := by decide +kernel
theorem dX1_lookAtCell_1 : decode cX1_lookAtCell 1 = .ok (.aload_n 0, 1) := by decide +kernel
theorem dX1_lookAtCell_2 : decode cX1_lookAtCell 2 = .ok (.getfield 15, 3) := by decide +kernel
theorem dX1_lookAtCell_5 : decode cX1_lookAtCell 5 = .ok (.iload_n 1, 1) := by decide +kernel
theorem dX1_lookAtCell_6 : decode cX1_lookAtCell 6 = .ok (.iaload, 1) := by decide +kernel
theorem dX1_lookAtCell_7 : decode cX1_lookAtCell 7 = .ok (.baload, 1) := by decide +kernel
theorem dX1_lookAtCell_8 : decode cX1_lookAtCell 8 = .ok (.istore_n 3, 1) := by decide +kernel
theorem dX1_lookAtCell_9 : decode cX1_lookAtCell 9 = .ok (.aload_n 0, 1) := by decide +kernel
theorem dX1_lookAtCell_10 : decode cX1_lookAtCell 10 = .ok (.getfield 18, 3) := by decide +kernel
theorem dX1_lookAtCell_13 : decode cX1_lookAtCell 13 = .ok (.iload_n 1, 1) := by decide +kernel
theorem dX1_lookAtCell_14 : decode cX1_lookAtCell 14 = .ok (.baload, 1) := by decide +kernel
theorem dX1_lookAtCell_15 : decode cX1_lookAtCell 15 = .ok (.istore 4, 2) := by decide +kernel
theorem dX1_lookAtCell_17 : decode cX1_lookAtCell 17 = .ok (.aload_n 0, 1) := by decide +kernel
theorem dX1_lookAtCell_18 : decode cX1_lookAtCell 18 = .ok (.getfield 18, 3) := by decide +kernel
theorem dX1_lookAtCell_21 : decode cX1_lookAtCell 21 = .ok (.iload_n 1, 1) := by decide +kernel
theorem dX1_lookAtCell_22 : decode cX1_lookAtCell 22 = .ok (.iload_n 3, 1) := by decide +kernel
theorem dX1_lookAtCell_23 : decode cX1_lookAtCell 23 = .ok (.bastore, 1) := by decide +kernel
theorem dX1_lookAtCell_24 : decode cX1_lookAtCell 24 = .ok (.aload_n 0, 1) := by decide +kernel
theorem dX1_lookAtCell_25 : decode cX1_lookAtCell 25 = .ok (.getfield 9, 3) := by decide +kernel
theorem dX1_lookAtCell_28 : decode cX1_lookAtCell 28 = .ok (.iload_n 1, 1) := by decide +kernel
theorem dX1_lookAtCell_29 : decode cX1_lookAtCell 29 = .ok (.iaload, 1) := by decide +kernel
theorem dX1_lookAtCell_30 : decode cX1_lookAtCell 30 = .ok (.tableswitch 78 1 5 #[34, 36, 38, 48, 63], 34) := by decide +kernel
theorem dX1_lookAtCell_64 : decode cX1_lookAtCell 64 = .ok (.iconst 1, 1) := by decide +kernel
theorem dX1_lookAtCell_65 : decode cX1_lookAtCell 65 = .ok (.ireturn, 1) := by decide +kernel
theorem dX1_lookAtCell_66 : decode cX1_lookAtCell 66 = .ok (.iload_n 3, 1) := by decide +kernel
theorem dX1_lookAtCell_67 : decode cX1_lookAtCell 67 = .ok (.ireturn, 1) := by decide +kernel
theorem dX1_lookAtCell_68 : decode cX1_lookAtCell 68 = .ok (.iload_n 3, 1) := by decide +kernel
theorem dX1_lookAtCell_69 : decode cX1_lookAtCell 69 = .ok (.ifCond .ne 7, 3) := by decide +kernel
theorem dX1_lookAtCell_72 : decode cX1_lookAtCell 72 = .ok (.iconst 1, 1) := by decide +kernel
theorem dX1_lookAtCell_73 : decode cX1_lookAtCell 73 = .ok (.goto 4, 3) := by decide +kernel
theorem dX1_lookAtCell_76 : decode cX1_lookAtCell 76 = .ok (.iconst 0, 1) := by decide +kernel
theorem dX1_lookAtCell_77 : decode cX1_lookAtCell 77 = .ok (.ireturn, 1) := by decide +kernel
theorem dX1_lookAtCell_78 : decode cX1_lookAtCell 78 = .ok (.iload_n 3, 1) := by decide +kernel
theorem dX1_lookAtCell_79 : decode cX1_lookAtCell 79 = .ok (.ifCond .eq 12, 3) := by decide +kernel
theorem dX1_lookAtCell_82 : decode cX1_lookAtCell 82 = .ok (.iload 4, 2) := by decide +kernel
theorem dX1_lookAtCell_84 : decode cX1_lookAtCell 84 = .ok (.ifCond .ne 7, 3) := by decide +kernel
theorem dX1_lookAtCell_87 : decode cX1_lookAtCell 87 = .ok (.iconst 1, 1) := by decide +kernel
theorem dX1_lookAtCell_88 : decode cX1_lookAtCell 88 = .ok (.goto 4, 3) := by decide +kernel
theorem dX1_lookAtCell_91 : decode cX1_lookAtCell 91 = .ok (.iconst 0, 1) := by decide +kernel
theorem dX1_lookAtCell_92 : decode cX1_lookAtCell 92 = .ok (.ireturn, 1) := by decide +kernel
theorem dX1_lookAtCell_93 : decode cX1_lookAtCell 93 = .ok (.iload_n 3, 1) := by decide +kernel
theorem dX1_lookAtCell_94 : decode cX1_lookAtCell 94 = .ok (.ifCond .ne 12, 3) := by decide +kernel
theorem dX1_lookAtCell_97 : decode cX1_lookAtCell 97 = .ok (.iload 4, 2) := by decide +kernel
theorem dX1_lookAtCell_99 : decode cX1_lookAtCell 99 = .ok (.ifCond .eq 7, 3) := by decide +kernel
theorem dX1_lookAtCell_102 : decode cX1_lookAtCell 102 = .ok (.iconst 1, 1) := by decide +kernel
theorem dX1_lookAtCell_103 : decode cX1_lookAtCell 103 = .ok (.goto 4, 3) := by decide +kernel
theorem dX1_lookAtCell_106 : decode cX1_lookAtCell 106 = .ok (.iconst 0, 1) := by decide +kernel
theorem dX1_lookAtCell_107 : decode cX1_lookAtCell 107 = .ok (.ireturn, 1) := by decide +kernel
theorem dX1_lookAtCell_108 : decode cX1_lookAtCell 108 = .ok (.iconst 0, 1) := by decide +kernel
theorem dX1_lookAtCell_109 : decode cX1_lookAtCell 109 = .ok (.ireturn, 1) := by decide +kernel
theorem dX1_hadPower_0 : decode cX1_hadPower 0 = .ok (.aload_n 0, 1) := by decide +kernel
theorem dX1_hadPower_1 : decode cX1_hadPower 1 = .ok (.getfield 25, 3) := by decide +kernel
theorem dX1_hadPower_4 : decode cX1_hadPower 4 = .ok (.iload_n 1, 1) := by decide +kernel
theorem dX1_hadPower_5 : decode cX1_hadPower 5 = .ok (.iconst 5, 1) := by decide +kernel
theorem dX1_hadPower_6 : decode cX1_hadPower 6 = .ok (.imul, 1) := by decide +kernel
theorem dX1_hadPower_7 : decode cX1_hadPower 7 = .ok (.iload_n 2, 1) := by decide +kernel
theorem dX1_hadPower_8 : decode cX1_hadPower 8 = .ok (.iadd, 1) := by decide +kernel
theorem dX1_hadPower_9 : decode cX1_hadPower 9 = .ok (.iconst 1, 1) := by decide +kernel
theorem dX1_hadPower_10 : decode cX1_hadPower 10 = .ok (.iadd, 1) := by decide +kernel
theorem dX1_hadPower_11 : decode cX1_hadPower 11 = .ok (.baload, 1) := by decide +kernel
theorem dX1_hadPower_12 : decode cX1_hadPower 12 = .ok (.ireturn, 1) := by decide +kernel
theorem dX1_join_0 : decode cX1_join 0 = .ok (.aload_n 0, 1) := by decide +kernel
theorem dX1_join_1 : decode cX1_join 1 = .ok (.getfield 22, 3) := by decide +kernel
theorem dX1_join_4 : decode cX1_join 4 = .ok (.iload_n 1, 1) := by decide +kernel
theorem dX1_join_5 : decode cX1_join 5 = .ok (.iconst 4, 1) := by decide +kernel
theorem dX1_join_6 : decode cX1_join 6 = .ok (.imul, 1) := by decide +kernel
theorem dX1_join_7 : decode cX1_join 7 = .ok (.iload_n 2, 1) := by decide +kernel
theorem dX1_join_8 : decode cX1_join 8 = .ok (.iadd, 1) := by decide +kernel
theorem dX1_join_9 : decode cX1_join 9 = .ok (.baload, 1) := by decide +kernel
theorem dX1_join_10 : decode cX1_join 10 = .ok (.ifCond .ne 4, 3) := by decide +kernel
theorem dX1_join_13 : decode cX1_join 13 = .ok (.return_, 1) := by decide +kernel
theorem dX1_join_14 : decode cX1_join 14 = .ok (.iload_n 1, 1) := by decide +kernel
theorem dX1_join_15 : decode cX1_join 15 = .ok (.iconst 5, 1) := by decide +kernel
theorem dX1_join_16 : decode cX1_join 16 = .ok (.imul, 1) := by decide +kernel
theorem dX1_join_17 : decode cX1_join 17 = .ok (.iload_n 2, 1) := by decide +kernel
theorem dX1_join_18 : decode cX1_join 18 = .ok (.iadd, 1) := by decide +kernel
theorem dX1_join_19 : decode cX1_join 19 = .ok (.iconst 1, 1) := by decide +kernel
theorem dX1_join_20 : decode cX1_join 20 = .ok (.iadd, 1) := by decide +kernel
theorem dX1_join_21 : decode cX1_join 21 = .ok (.istore_n 3, 1) := by decide +kernel
theorem dX1_join_22 : decode cX1_join 22 = .ok (.iload_n 3, 1) := by decide +kernel
theorem dX1_join_23 : decode cX1_join 23 = .ok (.iconst 5, 1) := by decide +kernel
theorem dX1_join_24 : decode cX1_join 24 = .ok (.iadd, 1) := by decide +kernel
theorem dX1_join_25 : decode cX1_join 25 = .ok (.istore 4, 2) := by decide +kernel
theorem dX1_join_27 : decode cX1_join 27 = .ok (.aload_n 0, 1) := by decide +kernel
theorem dX1_join_28 : decode cX1_join 28 = .ok (.getfield 25, 3) := by decide +kernel
theorem dX1_join_31 : decode cX1_join 31 = .ok (.iload_n 3, 1) := by decide +kernel
theorem dX1_join_32 : decode cX1_join 32 = .ok (.baload, 1) := by decide +kernel
theorem dX1_join_33 : decode cX1_join 33 = .ok (.ifCond .ne 13, 3) := by decide +kernel
theorem dX1_join_36 : decode cX1_join 36 = .ok (.aload_n 0, 1) := by decide +kernel
theorem dX1_join_37 : decode cX1_join 37 = .ok (.getfield 25, 3) := by decide +kernel
theorem dX1_join_40 : decode cX1_join 40 = .ok (.iload 4, 2) := by decide +kernel
theorem dX1_join_42 : decode cX1_join 42 = .ok (.baload, 1) := by decide +kernel
theorem dX1_join_43 : decode cX1_join 43 = .ok (.ifCond .eq 7, 3) := by decide +kernel
theorem dX1_join_46 : decode cX1_join 46 = .ok (.iconst 1, 1) := by decide +kernel
theorem dX1_join_47 : decode cX1_join 47 = .ok (.goto 4, 3) := by decide +kernel
theorem dX1_join_50 : decode cX1_join 50 = .ok (.iconst 0, 1) := by decide +kernel
theorem dX1_join_51 : decode cX1_join 51 = .ok (.istore 5, 2) := by decide +kernel
theorem dX1_join_53 : decode cX1_join 53 = .ok (.aload_n 0, 1) := by decide +kernel
theorem dX1_join_54 : decode cX1_join 54 = .ok (.getfield 25, 3) := by decide +kernel
theorem dX1_join_57 : decode cX1_join 57 = .ok (.iload_n 3, 1) := by decide +kernel
theorem dX1_join_58 : decode cX1_join 58 = .ok (.iload 5, 2) := by decide +kernel
theorem dX1_join_60 : decode cX1_join 60 = .ok (.bastore, 1) := by decide +kernel
theorem dX1_join_61 : decode cX1_join 61 = .ok (.aload_n 0, 1) := by decide +kernel
theorem dX1_join_62 : decode cX1_join 62 = .ok (.getfield 25, 3) := by decide +kernel
theorem dX1_join_65 : decode cX1_join 65 = .ok (.iload 4, 2) := by decide +kernel
theorem dX1_join_67 : decode cX1_join 67 = .ok (.iload 5, 2) := by decide +kernel
theorem dX1_join_69 : decode cX1_join 69 = .ok (.bastore, 1) := by decide +kernel
theorem dX1_join_70 : decode cX1_join 70 = .ok (.return_, 1) := by decide +kernel
theorem dX2_drive_0 : decode cX2_drive 0 = .ok (.iload_n 1, 1) := by decide +kernel
theorem dX2_drive_1 : decode cX2_drive 1 = .ok (.tableswitch 124 1 4 #[31, 41, 68, 95], 31) := by decide +kernel
theorem dX2_drive_32 : decode cX2_drive 32 = .ok (.aload_n 0, 1) := by decide +kernel
theorem dX2_drive_33 : decode cX2_drive 33 = .ok (.getfield 9, 3) := by decide +kernel
theorem dX2_drive_36 : decode cX2_drive 36 = .ok (.iload_n 2, 1) := by decide +kernel
theorem dX2_drive_37 : decode cX2_drive 37 = .ok (.iload_n 3, 1) := by decide +kernel
theorem dX2_drive_38 : decode cX2_drive 38 = .ok (.bastore, 1) := by decide +kernel
theorem dX2_drive_39 : decode cX2_drive 39 = .ok (.goto 86, 3) := by decide +kernel
theorem dX2_drive_42 : decode cX2_drive 42 = .ok (.aload_n 0, 1) := by decide +kernel
theorem dX2_drive_43 : decode cX2_drive 43 = .ok (.getfield 9, 3) := by decide +kernel
theorem dX2_drive_46 : decode cX2_drive 46 = .ok (.iload_n 2, 1) := by decide +kernel
theorem dX2_drive_47 : decode cX2_drive 47 = .ok (.aload_n 0, 1) := by decide +kernel
theorem dX2_drive_48 : decode cX2_drive 48 = .ok (.getfield 9, 3) := by decide +kernel
theorem dX2_drive_51 : decode cX2_drive 51 = .ok (.iload_n 2, 1) := by decide +kernel
theorem dX2_drive_52 : decode cX2_drive 52 = .ok (.baload, 1) := by decide +kernel
theorem dX2_drive_53 : decode cX2_drive 53 = .ok (.ifCond .ne 7, 3) := by decide +kernel
theorem dX2_drive_56 : decode cX2_drive 56 = .ok (.iload_n 3, 1) := by decide +kernel
theorem dX2_drive_57 : decode cX2_drive 57 = .ok (.ifCond .eq 7, 3) := by decide +kernel
theorem dX2_drive_60 : decode cX2_drive 60 = .ok (.iconst 1, 1) := by decide +kernel
theorem dX2_drive_61 : decode cX2_drive 61 = .ok (.goto 4, 3) := by decide +kernel
theorem dX2_drive_64 : decode cX2_drive 64 = .ok (.iconst 0, 1) := by decide +kernel
theorem dX2_drive_65 : decode cX2_drive 65 = .ok (.bastore, 1) := by decide +kernel
theorem dX2_drive_66 : decode cX2_drive 66 = .ok (.goto 59, 3) := by decide +kernel
theorem dX2_drive_69 : decode cX2_drive 69 = .ok (.aload_n 0, 1) := by decide +kernel
theorem dX2_drive_70 : decode cX2_drive 70 = .ok (.getfield 9, 3) := by decide +kernel
theorem dX2_drive_73 : decode cX2_drive 73 = .ok (.iload_n 2, 1) := by decide +kernel
theorem dX2_drive_74 : decode cX2_drive 74 = .ok (.aload_n 0, 1) := by decide +kernel
theorem dX2_drive_75 : decode cX2_drive 75 = .ok (.getfield 9, 3) := by decide +kernel
theorem dX2_drive_78 : decode cX2_drive 78 = .ok (.iload_n 2, 1) := by decide +kernel
theorem dX2_drive_79 : decode cX2_drive 79 = .ok (.baload, 1) := by decide +kernel
theorem dX2_drive_80 : decode cX2_drive 80 = .ok (.ifCond .eq 11, 3) := by decide +kernel
theorem dX2_drive_83 : decode cX2_drive 83 = .ok (.iload_n 3, 1) := by decide +kernel
theorem dX2_drive_84 : decode cX2_drive 84 = .ok (.ifCond .ne 7, 3) := by decide +kernel
theorem dX2_drive_87 : decode cX2_drive 87 = .ok (.iconst 1, 1) := by decide +kernel
theorem dX2_drive_88 : decode cX2_drive 88 = .ok (.goto 4, 3) := by decide +kernel
theorem dX2_drive_91 : decode cX2_drive 91 = .ok (.iconst 0, 1) := by decide +kernel
theorem dX2_drive_92 : decode cX2_drive 92 = .ok (.bastore, 1) := by decide +kernel
end
section
/-! decode rows -/
theorem dX2_drive_93 : decode cX2_drive 93 = .ok (.goto 32, 3) := by decide +kernel
theorem dX2_drive_96 : decode cX2_drive 96 = .ok (.aload_n 0, 1) := by decide +kernel
theorem dX2_drive_97 : decode cX2_drive 97 = .ok (.getfield 26, 3) := by decide +kernel
theorem dX2_drive_100 : decode cX2_drive 100 = .ok (.iload_n 2, 1) := by decide +kernel
theorem dX2_drive_101 : decode cX2_drive 101 = .ok (.aaload, 1) := by decide +kernel
theorem dX2_drive_102 : decode cX2_drive 102 = .ok (.iload_n 3, 1) := by decide +kernel
theorem dX2_drive_103 : decode cX2_drive 103 = .ok (.aload_n 0, 1) := by decide +kernel
theorem dX2_drive_104 : decode cX2_drive 104 = .ok (.getfield 9, 3) := by decide +kernel
theorem dX2_drive_107 : decode cX2_drive 107 = .ok (.aload_n 0, 1) := by decide +kernel
theorem dX2_drive_108 : decode cX2_drive 108 = .ok (.getfield 13, 3) := by decide +kernel
theorem dX2_drive_111 : decode cX2_drive 111 = .ok (.invokevirtual 172, 3) := by decide +kernel
theorem dX2_drive_114 : decode cX2_drive 114 = .ok (.ifCond .ne 11, 3) := by decide +kernel
theorem dX2_drive_117 : decode cX2_drive 117 = .ok (.aload_n 0, 1) := by decide +kernel
theorem dX2_drive_118 : decode cX2_drive 118 = .ok (.iload_n 2, 1) := by decide +kernel
theorem dX2_drive_119 : decode cX2_drive 119 = .ok (.invokevirtual 176, 3) := by decide +kernel
theorem dX2_drive_122 : decode cX2_drive 122 = .ok (.goto 3, 3) := by decide +kernel
theorem dX2_drive_125 : decode cX2_drive 125 = .ok (.return_, 1) := by decide +kernel
theorem dX0_run_0 : decode cX0_run 0 = .ok (.aload_n 0, 1) := by decide +kernel
theorem dX0_run_1 : decode cX0_run 1 = .ok (.dup, 1) := by decide +kernel
theorem dX0_run_2 : decode cX0_run 2 = .ok (.getfield 41, 3) := by decide +kernel
theorem dX0_run_5 : decode cX0_run 5 = .ok (.iconst 1, 1) := by decide +kernel
theorem dX0_run_6 : decode cX0_run 6 = .ok (.iadd, 1) := by decide +kernel
theorem dX0_run_7 : decode cX0_run 7 = .ok (.putfield 41, 3) := by decide +kernel
theorem dX0_run_10 : decode cX0_run 10 = .ok (.iconst 1, 1) := by decide +kernel
theorem dX0_run_11 : decode cX0_run 11 = .ok (.istore 4, 2) := by decide +kernel
theorem dX0_run_13 : decode cX0_run 13 = .ok (.aload_n 0, 1) := by decide +kernel
theorem dX0_run_14 : decode cX0_run 14 = .ok (.getfield 9, 3) := by decide +kernel
theorem dX0_run_17 : decode cX0_run 17 = .ok (.tableswitch 130 0 9 #[55, 58, 67, 76, 130, 130, 130, 130, 130, 119], 55) := by decide +kernel
theorem dX0_run_72 : decode cX0_run 72 = .ok (.goto 94, 3) := by decide +kernel
theorem dX0_run_75 : decode cX0_run 75 = .ok (.aload_n 0, 1) := by decide +kernel
theorem dX0_run_76 : decode cX0_run 76 = .ok (.iload_n 1, 1) := by decide +kernel
theorem dX0_run_77 : decode cX0_run 77 = .ok (.aload_n 2, 1) := by decide +kernel
theorem dX0_run_78 : decode cX0_run 78 = .ok (.invokevirtual 50, 3) := by decide +kernel
theorem dX0_run_81 : decode cX0_run 81 = .ok (.goto 85, 3) := by decide +kernel
theorem dX0_run_84 : decode cX0_run 84 = .ok (.aload_n 0, 1) := by decide +kernel
theorem dX0_run_85 : decode cX0_run 85 = .ok (.iload_n 1, 1) := by decide +kernel
theorem dX0_run_86 : decode cX0_run 86 = .ok (.aload_n 2, 1) := by decide +kernel
theorem dX0_run_87 : decode cX0_run 87 = .ok (.invokevirtual 54, 3) := by decide +kernel
theorem dX0_run_90 : decode cX0_run 90 = .ok (.goto 76, 3) := by decide +kernel
theorem dX0_run_93 : decode cX0_run 93 = .ok (.aload_n 2, 1) := by decide +kernel
theorem dX0_run_94 : decode cX0_run 94 = .ok (.aload_n 0, 1) := by decide +kernel
theorem dX0_run_95 : decode cX0_run 95 = .ok (.getfield 21, 3) := by decide +kernel
theorem dX0_run_98 : decode cX0_run 98 = .ok (.iload_n 1, 1) := by decide +kernel
theorem dX0_run_99 : decode cX0_run 99 = .ok (.ifCond .eq 27, 3) := by decide +kernel
theorem dX0_run_102 : decode cX0_run 102 = .ok (.aload_n 3, 1) := by decide +kernel
theorem dX0_run_103 : decode cX0_run 103 = .ok (.aload_n 0, 1) := by decide +kernel
theorem dX0_run_104 : decode cX0_run 104 = .ok (.getfield 15, 3) := by decide +kernel
theorem dX0_run_107 : decode cX0_run 107 = .ok (.daload, 1) := by decide +kernel
theorem dX0_run_108 : decode cX0_run 108 = .ok (.aload_n 3, 1) := by decide +kernel
theorem dX0_run_109 : decode cX0_run 109 = .ok (.aload_n 0, 1) := by decide +kernel
theorem dX0_run_110 : decode cX0_run 110 = .ok (.getfield 18, 3) := by decide +kernel
theorem dX0_run_113 : decode cX0_run 113 = .ok (.daload, 1) := by decide +kernel
theorem dX0_run_114 : decode cX0_run 114 = .ok (.dcmp .g, 1) := by decide +kernel
theorem dX0_run_115 : decode cX0_run 115 = .ok (.ifCond .ge 7, 3) := by decide +kernel
theorem dX0_run_118 : decode cX0_run 118 = .ok (.iconst 1, 1) := by decide +kernel
theorem dX0_run_119 : decode cX0_run 119 = .ok (.goto 13, 3) := by decide +kernel
theorem dX0_run_122 : decode cX0_run 122 = .ok (.iconst 0, 1) := by decide +kernel
theorem dX0_run_123 : decode cX0_run 123 = .ok (.goto 9, 3) := by decide +kernel
theorem dX0_run_126 : decode cX0_run 126 = .ok (.aload_n 2, 1) := by decide +kernel
theorem dX0_run_127 : decode cX0_run 127 = .ok (.aload_n 0, 1) := by decide +kernel
theorem dX0_run_128 : decode cX0_run 128 = .ok (.getfield 21, 3) := by decide +kernel
theorem dX0_run_131 : decode cX0_run 131 = .ok (.baload, 1) := by decide +kernel
theorem dX0_run_132 : decode cX0_run 132 = .ok (.bastore, 1) := by decide +kernel
theorem dX0_run_133 : decode cX0_run 133 = .ok (.goto 33, 3) := by decide +kernel
theorem dX0_run_136 : decode cX0_run 136 = .ok (.aload_n 0, 1) := by decide +kernel
theorem dX0_run_137 : decode cX0_run 137 = .ok (.iload_n 1, 1) := by decide +kernel
theorem dX0_run_138 : decode cX0_run 138 = .ok (.aload_n 3, 1) := by decide +kernel
theorem dX0_run_139 : decode cX0_run 139 = .ok (.invokevirtual 57, 3) := by decide +kernel
theorem dX0_run_142 : decode cX0_run 142 = .ok (.istore 4, 2) := by decide +kernel
theorem dX0_run_144 : decode cX0_run 144 = .ok (.goto 22, 3) := by decide +kernel
theorem dX0_run_147 : decode cX0_run 147 = .ok (.iload_n 1, 1) := by decide +kernel
theorem dX0_run_148 : decode cX0_run 148 = .ok (.ifCond .eq 11, 3) := by decide +kernel
theorem dX0_run_151 : decode cX0_run 151 = .ok (.aload_n 0, 1) := by decide +kernel
theorem dX0_run_152 : decode cX0_run 152 = .ok (.aload_n 3, 1) := by decide +kernel
theorem dX0_run_153 : decode cX0_run 153 = .ok (.invokevirtual 61, 3) := by decide +kernel
theorem dX0_run_156 : decode cX0_run 156 = .ok (.ifCond .eq 7, 3) := by decide +kernel
theorem dX0_run_159 : decode cX0_run 159 = .ok (.iconst 1, 1) := by decide +kernel
theorem dX0_run_160 : decode cX0_run 160 = .ok (.goto 4, 3) := by decide +kernel
theorem dX0_run_163 : decode cX0_run 163 = .ok (.iconst 0, 1) := by decide +kernel
theorem dX0_run_164 : decode cX0_run 164 = .ok (.istore 4, 2) := by decide +kernel
theorem dX0_run_166 : decode cX0_run 166 = .ok (.iload 4, 2) := by decide +kernel
theorem dX0_run_168 : decode cX0_run 168 = .ok (.ifCond .ne 13, 3) := by decide +kernel
theorem dX0_run_171 : decode cX0_run 171 = .ok (.aload_n 0, 1) := by decide +kernel
theorem dX0_run_172 : decode cX0_run 172 = .ok (.dup, 1) := by decide +kernel
theorem dX0_run_173 : decode cX0_run 173 = .ok (.getfield 44, 3) := by decide +kernel
theorem dX0_run_176 : decode cX0_run 176 = .ok (.iconst 1, 1) := by decide +kernel
theorem dX0_run_177 : decode cX0_run 177 = .ok (.iadd, 1) := by decide +kernel
theorem dX0_run_178 : decode cX0_run 178 = .ok (.putfield 44, 3) := by decide +kernel
theorem dX0_run_181 : decode cX0_run 181 = .ok (.iload 4, 2) := by decide +kernel
theorem dX0_run_183 : decode cX0_run 183 = .ok (.ireturn, 1) := by decide +kernel
theorem dX0_delay_0 : decode cX0_delay 0 = .ok (.iload_n 1, 1) := by decide +kernel
theorem dX0_delay_1 : decode cX0_delay 1 = .ok (.ifCond .ne 11, 3) := by decide +kernel
theorem dX0_delay_4 : decode cX0_delay 4 = .ok (.aload_n 0, 1) := by decide +kernel
theorem dX0_delay_5 : decode cX0_delay 5 = .ok (.iconst 0, 1) := by decide +kernel
theorem dX0_delay_6 : decode cX0_delay 6 = .ok (.putfield 28, 3) := by decide +kernel
theorem dX0_delay_9 : decode cX0_delay 9 = .ok (.goto 26, 3) := by decide +kernel
theorem dX0_delay_12 : decode cX0_delay 12 = .ok (.aload_n 0, 1) := by decide +kernel
theorem dX0_delay_13 : decode cX0_delay 13 = .ok (.getfield 28, 3) := by decide +kernel
theorem dX0_delay_16 : decode cX0_delay 16 = .ok (.i2d, 1) := by decide +kernel
theorem dX0_delay_17 : decode cX0_delay 17 = .ok (.aload_n 0, 1) := by decide +kernel
theorem dX0_delay_18 : decode cX0_delay 18 = .ok (.getfield 24, 3) := by decide +kernel
theorem dX0_delay_21 : decode cX0_delay 21 = .ok (.dcmp .g, 1) := by decide +kernel
theorem dX0_delay_22 : decode cX0_delay 22 = .ok (.ifCond .ge 13, 3) := by decide +kernel
theorem dX0_delay_25 : decode cX0_delay 25 = .ok (.aload_n 0, 1) := by decide +kernel
theorem dX0_delay_26 : decode cX0_delay 26 = .ok (.dup, 1) := by decide +kernel
theorem dX0_delay_27 : decode cX0_delay 27 = .ok (.getfield 28, 3) := by decide +kernel
theorem dX0_delay_30 : decode cX0_delay 30 = .ok (.iconst 1, 1) := by decide +kernel
theorem dX0_delay_31 : decode cX0_delay 31 = .ok (.iadd, 1) := by decide +kernel
theorem dX0_delay_32 : decode cX0_delay 32 = .ok (.putfield 28, 3) := by decide +kernel
theorem dX0_delay_35 : decode cX0_delay 35 = .ok (.aload_n 2, 1) := by decide +kernel
theorem dX0_delay_36 : decode cX0_delay 36 = .ok (.aload_n 0, 1) := by decide +kernel
theorem dX0_delay_37 : decode cX0_delay 37 = .ok (.getfield 21, 3) := by decide +kernel
theorem dX0_delay_40 : decode cX0_delay 40 = .ok (.aload_n 0, 1) := by decide +kernel
theorem dX0_delay_41 : decode cX0_delay 41 = .ok (.getfield 28, 3) := by decide +kernel
theorem dX0_delay_44 : decode cX0_delay 44 = .ok (.i2d, 1) := by decide +kernel
theorem dX0_delay_45 : decode cX0_delay 45 = .ok (.aload_n 0, 1) := by decide +kernel
theorem dX0_delay_46 : decode cX0_delay 46 = .ok (.getfield 24, 3) := by decide +kernel
theorem dX0_delay_49 : decode cX0_delay 49 = .ok (.dcmp .l, 1) := by decide +kernel
theorem dX0_delay_50 : decode cX0_delay 50 = .ok (.ifCond .lt 7, 3) := by decide +kernel
theorem dX0_delay_53 : decode cX0_delay 53 = .ok (.iconst 1, 1) := by decide +kernel
theorem dX0_delay_54 : decode cX0_delay 54 = .ok (.goto 4, 3) := by decide +kernel
theorem dX0_delay_57 : decode cX0_delay 57 = .ok (.iconst 0, 1) := by decide +kernel
theorem dX0_delay_58 : decode cX0_delay 58 = .ok (.bastore, 1) := by decide +kernel
theorem dX0_delay_59 : decode cX0_delay 59 = .ok (.return_, 1) := by decide +kernel
theorem dX0_countRuns_0 : decode cX0_countRuns 0 = .ok (.aload_n 2, 1) := by decide +kernel
theorem dX0_countRuns_1 : decode cX0_countRuns 1 = .ok (.bipush 22, 2) := by decide +kernel
theorem dX0_countRuns_3 : decode cX0_countRuns 3 = .ok (.baload, 1) := by decide +kernel
theorem dX0_countRuns_4 : decode cX0_countRuns 4 = .ok (.ifCond .eq 11, 3) := by decide +kernel
theorem dX0_countRuns_7 : decode cX0_countRuns 7 = .ok (.aload_n 0, 1) := by decide +kernel
theorem dX0_countRuns_8 : decode cX0_countRuns 8 = .ok (.iconst 0, 1) := by decide +kernel
theorem dX0_countRuns_9 : decode cX0_countRuns 9 = .ok (.putfield 28, 3) := by decide +kernel
theorem dX0_countRuns_12 : decode cX0_countRuns 12 = .ok (.goto 37, 3) := by decide +kernel
theorem dX0_countRuns_15 : decode cX0_countRuns 15 = .ok (.iload_n 1, 1) := by decide +kernel
theorem dX0_countRuns_16 : decode cX0_countRuns 16 = .ok (.ifCond .eq 33, 3) := by decide +kernel
theorem dX0_countRuns_19 : decode cX0_countRuns 19 = .ok (.aload_n 0, 1) := by decide +kernel
theorem dX0_countRuns_20 : decode cX0_countRuns 20 = .ok (.getfield 31, 3) := by decide +kernel
theorem dX0_countRuns_23 : decode cX0_countRuns 23 = .ok (.ifCond .ne 26, 3) := by decide +kernel
theorem dX0_countRuns_26 : decode cX0_countRuns 26 = .ok (.aload_n 0, 1) := by decide +kernel
theorem dX0_countRuns_27 : decode cX0_countRuns 27 = .ok (.getfield 28, 3) := by decide +kernel
theorem dX0_countRuns_30 : decode cX0_countRuns 30 = .ok (.i2d, 1) := by decide +kernel
theorem dX0_countRuns_31 : decode cX0_countRuns 31 = .ok (.aload_n 0, 1) := by decide +kernel
theorem dX0_countRuns_32 : decode cX0_countRuns 32 = .ok (.getfield 24, 3) := by decide +kernel
theorem dX0_countRuns_35 : decode cX0_countRuns 35 = .ok (.dcmp .g, 1) := by decide +kernel
theorem dX0_countRuns_36 : decode cX0_countRuns 36 = .ok (.ifCond .ge 13, 3) := by decide +kernel
theorem dX0_countRuns_39 : decode cX0_countRuns 39 = .ok (.aload_n 0, 1) := by decide +kernel
theorem dX0_countRuns_40 : decode cX0_countRuns 40 = .ok (.dup, 1) := by decide +kernel
theorem dX0_countRuns_41 : decode cX0_countRuns 41 = .ok (.getfield 28, 3) := by decide +kernel
theorem dX0_countRuns_44 : decode cX0_countRuns 44 = .ok (.iconst 1, 1) := by decide +kernel
theorem dX0_countRuns_45 : decode cX0_countRuns 45 = .ok (.iadd, 1) := by decide +kernel
theorem dX0_countRuns_46 : decode cX0_countRuns 46 = .ok (.putfield 28, 3) := by decide +kernel
theorem dX0_countRuns_49 : decode cX0_countRuns 49 = .ok (.aload_n 0, 1) := by decide +kernel
theorem dX0_countRuns_50 : decode cX0_countRuns 50 = .ok (.iload_n 1, 1) := by decide +kernel
theorem dX0_countRuns_51 : decode cX0_countRuns 51 = .ok (.putfield 31, 3) := by decide +kernel
theorem dX0_countRuns_54 : decode cX0_countRuns 54 = .ok (.aload_n 2, 1) := by decide +kernel
theorem dX0_countRuns_55 : decode cX0_countRuns 55 = .ok (.aload_n 0, 1) := by decide +kernel
theorem dX0_countRuns_56 : decode cX0_countRuns 56 = .ok (.getfield 21, 3) := by decide +kernel
theorem dX0_countRuns_59 : decode cX0_countRuns 59 = .ok (.aload_n 0, 1) := by decide +kernel
theorem dX0_countRuns_60 : decode cX0_countRuns 60 = .ok (.getfield 28, 3) := by decide +kernel
theorem dX0_countRuns_63 : decode cX0_countRuns 63 = .ok (.i2d, 1) := by decide +kernel
theorem dX0_countRuns_64 : decode cX0_countRuns 64 = .ok (.aload_n 0, 1) := by decide +kernel
theorem dX0_countRuns_65 : decode cX0_countRuns 65 = .ok (.getfield 24, 3) := by decide +kernel
theorem dX0_countRuns_68 : decode cX0_countRuns 68 = .ok (.dcmp .l, 1) := by decide +kernel
theorem dX0_countRuns_69 : decode cX0_countRuns 69 = .ok (.ifCond .lt 7, 3) := by decide +kernel
theorem dX0_countRuns_72 : decode cX0_countRuns 72 = .ok (.iconst 1, 1) := by decide +kernel
theorem dX0_countRuns_73 : decode cX0_countRuns 73 = .ok (.goto 4, 3) := by decide +kernel
theorem dX0_countRuns_76 : decode cX0_countRuns 76 = .ok (.iconst 0, 1) := by decide +kernel
theorem dX0_countRuns_77 : decode cX0_countRuns 77 = .ok (.bastore, 1) := by decide +kernel
theorem dX0_countRuns_78 : decode cX0_countRuns 78 = .ok (.return_, 1) := by decide +kernel
theorem dX0_regulate_0 : decode cX0_regulate 0 = .ok (.iload_n 1, 1) := by decide +kernel
theorem dX0_regulate_1 : decode cX0_regulate 1 = .ok (.ifCond .ne 15, 3) := by decide +kernel
theorem dX0_regulate_4 : decode cX0_regulate 4 = .ok (.aload_n 0, 1) := by decide +kernel
theorem dX0_regulate_5 : decode cX0_regulate 5 = .ok (.dconst 0, 1) := by decide +kernel
theorem dX0_regulate_6 : decode cX0_regulate 6 = .ok (.putfield 35, 3) := by decide +kernel
theorem dX0_regulate_9 : decode cX0_regulate 9 = .ok (.aload_n 0, 1) := by decide +kernel
theorem dX0_regulate_10 : decode cX0_regulate 10 = .ok (.dconst 0, 1) := by decide +kernel
theorem dX0_regulate_11 : decode cX0_regulate 11 = .ok (.putfield 38, 3) := by decide +kernel
theorem dX0_regulate_14 : decode cX0_regulate 14 = .ok (.iconst 1, 1) := by decide +kernel
theorem dX0_regulate_15 : decode cX0_regulate 15 = .ok (.ireturn, 1) := by decide +kernel
theorem dX0_regulate_16 : decode cX0_regulate 16 = .ok (.aload_n 2, 1) := by decide +kernel
theorem dX0_regulate_17 : decode cX0_regulate 17 = .ok (.aload_n 0, 1) := by decide +kernel
theorem dX0_regulate_18 : decode cX0_regulate 18 = .ok (.getfield 18, 3) := by decide +kernel
theorem dX0_regulate_21 : decode cX0_regulate 21 = .ok (.daload, 1) := by decide +kernel
theorem dX0_regulate_22 : decode cX0_regulate 22 = .ok (.aload_n 2, 1) := by decide +kernel
theorem dX0_regulate_23 : decode cX0_regulate 23 = .ok (.aload_n 0, 1) := by decide +kernel
theorem dX0_regulate_24 : decode cX0_regulate 24 = .ok (.getfield 15, 3) := by decide +kernel
theorem dX0_regulate_27 : decode cX0_regulate 27 = .ok (.daload, 1) := by decide +kernel
theorem dX0_regulate_28 : decode cX0_regulate 28 = .ok (.dsub, 1) := by decide +kernel
theorem dX0_regulate_29 : decode cX0_regulate 29 = .ok (.dstore_n 3, 1) := by decide +kernel
theorem dX0_regulate_30 : decode cX0_regulate 30 = .ok (.dload_n 3, 1) := by decide +kernel
theorem dX0_regulate_31 : decode cX0_regulate 31 = .ok (.aload_n 0, 1) := by decide +kernel
theorem dX0_regulate_32 : decode cX0_regulate 32 = .ok (.getfield 38, 3) := by decide +kernel
theorem dX0_regulate_35 : decode cX0_regulate 35 = .ok (.dsub, 1) := by decide +kernel
theorem dX0_regulate_36 : decode cX0_regulate 36 = .ok (.dstore 5, 2) := by decide +kernel
theorem dX0_regulate_38 : decode cX0_regulate 38 = .ok (.aload_n 0, 1) := by decide +kernel
theorem dX0_regulate_39 : decode cX0_regulate 39 = .ok (.aload_n 0, 1) := by decide +kernel
theorem dX0_regulate_40 : decode cX0_regulate 40 = .ok (.getfield 35, 3) := by decide +kernel
theorem dX0_regulate_43 : decode cX0_regulate 43 = .ok (.dload_n 3, 1) := by decide +kernel
theorem dX0_regulate_44 : decode cX0_regulate 44 = .ok (.ldc2_w 73, 3) := by decide +kernel
theorem dX0_regulate_47 : decode cX0_regulate 47 = .ok (.dmul, 1) := by decide +kernel
theorem dX0_regulate_48 : decode cX0_regulate 48 = .ok (.dadd, 1) := by decide +kernel
theorem dX0_regulate_49 : decode cX0_regulate 49 = .ok (.ldc2_w 75, 3) := by decide +kernel
theorem dX0_regulate_52 : decode cX0_regulate 52 = .ok (.ldc2_w 77, 3) := by decide +kernel
theorem dX0_regulate_55 : decode cX0_regulate 55 = .ok (.invokestatic 69, 3) := by decide +kernel
theorem dX0_regulate_58 : decode cX0_regulate 58 = .ok (.putfield 35, 3) := by decide +kernel
theorem dX0_regulate_61 : decode cX0_regulate 61 = .ok (.aload_n 0, 1) := by decide +kernel
theorem dX0_regulate_62 : decode cX0_regulate 62 = .ok (.dload_n 3, 1) := by decide +kernel
theorem dX0_regulate_63 : decode cX0_regulate 63 = .ok (.putfield 38, 3) := by decide +kernel
theorem dX0_regulate_66 : decode cX0_regulate 66 = .ok (.aload_n 0, 1) := by decide +kernel
theorem dX0_regulate_67 : decode cX0_regulate 67 = .ok (.aload_n 0, 1) := by decide +kernel
theorem dX0_regulate_68 : decode cX0_regulate 68 = .ok (.getfield 24, 3) := by decide +kernel
theorem dX0_regulate_71 : decode cX0_regulate 71 = .ok (.dload_n 3, 1) := by decide +kernel
theorem dX0_regulate_72 : decode cX0_regulate 72 = .ok (.aload_n 0, 1) := by decide +kernel
theorem dX0_regulate_73 : decode cX0_regulate 73 = .ok (.getfield 35, 3) := by decide +kernel
theorem dX0_regulate_76 : decode cX0_regulate 76 = .ok (.dadd, 1) := by decide +kernel
theorem dX0_regulate_77 : decode cX0_regulate 77 = .ok (.dload 5, 2) := by decide +kernel
theorem dX0_regulate_79 : decode cX0_regulate 79 = .ok (.ldc2_w 79, 3) := by decide +kernel
theorem dX0_regulate_82 : decode cX0_regulate 82 = .ok (.dmul, 1) := by decide +kernel
theorem dX0_regulate_83 : decode cX0_regulate 83 = .ok (.dadd, 1) := by decide +kernel
theorem dX0_regulate_84 : decode cX0_regulate 84 = .ok (.dmul, 1) := by decide +kernel
theorem dX0_regulate_85 : decode cX0_regulate 85 = .ok (.aload_n 2, 1) := by decide +kernel
theorem dX0_regulate_86 : decode cX0_regulate 86 = .ok (.invokevirtual 65, 3) := by decide +kernel
theorem dX0_regulate_89 : decode cX0_regulate 89 = .ok (.ireturn, 1) := by decide +kernel
theorem dX0_limited_0 : decode cX0_limited 0 = .ok (.dload_n 0, 1) := by decide +kernel
theorem dX0_limited_1 : decode cX0_limited 1 = .ok (.dload_n 2, 1) := by decide +kernel
theorem dX0_limited_2 : decode cX0_limited 2 = .ok (.dcmp .g, 1) := by decide +kernel
theorem dX0_limited_3 : decode cX0_limited 3 = .ok (.ifCond .ge 7, 3) := by decide +kernel
theorem dX0_limited_6 : decode cX0_limited 6 = .ok (.dload_n 2, 1) := by decide +kernel
theorem dX0_limited_7 : decode cX0_limited 7 = .ok (.goto 16, 3) := by decide +kernel
theorem dX0_limited_10 : decode cX0_limited 10 = .ok (.dload_n 0, 1) := by decide +kernel
theorem dX0_limited_11 : decode cX0_limited 11 = .ok (.dload 4, 2) := by decide +kernel
theorem dX0_limited_13 : decode cX0_limited 13 = .ok (.dcmp .l, 1) := by decide +kernel
theorem dX0_limited_14 : decode cX0_limited 14 = .ok (.ifCond .le 8, 3) := by decide +kernel
theorem dX0_limited_17 : decode cX0_limited 17 = .ok (.dload 4, 2) := by decide +kernel
theorem dX0_limited_19 : decode cX0_limited 19 = .ok (.goto 4, 3) := by decide +kernel
theorem dX0_limited_22 : decode cX0_limited 22 = .ok (.dload_n 0, 1) := by decide +kernel
theorem dX0_limited_23 : decode cX0_limited 23 = .ok (.dreturn, 1) := by decide +kernel
theorem dX0_keep_0 : decode cX0_keep 0 = .ok (.dload_n 1, 1) := by decide +kernel
theorem dX0_keep_1 : decode cX0_keep 1 = .ok (.invokestatic 81, 3) := by decide +kernel
theorem dX0_keep_4 : decode cX0_keep 4 = .ok (.ifCond .ne 5, 3) := by decide +kernel
theorem dX0_keep_7 : decode cX0_keep 7 = .ok (.iconst 0, 1) := by decide +kernel
theorem dX0_keep_8 : decode cX0_keep 8 = .ok (.ireturn, 1) := by decide +kernel
theorem dX0_keep_9 : decode cX0_keep 9 = .ok (.aload_n 3, 1) := by decide +kernel
theorem dX0_keep_10 : decode cX0_keep 10 = .ok (.aload_n 0, 1) := by decide +kernel
theorem dX0_keep_11 : decode cX0_keep 11 = .ok (.getfield 21, 3) := by decide +kernel
theorem dX0_keep_14 : decode cX0_keep 14 = .ok (.dload_n 1, 1) := by decide +kernel
theorem dX0_keep_15 : decode cX0_keep 15 = .ok (.dastore, 1) := by decide +kernel
theorem dX0_keep_16 : decode cX0_keep 16 = .ok (.iconst 1, 1) := by decide +kernel
theorem dX0_keep_17 : decode cX0_keep 17 = .ok (.ireturn, 1) := by decide +kernel
theorem dX0_calculate_0 : decode cX0_calculate 0 = .ok (.aload_n 1, 1) := by decide +kernel
theorem dX0_calculate_1 : decode cX0_calculate 1 = .ok (.aload_n 0, 1) := by decide +kernel
theorem dX0_calculate_2 : decode cX0_calculate 2 = .ok (.getfield 15, 3) := by decide +kernel
theorem dX0_calculate_5 : decode cX0_calculate 5 = .ok (.daload, 1) := by decide +kernel
theorem dX0_calculate_6 : decode cX0_calculate 6 = .ok (.dstore_n 2, 1) := by decide +kernel
theorem dX0_calculate_7 : decode cX0_calculate 7 = .ok (.aload_n 1, 1) := by decide +kernel
theorem dX0_calculate_8 : decode cX0_calculate 8 = .ok (.aload_n 0, 1) := by decide +kernel
theorem dX0_calculate_9 : decode cX0_calculate 9 = .ok (.getfield 18, 3) := by decide +kernel
theorem dX0_calculate_12 : decode cX0_calculate 12 = .ok (.daload, 1) := by decide +kernel
theorem dX0_calculate_13 : decode cX0_calculate 13 = .ok (.dstore 4, 2) := by decide +kernel
theorem dX0_calculate_15 : decode cX0_calculate 15 = .ok (.aload_n 0, 1) := by decide +kernel
theorem dX0_calculate_16 : decode cX0_calculate 16 = .ok (.getfield 9, 3) := by decide +kernel
theorem dX0_calculate_19 : decode cX0_calculate 19 = .ok (.tableswitch 84 4 7 #[29, 39, 49, 59], 29) := by decide +kernel
theorem dX0_calculate_48 : decode cX0_calculate 48 = .ok (.aload_n 0, 1) := by decide +kernel
theorem dX0_calculate_49 : decode cX0_calculate 49 = .ok (.dload_n 2, 1) := by decide +kernel
theorem dX0_calculate_50 : decode cX0_calculate 50 = .ok (.dload 4, 2) := by decide +kernel
theorem dX0_calculate_52 : decode cX0_calculate 52 = .ok (.dadd, 1) := by decide +kernel
theorem dX0_calculate_53 : decode cX0_calculate 53 = .ok (.aload_n 1, 1) := by decide +kernel
theorem dX0_calculate_54 : decode cX0_calculate 54 = .ok (.invokevirtual 65, 3) := by decide +kernel
theorem dX0_calculate_57 : decode cX0_calculate 57 = .ok (.ireturn, 1) := by decide +kernel
theorem dX0_calculate_58 : decode cX0_calculate 58 = .ok (.aload_n 0, 1) := by decide +kernel
theorem dX0_calculate_59 : decode cX0_calculate 59 = .ok (.dload_n 2, 1) := by decide +kernel
theorem dX0_calculate_60 : decode cX0_calculate 60 = .ok (.dload 4, 2) := by decide +kernel
theorem dX0_calculate_62 : decode cX0_calculate 62 = .ok (.dsub, 1) := by decide +kernel
theorem dX0_calculate_63 : decode cX0_calculate 63 = .ok (.aload_n 1, 1) := by decide +kernel
theorem dX0_calculate_64 : decode cX0_calculate 64 = .ok (.invokevirtual 65, 3) := by decide +kernel
theorem dX0_calculate_67 : decode cX0_calculate 67 = .ok (.ireturn, 1) := by decide +kernel
theorem dX0_calculate_68 : decode cX0_calculate 68 = .ok (.aload_n 0, 1) := by decide +kernel
theorem dX0_calculate_69 : decode cX0_calculate 69 = .ok (.dload_n 2, 1) := by decide +kernel
theorem dX0_calculate_70 : decode cX0_calculate 70 = .ok (.dload 4, 2) := by decide +kernel
theorem dX0_calculate_72 : decode cX0_calculate 72 = .ok (.dmul, 1) := by decide +kernel
theorem dX0_calculate_73 : decode cX0_calculate 73 = .ok (.aload_n 1, 1) := by decide +kernel
theorem dX0_calculate_74 : decode cX0_calculate 74 = .ok (.invokevirtual 65, 3) := by decide +kernel
theorem dX0_calculate_77 : decode cX0_calculate 77 = .ok (.ireturn, 1) := by decide +kernel
theorem dX0_calculate_78 : decode cX0_calculate 78 = .ok (.dload 4, 2) := by decide +kernel
theorem dX0_calculate_80 : decode cX0_calculate 80 = .ok (.dconst 0, 1) := by decide +kernel
theorem dX0_calculate_81 : decode cX0_calculate 81 = .ok (.dcmp .l, 1) := by decide +kernel
theorem dX0_calculate_82 : decode cX0_calculate 82 = .ok (.ifCond .eq 19, 3) := by decide +kernel
theorem dX0_calculate_85 : decode cX0_calculate 85 = .ok (.aload_n 0, 1) := by decide +kernel
theorem dX0_calculate_86 : decode cX0_calculate 86 = .ok (.dload_n 2, 1) := by decide +kernel
theorem dX0_calculate_87 : decode cX0_calculate 87 = .ok (.dload 4, 2) := by decide +kernel
theorem dX0_calculate_89 : decode cX0_calculate 89 = .ok (.ddiv, 1) := by decide +kernel
theorem dX0_calculate_90 : decode cX0_calculate 90 = .ok (.aload_n 1, 1) := by decide +kernel
theorem dX0_calculate_91 : decode cX0_calculate 91 = .ok (.invokevirtual 65, 3) := by decide +kernel
theorem dX0_calculate_94 : decode cX0_calculate 94 = .ok (.ifCond .eq 7, 3) := by decide +kernel
theorem dX0_calculate_97 : decode cX0_calculate 97 = .ok (.iconst 1, 1) := by decide +kernel
theorem dX0_calculate_98 : decode cX0_calculate 98 = .ok (.goto 4, 3) := by decide +kernel
theorem dX0_calculate_101 : decode cX0_calculate 101 = .ok (.iconst 0, 1) := by decide +kernel
theorem dX0_calculate_102 : decode cX0_calculate 102 = .ok (.ireturn, 1) := by decide +kernel
theorem dX0_calculate_103 : decode cX0_calculate 103 = .ok (.dload 4, 2) := by decide +kernel
theorem dX0_calculate_105 : decode cX0_calculate 105 = .ok (.aload_n 0, 1) := by decide +kernel
theorem dX0_calculate_106 : decode cX0_calculate 106 = .ok (.getfield 24, 3) := by decide +kernel
theorem dX0_calculate_109 : decode cX0_calculate 109 = .ok (.dcmp .g, 1) := by decide +kernel
theorem dX0_calculate_110 : decode cX0_calculate 110 = .ok (.ifCond .gt 25, 3) := by decide +kernel
theorem dX0_calculate_113 : decode cX0_calculate 113 = .ok (.aload_n 0, 1) := by decide +kernel
theorem dX0_calculate_114 : decode cX0_calculate 114 = .ok (.dload_n 2, 1) := by decide +kernel
theorem dX0_calculate_115 : decode cX0_calculate 115 = .ok (.dload 4, 2) := by decide +kernel
theorem dX0_calculate_117 : decode cX0_calculate 117 = .ok (.aload_n 0, 1) := by decide +kernel
theorem dX0_calculate_118 : decode cX0_calculate 118 = .ok (.getfield 24, 3) := by decide +kernel
theorem dX0_calculate_121 : decode cX0_calculate 121 = .ok (.invokestatic 69, 3) := by decide +kernel
theorem dX0_calculate_124 : decode cX0_calculate 124 = .ok (.aload_n 1, 1) := by decide +kernel
theorem dX0_calculate_125 : decode cX0_calculate 125 = .ok (.invokevirtual 65, 3) := by decide +kernel
theorem dX0_calculate_128 : decode cX0_calculate 128 = .ok (.ifCond .eq 7, 3) := by decide +kernel
theorem dX0_calculate_131 : decode cX0_calculate 131 = .ok (.iconst 1, 1) := by decide +kernel
theorem dX0_calculate_132 : decode cX0_calculate 132 = .ok (.goto 4, 3) := by decide +kernel
theorem dX0_calculate_135 : decode cX0_calculate 135 = .ok (.iconst 0, 1) := by decide +kernel
theorem dX0_calculate_136 : decode cX0_calculate 136 = .ok (.ireturn, 1) := by decide +kernel
theorem dX2_takeFault_0 : decode cX2_takeFault 0 = .ok (.aload_n 0, 1) := by decide +kernel
theorem dX2_takeFault_1 : decode cX2_takeFault 1 = .ok (.dup, 1) := by decide +kernel
theorem dX2_takeFault_2 : decode cX2_takeFault 2 = .ok (.getfield 120, 3) := by decide +kernel
theorem dX2_takeFault_5 : decode cX2_takeFault 5 = .ok (.iconst 1, 1) := by decide +kernel
theorem dX2_takeFault_6 : decode cX2_takeFault 6 = .ok (.iadd, 1) := by decide +kernel
theorem dX2_takeFault_7 : decode cX2_takeFault 7 = .ok (.putfield 120, 3) := by decide +kernel
theorem dX2_takeFault_10 : decode cX2_takeFault 10 = .ok (.aload_n 0, 1) := by decide +kernel
theorem dX2_takeFault_11 : decode cX2_takeFault 11 = .ok (.getfield 26, 3) := by decide +kernel
theorem dX2_takeFault_14 : decode cX2_takeFault 14 = .ok (.iload_n 1, 1) := by decide +kernel
theorem dX2_takeFault_15 : decode cX2_takeFault 15 = .ok (.aaload, 1) := by decide +kernel
theorem dX2_takeFault_16 : decode cX2_takeFault 16 = .ok (.getfield 75, 3) := by decide +kernel
theorem dX2_takeFault_19 : decode cX2_takeFault 19 = .ok (.ifCond .eq 12, 3) := by decide +kernel
theorem dX2_takeFault_22 : decode cX2_takeFault 22 = .ok (.aload_n 0, 1) := by decide +kernel
theorem dX2_takeFault_23 : decode cX2_takeFault 23 = .ok (.getfield 9, 3) := by decide +kernel
theorem dX2_takeFault_26 : decode cX2_takeFault 26 = .ok (.bipush 23, 2) := by decide +kernel
theorem dX2_takeFault_28 : decode cX2_takeFault 28 = .ok (.iconst 1, 1) := by decide +kernel
theorem dX2_takeFault_29 : decode cX2_takeFault 29 = .ok (.bastore, 1) := by decide +kernel
theorem dX2_takeFault_30 : decode cX2_takeFault 30 = .ok (.return_, 1) := by decide +kernel
theorem dX2_takeFault_31 : decode cX2_takeFault 31 = .ok (.bipush 8, 2) := by decide +kernel
theorem dX2_takeFault_33 : decode cX2_takeFault 33 = .ok (.istore_n 2, 1) := by decide +kernel
theorem dX2_takeFault_34 : decode cX2_takeFault 34 = .ok (.iload_n 2, 1) := by decide +kernel
theorem dX2_takeFault_35 : decode cX2_takeFault 35 = .ok (.bipush 15, 2) := by decide +kernel
theorem dX2_takeFault_37 : decode cX2_takeFault 37 = .ok (.if_icmp .gt 16, 3) := by decide +kernel
theorem dX2_takeFault_40 : decode cX2_takeFault 40 = .ok (.aload_n 0, 1) := by decide +kernel
theorem dX2_takeFault_41 : decode cX2_takeFault 41 = .ok (.getfield 9, 3) := by decide +kernel
theorem dX2_takeFault_44 : decode cX2_takeFault 44 = .ok (.iload_n 2, 1) := by decide +kernel
theorem dX2_takeFault_45 : decode cX2_takeFault 45 = .ok (.iconst 0, 1) := by decide +kernel
theorem dX2_takeFault_46 : decode cX2_takeFault 46 = .ok (.bastore, 1) := by decide +kernel
theorem dX2_takeFault_47 : decode cX2_takeFault 47 = .ok (.iinc 2 1, 3) := by decide +kernel
theorem dX2_takeFault_50 : decode cX2_takeFault 50 = .ok (.goto (-16), 3) := by decide +kernel
theorem dX2_takeFault_53 : decode cX2_takeFault 53 = .ok (.aload_n 0, 1) := by decide +kernel
theorem dX2_takeFault_54 : decode cX2_takeFault 54 = .ok (.iload_n 1, 1) := by decide +kernel
theorem dX2_takeFault_55 : decode cX2_takeFault 55 = .ok (.putfield 31, 3) := by decide +kernel
theorem dX2_takeFault_58 : decode cX2_takeFault 58 = .ok (.return_, 1) := by decide +kernel
theorem dL_bit_0 : decode cL_bit 0 = .ok (.aload_n 2, 1) := by decide +kernel
theorem dL_bit_1 : decode cL_bit 1 = .ok (.iconst 0, 1) := by decide +kernel
theorem dL_bit_2 : decode cL_bit 2 = .ok (.aload_n 0, 1) := by decide +kernel
theorem dL_bit_3 : decode cL_bit 3 = .ok (.iload_n 1, 1) := by decide +kernel
theorem dL_bit_4 : decode cL_bit 4 = .ok (.invokevirtual 48, 3) := by decide +kernel
theorem dL_bit_7 : decode cL_bit 7 = .ok (.ifCond .eq 7, 3) := by decide +kernel
theorem dL_bit_10 : decode cL_bit 10 = .ok (.lconst 1, 1) := by decide +kernel
theorem dL_bit_11 : decode cL_bit 11 = .ok (.goto 4, 3) := by decide +kernel
theorem dL_bit_14 : decode cL_bit 14 = .ok (.lconst 0, 1) := by decide +kernel
theorem dL_bit_15 : decode cL_bit 15 = .ok (.lastore, 1) := by decide +kernel
theorem dL_bit_16 : decode cL_bit 16 = .ok (.goto 6, 3) := by decide +kernel
theorem dL_bit_19 : decode cL_bit 19 = .ok (.astore_n 3, 1) := by decide +kernel
theorem dL_bit_20 : decode cL_bit 20 = .ok (.iconst 1, 1) := by decide +kernel
theorem dL_bit_21 : decode cL_bit 21 = .ok (.ireturn, 1) := by decide +kernel
theorem dL_bit_22 : decode cL_bit 22 = .ok (.iconst 0, 1) := by decide +kernel
theorem dL_bit_23 : decode cL_bit 23 = .ok (.ireturn, 1) := by decide +kernel
theorem dX2_bit_0 : decode cX2_bit 0 = .ok (.iload_n 1, 1) := by decide +kernel
theorem dX2_bit_1 : decode cX2_bit 1 = .ok (.bipush 24, 2) := by decide +kernel
theorem dX2_bit_3 : decode cX2_bit 3 = .ok (.invokestatic 46, 3) := by decide +kernel
theorem dX2_bit_6 : decode cX2_bit 6 = .ok (.invokestatic 49, 3) := by decide +kernel
theorem dX2_bit_9 : decode cX2_bit 9 = .ok (.aload_n 0, 1) := by decide +kernel
theorem dX2_bit_10 : decode cX2_bit 10 = .ok (.getfield 9, 3) := by decide +kernel
theorem dX2_bit_13 : decode cX2_bit 13 = .ok (.iload_n 1, 1) := by decide +kernel
theorem dX2_bit_14 : decode cX2_bit 14 = .ok (.baload, 1) := by decide +kernel
theorem dX2_bit_15 : decode cX2_bit 15 = .ok (.ireturn, 1) := by decide +kernel
theorem dL_register_0 : decode cL_register 0 = .ok (.aload_n 2, 1) := by decide +kernel
theorem dL_register_1 : decode cL_register 1 = .ok (.iconst 0, 1) := by decide +kernel
theorem dL_register_2 : decode cL_register 2 = .ok (.aload_n 0, 1) := by decide +kernel
theorem dL_register_3 : decode cL_register 3 = .ok (.iload_n 1, 1) := by decide +kernel
theorem dL_register_4 : decode cL_register 4 = .ok (.invokevirtual 52, 3) := by decide +kernel
theorem dL_register_7 : decode cL_register 7 = .ok (.dastore, 1) := by decide +kernel
theorem dL_register_8 : decode cL_register 8 = .ok (.goto 6, 3) := by decide +kernel
theorem dL_register_11 : decode cL_register 11 = .ok (.astore_n 3, 1) := by decide +kernel
theorem dL_register_12 : decode cL_register 12 = .ok (.iconst 1, 1) := by decide +kernel
theorem dL_register_13 : decode cL_register 13 = .ok (.ireturn, 1) := by decide +kernel
theorem dL_register_14 : decode cL_register 14 = .ok (.iconst 0, 1) := by decide +kernel
theorem dL_register_15 : decode cL_register 15 = .ok (.ireturn, 1) := by decide +kernel
theorem dX2_register_0 : decode cX2_register 0 = .ok (.iload_n 1, 1) := by decide +kernel
theorem dX2_register_1 : decode cX2_register 1 = .ok (.bipush 8, 2) := by decide +kernel
theorem dX2_register_3 : decode cX2_register 3 = .ok (.invokestatic 46, 3) := by decide +kernel
theorem dX2_register_6 : decode cX2_register 6 = .ok (.invokestatic 49, 3) := by decide +kernel
theorem dX2_register_9 : decode cX2_register 9 = .ok (.aload_n 0, 1) := by decide +kernel
theorem dX2_register_10 : decode cX2_register 10 = .ok (.getfield 13, 3) := by decide +kernel
theorem dX2_register_13 : decode cX2_register 13 = .ok (.iload_n 1, 1) := by decide +kernel
theorem dX2_register_14 : decode cX2_register 14 = .ok (.daload, 1) := by decide +kernel
theorem dX2_register_15 : decode cX2_register 15 = .ok (.dreturn, 1) := by decide +kernel
theorem dL_power_0 : decode cL_power 0 = .ok (.aload 4, 2) := by decide +kernel
theorem dL_power_2 : decode cL_power 2 = .ok (.iconst 0, 1) := by decide +kernel
theorem dL_power_3 : decode cL_power 3 = .ok (.aload_n 0, 1) := by decide +kernel
theorem dL_power_4 : decode cL_power 4 = .ok (.iload_n 1, 1) := by decide +kernel
theorem dL_power_5 : decode cL_power 5 = .ok (.iload_n 2, 1) := by decide +kernel
theorem dL_power_6 : decode cL_power 6 = .ok (.iload_n 3, 1) := by decide +kernel
theorem dL_power_7 : decode cL_power 7 = .ok (.invokevirtual 56, 3) := by decide +kernel
theorem dL_power_10 : decode cL_power 10 = .ok (.ifCond .eq 7, 3) := by decide +kernel
theorem dL_power_13 : decode cL_power 13 = .ok (.lconst 1, 1) := by decide +kernel
theorem dL_power_14 : decode cL_power 14 = .ok (.goto 4, 3) := by decide +kernel
theorem dL_power_17 : decode cL_power 17 = .ok (.lconst 0, 1) := by decide +kernel
theorem dL_power_18 : decode cL_power 18 = .ok (.lastore, 1) := by decide +kernel
theorem dL_power_19 : decode cL_power 19 = .ok (.goto 7, 3) := by decide +kernel
theorem dL_power_22 : decode cL_power 22 = .ok (.astore 5, 2) := by decide +kernel
theorem dL_power_24 : decode cL_power 24 = .ok (.iconst 1, 1) := by decide +kernel
theorem dL_power_25 : decode cL_power 25 = .ok (.ireturn, 1) := by decide +kernel
theorem dL_power_26 : decode cL_power 26 = .ok (.iconst 0, 1) := by decide +kernel
theorem dL_power_27 : decode cL_power 27 = .ok (.ireturn, 1) := by decide +kernel
theorem dX2_power_0 : decode cX2_power 0 = .ok (.iload_n 1, 1) := by decide +kernel
theorem dX2_power_1 : decode cX2_power 1 = .ok (.iload_n 2, 1) := by decide +kernel
theorem dX2_power_2 : decode cX2_power 2 = .ok (.invokestatic 43, 3) := by decide +kernel
theorem dX2_power_5 : decode cX2_power 5 = .ok (.ifCond .eq 16, 3) := by decide +kernel
theorem dX2_power_8 : decode cX2_power 8 = .ok (.iload_n 3, 1) := by decide +kernel
theorem dX2_power_9 : decode cX2_power 9 = .ok (.iconst (-1), 1) := by decide +kernel
theorem dX2_power_10 : decode cX2_power 10 = .ok (.iconst 3, 1) := by decide +kernel
theorem dX2_power_11 : decode cX2_power 11 = .ok (.invokestatic 83, 3) := by decide +kernel
theorem dX2_power_14 : decode cX2_power 14 = .ok (.ifCond .eq 7, 3) := by decide +kernel
theorem dX2_power_17 : decode cX2_power 17 = .ok (.iconst 1, 1) := by decide +kernel
theorem dX2_power_18 : decode cX2_power 18 = .ok (.goto 4, 3) := by decide +kernel
theorem dX2_power_21 : decode cX2_power 21 = .ok (.iconst 0, 1) := by decide +kernel
theorem dX2_power_22 : decode cX2_power 22 = .ok (.invokestatic 49, 3) := by decide +kernel
theorem dX2_power_25 : decode cX2_power 25 = .ok (.aload_n 0, 1) := by decide +kernel
theorem dX2_power_26 : decode cX2_power 26 = .ok (.getfield 19, 3) := by decide +kernel
theorem dX2_power_29 : decode cX2_power 29 = .ok (.iload_n 1, 1) := by decide +kernel
theorem dX2_power_30 : decode cX2_power 30 = .ok (.aaload, 1) := by decide +kernel
theorem dX2_power_31 : decode cX2_power 31 = .ok (.iload_n 2, 1) := by decide +kernel
theorem dX2_power_32 : decode cX2_power 32 = .ok (.iload_n 3, 1) := by decide +kernel
theorem dX2_power_33 : decode cX2_power 33 = .ok (.invokevirtual 109, 3) := by decide +kernel
theorem dX2_power_36 : decode cX2_power 36 = .ok (.ireturn, 1) := by decide +kernel
theorem dL_told_0 : decode cL_told 0 = .ok (.aload_n 3, 1) := by decide +kernel
theorem dL_told_1 : decode cL_told 1 = .ok (.iconst 0, 1) := by decide +kernel
theorem dL_told_2 : decode cL_told 2 = .ok (.aload_n 0, 1) := by decide +kernel
theorem dL_told_3 : decode cL_told 3 = .ok (.iload_n 1, 1) := by decide +kernel
theorem dL_told_4 : decode cL_told 4 = .ok (.iload_n 2, 1) := by decide +kernel
theorem dL_told_5 : decode cL_told 5 = .ok (.invokevirtual 60, 3) := by decide +kernel
theorem dL_told_8 : decode cL_told 8 = .ok (.i2l, 1) := by decide +kernel
theorem dL_told_9 : decode cL_told 9 = .ok (.lastore, 1) := by decide +kernel
theorem dL_told_10 : decode cL_told 10 = .ok (.goto 11, 3) := by decide +kernel
theorem dL_told_13 : decode cL_told 13 = .ok (.astore 4, 2) := by decide +kernel
theorem dL_told_15 : decode cL_told 15 = .ok (.iconst 1, 1) := by decide +kernel
theorem dL_told_16 : decode cL_told 16 = .ok (.ireturn, 1) := by decide +kernel
theorem dL_told_17 : decode cL_told 17 = .ok (.astore 4, 2) := by decide +kernel
theorem dL_told_19 : decode cL_told 19 = .ok (.iconst 2, 1) := by decide +kernel
theorem dL_told_20 : decode cL_told 20 = .ok (.ireturn, 1) := by decide +kernel
theorem dL_told_21 : decode cL_told 21 = .ok (.iconst 0, 1) := by decide +kernel
theorem dL_told_22 : decode cL_told 22 = .ok (.ireturn, 1) := by decide +kernel
theorem dX2_told_0 : decode cX2_told 0 = .ok (.iload_n 2, 1) := by decide +kernel
theorem dX2_told_1 : decode cX2_told 1 = .ok (.iconst 0, 1) := by decide +kernel
theorem dX2_told_2 : decode cX2_told 2 = .ok (.iconst 4, 1) := by decide +kernel
theorem dX2_told_3 : decode cX2_told 3 = .ok (.invokestatic 83, 3) := by decide +kernel
theorem dX2_told_6 : decode cX2_told 6 = .ok (.invokestatic 39, 3) := by decide +kernel
theorem dX2_told_9 : decode cX2_told 9 = .ok (.iload_n 1, 1) := by decide +kernel
theorem dX2_told_10 : decode cX2_told 10 = .ok (.bipush 8, 2) := by decide +kernel
theorem dX2_told_12 : decode cX2_told 12 = .ok (.invokestatic 46, 3) := by decide +kernel
theorem dX2_told_15 : decode cX2_told 15 = .ok (.invokestatic 49, 3) := by decide +kernel
theorem dX2_told_18 : decode cX2_told 18 = .ok (.aload_n 0, 1) := by decide +kernel
theorem dX2_told_19 : decode cX2_told 19 = .ok (.getfield 26, 3) := by decide +kernel
theorem dX2_told_22 : decode cX2_told 22 = .ok (.iload_n 1, 1) := by decide +kernel
theorem dX2_told_23 : decode cX2_told 23 = .ok (.aaload, 1) := by decide +kernel
theorem dX2_told_24 : decode cX2_told 24 = .ok (.iload_n 2, 1) := by decide +kernel
theorem dX2_told_25 : decode cX2_told 25 = .ok (.invokevirtual 112, 3) := by decide +kernel
theorem dX2_told_28 : decode cX2_told 28 = .ok (.ireturn, 1) := by decide +kernel
theorem dX0_tell_0 : decode cX0_tell 0 = .ok (.iload_n 1, 1) := by decide +kernel
theorem dX0_tell_1 : decode cX0_tell 1 = .ok (.tableswitch 59 0 3 #[31, 36, 41, 54], 31) := by decide +kernel
theorem dX0_tell_32 : decode cX0_tell 32 = .ok (.aload_n 0, 1) := by decide +kernel
theorem dX0_tell_33 : decode cX0_tell 33 = .ok (.getfield 9, 3) := by decide +kernel
theorem dX0_tell_36 : decode cX0_tell 36 = .ok (.ireturn, 1) := by decide +kernel
theorem dX0_tell_37 : decode cX0_tell 37 = .ok (.aload_n 0, 1) := by decide +kernel
theorem dX0_tell_38 : decode cX0_tell 38 = .ok (.getfield 28, 3) := by decide +kernel
theorem dX0_tell_41 : decode cX0_tell 41 = .ok (.ireturn, 1) := by decide +kernel
theorem dX0_tell_42 : decode cX0_tell 42 = .ok (.aload_n 0, 1) := by decide +kernel
theorem dX0_tell_43 : decode cX0_tell 43 = .ok (.getfield 47, 3) := by decide +kernel
theorem dX0_tell_46 : decode cX0_tell 46 = .ok (.ifCond .eq 7, 3) := by decide +kernel
theorem dX0_tell_49 : decode cX0_tell 49 = .ok (.iconst 1, 1) := by decide +kernel
theorem dX0_tell_50 : decode cX0_tell 50 = .ok (.goto 4, 3) := by decide +kernel
theorem dX0_tell_53 : decode cX0_tell 53 = .ok (.iconst 0, 1) := by decide +kernel
theorem dX0_tell_54 : decode cX0_tell 54 = .ok (.ireturn, 1) := by decide +kernel
theorem dX0_tell_55 : decode cX0_tell 55 = .ok (.aload_n 0, 1) := by decide +kernel
theorem dX0_tell_56 : decode cX0_tell 56 = .ok (.getfield 41, 3) := by decide +kernel
theorem dX0_tell_59 : decode cX0_tell 59 = .ok (.ireturn, 1) := by decide +kernel
theorem dX0_tell_60 : decode cX0_tell 60 = .ok (.aload_n 0, 1) := by decide +kernel
theorem dX0_tell_61 : decode cX0_tell 61 = .ok (.getfield 44, 3) := by decide +kernel
theorem dX0_tell_64 : decode cX0_tell 64 = .ok (.ireturn, 1) := by decide +kernel
theorem dL_count_0 : decode cL_count 0 = .ok (.aload_n 2, 1) := by decide +kernel
theorem dL_count_1 : decode cL_count 1 = .ok (.iconst 0, 1) := by decide +kernel
theorem dL_count_2 : decode cL_count 2 = .ok (.aload_n 0, 1) := by decide +kernel
theorem dL_count_3 : decode cL_count 3 = .ok (.iload_n 1, 1) := by decide +kernel
theorem dL_count_4 : decode cL_count 4 = .ok (.invokevirtual 64, 3) := by decide +kernel
theorem dL_count_7 : decode cL_count 7 = .ok (.i2l, 1) := by decide +kernel
theorem dL_count_8 : decode cL_count 8 = .ok (.lastore, 1) := by decide +kernel
theorem dL_count_9 : decode cL_count 9 = .ok (.goto 6, 3) := by decide +kernel
theorem dL_count_12 : decode cL_count 12 = .ok (.astore_n 3, 1) := by decide +kernel
theorem dL_count_13 : decode cL_count 13 = .ok (.iconst 1, 1) := by decide +kernel
theorem dL_count_14 : decode cL_count 14 = .ok (.ireturn, 1) := by decide +kernel
theorem dL_count_15 : decode cL_count 15 = .ok (.iconst 0, 1) := by decide +kernel
end
section
/-! decode rows -/
theorem dL_count_16 : decode cL_count 16 = .ok (.ireturn, 1) := by decide +kernel
theorem dX2_count_0 : decode cX2_count 0 = .ok (.iload_n 1, 1) := by decide +kernel
theorem dX2_count_1 : decode cX2_count 1 = .ok (.iconst 0, 1) := by decide +kernel
theorem dX2_count_2 : decode cX2_count 2 = .ok (.iconst 3, 1) := by decide +kernel
theorem dX2_count_3 : decode cX2_count 3 = .ok (.invokestatic 83, 3) := by decide +kernel
theorem dX2_count_6 : decode cX2_count 6 = .ok (.invokestatic 39, 3) := by decide +kernel
theorem dX2_count_9 : decode cX2_count 9 = .ok (.iload_n 1, 1) := by decide +kernel
theorem dX2_count_10 : decode cX2_count 10 = .ok (.tableswitch 49 0 2 #[26, 31, 44], 26) := by decide +kernel
theorem dX2_count_36 : decode cX2_count 36 = .ok (.aload_n 0, 1) := by decide +kernel
theorem dX2_count_37 : decode cX2_count 37 = .ok (.getfield 106, 3) := by decide +kernel
theorem dX2_count_40 : decode cX2_count 40 = .ok (.ireturn, 1) := by decide +kernel
theorem dX2_count_41 : decode cX2_count 41 = .ok (.aload_n 0, 1) := by decide +kernel
theorem dX2_count_42 : decode cX2_count 42 = .ok (.invokevirtual 87, 3) := by decide +kernel
theorem dX2_count_45 : decode cX2_count 45 = .ok (.ifCond .eq 7, 3) := by decide +kernel
theorem dX2_count_48 : decode cX2_count 48 = .ok (.iconst 1, 1) := by decide +kernel
theorem dX2_count_49 : decode cX2_count 49 = .ok (.goto 4, 3) := by decide +kernel
theorem dX2_count_52 : decode cX2_count 52 = .ok (.iconst 0, 1) := by decide +kernel
theorem dX2_count_53 : decode cX2_count 53 = .ok (.ireturn, 1) := by decide +kernel
theorem dX2_count_54 : decode cX2_count 54 = .ok (.aload_n 0, 1) := by decide +kernel
theorem dX2_count_55 : decode cX2_count 55 = .ok (.invokevirtual 116, 3) := by decide +kernel
theorem dX2_count_58 : decode cX2_count 58 = .ok (.ireturn, 1) := by decide +kernel
theorem dX2_count_59 : decode cX2_count 59 = .ok (.aload_n 0, 1) := by decide +kernel
theorem dX2_count_60 : decode cX2_count 60 = .ok (.getfield 120, 3) := by decide +kernel
theorem dX2_count_63 : decode cX2_count 63 = .ok (.ireturn, 1) := by decide +kernel
theorem dX2_bitsOn_0 : decode cX2_bitsOn 0 = .ok (.iconst 0, 1) := by decide +kernel
theorem dX2_bitsOn_1 : decode cX2_bitsOn 1 = .ok (.istore_n 1, 1) := by decide +kernel
theorem dX2_bitsOn_2 : decode cX2_bitsOn 2 = .ok (.iconst 0, 1) := by decide +kernel
theorem dX2_bitsOn_3 : decode cX2_bitsOn 3 = .ok (.istore_n 2, 1) := by decide +kernel
theorem dX2_bitsOn_4 : decode cX2_bitsOn 4 = .ok (.iload_n 2, 1) := by decide +kernel
theorem dX2_bitsOn_5 : decode cX2_bitsOn 5 = .ok (.bipush 24, 2) := by decide +kernel
theorem dX2_bitsOn_7 : decode cX2_bitsOn 7 = .ok (.if_icmp .ge 21, 3) := by decide +kernel
theorem dX2_bitsOn_10 : decode cX2_bitsOn 10 = .ok (.aload_n 0, 1) := by decide +kernel
theorem dX2_bitsOn_11 : decode cX2_bitsOn 11 = .ok (.getfield 9, 3) := by decide +kernel
theorem dX2_bitsOn_14 : decode cX2_bitsOn 14 = .ok (.iload_n 2, 1) := by decide +kernel
theorem dX2_bitsOn_15 : decode cX2_bitsOn 15 = .ok (.baload, 1) := by decide +kernel
theorem dX2_bitsOn_16 : decode cX2_bitsOn 16 = .ok (.ifCond .eq 6, 3) := by decide +kernel
theorem dX2_bitsOn_19 : decode cX2_bitsOn 19 = .ok (.iinc 1 1, 3) := by decide +kernel
theorem dX2_bitsOn_22 : decode cX2_bitsOn 22 = .ok (.iinc 2 1, 3) := by decide +kernel
theorem dX2_bitsOn_25 : decode cX2_bitsOn 25 = .ok (.goto (-21), 3) := by decide +kernel
theorem dX2_bitsOn_28 : decode cX2_bitsOn 28 = .ok (.iload_n 1, 1) := by decide +kernel
theorem dX2_bitsOn_29 : decode cX2_bitsOn 29 = .ok (.ireturn, 1) := by decide +kernel
theorem dX3_init_0 : decode cX3_init 0 = .ok (.aload_n 0, 1) := by decide +kernel
theorem dX3_init_1 : decode cX3_init 1 = .ok (.invokespecial 1, 3) := by decide +kernel
theorem dX3_init_4 : decode cX3_init 4 = .ok (.aload_n 0, 1) := by decide +kernel
theorem dX3_init_5 : decode cX3_init 5 = .ok (.bipush 24, 2) := by decide +kernel
theorem dX3_init_7 : decode cX3_init 7 = .ok (.newarray .boolean, 2) := by decide +kernel
theorem dX3_init_9 : decode cX3_init 9 = .ok (.putfield 7, 3) := by decide +kernel
theorem dX3_init_12 : decode cX3_init 12 = .ok (.aload_n 0, 1) := by decide +kernel
theorem dX3_init_13 : decode cX3_init 13 = .ok (.bipush 60, 2) := by decide +kernel
theorem dX3_init_15 : decode cX3_init 15 = .ok (.newarray .boolean, 2) := by decide +kernel
theorem dX3_init_17 : decode cX3_init 17 = .ok (.putfield 13, 3) := by decide +kernel
theorem dX3_init_20 : decode cX3_init 20 = .ok (.aload_n 0, 1) := by decide +kernel
theorem dX3_init_21 : decode cX3_init 21 = .ok (.bipush 40, 2) := by decide +kernel
theorem dX3_init_23 : decode cX3_init 23 = .ok (.newarray .boolean, 2) := by decide +kernel
theorem dX3_init_25 : decode cX3_init 25 = .ok (.putfield 16, 3) := by decide +kernel
theorem dX3_init_28 : decode cX3_init 28 = .ok (.aload_n 0, 1) := by decide +kernel
theorem dX3_init_29 : decode cX3_init 29 = .ok (.bipush 60, 2) := by decide +kernel
theorem dX3_init_31 : decode cX3_init 31 = .ok (.newarray .boolean, 2) := by decide +kernel
theorem dX3_init_33 : decode cX3_init 33 = .ok (.putfield 19, 3) := by decide +kernel
theorem dX3_init_36 : decode cX3_init 36 = .ok (.aload_n 0, 1) := by decide +kernel
theorem dX3_init_37 : decode cX3_init 37 = .ok (.iconst 5, 1) := by decide +kernel
theorem dX3_init_38 : decode cX3_init 38 = .ok (.newarray .boolean, 2) := by decide +kernel
theorem dX3_init_40 : decode cX3_init 40 = .ok (.putfield 22, 3) := by decide +kernel
theorem dX3_init_43 : decode cX3_init 43 = .ok (.aload_n 0, 1) := by decide +kernel
theorem dX3_init_44 : decode cX3_init 44 = .ok (.bipush 8, 2) := by decide +kernel
theorem dX3_init_46 : decode cX3_init 46 = .ok (.newarray .boolean, 2) := by decide +kernel
theorem dX3_init_48 : decode cX3_init 48 = .ok (.putfield 25, 3) := by decide +kernel
theorem dX3_init_51 : decode cX3_init 51 = .ok (.aload_n 0, 1) := by decide +kernel
theorem dX3_init_52 : decode cX3_init 52 = .ok (.bipush 8, 2) := by decide +kernel
theorem dX3_init_54 : decode cX3_init 54 = .ok (.newarray .boolean, 2) := by decide +kernel
theorem dX3_init_56 : decode cX3_init 56 = .ok (.putfield 28, 3) := by decide +kernel
theorem dX3_init_59 : decode cX3_init 59 = .ok (.aload_n 0, 1) := by decide +kernel
theorem dX3_init_60 : decode cX3_init 60 = .ok (.iconst 3, 1) := by decide +kernel
theorem dX3_init_61 : decode cX3_init 61 = .ok (.newarray .boolean, 2) := by decide +kernel
theorem dX3_init_63 : decode cX3_init 63 = .ok (.putfield 31, 3) := by decide +kernel
theorem dX3_init_66 : decode cX3_init 66 = .ok (.aload_n 0, 1) := by decide +kernel
theorem dX3_init_67 : decode cX3_init 67 = .ok (.bipush 8, 2) := by decide +kernel
theorem dX3_init_69 : decode cX3_init 69 = .ok (.newarray .double, 2) := by decide +kernel
theorem dX3_init_71 : decode cX3_init 71 = .ok (.putfield 34, 3) := by decide +kernel
theorem dX3_init_74 : decode cX3_init 74 = .ok (.aload_n 0, 1) := by decide +kernel
theorem dX3_init_75 : decode cX3_init 75 = .ok (.bipush 8, 2) := by decide +kernel
theorem dX3_init_77 : decode cX3_init 77 = .ok (.newarray .double, 2) := by decide +kernel
theorem dX3_init_79 : decode cX3_init 79 = .ok (.putfield 38, 3) := by decide +kernel
theorem dX3_init_82 : decode cX3_init 82 = .ok (.aload_n 0, 1) := by decide +kernel
theorem dX3_init_83 : decode cX3_init 83 = .ok (.bipush 8, 2) := by decide +kernel
theorem dX3_init_85 : decode cX3_init 85 = .ok (.newarray .double, 2) := by decide +kernel
theorem dX3_init_87 : decode cX3_init 87 = .ok (.putfield 41, 3) := by decide +kernel
theorem dX3_init_90 : decode cX3_init 90 = .ok (.aload_n 0, 1) := by decide +kernel
theorem dX3_init_91 : decode cX3_init 91 = .ok (.bipush 8, 2) := by decide +kernel
theorem dX3_init_93 : decode cX3_init 93 = .ok (.newarray .double, 2) := by decide +kernel
theorem dX3_init_95 : decode cX3_init 95 = .ok (.putfield 44, 3) := by decide +kernel
theorem dX3_init_98 : decode cX3_init 98 = .ok (.aload_n 0, 1) := by decide +kernel
theorem dX3_init_99 : decode cX3_init 99 = .ok (.bipush 60, 2) := by decide +kernel
theorem dX3_init_101 : decode cX3_init 101 = .ok (.newarray .int, 2) := by decide +kernel
theorem dX3_init_103 : decode cX3_init 103 = .ok (.putfield 47, 3) := by decide +kernel
theorem dX3_init_106 : decode cX3_init 106 = .ok (.aload_n 0, 1) := by decide +kernel
theorem dX3_init_107 : decode cX3_init 107 = .ok (.bipush 60, 2) := by decide +kernel
theorem dX3_init_109 : decode cX3_init 109 = .ok (.newarray .int, 2) := by decide +kernel
theorem dX3_init_111 : decode cX3_init 111 = .ok (.putfield 51, 3) := by decide +kernel
theorem dX3_init_114 : decode cX3_init 114 = .ok (.aload_n 0, 1) := by decide +kernel
theorem dX3_init_115 : decode cX3_init 115 = .ok (.bipush 15, 2) := by decide +kernel
theorem dX3_init_117 : decode cX3_init 117 = .ok (.newarray .int, 2) := by decide +kernel
theorem dX3_init_119 : decode cX3_init 119 = .ok (.putfield 54, 3) := by decide +kernel
theorem dX3_init_122 : decode cX3_init 122 = .ok (.aload_n 0, 1) := by decide +kernel
theorem dX3_init_123 : decode cX3_init 123 = .ok (.bipush 15, 2) := by decide +kernel
theorem dX3_init_125 : decode cX3_init 125 = .ok (.newarray .int, 2) := by decide +kernel
theorem dX3_init_127 : decode cX3_init 127 = .ok (.putfield 57, 3) := by decide +kernel
theorem dX3_init_130 : decode cX3_init 130 = .ok (.aload_n 0, 1) := by decide +kernel
theorem dX3_init_131 : decode cX3_init 131 = .ok (.bipush 8, 2) := by decide +kernel
theorem dX3_init_133 : decode cX3_init 133 = .ok (.newarray .int, 2) := by decide +kernel
theorem dX3_init_135 : decode cX3_init 135 = .ok (.putfield 60, 3) := by decide +kernel
theorem dX3_init_138 : decode cX3_init 138 = .ok (.aload_n 0, 1) := by decide +kernel
theorem dX3_init_139 : decode cX3_init 139 = .ok (.bipush 8, 2) := by decide +kernel
theorem dX3_init_141 : decode cX3_init 141 = .ok (.newarray .int, 2) := by decide +kernel
theorem dX3_init_143 : decode cX3_init 143 = .ok (.putfield 63, 3) := by decide +kernel
theorem dX3_init_146 : decode cX3_init 146 = .ok (.aload_n 0, 1) := by decide +kernel
theorem dX3_init_147 : decode cX3_init 147 = .ok (.bipush 8, 2) := by decide +kernel
theorem dX3_init_149 : decode cX3_init 149 = .ok (.newarray .int, 2) := by decide +kernel
theorem dX3_init_151 : decode cX3_init 151 = .ok (.putfield 66, 3) := by decide +kernel
theorem dX3_init_154 : decode cX3_init 154 = .ok (.aload_n 0, 1) := by decide +kernel
theorem dX3_init_155 : decode cX3_init 155 = .ok (.bipush 8, 2) := by decide +kernel
theorem dX3_init_157 : decode cX3_init 157 = .ok (.newarray .int, 2) := by decide +kernel
theorem dX3_init_159 : decode cX3_init 159 = .ok (.putfield 69, 3) := by decide +kernel
theorem dX3_init_162 : decode cX3_init 162 = .ok (.aload_n 0, 1) := by decide +kernel
theorem dX3_init_163 : decode cX3_init 163 = .ok (.bipush 8, 2) := by decide +kernel
theorem dX3_init_165 : decode cX3_init 165 = .ok (.newarray .int, 2) := by decide +kernel
theorem dX3_init_167 : decode cX3_init 167 = .ok (.putfield 72, 3) := by decide +kernel
theorem dX3_init_170 : decode cX3_init 170 = .ok (.aload_n 0, 1) := by decide +kernel
theorem dX3_init_171 : decode cX3_init 171 = .ok (.bipush 8, 2) := by decide +kernel
theorem dX3_init_173 : decode cX3_init 173 = .ok (.newarray .int, 2) := by decide +kernel
theorem dX3_init_175 : decode cX3_init 175 = .ok (.putfield 75, 3) := by decide +kernel
theorem dX3_init_178 : decode cX3_init 178 = .ok (.aload_n 0, 1) := by decide +kernel
theorem dX3_init_179 : decode cX3_init 179 = .ok (.bipush 8, 2) := by decide +kernel
theorem dX3_init_181 : decode cX3_init 181 = .ok (.newarray .int, 2) := by decide +kernel
theorem dX3_init_183 : decode cX3_init 183 = .ok (.putfield 78, 3) := by decide +kernel
theorem dX3_init_186 : decode cX3_init 186 = .ok (.aload_n 0, 1) := by decide +kernel
theorem dX3_init_187 : decode cX3_init 187 = .ok (.iconst (-1), 1) := by decide +kernel
theorem dX3_init_188 : decode cX3_init 188 = .ok (.putfield 81, 3) := by decide +kernel
theorem dX3_init_191 : decode cX3_init 191 = .ok (.return_, 1) := by decide +kernel
theorem dX3_thrown_0 : decode cX3_thrown 0 = .ok (.aload_n 0, 1) := by decide +kernel
theorem dX3_thrown_1 : decode cX3_thrown 1 = .ok (.getfield 85, 3) := by decide +kernel
theorem dX3_thrown_4 : decode cX3_thrown 4 = .ok (.ireturn, 1) := by decide +kernel
theorem dX3_cell_0 : decode cX3_cell 0 = .ok (.iload 4, 2) := by decide +kernel
theorem dX3_cell_2 : decode cX3_cell 2 = .ok (.iconst 0, 1) := by decide +kernel
theorem dX3_cell_3 : decode cX3_cell 3 = .ok (.iconst 5, 1) := by decide +kernel
theorem dX3_cell_4 : decode cX3_cell 4 = .ok (.invokestatic 88, 3) := by decide +kernel
theorem dX3_cell_7 : decode cX3_cell 7 = .ok (.ifCond .eq 20, 3) := by decide +kernel
theorem dX3_cell_10 : decode cX3_cell 10 = .ok (.iload 4, 2) := by decide +kernel
theorem dX3_cell_12 : decode cX3_cell 12 = .ok (.iconst 1, 1) := by decide +kernel
theorem dX3_cell_13 : decode cX3_cell 13 = .ok (.if_icmp .le 20, 3) := by decide +kernel
theorem dX3_cell_16 : decode cX3_cell 16 = .ok (.iload 5, 2) := by decide +kernel
theorem dX3_cell_18 : decode cX3_cell 18 = .ok (.iconst 0, 1) := by decide +kernel
theorem dX3_cell_19 : decode cX3_cell 19 = .ok (.bipush 23, 2) := by decide +kernel
theorem dX3_cell_21 : decode cX3_cell 21 = .ok (.invokestatic 88, 3) := by decide +kernel
theorem dX3_cell_24 : decode cX3_cell 24 = .ok (.ifCond .ne 9, 3) := by decide +kernel
theorem dX3_cell_27 : decode cX3_cell 27 = .ok (.aload_n 0, 1) := by decide +kernel
theorem dX3_cell_28 : decode cX3_cell 28 = .ok (.iconst 1, 1) := by decide +kernel
theorem dX3_cell_29 : decode cX3_cell 29 = .ok (.invokevirtual 92, 3) := by decide +kernel
theorem dX3_cell_32 : decode cX3_cell 32 = .ok (.ireturn, 1) := by decide +kernel
theorem dX3_cell_33 : decode cX3_cell 33 = .ok (.iload_n 1, 1) := by decide +kernel
theorem dX3_cell_34 : decode cX3_cell 34 = .ok (.iconst 0, 1) := by decide +kernel
theorem dX3_cell_35 : decode cX3_cell 35 = .ok (.iconst 4, 1) := by decide +kernel
theorem dX3_cell_36 : decode cX3_cell 36 = .ok (.invokestatic 88, 3) := by decide +kernel
theorem dX3_cell_39 : decode cX3_cell 39 = .ok (.ifCond .eq 21, 3) := by decide +kernel
theorem dX3_cell_42 : decode cX3_cell 42 = .ok (.iload_n 2, 1) := by decide +kernel
theorem dX3_cell_43 : decode cX3_cell 43 = .ok (.iconst 0, 1) := by decide +kernel
theorem dX3_cell_44 : decode cX3_cell 44 = .ok (.iconst 2, 1) := by decide +kernel
theorem dX3_cell_45 : decode cX3_cell 45 = .ok (.invokestatic 88, 3) := by decide +kernel
theorem dX3_cell_48 : decode cX3_cell 48 = .ok (.ifCond .eq 12, 3) := by decide +kernel
theorem dX3_cell_51 : decode cX3_cell 51 = .ok (.iload_n 3, 1) := by decide +kernel
theorem dX3_cell_52 : decode cX3_cell 52 = .ok (.iconst 0, 1) := by decide +kernel
theorem dX3_cell_53 : decode cX3_cell 53 = .ok (.iconst 3, 1) := by decide +kernel
theorem dX3_cell_54 : decode cX3_cell 54 = .ok (.invokestatic 88, 3) := by decide +kernel
theorem dX3_cell_57 : decode cX3_cell 57 = .ok (.ifCond .ne 9, 3) := by decide +kernel
theorem dX3_cell_60 : decode cX3_cell 60 = .ok (.aload_n 0, 1) := by decide +kernel
theorem dX3_cell_61 : decode cX3_cell 61 = .ok (.iconst 2, 1) := by decide +kernel
theorem dX3_cell_62 : decode cX3_cell 62 = .ok (.invokevirtual 92, 3) := by decide +kernel
theorem dX3_cell_65 : decode cX3_cell 65 = .ok (.ireturn, 1) := by decide +kernel
theorem dX3_cell_66 : decode cX3_cell 66 = .ok (.aload_n 0, 1) := by decide +kernel
theorem dX3_cell_67 : decode cX3_cell 67 = .ok (.iconst 0, 1) := by decide +kernel
theorem dX3_cell_68 : decode cX3_cell 68 = .ok (.putfield 85, 3) := by decide +kernel
theorem dX3_cell_71 : decode cX3_cell 71 = .ok (.iload_n 1, 1) := by decide +kernel
theorem dX3_cell_72 : decode cX3_cell 72 = .ok (.iload_n 2, 1) := by decide +kernel
theorem dX3_cell_73 : decode cX3_cell 73 = .ok (.iload_n 3, 1) := by decide +kernel
theorem dX3_cell_74 : decode cX3_cell 74 = .ok (.invokestatic 96, 3) := by decide +kernel
theorem dX3_cell_77 : decode cX3_cell 77 = .ok (.istore 6, 2) := by decide +kernel
theorem dX3_cell_79 : decode cX3_cell 79 = .ok (.aload_n 0, 1) := by decide +kernel
theorem dX3_cell_80 : decode cX3_cell 80 = .ok (.getfield 47, 3) := by decide +kernel
theorem dX3_cell_83 : decode cX3_cell 83 = .ok (.iload 6, 2) := by decide +kernel
theorem dX3_cell_85 : decode cX3_cell 85 = .ok (.iaload, 1) := by decide +kernel
theorem dX3_cell_86 : decode cX3_cell 86 = .ok (.istore 7, 2) := by decide +kernel
theorem dX3_cell_88 : decode cX3_cell 88 = .ok (.aload_n 0, 1) := by decide +kernel
theorem dX3_cell_89 : decode cX3_cell 89 = .ok (.getfield 47, 3) := by decide +kernel
theorem dX3_cell_92 : decode cX3_cell 92 = .ok (.iload 6, 2) := by decide +kernel
theorem dX3_cell_94 : decode cX3_cell 94 = .ok (.iload 4, 2) := by decide +kernel
theorem dX3_cell_96 : decode cX3_cell 96 = .ok (.iastore, 1) := by decide +kernel
theorem dX3_cell_97 : decode cX3_cell 97 = .ok (.aload_n 0, 1) := by decide +kernel
theorem dX3_cell_98 : decode cX3_cell 98 = .ok (.getfield 51, 3) := by decide +kernel
theorem dX3_cell_101 : decode cX3_cell 101 = .ok (.iload 6, 2) := by decide +kernel
theorem dX3_cell_103 : decode cX3_cell 103 = .ok (.iload 4, 2) := by decide +kernel
theorem dX3_cell_105 : decode cX3_cell 105 = .ok (.iconst 1, 1) := by decide +kernel
theorem dX3_cell_106 : decode cX3_cell 106 = .ok (.if_icmp .le 8, 3) := by decide +kernel
theorem dX3_cell_109 : decode cX3_cell 109 = .ok (.iload 5, 2) := by decide +kernel
theorem dX3_cell_111 : decode cX3_cell 111 = .ok (.goto 4, 3) := by decide +kernel
theorem dX3_cell_114 : decode cX3_cell 114 = .ok (.iconst 0, 1) := by decide +kernel
theorem dX3_cell_115 : decode cX3_cell 115 = .ok (.iastore, 1) := by decide +kernel
theorem dX3_cell_116 : decode cX3_cell 116 = .ok (.aload_n 0, 1) := by decide +kernel
theorem dX3_cell_117 : decode cX3_cell 117 = .ok (.getfield 13, 3) := by decide +kernel
theorem dX3_cell_120 : decode cX3_cell 120 = .ok (.iload 6, 2) := by decide +kernel
theorem dX3_cell_122 : decode cX3_cell 122 = .ok (.iconst 0, 1) := by decide +kernel
theorem dX3_cell_123 : decode cX3_cell 123 = .ok (.bastore, 1) := by decide +kernel
theorem dX3_cell_124 : decode cX3_cell 124 = .ok (.iload 7, 2) := by decide +kernel
theorem dX3_cell_126 : decode cX3_cell 126 = .ok (.ireturn, 1) := by decide +kernel
theorem dX3_in_0 : decode cX3_in 0 = .ok (.iload_n 0, 1) := by decide +kernel
theorem dX3_in_1 : decode cX3_in 1 = .ok (.iload_n 1, 1) := by decide +kernel
theorem dX3_in_2 : decode cX3_in 2 = .ok (.if_icmp .lt 12, 3) := by decide +kernel
theorem dX3_in_5 : decode cX3_in 5 = .ok (.iload_n 0, 1) := by decide +kernel
theorem dX3_in_6 : decode cX3_in 6 = .ok (.iload_n 2, 1) := by decide +kernel
theorem dX3_in_7 : decode cX3_in 7 = .ok (.if_icmp .gt 7, 3) := by decide +kernel
theorem dX3_in_10 : decode cX3_in 10 = .ok (.iconst 1, 1) := by decide +kernel
theorem dX3_in_11 : decode cX3_in 11 = .ok (.goto 4, 3) := by decide +kernel
theorem dX3_in_14 : decode cX3_in 14 = .ok (.iconst 0, 1) := by decide +kernel
theorem dX3_in_15 : decode cX3_in 15 = .ok (.ireturn, 1) := by decide +kernel
theorem dX3_fail_0 : decode cX3_fail 0 = .ok (.aload_n 0, 1) := by decide +kernel
theorem dX3_fail_1 : decode cX3_fail 1 = .ok (.iload_n 1, 1) := by decide +kernel
theorem dX3_fail_2 : decode cX3_fail 2 = .ok (.putfield 85, 3) := by decide +kernel
theorem dX3_fail_5 : decode cX3_fail 5 = .ok (.iconst 0, 1) := by decide +kernel
theorem dX3_fail_6 : decode cX3_fail 6 = .ok (.ireturn, 1) := by decide +kernel
theorem dX3_at_0 : decode cX3_at 0 = .ok (.bipush 12, 2) := by decide +kernel
theorem dX3_at_2 : decode cX3_at 2 = .ok (.iload_n 0, 1) := by decide +kernel
theorem dX3_at_3 : decode cX3_at 3 = .ok (.imul, 1) := by decide +kernel
theorem dX3_at_4 : decode cX3_at 4 = .ok (.iconst 4, 1) := by decide +kernel
theorem dX3_at_5 : decode cX3_at 5 = .ok (.iload_n 1, 1) := by decide +kernel
theorem dX3_at_6 : decode cX3_at 6 = .ok (.imul, 1) := by decide +kernel
theorem dX3_at_7 : decode cX3_at 7 = .ok (.iadd, 1) := by decide +kernel
theorem dX3_at_8 : decode cX3_at 8 = .ok (.iload_n 2, 1) := by decide +kernel
theorem dX3_at_9 : decode cX3_at 9 = .ok (.iadd, 1) := by decide +kernel
theorem dX3_at_10 : decode cX3_at 10 = .ok (.ireturn, 1) := by decide +kernel
theorem dX3_link_0 : decode cX3_link 0 = .ok (.aload_n 0, 1) := by decide +kernel
theorem dX3_link_1 : decode cX3_link 1 = .ok (.iload_n 1, 1) := by decide +kernel
theorem dX3_link_2 : decode cX3_link 2 = .ok (.iconst 0, 1) := by decide +kernel
theorem dX3_link_3 : decode cX3_link 3 = .ok (.iconst 4, 1) := by decide +kernel
theorem dX3_link_4 : decode cX3_link 4 = .ok (.invokestatic 88, 3) := by decide +kernel
theorem dX3_link_7 : decode cX3_link 7 = .ok (.ifCond .eq 25, 3) := by decide +kernel
theorem dX3_link_10 : decode cX3_link 10 = .ok (.iload_n 2, 1) := by decide +kernel
theorem dX3_link_11 : decode cX3_link 11 = .ok (.iconst 0, 1) := by decide +kernel
theorem dX3_link_12 : decode cX3_link 12 = .ok (.iconst 1, 1) := by decide +kernel
theorem dX3_link_13 : decode cX3_link 13 = .ok (.invokestatic 88, 3) := by decide +kernel
theorem dX3_link_16 : decode cX3_link 16 = .ok (.ifCond .eq 16, 3) := by decide +kernel
theorem dX3_link_19 : decode cX3_link 19 = .ok (.iload_n 3, 1) := by decide +kernel
theorem dX3_link_20 : decode cX3_link 20 = .ok (.iconst 0, 1) := by decide +kernel
theorem dX3_link_21 : decode cX3_link 21 = .ok (.iconst 3, 1) := by decide +kernel
theorem dX3_link_22 : decode cX3_link 22 = .ok (.invokestatic 88, 3) := by decide +kernel
theorem dX3_link_25 : decode cX3_link 25 = .ok (.ifCond .eq 7, 3) := by decide +kernel
theorem dX3_link_28 : decode cX3_link 28 = .ok (.iconst 0, 1) := by decide +kernel
theorem dX3_link_29 : decode cX3_link 29 = .ok (.goto 4, 3) := by decide +kernel
theorem dX3_link_32 : decode cX3_link 32 = .ok (.iconst 1, 1) := by decide +kernel
theorem dX3_link_33 : decode cX3_link 33 = .ok (.putfield 85, 3) := by decide +kernel
theorem dX3_link_36 : decode cX3_link 36 = .ok (.aload_n 0, 1) := by decide +kernel
theorem dX3_link_37 : decode cX3_link 37 = .ok (.getfield 85, 3) := by decide +kernel
theorem dX3_link_40 : decode cX3_link 40 = .ok (.ifCond .le 5, 3) := by decide +kernel
theorem dX3_link_43 : decode cX3_link 43 = .ok (.iconst 0, 1) := by decide +kernel
theorem dX3_link_44 : decode cX3_link 44 = .ok (.ireturn, 1) := by decide +kernel
theorem dX3_link_45 : decode cX3_link 45 = .ok (.bipush 8, 2) := by decide +kernel
theorem dX3_link_47 : decode cX3_link 47 = .ok (.iload_n 1, 1) := by decide +kernel
theorem dX3_link_48 : decode cX3_link 48 = .ok (.imul, 1) := by decide +kernel
theorem dX3_link_49 : decode cX3_link 49 = .ok (.iconst 4, 1) := by decide +kernel
theorem dX3_link_50 : decode cX3_link 50 = .ok (.iload_n 2, 1) := by decide +kernel
theorem dX3_link_51 : decode cX3_link 51 = .ok (.imul, 1) := by decide +kernel
theorem dX3_link_52 : decode cX3_link 52 = .ok (.iadd, 1) := by decide +kernel
theorem dX3_link_53 : decode cX3_link 53 = .ok (.iload_n 3, 1) := by decide +kernel
theorem dX3_link_54 : decode cX3_link 54 = .ok (.iadd, 1) := by decide +kernel
theorem dX3_link_55 : decode cX3_link 55 = .ok (.istore 5, 2) := by decide +kernel
theorem dX3_link_57 : decode cX3_link 57 = .ok (.aload_n 0, 1) := by decide +kernel
theorem dX3_link_58 : decode cX3_link 58 = .ok (.getfield 16, 3) := by decide +kernel
theorem dX3_link_61 : decode cX3_link 61 = .ok (.iload 5, 2) := by decide +kernel
theorem dX3_link_63 : decode cX3_link 63 = .ok (.baload, 1) := by decide +kernel
theorem dX3_link_64 : decode cX3_link 64 = .ok (.istore 6, 2) := by decide +kernel
theorem dX3_link_66 : decode cX3_link 66 = .ok (.aload_n 0, 1) := by decide +kernel
theorem dX3_link_67 : decode cX3_link 67 = .ok (.getfield 16, 3) := by decide +kernel
theorem dX3_link_70 : decode cX3_link 70 = .ok (.iload 5, 2) := by decide +kernel
theorem dX3_link_72 : decode cX3_link 72 = .ok (.iload 4, 2) := by decide +kernel
theorem dX3_link_74 : decode cX3_link 74 = .ok (.bastore, 1) := by decide +kernel
theorem dX3_link_75 : decode cX3_link 75 = .ok (.iload 6, 2) := by decide +kernel
theorem dX3_link_77 : decode cX3_link 77 = .ok (.ireturn, 1) := by decide +kernel
theorem dX3_coil_0 : decode cX3_coil 0 = .ok (.iload_n 3, 1) := by decide +kernel
theorem dX3_coil_1 : decode cX3_coil 1 = .ok (.iconst 0, 1) := by decide +kernel
theorem dX3_coil_2 : decode cX3_coil 2 = .ok (.iconst 4, 1) := by decide +kernel
theorem dX3_coil_3 : decode cX3_coil 3 = .ok (.invokestatic 88, 3) := by decide +kernel
theorem dX3_coil_6 : decode cX3_coil 6 = .ok (.ifCond .eq 40, 3) := by decide +kernel
theorem dX3_coil_9 : decode cX3_coil 9 = .ok (.iload_n 3, 1) := by decide +kernel
theorem dX3_coil_10 : decode cX3_coil 10 = .ok (.iconst 4, 1) := by decide +kernel
theorem dX3_coil_11 : decode cX3_coil 11 = .ok (.if_icmp .ne 14, 3) := by decide +kernel
theorem dX3_coil_14 : decode cX3_coil 14 = .ok (.iload 4, 2) := by decide +kernel
theorem dX3_coil_16 : decode cX3_coil 16 = .ok (.iconst 0, 1) := by decide +kernel
theorem dX3_coil_17 : decode cX3_coil 17 = .ok (.bipush 7, 2) := by decide +kernel
theorem dX3_coil_19 : decode cX3_coil 19 = .ok (.invokestatic 88, 3) := by decide +kernel
theorem dX3_coil_22 : decode cX3_coil 22 = .ok (.ifCond .eq 24, 3) := by decide +kernel
theorem dX3_coil_25 : decode cX3_coil 25 = .ok (.iload_n 3, 1) := by decide +kernel
theorem dX3_coil_26 : decode cX3_coil 26 = .ok (.iconst 1, 1) := by decide +kernel
theorem dX3_coil_27 : decode cX3_coil 27 = .ok (.iconst 3, 1) := by decide +kernel
theorem dX3_coil_28 : decode cX3_coil 28 = .ok (.invokestatic 88, 3) := by decide +kernel
theorem dX3_coil_31 : decode cX3_coil 31 = .ok (.ifCond .eq 21, 3) := by decide +kernel
theorem dX3_coil_34 : decode cX3_coil 34 = .ok (.iload 4, 2) := by decide +kernel
theorem dX3_coil_36 : decode cX3_coil 36 = .ok (.bipush 8, 2) := by decide +kernel
theorem dX3_coil_38 : decode cX3_coil 38 = .ok (.bipush 23, 2) := by decide +kernel
theorem dX3_coil_40 : decode cX3_coil 40 = .ok (.invokestatic 88, 3) := by decide +kernel
theorem dX3_coil_43 : decode cX3_coil 43 = .ok (.ifCond .ne 9, 3) := by decide +kernel
theorem dX3_coil_46 : decode cX3_coil 46 = .ok (.aload_n 0, 1) := by decide +kernel
theorem dX3_coil_47 : decode cX3_coil 47 = .ok (.iconst 1, 1) := by decide +kernel
theorem dX3_coil_48 : decode cX3_coil 48 = .ok (.invokevirtual 92, 3) := by decide +kernel
theorem dX3_coil_51 : decode cX3_coil 51 = .ok (.ireturn, 1) := by decide +kernel
theorem dX3_coil_52 : decode cX3_coil 52 = .ok (.iload_n 1, 1) := by decide +kernel
theorem dX3_coil_53 : decode cX3_coil 53 = .ok (.iconst 0, 1) := by decide +kernel
theorem dX3_coil_54 : decode cX3_coil 54 = .ok (.iconst 4, 1) := by decide +kernel
theorem dX3_coil_55 : decode cX3_coil 55 = .ok (.invokestatic 88, 3) := by decide +kernel
theorem dX3_coil_58 : decode cX3_coil 58 = .ok (.ifCond .eq 12, 3) := by decide +kernel
theorem dX3_coil_61 : decode cX3_coil 61 = .ok (.iload_n 2, 1) := by decide +kernel
theorem dX3_coil_62 : decode cX3_coil 62 = .ok (.iconst 0, 1) := by decide +kernel
theorem dX3_coil_63 : decode cX3_coil 63 = .ok (.iconst 2, 1) := by decide +kernel
theorem dX3_coil_64 : decode cX3_coil 64 = .ok (.invokestatic 88, 3) := by decide +kernel
theorem dX3_coil_67 : decode cX3_coil 67 = .ok (.ifCond .ne 9, 3) := by decide +kernel
theorem dX3_coil_70 : decode cX3_coil 70 = .ok (.aload_n 0, 1) := by decide +kernel
theorem dX3_coil_71 : decode cX3_coil 71 = .ok (.iconst 2, 1) := by decide +kernel
theorem dX3_coil_72 : decode cX3_coil 72 = .ok (.invokevirtual 92, 3) := by decide +kernel
theorem dX3_coil_75 : decode cX3_coil 75 = .ok (.ireturn, 1) := by decide +kernel
theorem dX3_coil_76 : decode cX3_coil 76 = .ok (.aload_n 0, 1) := by decide +kernel
theorem dX3_coil_77 : decode cX3_coil 77 = .ok (.iconst 0, 1) := by decide +kernel
theorem dX3_coil_78 : decode cX3_coil 78 = .ok (.putfield 85, 3) := by decide +kernel
theorem dX3_coil_81 : decode cX3_coil 81 = .ok (.aload_n 0, 1) := by decide +kernel
theorem dX3_coil_82 : decode cX3_coil 82 = .ok (.getfield 54, 3) := by decide +kernel
theorem dX3_coil_85 : decode cX3_coil 85 = .ok (.iconst 3, 1) := by decide +kernel
theorem dX3_coil_86 : decode cX3_coil 86 = .ok (.iload_n 1, 1) := by decide +kernel
theorem dX3_coil_87 : decode cX3_coil 87 = .ok (.imul, 1) := by decide +kernel
theorem dX3_coil_88 : decode cX3_coil 88 = .ok (.iload_n 2, 1) := by decide +kernel
theorem dX3_coil_89 : decode cX3_coil 89 = .ok (.iadd, 1) := by decide +kernel
theorem dX3_coil_90 : decode cX3_coil 90 = .ok (.iaload, 1) := by decide +kernel
theorem dX3_coil_91 : decode cX3_coil 91 = .ok (.istore 5, 2) := by decide +kernel
theorem dX3_coil_93 : decode cX3_coil 93 = .ok (.aload_n 0, 1) := by decide +kernel
theorem dX3_coil_94 : decode cX3_coil 94 = .ok (.getfield 54, 3) := by decide +kernel
theorem dX3_coil_97 : decode cX3_coil 97 = .ok (.iconst 3, 1) := by decide +kernel
theorem dX3_coil_98 : decode cX3_coil 98 = .ok (.iload_n 1, 1) := by decide +kernel
theorem dX3_coil_99 : decode cX3_coil 99 = .ok (.imul, 1) := by decide +kernel
theorem dX3_coil_100 : decode cX3_coil 100 = .ok (.iload_n 2, 1) := by decide +kernel
theorem dX3_coil_101 : decode cX3_coil 101 = .ok (.iadd, 1) := by decide +kernel
theorem dX3_coil_102 : decode cX3_coil 102 = .ok (.iload_n 3, 1) := by decide +kernel
theorem dX3_coil_103 : decode cX3_coil 103 = .ok (.iastore, 1) := by decide +kernel
theorem dX3_coil_104 : decode cX3_coil 104 = .ok (.aload_n 0, 1) := by decide +kernel
theorem dX3_coil_105 : decode cX3_coil 105 = .ok (.getfield 57, 3) := by decide +kernel
theorem dX3_coil_108 : decode cX3_coil 108 = .ok (.iconst 3, 1) := by decide +kernel
theorem dX3_coil_109 : decode cX3_coil 109 = .ok (.iload_n 1, 1) := by decide +kernel
theorem dX3_coil_110 : decode cX3_coil 110 = .ok (.imul, 1) := by decide +kernel
theorem dX3_coil_111 : decode cX3_coil 111 = .ok (.iload_n 2, 1) := by decide +kernel
theorem dX3_coil_112 : decode cX3_coil 112 = .ok (.iadd, 1) := by decide +kernel
theorem dX3_coil_113 : decode cX3_coil 113 = .ok (.iload 4, 2) := by decide +kernel
theorem dX3_coil_115 : decode cX3_coil 115 = .ok (.iastore, 1) := by decide +kernel
theorem dX3_coil_116 : decode cX3_coil 116 = .ok (.iload 5, 2) := by decide +kernel
theorem dX3_coil_118 : decode cX3_coil 118 = .ok (.ireturn, 1) := by decide +kernel
theorem dX3_block_0 : decode cX3_block 0 = .ok (.iload_n 2, 1) := by decide +kernel
theorem dX3_block_1 : decode cX3_block 1 = .ok (.iload_n 3, 1) := by decide +kernel
theorem dX3_block_2 : decode cX3_block 2 = .ok (.iload 4, 2) := by decide +kernel
theorem dX3_block_4 : decode cX3_block 4 = .ok (.iload 5, 2) := by decide +kernel
theorem dX3_block_6 : decode cX3_block 6 = .ok (.dload 6, 2) := by decide +kernel
theorem dX3_block_8 : decode cX3_block 8 = .ok (.invokestatic 108, 3) := by decide +kernel
theorem dX3_block_11 : decode cX3_block 11 = .ok (.istore 8, 2) := by decide +kernel
theorem dX3_block_13 : decode cX3_block 13 = .ok (.iload 8, 2) := by decide +kernel
theorem dX3_block_15 : decode cX3_block 15 = .ok (.ifCond .ne 9, 3) := by decide +kernel
theorem dX3_block_18 : decode cX3_block 18 = .ok (.aload_n 0, 1) := by decide +kernel
theorem dX3_block_19 : decode cX3_block 19 = .ok (.iconst 1, 1) := by decide +kernel
theorem dX3_block_20 : decode cX3_block 20 = .ok (.invokevirtual 92, 3) := by decide +kernel
theorem dX3_block_23 : decode cX3_block 23 = .ok (.ireturn, 1) := by decide +kernel
theorem dX3_block_24 : decode cX3_block 24 = .ok (.iload_n 1, 1) := by decide +kernel
theorem dX3_block_25 : decode cX3_block 25 = .ok (.iconst 0, 1) := by decide +kernel
theorem dX3_block_26 : decode cX3_block 26 = .ok (.bipush 7, 2) := by decide +kernel
theorem dX3_block_28 : decode cX3_block 28 = .ok (.invokestatic 88, 3) := by decide +kernel
theorem dX3_block_31 : decode cX3_block 31 = .ok (.ifCond .ne 9, 3) := by decide +kernel
theorem dX3_block_34 : decode cX3_block 34 = .ok (.aload_n 0, 1) := by decide +kernel
theorem dX3_block_35 : decode cX3_block 35 = .ok (.iconst 2, 1) := by decide +kernel
theorem dX3_block_36 : decode cX3_block 36 = .ok (.invokevirtual 92, 3) := by decide +kernel
theorem dX3_block_39 : decode cX3_block 39 = .ok (.ireturn, 1) := by decide +kernel
theorem dX3_block_40 : decode cX3_block 40 = .ok (.aload_n 0, 1) := by decide +kernel
theorem dX3_block_41 : decode cX3_block 41 = .ok (.iconst 0, 1) := by decide +kernel
theorem dX3_block_42 : decode cX3_block 42 = .ok (.putfield 85, 3) := by decide +kernel
theorem dX3_block_45 : decode cX3_block 45 = .ok (.aload_n 0, 1) := by decide +kernel
theorem dX3_block_46 : decode cX3_block 46 = .ok (.getfield 60, 3) := by decide +kernel
theorem dX3_block_49 : decode cX3_block 49 = .ok (.iload_n 1, 1) := by decide +kernel
theorem dX3_block_50 : decode cX3_block 50 = .ok (.iaload, 1) := by decide +kernel
theorem dX3_block_51 : decode cX3_block 51 = .ok (.istore 9, 2) := by decide +kernel
theorem dX3_block_53 : decode cX3_block 53 = .ok (.aload_n 0, 1) := by decide +kernel
theorem dX3_block_54 : decode cX3_block 54 = .ok (.getfield 60, 3) := by decide +kernel
theorem dX3_block_57 : decode cX3_block 57 = .ok (.iload_n 1, 1) := by decide +kernel
theorem dX3_block_58 : decode cX3_block 58 = .ok (.iload_n 2, 1) := by decide +kernel
theorem dX3_block_59 : decode cX3_block 59 = .ok (.iastore, 1) := by decide +kernel
theorem dX3_block_60 : decode cX3_block 60 = .ok (.aload_n 0, 1) := by decide +kernel
theorem dX3_block_61 : decode cX3_block 61 = .ok (.getfield 63, 3) := by decide +kernel
theorem dX3_block_64 : decode cX3_block 64 = .ok (.iload_n 1, 1) := by decide +kernel
theorem dX3_block_65 : decode cX3_block 65 = .ok (.iload_n 3, 1) := by decide +kernel
theorem dX3_block_66 : decode cX3_block 66 = .ok (.iastore, 1) := by decide +kernel
theorem dX3_block_67 : decode cX3_block 67 = .ok (.aload_n 0, 1) := by decide +kernel
theorem dX3_block_68 : decode cX3_block 68 = .ok (.getfield 66, 3) := by decide +kernel
theorem dX3_block_71 : decode cX3_block 71 = .ok (.iload_n 1, 1) := by decide +kernel
theorem dX3_block_72 : decode cX3_block 72 = .ok (.iload 4, 2) := by decide +kernel
theorem dX3_block_74 : decode cX3_block 74 = .ok (.iastore, 1) := by decide +kernel
theorem dX3_block_75 : decode cX3_block 75 = .ok (.aload_n 0, 1) := by decide +kernel
theorem dX3_block_76 : decode cX3_block 76 = .ok (.getfield 69, 3) := by decide +kernel
theorem dX3_block_79 : decode cX3_block 79 = .ok (.iload_n 1, 1) := by decide +kernel
theorem dX3_block_80 : decode cX3_block 80 = .ok (.iload 5, 2) := by decide +kernel
theorem dX3_block_82 : decode cX3_block 82 = .ok (.iastore, 1) := by decide +kernel
theorem dX3_block_83 : decode cX3_block 83 = .ok (.aload_n 0, 1) := by decide +kernel
theorem dX3_block_84 : decode cX3_block 84 = .ok (.getfield 38, 3) := by decide +kernel
theorem dX3_block_87 : decode cX3_block 87 = .ok (.iload_n 1, 1) := by decide +kernel
theorem dX3_block_88 : decode cX3_block 88 = .ok (.dload 6, 2) := by decide +kernel
theorem dX3_block_90 : decode cX3_block 90 = .ok (.dastore, 1) := by decide +kernel
theorem dX3_block_91 : decode cX3_block 91 = .ok (.aload_n 0, 1) := by decide +kernel
theorem dX3_block_92 : decode cX3_block 92 = .ok (.getfield 72, 3) := by decide +kernel
theorem dX3_block_95 : decode cX3_block 95 = .ok (.iload_n 1, 1) := by decide +kernel
theorem dX3_block_96 : decode cX3_block 96 = .ok (.iconst 0, 1) := by decide +kernel
theorem dX3_block_97 : decode cX3_block 97 = .ok (.iastore, 1) := by decide +kernel
theorem dX3_block_98 : decode cX3_block 98 = .ok (.aload_n 0, 1) := by decide +kernel
theorem dX3_block_99 : decode cX3_block 99 = .ok (.getfield 75, 3) := by decide +kernel
theorem dX3_block_102 : decode cX3_block 102 = .ok (.iload_n 1, 1) := by decide +kernel
theorem dX3_block_103 : decode cX3_block 103 = .ok (.iconst 0, 1) := by decide +kernel
theorem dX3_block_104 : decode cX3_block 104 = .ok (.iastore, 1) := by decide +kernel
theorem dX3_block_105 : decode cX3_block 105 = .ok (.aload_n 0, 1) := by decide +kernel
theorem dX3_block_106 : decode cX3_block 106 = .ok (.getfield 78, 3) := by decide +kernel
theorem dX3_block_109 : decode cX3_block 109 = .ok (.iload_n 1, 1) := by decide +kernel
theorem dX3_block_110 : decode cX3_block 110 = .ok (.iconst 0, 1) := by decide +kernel
theorem dX3_block_111 : decode cX3_block 111 = .ok (.iastore, 1) := by decide +kernel
theorem dX3_block_112 : decode cX3_block 112 = .ok (.aload_n 0, 1) := by decide +kernel
theorem dX3_block_113 : decode cX3_block 113 = .ok (.getfield 28, 3) := by decide +kernel
theorem dX3_block_116 : decode cX3_block 116 = .ok (.iload_n 1, 1) := by decide +kernel
theorem dX3_block_117 : decode cX3_block 117 = .ok (.iconst 0, 1) := by decide +kernel
theorem dX3_block_118 : decode cX3_block 118 = .ok (.bastore, 1) := by decide +kernel
theorem dX3_block_119 : decode cX3_block 119 = .ok (.aload_n 0, 1) := by decide +kernel
theorem dX3_block_120 : decode cX3_block 120 = .ok (.getfield 41, 3) := by decide +kernel
theorem dX3_block_123 : decode cX3_block 123 = .ok (.iload_n 1, 1) := by decide +kernel
theorem dX3_block_124 : decode cX3_block 124 = .ok (.dconst 0, 1) := by decide +kernel
theorem dX3_block_125 : decode cX3_block 125 = .ok (.dastore, 1) := by decide +kernel
theorem dX3_block_126 : decode cX3_block 126 = .ok (.aload_n 0, 1) := by decide +kernel
theorem dX3_block_127 : decode cX3_block 127 = .ok (.getfield 44, 3) := by decide +kernel
theorem dX3_block_130 : decode cX3_block 130 = .ok (.iload_n 1, 1) := by decide +kernel
theorem dX3_block_131 : decode cX3_block 131 = .ok (.dconst 0, 1) := by decide +kernel
theorem dX3_block_132 : decode cX3_block 132 = .ok (.dastore, 1) := by decide +kernel
theorem dX3_block_133 : decode cX3_block 133 = .ok (.iload 9, 2) := by decide +kernel
theorem dX3_block_135 : decode cX3_block 135 = .ok (.ireturn, 1) := by decide +kernel
theorem dX3_fits_0 : decode cX3_fits 0 = .ok (.iload_n 0, 1) := by decide +kernel
theorem dX3_fits_1 : decode cX3_fits 1 = .ok (.iconst 0, 1) := by decide +kernel
theorem dX3_fits_2 : decode cX3_fits 2 = .ok (.bipush 9, 2) := by decide +kernel
theorem dX3_fits_4 : decode cX3_fits 4 = .ok (.invokestatic 88, 3) := by decide +kernel
theorem dX3_fits_7 : decode cX3_fits 7 = .ok (.ifCond .ne 5, 3) := by decide +kernel
theorem dX3_fits_10 : decode cX3_fits 10 = .ok (.iconst 0, 1) := by decide +kernel
theorem dX3_fits_11 : decode cX3_fits 11 = .ok (.ireturn, 1) := by decide +kernel
theorem dX3_fits_12 : decode cX3_fits 12 = .ok (.iload_n 0, 1) := by decide +kernel
theorem dX3_fits_13 : decode cX3_fits 13 = .ok (.ifCond .ne 5, 3) := by decide +kernel
theorem dX3_fits_16 : decode cX3_fits 16 = .ok (.iconst 1, 1) := by decide +kernel
theorem dX3_fits_17 : decode cX3_fits 17 = .ok (.ireturn, 1) := by decide +kernel
theorem dX3_fits_18 : decode cX3_fits 18 = .ok (.iload_n 0, 1) := by decide +kernel
theorem dX3_fits_19 : decode cX3_fits 19 = .ok (.iconst 3, 1) := by decide +kernel
theorem dX3_fits_20 : decode cX3_fits 20 = .ok (.if_icmp .ge 46, 3) := by decide +kernel
theorem dX3_fits_23 : decode cX3_fits 23 = .ok (.iload_n 3, 1) := by decide +kernel
theorem dX3_fits_24 : decode cX3_fits 24 = .ok (.bipush 8, 2) := by decide +kernel
theorem dX3_fits_26 : decode cX3_fits 26 = .ok (.bipush 21, 2) := by decide +kernel
theorem dX3_fits_28 : decode cX3_fits 28 = .ok (.invokestatic 88, 3) := by decide +kernel
theorem dX3_fits_31 : decode cX3_fits 31 = .ok (.ifCond .eq 33, 3) := by decide +kernel
theorem dX3_fits_34 : decode cX3_fits 34 = .ok (.dload 4, 2) := by decide +kernel
theorem dX3_fits_36 : decode cX3_fits 36 = .ok (.dconst 1, 1) := by decide +kernel
theorem dX3_fits_37 : decode cX3_fits 37 = .ok (.dcmp .l, 1) := by decide +kernel
theorem dX3_fits_38 : decode cX3_fits 38 = .ok (.ifCond .lt 26, 3) := by decide +kernel
theorem dX3_fits_41 : decode cX3_fits 41 = .ok (.dload 4, 2) := by decide +kernel
theorem dX3_fits_43 : decode cX3_fits 43 = .ok (.ldc2_w 100, 3) := by decide +kernel
theorem dX3_fits_46 : decode cX3_fits 46 = .ok (.dcmp .g, 1) := by decide +kernel
theorem dX3_fits_47 : decode cX3_fits 47 = .ok (.ifCond .gt 17, 3) := by decide +kernel
theorem dX3_fits_50 : decode cX3_fits 50 = .ok (.dload 4, 2) := by decide +kernel
theorem dX3_fits_52 : decode cX3_fits 52 = .ok (.dload 4, 2) := by decide +kernel
theorem dX3_fits_54 : decode cX3_fits 54 = .ok (.d2i, 1) := by decide +kernel
theorem dX3_fits_55 : decode cX3_fits 55 = .ok (.i2d, 1) := by decide +kernel
theorem dX3_fits_56 : decode cX3_fits 56 = .ok (.dcmp .l, 1) := by decide +kernel
theorem dX3_fits_57 : decode cX3_fits 57 = .ok (.ifCond .ne 7, 3) := by decide +kernel
theorem dX3_fits_60 : decode cX3_fits 60 = .ok (.iconst 1, 1) := by decide +kernel
theorem dX3_fits_61 : decode cX3_fits 61 = .ok (.goto 4, 3) := by decide +kernel
theorem dX3_fits_64 : decode cX3_fits 64 = .ok (.iconst 0, 1) := by decide +kernel
theorem dX3_fits_65 : decode cX3_fits 65 = .ok (.ireturn, 1) := by decide +kernel
theorem dX3_fits_66 : decode cX3_fits 66 = .ok (.iload_n 1, 1) := by decide +kernel
theorem dX3_fits_67 : decode cX3_fits 67 = .ok (.invokestatic 102, 3) := by decide +kernel
theorem dX3_fits_70 : decode cX3_fits 70 = .ok (.ifCond .eq 10, 3) := by decide +kernel
theorem dX3_fits_73 : decode cX3_fits 73 = .ok (.iload_n 2, 1) := by decide +kernel
theorem dX3_fits_74 : decode cX3_fits 74 = .ok (.invokestatic 102, 3) := by decide +kernel
theorem dX3_fits_77 : decode cX3_fits 77 = .ok (.ifCond .ne 5, 3) := by decide +kernel
theorem dX3_fits_80 : decode cX3_fits 80 = .ok (.iconst 0, 1) := by decide +kernel
theorem dX3_fits_81 : decode cX3_fits 81 = .ok (.ireturn, 1) := by decide +kernel
theorem dX3_fits_82 : decode cX3_fits 82 = .ok (.iload_n 0, 1) := by decide +kernel
theorem dX3_fits_83 : decode cX3_fits 83 = .ok (.iconst 3, 1) := by decide +kernel
theorem dX3_fits_84 : decode cX3_fits 84 = .ok (.if_icmp .ne 12, 3) := by decide +kernel
theorem dX3_fits_87 : decode cX3_fits 87 = .ok (.iload_n 3, 1) := by decide +kernel
theorem dX3_fits_88 : decode cX3_fits 88 = .ok (.bipush 8, 2) := by decide +kernel
theorem dX3_fits_90 : decode cX3_fits 90 = .ok (.bipush 21, 2) := by decide +kernel
theorem dX3_fits_92 : decode cX3_fits 92 = .ok (.invokestatic 88, 3) := by decide +kernel
theorem dX3_fits_95 : decode cX3_fits 95 = .ok (.ireturn, 1) := by decide +kernel
theorem dX3_fits_96 : decode cX3_fits 96 = .ok (.iload_n 3, 1) := by decide +kernel
theorem dX3_fits_97 : decode cX3_fits 97 = .ok (.invokestatic 102, 3) := by decide +kernel
end
section
/-! decode rows -/
theorem dX3_fits_100 : decode cX3_fits 100 = .ok (.ifCond .eq 31, 3) := by decide +kernel
theorem dX3_fits_103 : decode cX3_fits 103 = .ok (.iload_n 0, 1) := by decide +kernel
theorem dX3_fits_104 : decode cX3_fits 104 = .ok (.bipush 8, 2) := by decide +kernel
theorem dX3_fits_106 : decode cX3_fits 106 = .ok (.if_icmp .lt 21, 3) := by decide +kernel
theorem dX3_fits_109 : decode cX3_fits 109 = .ok (.dload 4, 2) := by decide +kernel
theorem dX3_fits_111 : decode cX3_fits 111 = .ok (.ldc2_w 106, 3) := by decide +kernel
theorem dX3_fits_114 : decode cX3_fits 114 = .ok (.dcmp .l, 1) := by decide +kernel
theorem dX3_fits_115 : decode cX3_fits 115 = .ok (.ifCond .lt 16, 3) := by decide +kernel
theorem dX3_fits_118 : decode cX3_fits 118 = .ok (.dload 4, 2) := by decide +kernel
theorem dX3_fits_120 : decode cX3_fits 120 = .ok (.ldc2_w 100, 3) := by decide +kernel
theorem dX3_fits_123 : decode cX3_fits 123 = .ok (.dcmp .g, 1) := by decide +kernel
theorem dX3_fits_124 : decode cX3_fits 124 = .ok (.ifCond .gt 7, 3) := by decide +kernel
theorem dX3_fits_127 : decode cX3_fits 127 = .ok (.iconst 1, 1) := by decide +kernel
theorem dX3_fits_128 : decode cX3_fits 128 = .ok (.goto 4, 3) := by decide +kernel
theorem dX3_fits_131 : decode cX3_fits 131 = .ok (.iconst 0, 1) := by decide +kernel
theorem dX3_fits_132 : decode cX3_fits 132 = .ok (.ireturn, 1) := by decide +kernel
theorem dX3_isRegister_0 : decode cX3_isRegister 0 = .ok (.iload_n 0, 1) := by decide +kernel
theorem dX3_isRegister_1 : decode cX3_isRegister 1 = .ok (.iconst 0, 1) := by decide +kernel
theorem dX3_isRegister_2 : decode cX3_isRegister 2 = .ok (.bipush 7, 2) := by decide +kernel
theorem dX3_isRegister_4 : decode cX3_isRegister 4 = .ok (.invokestatic 88, 3) := by decide +kernel
theorem dX3_isRegister_7 : decode cX3_isRegister 7 = .ok (.ireturn, 1) := by decide +kernel
theorem dX3_guard_0 : decode cX3_guard 0 = .ok (.aload_n 0, 1) := by decide +kernel
theorem dX3_guard_1 : decode cX3_guard 1 = .ok (.iload_n 1, 1) := by decide +kernel
theorem dX3_guard_2 : decode cX3_guard 2 = .ok (.iconst 0, 1) := by decide +kernel
theorem dX3_guard_3 : decode cX3_guard 3 = .ok (.bipush 7, 2) := by decide +kernel
theorem dX3_guard_5 : decode cX3_guard 5 = .ok (.invokestatic 88, 3) := by decide +kernel
theorem dX3_guard_8 : decode cX3_guard 8 = .ok (.ifCond .eq 7, 3) := by decide +kernel
theorem dX3_guard_11 : decode cX3_guard 11 = .ok (.iconst 0, 1) := by decide +kernel
theorem dX3_guard_12 : decode cX3_guard 12 = .ok (.goto 4, 3) := by decide +kernel
theorem dX3_guard_15 : decode cX3_guard 15 = .ok (.iconst 1, 1) := by decide +kernel
theorem dX3_guard_16 : decode cX3_guard 16 = .ok (.putfield 85, 3) := by decide +kernel
theorem dX3_guard_19 : decode cX3_guard 19 = .ok (.aload_n 0, 1) := by decide +kernel
theorem dX3_guard_20 : decode cX3_guard 20 = .ok (.getfield 85, 3) := by decide +kernel
theorem dX3_guard_23 : decode cX3_guard 23 = .ok (.ifCond .le 5, 3) := by decide +kernel
theorem dX3_guard_26 : decode cX3_guard 26 = .ok (.iconst 0, 1) := by decide +kernel
theorem dX3_guard_27 : decode cX3_guard 27 = .ok (.ireturn, 1) := by decide +kernel
theorem dX3_guard_28 : decode cX3_guard 28 = .ok (.aload_n 0, 1) := by decide +kernel
theorem dX3_guard_29 : decode cX3_guard 29 = .ok (.getfield 25, 3) := by decide +kernel
theorem dX3_guard_32 : decode cX3_guard 32 = .ok (.iload_n 1, 1) := by decide +kernel
theorem dX3_guard_33 : decode cX3_guard 33 = .ok (.baload, 1) := by decide +kernel
theorem dX3_guard_34 : decode cX3_guard 34 = .ok (.istore_n 3, 1) := by decide +kernel
theorem dX3_guard_35 : decode cX3_guard 35 = .ok (.aload_n 0, 1) := by decide +kernel
theorem dX3_guard_36 : decode cX3_guard 36 = .ok (.getfield 25, 3) := by decide +kernel
theorem dX3_guard_39 : decode cX3_guard 39 = .ok (.iload_n 1, 1) := by decide +kernel
theorem dX3_guard_40 : decode cX3_guard 40 = .ok (.iload_n 2, 1) := by decide +kernel
theorem dX3_guard_41 : decode cX3_guard 41 = .ok (.bastore, 1) := by decide +kernel
theorem dX3_guard_42 : decode cX3_guard 42 = .ok (.iload_n 3, 1) := by decide +kernel
theorem dX3_guard_43 : decode cX3_guard 43 = .ok (.ireturn, 1) := by decide +kernel
theorem dX3_input_0 : decode cX3_input 0 = .ok (.aload_n 0, 1) := by decide +kernel
theorem dX3_input_1 : decode cX3_input 1 = .ok (.iload_n 1, 1) := by decide +kernel
theorem dX3_input_2 : decode cX3_input 2 = .ok (.iconst 0, 1) := by decide +kernel
theorem dX3_input_3 : decode cX3_input 3 = .ok (.bipush 7, 2) := by decide +kernel
theorem dX3_input_5 : decode cX3_input 5 = .ok (.invokestatic 88, 3) := by decide +kernel
theorem dX3_input_8 : decode cX3_input 8 = .ok (.ifCond .eq 7, 3) := by decide +kernel
theorem dX3_input_11 : decode cX3_input 11 = .ok (.iconst 0, 1) := by decide +kernel
theorem dX3_input_12 : decode cX3_input 12 = .ok (.goto 4, 3) := by decide +kernel
theorem dX3_input_15 : decode cX3_input 15 = .ok (.iconst 1, 1) := by decide +kernel
theorem dX3_input_16 : decode cX3_input 16 = .ok (.putfield 85, 3) := by decide +kernel
theorem dX3_input_19 : decode cX3_input 19 = .ok (.aload_n 0, 1) := by decide +kernel
theorem dX3_input_20 : decode cX3_input 20 = .ok (.getfield 85, 3) := by decide +kernel
theorem dX3_input_23 : decode cX3_input 23 = .ok (.ifCond .le 5, 3) := by decide +kernel
theorem dX3_input_26 : decode cX3_input 26 = .ok (.iconst 0, 1) := by decide +kernel
theorem dX3_input_27 : decode cX3_input 27 = .ok (.ireturn, 1) := by decide +kernel
theorem dX3_input_28 : decode cX3_input 28 = .ok (.aload_n 0, 1) := by decide +kernel
theorem dX3_input_29 : decode cX3_input 29 = .ok (.getfield 7, 3) := by decide +kernel
theorem dX3_input_32 : decode cX3_input 32 = .ok (.iload_n 1, 1) := by decide +kernel
theorem dX3_input_33 : decode cX3_input 33 = .ok (.baload, 1) := by decide +kernel
theorem dX3_input_34 : decode cX3_input 34 = .ok (.istore_n 3, 1) := by decide +kernel
theorem dX3_input_35 : decode cX3_input 35 = .ok (.aload_n 0, 1) := by decide +kernel
theorem dX3_input_36 : decode cX3_input 36 = .ok (.getfield 7, 3) := by decide +kernel
theorem dX3_input_39 : decode cX3_input 39 = .ok (.iload_n 1, 1) := by decide +kernel
theorem dX3_input_40 : decode cX3_input 40 = .ok (.iload_n 2, 1) := by decide +kernel
theorem dX3_input_41 : decode cX3_input 41 = .ok (.bastore, 1) := by decide +kernel
theorem dX3_input_42 : decode cX3_input 42 = .ok (.iload_n 3, 1) := by decide +kernel
theorem dX3_input_43 : decode cX3_input 43 = .ok (.ireturn, 1) := by decide +kernel
theorem dX3_set_0 : decode cX3_set 0 = .ok (.aload_n 0, 1) := by decide +kernel
theorem dX3_set_1 : decode cX3_set 1 = .ok (.dload_n 2, 1) := by decide +kernel
theorem dX3_set_2 : decode cX3_set 2 = .ok (.ldc2_w 112, 3) := by decide +kernel
theorem dX3_set_5 : decode cX3_set 5 = .ok (.dcmp .g, 1) := by decide +kernel
theorem dX3_set_6 : decode cX3_set 6 = .ok (.ifCond .gt 11, 3) := by decide +kernel
theorem dX3_set_9 : decode cX3_set 9 = .ok (.dload_n 2, 1) := by decide +kernel
theorem dX3_set_10 : decode cX3_set 10 = .ok (.ldc2_w 114, 3) := by decide +kernel
theorem dX3_set_13 : decode cX3_set 13 = .ok (.dcmp .l, 1) := by decide +kernel
theorem dX3_set_14 : decode cX3_set 14 = .ok (.ifCond .ge 7, 3) := by decide +kernel
theorem dX3_set_17 : decode cX3_set 17 = .ok (.iconst 1, 1) := by decide +kernel
theorem dX3_set_18 : decode cX3_set 18 = .ok (.goto 15, 3) := by decide +kernel
theorem dX3_set_21 : decode cX3_set 21 = .ok (.iload_n 1, 1) := by decide +kernel
theorem dX3_set_22 : decode cX3_set 22 = .ok (.invokestatic 102, 3) := by decide +kernel
theorem dX3_set_25 : decode cX3_set 25 = .ok (.ifCond .ne 7, 3) := by decide +kernel
theorem dX3_set_28 : decode cX3_set 28 = .ok (.iconst 2, 1) := by decide +kernel
theorem dX3_set_29 : decode cX3_set 29 = .ok (.goto 4, 3) := by decide +kernel
theorem dX3_set_32 : decode cX3_set 32 = .ok (.iconst 0, 1) := by decide +kernel
theorem dX3_set_33 : decode cX3_set 33 = .ok (.putfield 85, 3) := by decide +kernel
theorem dX3_set_36 : decode cX3_set 36 = .ok (.aload_n 0, 1) := by decide +kernel
theorem dX3_set_37 : decode cX3_set 37 = .ok (.getfield 85, 3) := by decide +kernel
theorem dX3_set_40 : decode cX3_set 40 = .ok (.ifCond .le 5, 3) := by decide +kernel
theorem dX3_set_43 : decode cX3_set 43 = .ok (.dconst 0, 1) := by decide +kernel
theorem dX3_set_44 : decode cX3_set 44 = .ok (.dreturn, 1) := by decide +kernel
theorem dX3_set_45 : decode cX3_set 45 = .ok (.aload_n 0, 1) := by decide +kernel
theorem dX3_set_46 : decode cX3_set 46 = .ok (.getfield 34, 3) := by decide +kernel
theorem dX3_set_49 : decode cX3_set 49 = .ok (.iload_n 1, 1) := by decide +kernel
theorem dX3_set_50 : decode cX3_set 50 = .ok (.daload, 1) := by decide +kernel
theorem dX3_set_51 : decode cX3_set 51 = .ok (.dstore 4, 2) := by decide +kernel
theorem dX3_set_53 : decode cX3_set 53 = .ok (.aload_n 0, 1) := by decide +kernel
theorem dX3_set_54 : decode cX3_set 54 = .ok (.getfield 34, 3) := by decide +kernel
theorem dX3_set_57 : decode cX3_set 57 = .ok (.iload_n 1, 1) := by decide +kernel
theorem dX3_set_58 : decode cX3_set 58 = .ok (.dload_n 2, 1) := by decide +kernel
theorem dX3_set_59 : decode cX3_set 59 = .ok (.dastore, 1) := by decide +kernel
theorem dX3_set_60 : decode cX3_set 60 = .ok (.dload 4, 2) := by decide +kernel
theorem dX3_set_62 : decode cX3_set 62 = .ok (.dreturn, 1) := by decide +kernel
theorem dX3_scan_0 : decode cX3_scan 0 = .ok (.iload_n 1, 1) := by decide +kernel
theorem dX3_scan_1 : decode cX3_scan 1 = .ok (.iconst 1, 1) := by decide +kernel
theorem dX3_scan_2 : decode cX3_scan 2 = .ok (.bipush 50, 2) := by decide +kernel
theorem dX3_scan_4 : decode cX3_scan 4 = .ok (.invokestatic 88, 3) := by decide +kernel
theorem dX3_scan_7 : decode cX3_scan 7 = .ok (.ifCond .ne 9, 3) := by decide +kernel
theorem dX3_scan_10 : decode cX3_scan 10 = .ok (.aload_n 0, 1) := by decide +kernel
theorem dX3_scan_11 : decode cX3_scan 11 = .ok (.iconst 1, 1) := by decide +kernel
theorem dX3_scan_12 : decode cX3_scan 12 = .ok (.invokevirtual 92, 3) := by decide +kernel
theorem dX3_scan_15 : decode cX3_scan 15 = .ok (.ireturn, 1) := by decide +kernel
theorem dX3_scan_16 : decode cX3_scan 16 = .ok (.aload_n 0, 1) := by decide +kernel
theorem dX3_scan_17 : decode cX3_scan 17 = .ok (.getfield 130, 3) := by decide +kernel
theorem dX3_scan_20 : decode cX3_scan 20 = .ok (.ifCond .eq 9, 3) := by decide +kernel
theorem dX3_scan_23 : decode cX3_scan 23 = .ok (.aload_n 0, 1) := by decide +kernel
theorem dX3_scan_24 : decode cX3_scan 24 = .ok (.iconst 2, 1) := by decide +kernel
theorem dX3_scan_25 : decode cX3_scan 25 = .ok (.invokevirtual 92, 3) := by decide +kernel
theorem dX3_scan_28 : decode cX3_scan 28 = .ok (.ireturn, 1) := by decide +kernel
theorem dX3_scan_29 : decode cX3_scan 29 = .ok (.aload_n 0, 1) := by decide +kernel
theorem dX3_scan_30 : decode cX3_scan 30 = .ok (.iconst 0, 1) := by decide +kernel
theorem dX3_scan_31 : decode cX3_scan 31 = .ok (.putfield 85, 3) := by decide +kernel
theorem dX3_scan_34 : decode cX3_scan 34 = .ok (.iconst 0, 1) := by decide +kernel
theorem dX3_scan_35 : decode cX3_scan 35 = .ok (.istore_n 2, 1) := by decide +kernel
theorem dX3_scan_36 : decode cX3_scan 36 = .ok (.iload_n 2, 1) := by decide +kernel
theorem dX3_scan_37 : decode cX3_scan 37 = .ok (.iload_n 1, 1) := by decide +kernel
theorem dX3_scan_38 : decode cX3_scan 38 = .ok (.if_icmp .ge 52, 3) := by decide +kernel
theorem dX3_scan_41 : decode cX3_scan 41 = .ok (.aload_n 0, 1) := by decide +kernel
theorem dX3_scan_42 : decode cX3_scan 42 = .ok (.getfield 130, 3) := by decide +kernel
theorem dX3_scan_45 : decode cX3_scan 45 = .ok (.ifCond .ne 45, 3) := by decide +kernel
theorem dX3_scan_48 : decode cX3_scan 48 = .ok (.aload_n 0, 1) := by decide +kernel
theorem dX3_scan_49 : decode cX3_scan 49 = .ok (.dup, 1) := by decide +kernel
theorem dX3_scan_50 : decode cX3_scan 50 = .ok (.getfield 145, 3) := by decide +kernel
theorem dX3_scan_53 : decode cX3_scan 53 = .ok (.iconst 1, 1) := by decide +kernel
theorem dX3_scan_54 : decode cX3_scan 54 = .ok (.iadd, 1) := by decide +kernel
theorem dX3_scan_55 : decode cX3_scan 55 = .ok (.putfield 145, 3) := by decide +kernel
theorem dX3_scan_58 : decode cX3_scan 58 = .ok (.iconst 0, 1) := by decide +kernel
theorem dX3_scan_59 : decode cX3_scan 59 = .ok (.istore_n 3, 1) := by decide +kernel
theorem dX3_scan_60 : decode cX3_scan 60 = .ok (.iload_n 3, 1) := by decide +kernel
theorem dX3_scan_61 : decode cX3_scan 61 = .ok (.iconst 5, 1) := by decide +kernel
theorem dX3_scan_62 : decode cX3_scan 62 = .ok (.if_icmp .ge 22, 3) := by decide +kernel
theorem dX3_scan_65 : decode cX3_scan 65 = .ok (.aload_n 0, 1) := by decide +kernel
theorem dX3_scan_66 : decode cX3_scan 66 = .ok (.getfield 130, 3) := by decide +kernel
theorem dX3_scan_69 : decode cX3_scan 69 = .ok (.ifCond .ne 15, 3) := by decide +kernel
theorem dX3_scan_72 : decode cX3_scan 72 = .ok (.aload_n 0, 1) := by decide +kernel
theorem dX3_scan_73 : decode cX3_scan 73 = .ok (.iload_n 3, 1) := by decide +kernel
theorem dX3_scan_74 : decode cX3_scan 74 = .ok (.invokevirtual 148, 3) := by decide +kernel
theorem dX3_scan_77 : decode cX3_scan 77 = .ok (.pop, 1) := by decide +kernel
theorem dX3_scan_78 : decode cX3_scan 78 = .ok (.iinc 3 1, 3) := by decide +kernel
theorem dX3_scan_81 : decode cX3_scan 81 = .ok (.goto (-21), 3) := by decide +kernel
theorem dX3_scan_84 : decode cX3_scan 84 = .ok (.iinc 2 1, 3) := by decide +kernel
theorem dX3_scan_87 : decode cX3_scan 87 = .ok (.goto (-51), 3) := by decide +kernel
theorem dX3_scan_90 : decode cX3_scan 90 = .ok (.aload_n 0, 1) := by decide +kernel
theorem dX3_scan_91 : decode cX3_scan 91 = .ok (.getfield 130, 3) := by decide +kernel
theorem dX3_scan_94 : decode cX3_scan 94 = .ok (.ifCond .eq 9, 3) := by decide +kernel
theorem dX3_scan_97 : decode cX3_scan 97 = .ok (.aload_n 0, 1) := by decide +kernel
theorem dX3_scan_98 : decode cX3_scan 98 = .ok (.iconst 3, 1) := by decide +kernel
theorem dX3_scan_99 : decode cX3_scan 99 = .ok (.invokevirtual 92, 3) := by decide +kernel
theorem dX3_scan_102 : decode cX3_scan 102 = .ok (.ireturn, 1) := by decide +kernel
theorem dX3_scan_103 : decode cX3_scan 103 = .ok (.aload_n 0, 1) := by decide +kernel
theorem dX3_scan_104 : decode cX3_scan 104 = .ok (.getfield 145, 3) := by decide +kernel
theorem dX3_scan_107 : decode cX3_scan 107 = .ok (.ireturn, 1) := by decide +kernel
theorem dX3_rung_0 : decode cX3_rung 0 = .ok (.aload_n 0, 1) := by decide +kernel
theorem dX3_rung_1 : decode cX3_rung 1 = .ok (.getfield 22, 3) := by decide +kernel
theorem dX3_rung_4 : decode cX3_rung 4 = .ok (.iload_n 1, 1) := by decide +kernel
theorem dX3_rung_5 : decode cX3_rung 5 = .ok (.iconst 1, 1) := by decide +kernel
theorem dX3_rung_6 : decode cX3_rung 6 = .ok (.bastore, 1) := by decide +kernel
theorem dX3_rung_7 : decode cX3_rung 7 = .ok (.iconst 0, 1) := by decide +kernel
theorem dX3_rung_8 : decode cX3_rung 8 = .ok (.istore_n 2, 1) := by decide +kernel
theorem dX3_rung_9 : decode cX3_rung 9 = .ok (.iload_n 2, 1) := by decide +kernel
theorem dX3_rung_10 : decode cX3_rung 10 = .ok (.iconst 4, 1) := by decide +kernel
theorem dX3_rung_11 : decode cX3_rung 11 = .ok (.if_icmp .ge 15, 3) := by decide +kernel
theorem dX3_rung_14 : decode cX3_rung 14 = .ok (.aload_n 0, 1) := by decide +kernel
theorem dX3_rung_15 : decode cX3_rung 15 = .ok (.iload_n 1, 1) := by decide +kernel
theorem dX3_rung_16 : decode cX3_rung 16 = .ok (.iload_n 2, 1) := by decide +kernel
theorem dX3_rung_17 : decode cX3_rung 17 = .ok (.invokevirtual 137, 3) := by decide +kernel
theorem dX3_rung_20 : decode cX3_rung 20 = .ok (.iinc 2 1, 3) := by decide +kernel
theorem dX3_rung_23 : decode cX3_rung 23 = .ok (.goto (-14), 3) := by decide +kernel
theorem dX3_rung_26 : decode cX3_rung 26 = .ok (.iconst 0, 1) := by decide +kernel
theorem dX3_rung_27 : decode cX3_rung 27 = .ok (.istore_n 2, 1) := by decide +kernel
theorem dX3_rung_28 : decode cX3_rung 28 = .ok (.iload_n 2, 1) := by decide +kernel
theorem dX3_rung_29 : decode cX3_rung 29 = .ok (.iconst 3, 1) := by decide +kernel
theorem dX3_rung_30 : decode cX3_rung 30 = .ok (.if_icmp .ge 129, 3) := by decide +kernel
theorem dX3_rung_33 : decode cX3_rung 33 = .ok (.aload_n 0, 1) := by decide +kernel
theorem dX3_rung_34 : decode cX3_rung 34 = .ok (.getfield 19, 3) := by decide +kernel
theorem dX3_rung_37 : decode cX3_rung 37 = .ok (.iload_n 1, 1) := by decide +kernel
theorem dX3_rung_38 : decode cX3_rung 38 = .ok (.iload_n 2, 1) := by decide +kernel
theorem dX3_rung_39 : decode cX3_rung 39 = .ok (.iconst 3, 1) := by decide +kernel
theorem dX3_rung_40 : decode cX3_rung 40 = .ok (.invokestatic 96, 3) := by decide +kernel
theorem dX3_rung_43 : decode cX3_rung 43 = .ok (.baload, 1) := by decide +kernel
theorem dX3_rung_44 : decode cX3_rung 44 = .ok (.istore_n 3, 1) := by decide +kernel
theorem dX3_rung_45 : decode cX3_rung 45 = .ok (.aload_n 0, 1) := by decide +kernel
theorem dX3_rung_46 : decode cX3_rung 46 = .ok (.getfield 57, 3) := by decide +kernel
theorem dX3_rung_49 : decode cX3_rung 49 = .ok (.iconst 3, 1) := by decide +kernel
theorem dX3_rung_50 : decode cX3_rung 50 = .ok (.iload_n 1, 1) := by decide +kernel
theorem dX3_rung_51 : decode cX3_rung 51 = .ok (.imul, 1) := by decide +kernel
theorem dX3_rung_52 : decode cX3_rung 52 = .ok (.iload_n 2, 1) := by decide +kernel
theorem dX3_rung_53 : decode cX3_rung 53 = .ok (.iadd, 1) := by decide +kernel
theorem dX3_rung_54 : decode cX3_rung 54 = .ok (.iaload, 1) := by decide +kernel
theorem dX3_rung_55 : decode cX3_rung 55 = .ok (.istore 4, 2) := by decide +kernel
theorem dX3_rung_57 : decode cX3_rung 57 = .ok (.aload_n 0, 1) := by decide +kernel
theorem dX3_rung_58 : decode cX3_rung 58 = .ok (.getfield 54, 3) := by decide +kernel
theorem dX3_rung_61 : decode cX3_rung 61 = .ok (.iconst 3, 1) := by decide +kernel
theorem dX3_rung_62 : decode cX3_rung 62 = .ok (.iload_n 1, 1) := by decide +kernel
theorem dX3_rung_63 : decode cX3_rung 63 = .ok (.imul, 1) := by decide +kernel
theorem dX3_rung_64 : decode cX3_rung 64 = .ok (.iload_n 2, 1) := by decide +kernel
theorem dX3_rung_65 : decode cX3_rung 65 = .ok (.iadd, 1) := by decide +kernel
theorem dX3_rung_66 : decode cX3_rung 66 = .ok (.iaload, 1) := by decide +kernel
theorem dX3_rung_67 : decode cX3_rung 67 = .ok (.tableswitch 86 1 4 #[29, 40, 55, 70], 29) := by decide +kernel
theorem dX3_rung_96 : decode cX3_rung 96 = .ok (.aload_n 0, 1) := by decide +kernel
theorem dX3_rung_97 : decode cX3_rung 97 = .ok (.getfield 7, 3) := by decide +kernel
theorem dX3_rung_100 : decode cX3_rung 100 = .ok (.iload 4, 2) := by decide +kernel
theorem dX3_rung_102 : decode cX3_rung 102 = .ok (.iload_n 3, 1) := by decide +kernel
theorem dX3_rung_103 : decode cX3_rung 103 = .ok (.bastore, 1) := by decide +kernel
theorem dX3_rung_104 : decode cX3_rung 104 = .ok (.goto 49, 3) := by decide +kernel
theorem dX3_rung_107 : decode cX3_rung 107 = .ok (.iload_n 3, 1) := by decide +kernel
theorem dX3_rung_108 : decode cX3_rung 108 = .ok (.ifCond .eq 45, 3) := by decide +kernel
theorem dX3_rung_111 : decode cX3_rung 111 = .ok (.aload_n 0, 1) := by decide +kernel
theorem dX3_rung_112 : decode cX3_rung 112 = .ok (.getfield 7, 3) := by decide +kernel
theorem dX3_rung_115 : decode cX3_rung 115 = .ok (.iload 4, 2) := by decide +kernel
theorem dX3_rung_117 : decode cX3_rung 117 = .ok (.iconst 1, 1) := by decide +kernel
theorem dX3_rung_118 : decode cX3_rung 118 = .ok (.bastore, 1) := by decide +kernel
theorem dX3_rung_119 : decode cX3_rung 119 = .ok (.goto 34, 3) := by decide +kernel
theorem dX3_rung_122 : decode cX3_rung 122 = .ok (.iload_n 3, 1) := by decide +kernel
theorem dX3_rung_123 : decode cX3_rung 123 = .ok (.ifCond .eq 30, 3) := by decide +kernel
theorem dX3_rung_126 : decode cX3_rung 126 = .ok (.aload_n 0, 1) := by decide +kernel
theorem dX3_rung_127 : decode cX3_rung 127 = .ok (.getfield 7, 3) := by decide +kernel
theorem dX3_rung_130 : decode cX3_rung 130 = .ok (.iload 4, 2) := by decide +kernel
theorem dX3_rung_132 : decode cX3_rung 132 = .ok (.iconst 0, 1) := by decide +kernel
theorem dX3_rung_133 : decode cX3_rung 133 = .ok (.bastore, 1) := by decide +kernel
theorem dX3_rung_134 : decode cX3_rung 134 = .ok (.goto 19, 3) := by decide +kernel
theorem dX3_rung_137 : decode cX3_rung 137 = .ok (.aload_n 0, 1) := by decide +kernel
theorem dX3_rung_138 : decode cX3_rung 138 = .ok (.iload 4, 2) := by decide +kernel
theorem dX3_rung_140 : decode cX3_rung 140 = .ok (.iload_n 3, 1) := by decide +kernel
theorem dX3_rung_141 : decode cX3_rung 141 = .ok (.invokevirtual 141, 3) := by decide +kernel
theorem dX3_rung_144 : decode cX3_rung 144 = .ok (.istore 5, 2) := by decide +kernel
theorem dX3_rung_146 : decode cX3_rung 146 = .ok (.iload 5, 2) := by decide +kernel
theorem dX3_rung_148 : decode cX3_rung 148 = .ok (.ifCond .eq 5, 3) := by decide +kernel
theorem dX3_rung_151 : decode cX3_rung 151 = .ok (.iconst 1, 1) := by decide +kernel
theorem dX3_rung_152 : decode cX3_rung 152 = .ok (.ireturn, 1) := by decide +kernel
theorem dX3_rung_153 : decode cX3_rung 153 = .ok (.iinc 2 1, 3) := by decide +kernel
theorem dX3_rung_156 : decode cX3_rung 156 = .ok (.goto (-128), 3) := by decide +kernel
theorem dX3_rung_159 : decode cX3_rung 159 = .ok (.iconst 0, 1) := by decide +kernel
theorem dX3_rung_160 : decode cX3_rung 160 = .ok (.ireturn, 1) := by decide +kernel
theorem dX3_column_0 : decode cX3_column 0 = .ok (.iconst 0, 1) := by decide +kernel
theorem dX3_column_1 : decode cX3_column 1 = .ok (.istore_n 3, 1) := by decide +kernel
theorem dX3_column_2 : decode cX3_column 2 = .ok (.iload_n 3, 1) := by decide +kernel
theorem dX3_column_3 : decode cX3_column 3 = .ok (.iconst 3, 1) := by decide +kernel
theorem dX3_column_4 : decode cX3_column 4 = .ok (.if_icmp .ge 57, 3) := by decide +kernel
theorem dX3_column_7 : decode cX3_column 7 = .ok (.aload_n 0, 1) := by decide +kernel
theorem dX3_column_8 : decode cX3_column 8 = .ok (.iload_n 1, 1) := by decide +kernel
theorem dX3_column_9 : decode cX3_column 9 = .ok (.iload_n 3, 1) := by decide +kernel
theorem dX3_column_10 : decode cX3_column 10 = .ok (.iload_n 2, 1) := by decide +kernel
theorem dX3_column_11 : decode cX3_column 11 = .ok (.invokestatic 96, 3) := by decide +kernel
theorem dX3_column_14 : decode cX3_column 14 = .ok (.invokevirtual 134, 3) := by decide +kernel
theorem dX3_column_17 : decode cX3_column 17 = .ok (.istore 4, 2) := by decide +kernel
theorem dX3_column_19 : decode cX3_column 19 = .ok (.aload_n 0, 1) := by decide +kernel
theorem dX3_column_20 : decode cX3_column 20 = .ok (.getfield 31, 3) := by decide +kernel
theorem dX3_column_23 : decode cX3_column 23 = .ok (.iload_n 3, 1) := by decide +kernel
theorem dX3_column_24 : decode cX3_column 24 = .ok (.iload 4, 2) := by decide +kernel
theorem dX3_column_26 : decode cX3_column 26 = .ok (.ifCond .eq 27, 3) := by decide +kernel
theorem dX3_column_29 : decode cX3_column 29 = .ok (.iload_n 2, 1) := by decide +kernel
theorem dX3_column_30 : decode cX3_column 30 = .ok (.ifCond .eq 19, 3) := by decide +kernel
theorem dX3_column_33 : decode cX3_column 33 = .ok (.aload_n 0, 1) := by decide +kernel
theorem dX3_column_34 : decode cX3_column 34 = .ok (.getfield 19, 3) := by decide +kernel
theorem dX3_column_37 : decode cX3_column 37 = .ok (.iload_n 1, 1) := by decide +kernel
theorem dX3_column_38 : decode cX3_column 38 = .ok (.iload_n 3, 1) := by decide +kernel
theorem dX3_column_39 : decode cX3_column 39 = .ok (.iload_n 2, 1) := by decide +kernel
theorem dX3_column_40 : decode cX3_column 40 = .ok (.iconst 1, 1) := by decide +kernel
theorem dX3_column_41 : decode cX3_column 41 = .ok (.isub, 1) := by decide +kernel
theorem dX3_column_42 : decode cX3_column 42 = .ok (.invokestatic 96, 3) := by decide +kernel
theorem dX3_column_45 : decode cX3_column 45 = .ok (.baload, 1) := by decide +kernel
theorem dX3_column_46 : decode cX3_column 46 = .ok (.ifCond .eq 7, 3) := by decide +kernel
theorem dX3_column_49 : decode cX3_column 49 = .ok (.iconst 1, 1) := by decide +kernel
theorem dX3_column_50 : decode cX3_column 50 = .ok (.goto 4, 3) := by decide +kernel
theorem dX3_column_53 : decode cX3_column 53 = .ok (.iconst 0, 1) := by decide +kernel
theorem dX3_column_54 : decode cX3_column 54 = .ok (.bastore, 1) := by decide +kernel
theorem dX3_column_55 : decode cX3_column 55 = .ok (.iinc 3 1, 3) := by decide +kernel
theorem dX3_column_58 : decode cX3_column 58 = .ok (.goto (-56), 3) := by decide +kernel
theorem dX3_column_61 : decode cX3_column 61 = .ok (.aload_n 0, 1) := by decide +kernel
theorem dX3_column_62 : decode cX3_column 62 = .ok (.getfield 16, 3) := by decide +kernel
theorem dX3_column_65 : decode cX3_column 65 = .ok (.bipush 8, 2) := by decide +kernel
theorem dX3_column_67 : decode cX3_column 67 = .ok (.iload_n 1, 1) := by decide +kernel
theorem dX3_column_68 : decode cX3_column 68 = .ok (.imul, 1) := by decide +kernel
theorem dX3_column_69 : decode cX3_column 69 = .ok (.iload_n 2, 1) := by decide +kernel
theorem dX3_column_70 : decode cX3_column 70 = .ok (.iadd, 1) := by decide +kernel
theorem dX3_column_71 : decode cX3_column 71 = .ok (.baload, 1) := by decide +kernel
theorem dX3_column_72 : decode cX3_column 72 = .ok (.istore_n 3, 1) := by decide +kernel
theorem dX3_column_73 : decode cX3_column 73 = .ok (.aload_n 0, 1) := by decide +kernel
theorem dX3_column_74 : decode cX3_column 74 = .ok (.getfield 16, 3) := by decide +kernel
theorem dX3_column_77 : decode cX3_column 77 = .ok (.bipush 8, 2) := by decide +kernel
theorem dX3_column_79 : decode cX3_column 79 = .ok (.iload_n 1, 1) := by decide +kernel
theorem dX3_column_80 : decode cX3_column 80 = .ok (.imul, 1) := by decide +kernel
theorem dX3_column_81 : decode cX3_column 81 = .ok (.iconst 4, 1) := by decide +kernel
theorem dX3_column_82 : decode cX3_column 82 = .ok (.iadd, 1) := by decide +kernel
theorem dX3_column_83 : decode cX3_column 83 = .ok (.iload_n 2, 1) := by decide +kernel
theorem dX3_column_84 : decode cX3_column 84 = .ok (.iadd, 1) := by decide +kernel
theorem dX3_column_85 : decode cX3_column 85 = .ok (.baload, 1) := by decide +kernel
theorem dX3_column_86 : decode cX3_column 86 = .ok (.istore 4, 2) := by decide +kernel
theorem dX3_column_88 : decode cX3_column 88 = .ok (.iconst 0, 1) := by decide +kernel
theorem dX3_column_89 : decode cX3_column 89 = .ok (.istore 5, 2) := by decide +kernel
theorem dX3_column_91 : decode cX3_column 91 = .ok (.iload 5, 2) := by decide +kernel
theorem dX3_column_93 : decode cX3_column 93 = .ok (.iconst 2, 1) := by decide +kernel
theorem dX3_column_94 : decode cX3_column 94 = .ok (.if_icmp .ge 82, 3) := by decide +kernel
theorem dX3_column_97 : decode cX3_column 97 = .ok (.iload_n 3, 1) := by decide +kernel
theorem dX3_column_98 : decode cX3_column 98 = .ok (.ifCond .eq 35, 3) := by decide +kernel
theorem dX3_column_101 : decode cX3_column 101 = .ok (.aload_n 0, 1) := by decide +kernel
theorem dX3_column_102 : decode cX3_column 102 = .ok (.getfield 31, 3) := by decide +kernel
theorem dX3_column_105 : decode cX3_column 105 = .ok (.iconst 0, 1) := by decide +kernel
theorem dX3_column_106 : decode cX3_column 106 = .ok (.baload, 1) := by decide +kernel
theorem dX3_column_107 : decode cX3_column 107 = .ok (.ifCond .ne 12, 3) := by decide +kernel
theorem dX3_column_110 : decode cX3_column 110 = .ok (.aload_n 0, 1) := by decide +kernel
theorem dX3_column_111 : decode cX3_column 111 = .ok (.getfield 31, 3) := by decide +kernel
theorem dX3_column_114 : decode cX3_column 114 = .ok (.iconst 1, 1) := by decide +kernel
theorem dX3_column_115 : decode cX3_column 115 = .ok (.baload, 1) := by decide +kernel
theorem dX3_column_116 : decode cX3_column 116 = .ok (.ifCond .eq 17, 3) := by decide +kernel
theorem dX3_column_119 : decode cX3_column 119 = .ok (.aload_n 0, 1) := by decide +kernel
theorem dX3_column_120 : decode cX3_column 120 = .ok (.getfield 31, 3) := by decide +kernel
theorem dX3_column_123 : decode cX3_column 123 = .ok (.iconst 0, 1) := by decide +kernel
theorem dX3_column_124 : decode cX3_column 124 = .ok (.iconst 1, 1) := by decide +kernel
theorem dX3_column_125 : decode cX3_column 125 = .ok (.bastore, 1) := by decide +kernel
theorem dX3_column_126 : decode cX3_column 126 = .ok (.aload_n 0, 1) := by decide +kernel
theorem dX3_column_127 : decode cX3_column 127 = .ok (.getfield 31, 3) := by decide +kernel
theorem dX3_column_130 : decode cX3_column 130 = .ok (.iconst 1, 1) := by decide +kernel
theorem dX3_column_131 : decode cX3_column 131 = .ok (.iconst 1, 1) := by decide +kernel
theorem dX3_column_132 : decode cX3_column 132 = .ok (.bastore, 1) := by decide +kernel
theorem dX3_column_133 : decode cX3_column 133 = .ok (.iload 4, 2) := by decide +kernel
theorem dX3_column_135 : decode cX3_column 135 = .ok (.ifCond .eq 35, 3) := by decide +kernel
theorem dX3_column_138 : decode cX3_column 138 = .ok (.aload_n 0, 1) := by decide +kernel
theorem dX3_column_139 : decode cX3_column 139 = .ok (.getfield 31, 3) := by decide +kernel
theorem dX3_column_142 : decode cX3_column 142 = .ok (.iconst 1, 1) := by decide +kernel
theorem dX3_column_143 : decode cX3_column 143 = .ok (.baload, 1) := by decide +kernel
theorem dX3_column_144 : decode cX3_column 144 = .ok (.ifCond .ne 12, 3) := by decide +kernel
theorem dX3_column_147 : decode cX3_column 147 = .ok (.aload_n 0, 1) := by decide +kernel
theorem dX3_column_148 : decode cX3_column 148 = .ok (.getfield 31, 3) := by decide +kernel
theorem dX3_column_151 : decode cX3_column 151 = .ok (.iconst 2, 1) := by decide +kernel
theorem dX3_column_152 : decode cX3_column 152 = .ok (.baload, 1) := by decide +kernel
theorem dX3_column_153 : decode cX3_column 153 = .ok (.ifCond .eq 17, 3) := by decide +kernel
theorem dX3_column_156 : decode cX3_column 156 = .ok (.aload_n 0, 1) := by decide +kernel
theorem dX3_column_157 : decode cX3_column 157 = .ok (.getfield 31, 3) := by decide +kernel
theorem dX3_column_160 : decode cX3_column 160 = .ok (.iconst 1, 1) := by decide +kernel
theorem dX3_column_161 : decode cX3_column 161 = .ok (.iconst 1, 1) := by decide +kernel
theorem dX3_column_162 : decode cX3_column 162 = .ok (.bastore, 1) := by decide +kernel
theorem dX3_column_163 : decode cX3_column 163 = .ok (.aload_n 0, 1) := by decide +kernel
theorem dX3_column_164 : decode cX3_column 164 = .ok (.getfield 31, 3) := by decide +kernel
theorem dX3_column_167 : decode cX3_column 167 = .ok (.iconst 2, 1) := by decide +kernel
theorem dX3_column_168 : decode cX3_column 168 = .ok (.iconst 1, 1) := by decide +kernel
theorem dX3_column_169 : decode cX3_column 169 = .ok (.bastore, 1) := by decide +kernel
theorem dX3_column_170 : decode cX3_column 170 = .ok (.iinc 5 1, 3) := by decide +kernel
theorem dX3_column_173 : decode cX3_column 173 = .ok (.goto (-82), 3) := by decide +kernel
theorem dX3_column_176 : decode cX3_column 176 = .ok (.iconst 0, 1) := by decide +kernel
theorem dX3_column_177 : decode cX3_column 177 = .ok (.istore 5, 2) := by decide +kernel
theorem dX3_column_179 : decode cX3_column 179 = .ok (.iload 5, 2) := by decide +kernel
theorem dX3_column_181 : decode cX3_column 181 = .ok (.iconst 3, 1) := by decide +kernel
theorem dX3_column_182 : decode cX3_column 182 = .ok (.if_icmp .ge 28, 3) := by decide +kernel
theorem dX3_column_185 : decode cX3_column 185 = .ok (.aload_n 0, 1) := by decide +kernel
theorem dX3_column_186 : decode cX3_column 186 = .ok (.getfield 19, 3) := by decide +kernel
theorem dX3_column_189 : decode cX3_column 189 = .ok (.iload_n 1, 1) := by decide +kernel
theorem dX3_column_190 : decode cX3_column 190 = .ok (.iload 5, 2) := by decide +kernel
theorem dX3_column_192 : decode cX3_column 192 = .ok (.iload_n 2, 1) := by decide +kernel
theorem dX3_column_193 : decode cX3_column 193 = .ok (.invokestatic 96, 3) := by decide +kernel
theorem dX3_column_196 : decode cX3_column 196 = .ok (.aload_n 0, 1) := by decide +kernel
theorem dX3_column_197 : decode cX3_column 197 = .ok (.getfield 31, 3) := by decide +kernel
theorem dX3_column_200 : decode cX3_column 200 = .ok (.iload 5, 2) := by decide +kernel
theorem dX3_column_202 : decode cX3_column 202 = .ok (.baload, 1) := by decide +kernel
theorem dX3_column_203 : decode cX3_column 203 = .ok (.bastore, 1) := by decide +kernel
theorem dX3_column_204 : decode cX3_column 204 = .ok (.iinc 5 1, 3) := by decide +kernel
theorem dX3_column_207 : decode cX3_column 207 = .ok (.goto (-28), 3) := by decide +kernel
theorem dX3_column_210 : decode cX3_column 210 = .ok (.return_, 1) := by decide +kernel
theorem dX3_conducts_0 : decode cX3_conducts 0 = .ok (.aload_n 0, 1) := by decide +kernel
theorem dX3_conducts_1 : decode cX3_conducts 1 = .ok (.getfield 7, 3) := by decide +kernel
theorem dX3_conducts_4 : decode cX3_conducts 4 = .ok (.aload_n 0, 1) := by decide +kernel
theorem dX3_conducts_5 : decode cX3_conducts 5 = .ok (.getfield 51, 3) := by decide +kernel
theorem dX3_conducts_8 : decode cX3_conducts 8 = .ok (.iload_n 1, 1) := by decide +kernel
theorem dX3_conducts_9 : decode cX3_conducts 9 = .ok (.iaload, 1) := by decide +kernel
theorem dX3_conducts_10 : decode cX3_conducts 10 = .ok (.baload, 1) := by decide +kernel
theorem dX3_conducts_11 : decode cX3_conducts 11 = .ok (.istore_n 2, 1) := by decide +kernel
theorem dX3_conducts_12 : decode cX3_conducts 12 = .ok (.aload_n 0, 1) := by decide +kernel
theorem dX3_conducts_13 : decode cX3_conducts 13 = .ok (.getfield 13, 3) := by decide +kernel
theorem dX3_conducts_16 : decode cX3_conducts 16 = .ok (.iload_n 1, 1) := by decide +kernel
theorem dX3_conducts_17 : decode cX3_conducts 17 = .ok (.baload, 1) := by decide +kernel
theorem dX3_conducts_18 : decode cX3_conducts 18 = .ok (.istore_n 3, 1) := by decide +kernel
theorem dX3_conducts_19 : decode cX3_conducts 19 = .ok (.aload_n 0, 1) := by decide +kernel
theorem dX3_conducts_20 : decode cX3_conducts 20 = .ok (.getfield 13, 3) := by decide +kernel
theorem dX3_conducts_23 : decode cX3_conducts 23 = .ok (.iload_n 1, 1) := by decide +kernel
theorem dX3_conducts_24 : decode cX3_conducts 24 = .ok (.iload_n 2, 1) := by decide +kernel
theorem dX3_conducts_25 : decode cX3_conducts 25 = .ok (.bastore, 1) := by decide +kernel
theorem dX3_conducts_26 : decode cX3_conducts 26 = .ok (.aload_n 0, 1) := by decide +kernel
theorem dX3_conducts_27 : decode cX3_conducts 27 = .ok (.getfield 47, 3) := by decide +kernel
theorem dX3_conducts_30 : decode cX3_conducts 30 = .ok (.iload_n 1, 1) := by decide +kernel
theorem dX3_conducts_31 : decode cX3_conducts 31 = .ok (.iaload, 1) := by decide +kernel
theorem dX3_conducts_32 : decode cX3_conducts 32 = .ok (.tableswitch 66 0 4 #[36, 38, 40, 42, 52], 36) := by decide +kernel
theorem dX3_conducts_68 : decode cX3_conducts 68 = .ok (.iconst 0, 1) := by decide +kernel
theorem dX3_conducts_69 : decode cX3_conducts 69 = .ok (.ireturn, 1) := by decide +kernel
theorem dX3_conducts_70 : decode cX3_conducts 70 = .ok (.iconst 1, 1) := by decide +kernel
theorem dX3_conducts_71 : decode cX3_conducts 71 = .ok (.ireturn, 1) := by decide +kernel
theorem dX3_conducts_72 : decode cX3_conducts 72 = .ok (.iload_n 2, 1) := by decide +kernel
theorem dX3_conducts_73 : decode cX3_conducts 73 = .ok (.ireturn, 1) := by decide +kernel
theorem dX3_conducts_74 : decode cX3_conducts 74 = .ok (.iload_n 2, 1) := by decide +kernel
theorem dX3_conducts_75 : decode cX3_conducts 75 = .ok (.ifCond .ne 7, 3) := by decide +kernel
theorem dX3_conducts_78 : decode cX3_conducts 78 = .ok (.iconst 1, 1) := by decide +kernel
theorem dX3_conducts_79 : decode cX3_conducts 79 = .ok (.goto 4, 3) := by decide +kernel
theorem dX3_conducts_82 : decode cX3_conducts 82 = .ok (.iconst 0, 1) := by decide +kernel
theorem dX3_conducts_83 : decode cX3_conducts 83 = .ok (.ireturn, 1) := by decide +kernel
theorem dX3_conducts_84 : decode cX3_conducts 84 = .ok (.iload_n 2, 1) := by decide +kernel
theorem dX3_conducts_85 : decode cX3_conducts 85 = .ok (.ifCond .eq 11, 3) := by decide +kernel
theorem dX3_conducts_88 : decode cX3_conducts 88 = .ok (.iload_n 3, 1) := by decide +kernel
theorem dX3_conducts_89 : decode cX3_conducts 89 = .ok (.ifCond .ne 7, 3) := by decide +kernel
theorem dX3_conducts_92 : decode cX3_conducts 92 = .ok (.iconst 1, 1) := by decide +kernel
theorem dX3_conducts_93 : decode cX3_conducts 93 = .ok (.goto 4, 3) := by decide +kernel
theorem dX3_conducts_96 : decode cX3_conducts 96 = .ok (.iconst 0, 1) := by decide +kernel
theorem dX3_conducts_97 : decode cX3_conducts 97 = .ok (.ireturn, 1) := by decide +kernel
theorem dX3_conducts_98 : decode cX3_conducts 98 = .ok (.iload_n 2, 1) := by decide +kernel
theorem dX3_conducts_99 : decode cX3_conducts 99 = .ok (.ifCond .ne 11, 3) := by decide +kernel
theorem dX3_conducts_102 : decode cX3_conducts 102 = .ok (.iload_n 3, 1) := by decide +kernel
theorem dX3_conducts_103 : decode cX3_conducts 103 = .ok (.ifCond .eq 7, 3) := by decide +kernel
theorem dX3_conducts_106 : decode cX3_conducts 106 = .ok (.iconst 1, 1) := by decide +kernel
theorem dX3_conducts_107 : decode cX3_conducts 107 = .ok (.goto 4, 3) := by decide +kernel
theorem dX3_conducts_110 : decode cX3_conducts 110 = .ok (.iconst 0, 1) := by decide +kernel
theorem dX3_conducts_111 : decode cX3_conducts 111 = .ok (.ireturn, 1) := by decide +kernel
theorem dX3_perform_0 : decode cX3_perform 0 = .ok (.aload_n 0, 1) := by decide +kernel
theorem dX3_perform_1 : decode cX3_perform 1 = .ok (.getfield 75, 3) := by decide +kernel
theorem dX3_perform_4 : decode cX3_perform 4 = .ok (.iload_n 1, 1) := by decide +kernel
theorem dX3_perform_5 : decode cX3_perform 5 = .ok (.dup2, 1) := by decide +kernel
theorem dX3_perform_6 : decode cX3_perform 6 = .ok (.iaload, 1) := by decide +kernel
theorem dX3_perform_7 : decode cX3_perform 7 = .ok (.iconst 1, 1) := by decide +kernel
theorem dX3_perform_8 : decode cX3_perform 8 = .ok (.iadd, 1) := by decide +kernel
theorem dX3_perform_9 : decode cX3_perform 9 = .ok (.iastore, 1) := by decide +kernel
theorem dX3_perform_10 : decode cX3_perform 10 = .ok (.aload_n 0, 1) := by decide +kernel
theorem dX3_perform_11 : decode cX3_perform 11 = .ok (.getfield 60, 3) := by decide +kernel
theorem dX3_perform_14 : decode cX3_perform 14 = .ok (.iload_n 1, 1) := by decide +kernel
theorem dX3_perform_15 : decode cX3_perform 15 = .ok (.iaload, 1) := by decide +kernel
theorem dX3_perform_16 : decode cX3_perform 16 = .ok (.istore_n 3, 1) := by decide +kernel
theorem dX3_perform_17 : decode cX3_perform 17 = .ok (.iload_n 3, 1) := by decide +kernel
theorem dX3_perform_18 : decode cX3_perform 18 = .ok (.ifCond .ne 5, 3) := by decide +kernel
theorem dX3_perform_21 : decode cX3_perform 21 = .ok (.iconst 0, 1) := by decide +kernel
theorem dX3_perform_22 : decode cX3_perform 22 = .ok (.ireturn, 1) := by decide +kernel
theorem dX3_perform_23 : decode cX3_perform 23 = .ok (.iload_n 3, 1) := by decide +kernel
theorem dX3_perform_24 : decode cX3_perform 24 = .ok (.iconst 3, 1) := by decide +kernel
theorem dX3_perform_25 : decode cX3_perform 25 = .ok (.if_icmp .ge 11, 3) := by decide +kernel
theorem dX3_perform_28 : decode cX3_perform 28 = .ok (.aload_n 0, 1) := by decide +kernel
theorem dX3_perform_29 : decode cX3_perform 29 = .ok (.iload_n 1, 1) := by decide +kernel
theorem dX3_perform_30 : decode cX3_perform 30 = .ok (.iload_n 2, 1) := by decide +kernel
theorem dX3_perform_31 : decode cX3_perform 31 = .ok (.invokevirtual 120, 3) := by decide +kernel
theorem dX3_perform_34 : decode cX3_perform 34 = .ok (.iconst 0, 1) := by decide +kernel
theorem dX3_perform_35 : decode cX3_perform 35 = .ok (.ireturn, 1) := by decide +kernel
theorem dX3_perform_36 : decode cX3_perform 36 = .ok (.iload_n 3, 1) := by decide +kernel
theorem dX3_perform_37 : decode cX3_perform 37 = .ok (.iconst 3, 1) := by decide +kernel
theorem dX3_perform_38 : decode cX3_perform 38 = .ok (.if_icmp .ne 51, 3) := by decide +kernel
theorem dX3_perform_41 : decode cX3_perform 41 = .ok (.iload_n 2, 1) := by decide +kernel
theorem dX3_perform_42 : decode cX3_perform 42 = .ok (.ifCond .eq 45, 3) := by decide +kernel
theorem dX3_perform_45 : decode cX3_perform 45 = .ok (.aload_n 0, 1) := by decide +kernel
theorem dX3_perform_46 : decode cX3_perform 46 = .ok (.getfield 7, 3) := by decide +kernel
theorem dX3_perform_49 : decode cX3_perform 49 = .ok (.aload_n 0, 1) := by decide +kernel
theorem dX3_perform_50 : decode cX3_perform 50 = .ok (.getfield 69, 3) := by decide +kernel
theorem dX3_perform_53 : decode cX3_perform 53 = .ok (.iload_n 1, 1) := by decide +kernel
theorem dX3_perform_54 : decode cX3_perform 54 = .ok (.iaload, 1) := by decide +kernel
theorem dX3_perform_55 : decode cX3_perform 55 = .ok (.aload_n 0, 1) := by decide +kernel
theorem dX3_perform_56 : decode cX3_perform 56 = .ok (.getfield 34, 3) := by decide +kernel
theorem dX3_perform_59 : decode cX3_perform 59 = .ok (.aload_n 0, 1) := by decide +kernel
theorem dX3_perform_60 : decode cX3_perform 60 = .ok (.getfield 63, 3) := by decide +kernel
theorem dX3_perform_63 : decode cX3_perform 63 = .ok (.iload_n 1, 1) := by decide +kernel
theorem dX3_perform_64 : decode cX3_perform 64 = .ok (.iaload, 1) := by decide +kernel
theorem dX3_perform_65 : decode cX3_perform 65 = .ok (.daload, 1) := by decide +kernel
theorem dX3_perform_66 : decode cX3_perform 66 = .ok (.aload_n 0, 1) := by decide +kernel
theorem dX3_perform_67 : decode cX3_perform 67 = .ok (.getfield 34, 3) := by decide +kernel
theorem dX3_perform_70 : decode cX3_perform 70 = .ok (.aload_n 0, 1) := by decide +kernel
theorem dX3_perform_71 : decode cX3_perform 71 = .ok (.getfield 66, 3) := by decide +kernel
theorem dX3_perform_74 : decode cX3_perform 74 = .ok (.iload_n 1, 1) := by decide +kernel
theorem dX3_perform_75 : decode cX3_perform 75 = .ok (.iaload, 1) := by decide +kernel
theorem dX3_perform_76 : decode cX3_perform 76 = .ok (.daload, 1) := by decide +kernel
theorem dX3_perform_77 : decode cX3_perform 77 = .ok (.dcmp .g, 1) := by decide +kernel
theorem dX3_perform_78 : decode cX3_perform 78 = .ok (.ifCond .ge 7, 3) := by decide +kernel
theorem dX3_perform_81 : decode cX3_perform 81 = .ok (.iconst 1, 1) := by decide +kernel
theorem dX3_perform_82 : decode cX3_perform 82 = .ok (.goto 4, 3) := by decide +kernel
theorem dX3_perform_85 : decode cX3_perform 85 = .ok (.iconst 0, 1) := by decide +kernel
theorem dX3_perform_86 : decode cX3_perform 86 = .ok (.bastore, 1) := by decide +kernel
theorem dX3_perform_87 : decode cX3_perform 87 = .ok (.iconst 0, 1) := by decide +kernel
theorem dX3_perform_88 : decode cX3_perform 88 = .ok (.ireturn, 1) := by decide +kernel
theorem dX3_perform_89 : decode cX3_perform 89 = .ok (.iload_n 2, 1) := by decide +kernel
theorem dX3_perform_90 : decode cX3_perform 90 = .ok (.ifCond .ne 19, 3) := by decide +kernel
theorem dX3_perform_93 : decode cX3_perform 93 = .ok (.aload_n 0, 1) := by decide +kernel
theorem dX3_perform_94 : decode cX3_perform 94 = .ok (.getfield 41, 3) := by decide +kernel
theorem dX3_perform_97 : decode cX3_perform 97 = .ok (.iload_n 1, 1) := by decide +kernel
theorem dX3_perform_98 : decode cX3_perform 98 = .ok (.dconst 0, 1) := by decide +kernel
theorem dX3_perform_99 : decode cX3_perform 99 = .ok (.dastore, 1) := by decide +kernel
theorem dX3_perform_100 : decode cX3_perform 100 = .ok (.aload_n 0, 1) := by decide +kernel
theorem dX3_perform_101 : decode cX3_perform 101 = .ok (.getfield 44, 3) := by decide +kernel
theorem dX3_perform_104 : decode cX3_perform 104 = .ok (.iload_n 1, 1) := by decide +kernel
theorem dX3_perform_105 : decode cX3_perform 105 = .ok (.dconst 0, 1) := by decide +kernel
theorem dX3_perform_106 : decode cX3_perform 106 = .ok (.dastore, 1) := by decide +kernel
theorem dX3_perform_107 : decode cX3_perform 107 = .ok (.iconst 0, 1) := by decide +kernel
theorem dX3_perform_108 : decode cX3_perform 108 = .ok (.ireturn, 1) := by decide +kernel
end
section
/-! decode rows -/
theorem dX3_perform_109 : decode cX3_perform 109 = .ok (.aload_n 0, 1) := by decide +kernel
theorem dX3_perform_110 : decode cX3_perform 110 = .ok (.iload_n 1, 1) := by decide +kernel
theorem dX3_perform_111 : decode cX3_perform 111 = .ok (.invokevirtual 124, 3) := by decide +kernel
theorem dX3_perform_114 : decode cX3_perform 114 = .ok (.istore 4, 2) := by decide +kernel
theorem dX3_perform_116 : decode cX3_perform 116 = .ok (.iload 4, 2) := by decide +kernel
theorem dX3_perform_118 : decode cX3_perform 118 = .ok (.ifCond .ne 5, 3) := by decide +kernel
theorem dX3_perform_121 : decode cX3_perform 121 = .ok (.iconst 0, 1) := by decide +kernel
theorem dX3_perform_122 : decode cX3_perform 122 = .ok (.ireturn, 1) := by decide +kernel
theorem dX3_perform_123 : decode cX3_perform 123 = .ok (.aload_n 0, 1) := by decide +kernel
theorem dX3_perform_124 : decode cX3_perform 124 = .ok (.getfield 78, 3) := by decide +kernel
theorem dX3_perform_127 : decode cX3_perform 127 = .ok (.iload_n 1, 1) := by decide +kernel
theorem dX3_perform_128 : decode cX3_perform 128 = .ok (.dup2, 1) := by decide +kernel
theorem dX3_perform_129 : decode cX3_perform 129 = .ok (.iaload, 1) := by decide +kernel
theorem dX3_perform_130 : decode cX3_perform 130 = .ok (.iconst 1, 1) := by decide +kernel
theorem dX3_perform_131 : decode cX3_perform 131 = .ok (.iadd, 1) := by decide +kernel
theorem dX3_perform_132 : decode cX3_perform 132 = .ok (.iastore, 1) := by decide +kernel
theorem dX3_perform_133 : decode cX3_perform 133 = .ok (.aload_n 0, 1) := by decide +kernel
theorem dX3_perform_134 : decode cX3_perform 134 = .ok (.dup, 1) := by decide +kernel
theorem dX3_perform_135 : decode cX3_perform 135 = .ok (.getfield 127, 3) := by decide +kernel
theorem dX3_perform_138 : decode cX3_perform 138 = .ok (.iconst 1, 1) := by decide +kernel
theorem dX3_perform_139 : decode cX3_perform 139 = .ok (.iadd, 1) := by decide +kernel
theorem dX3_perform_140 : decode cX3_perform 140 = .ok (.putfield 127, 3) := by decide +kernel
theorem dX3_perform_143 : decode cX3_perform 143 = .ok (.aload_n 0, 1) := by decide +kernel
theorem dX3_perform_144 : decode cX3_perform 144 = .ok (.getfield 25, 3) := by decide +kernel
theorem dX3_perform_147 : decode cX3_perform 147 = .ok (.iload_n 1, 1) := by decide +kernel
theorem dX3_perform_148 : decode cX3_perform 148 = .ok (.baload, 1) := by decide +kernel
theorem dX3_perform_149 : decode cX3_perform 149 = .ok (.ifCond .eq 13, 3) := by decide +kernel
theorem dX3_perform_152 : decode cX3_perform 152 = .ok (.aload_n 0, 1) := by decide +kernel
theorem dX3_perform_153 : decode cX3_perform 153 = .ok (.getfield 7, 3) := by decide +kernel
theorem dX3_perform_156 : decode cX3_perform 156 = .ok (.bipush 23, 2) := by decide +kernel
theorem dX3_perform_158 : decode cX3_perform 158 = .ok (.iconst 1, 1) := by decide +kernel
theorem dX3_perform_159 : decode cX3_perform 159 = .ok (.bastore, 1) := by decide +kernel
theorem dX3_perform_160 : decode cX3_perform 160 = .ok (.iconst 0, 1) := by decide +kernel
theorem dX3_perform_161 : decode cX3_perform 161 = .ok (.ireturn, 1) := by decide +kernel
theorem dX3_perform_162 : decode cX3_perform 162 = .ok (.bipush 8, 2) := by decide +kernel
theorem dX3_perform_164 : decode cX3_perform 164 = .ok (.istore 5, 2) := by decide +kernel
theorem dX3_perform_166 : decode cX3_perform 166 = .ok (.iload 5, 2) := by decide +kernel
theorem dX3_perform_168 : decode cX3_perform 168 = .ok (.bipush 16, 2) := by decide +kernel
theorem dX3_perform_170 : decode cX3_perform 170 = .ok (.if_icmp .ge 17, 3) := by decide +kernel
theorem dX3_perform_173 : decode cX3_perform 173 = .ok (.aload_n 0, 1) := by decide +kernel
theorem dX3_perform_174 : decode cX3_perform 174 = .ok (.getfield 7, 3) := by decide +kernel
theorem dX3_perform_177 : decode cX3_perform 177 = .ok (.iload 5, 2) := by decide +kernel
theorem dX3_perform_179 : decode cX3_perform 179 = .ok (.iconst 0, 1) := by decide +kernel
theorem dX3_perform_180 : decode cX3_perform 180 = .ok (.bastore, 1) := by decide +kernel
theorem dX3_perform_181 : decode cX3_perform 181 = .ok (.iinc 5 1, 3) := by decide +kernel
theorem dX3_perform_184 : decode cX3_perform 184 = .ok (.goto (-18), 3) := by decide +kernel
theorem dX3_perform_187 : decode cX3_perform 187 = .ok (.aload_n 0, 1) := by decide +kernel
theorem dX3_perform_188 : decode cX3_perform 188 = .ok (.iconst 1, 1) := by decide +kernel
theorem dX3_perform_189 : decode cX3_perform 189 = .ok (.putfield 130, 3) := by decide +kernel
theorem dX3_perform_192 : decode cX3_perform 192 = .ok (.aload_n 0, 1) := by decide +kernel
theorem dX3_perform_193 : decode cX3_perform 193 = .ok (.iload_n 1, 1) := by decide +kernel
theorem dX3_perform_194 : decode cX3_perform 194 = .ok (.putfield 81, 3) := by decide +kernel
theorem dX3_perform_197 : decode cX3_perform 197 = .ok (.iconst 1, 1) := by decide +kernel
theorem dX3_perform_198 : decode cX3_perform 198 = .ok (.ireturn, 1) := by decide +kernel
theorem dX3_tally_0 : decode cX3_tally 0 = .ok (.aload_n 0, 1) := by decide +kernel
theorem dX3_tally_1 : decode cX3_tally 1 = .ok (.getfield 60, 3) := by decide +kernel
theorem dX3_tally_4 : decode cX3_tally 4 = .ok (.iload_n 1, 1) := by decide +kernel
theorem dX3_tally_5 : decode cX3_tally 5 = .ok (.iaload, 1) := by decide +kernel
theorem dX3_tally_6 : decode cX3_tally 6 = .ok (.iconst 1, 1) := by decide +kernel
theorem dX3_tally_7 : decode cX3_tally 7 = .ok (.if_icmp .ne 54, 3) := by decide +kernel
theorem dX3_tally_10 : decode cX3_tally 10 = .ok (.aload_n 0, 1) := by decide +kernel
theorem dX3_tally_11 : decode cX3_tally 11 = .ok (.getfield 72, 3) := by decide +kernel
theorem dX3_tally_14 : decode cX3_tally 14 = .ok (.iload_n 1, 1) := by decide +kernel
theorem dX3_tally_15 : decode cX3_tally 15 = .ok (.iload_n 2, 1) := by decide +kernel
theorem dX3_tally_16 : decode cX3_tally 16 = .ok (.ifCond .ne 7, 3) := by decide +kernel
theorem dX3_tally_19 : decode cX3_tally 19 = .ok (.iconst 0, 1) := by decide +kernel
theorem dX3_tally_20 : decode cX3_tally 20 = .ok (.goto 37, 3) := by decide +kernel
theorem dX3_tally_23 : decode cX3_tally 23 = .ok (.aload_n 0, 1) := by decide +kernel
theorem dX3_tally_24 : decode cX3_tally 24 = .ok (.getfield 72, 3) := by decide +kernel
theorem dX3_tally_27 : decode cX3_tally 27 = .ok (.iload_n 1, 1) := by decide +kernel
theorem dX3_tally_28 : decode cX3_tally 28 = .ok (.iaload, 1) := by decide +kernel
theorem dX3_tally_29 : decode cX3_tally 29 = .ok (.i2d, 1) := by decide +kernel
theorem dX3_tally_30 : decode cX3_tally 30 = .ok (.aload_n 0, 1) := by decide +kernel
theorem dX3_tally_31 : decode cX3_tally 31 = .ok (.getfield 38, 3) := by decide +kernel
theorem dX3_tally_34 : decode cX3_tally 34 = .ok (.iload_n 1, 1) := by decide +kernel
theorem dX3_tally_35 : decode cX3_tally 35 = .ok (.daload, 1) := by decide +kernel
theorem dX3_tally_36 : decode cX3_tally 36 = .ok (.dcmp .g, 1) := by decide +kernel
theorem dX3_tally_37 : decode cX3_tally 37 = .ok (.ifCond .ge 14, 3) := by decide +kernel
theorem dX3_tally_40 : decode cX3_tally 40 = .ok (.aload_n 0, 1) := by decide +kernel
theorem dX3_tally_41 : decode cX3_tally 41 = .ok (.getfield 72, 3) := by decide +kernel
theorem dX3_tally_44 : decode cX3_tally 44 = .ok (.iload_n 1, 1) := by decide +kernel
theorem dX3_tally_45 : decode cX3_tally 45 = .ok (.iaload, 1) := by decide +kernel
theorem dX3_tally_46 : decode cX3_tally 46 = .ok (.iconst 1, 1) := by decide +kernel
theorem dX3_tally_47 : decode cX3_tally 47 = .ok (.iadd, 1) := by decide +kernel
theorem dX3_tally_48 : decode cX3_tally 48 = .ok (.goto 9, 3) := by decide +kernel
theorem dX3_tally_51 : decode cX3_tally 51 = .ok (.aload_n 0, 1) := by decide +kernel
theorem dX3_tally_52 : decode cX3_tally 52 = .ok (.getfield 72, 3) := by decide +kernel
theorem dX3_tally_55 : decode cX3_tally 55 = .ok (.iload_n 1, 1) := by decide +kernel
theorem dX3_tally_56 : decode cX3_tally 56 = .ok (.iaload, 1) := by decide +kernel
theorem dX3_tally_57 : decode cX3_tally 57 = .ok (.iastore, 1) := by decide +kernel
theorem dX3_tally_58 : decode cX3_tally 58 = .ok (.goto 63, 3) := by decide +kernel
theorem dX3_tally_61 : decode cX3_tally 61 = .ok (.aload_n 0, 1) := by decide +kernel
theorem dX3_tally_62 : decode cX3_tally 62 = .ok (.getfield 7, 3) := by decide +kernel
theorem dX3_tally_65 : decode cX3_tally 65 = .ok (.bipush 22, 2) := by decide +kernel
theorem dX3_tally_67 : decode cX3_tally 67 = .ok (.baload, 1) := by decide +kernel
theorem dX3_tally_68 : decode cX3_tally 68 = .ok (.ifCond .eq 13, 3) := by decide +kernel
theorem dX3_tally_71 : decode cX3_tally 71 = .ok (.aload_n 0, 1) := by decide +kernel
theorem dX3_tally_72 : decode cX3_tally 72 = .ok (.getfield 72, 3) := by decide +kernel
theorem dX3_tally_75 : decode cX3_tally 75 = .ok (.iload_n 1, 1) := by decide +kernel
theorem dX3_tally_76 : decode cX3_tally 76 = .ok (.iconst 0, 1) := by decide +kernel
theorem dX3_tally_77 : decode cX3_tally 77 = .ok (.iastore, 1) := by decide +kernel
theorem dX3_tally_78 : decode cX3_tally 78 = .ok (.goto 43, 3) := by decide +kernel
theorem dX3_tally_81 : decode cX3_tally 81 = .ok (.iload_n 2, 1) := by decide +kernel
theorem dX3_tally_82 : decode cX3_tally 82 = .ok (.ifCond .eq 39, 3) := by decide +kernel
theorem dX3_tally_85 : decode cX3_tally 85 = .ok (.aload_n 0, 1) := by decide +kernel
theorem dX3_tally_86 : decode cX3_tally 86 = .ok (.getfield 28, 3) := by decide +kernel
theorem dX3_tally_89 : decode cX3_tally 89 = .ok (.iload_n 1, 1) := by decide +kernel
theorem dX3_tally_90 : decode cX3_tally 90 = .ok (.baload, 1) := by decide +kernel
theorem dX3_tally_91 : decode cX3_tally 91 = .ok (.ifCond .ne 30, 3) := by decide +kernel
theorem dX3_tally_94 : decode cX3_tally 94 = .ok (.aload_n 0, 1) := by decide +kernel
theorem dX3_tally_95 : decode cX3_tally 95 = .ok (.getfield 72, 3) := by decide +kernel
theorem dX3_tally_98 : decode cX3_tally 98 = .ok (.iload_n 1, 1) := by decide +kernel
theorem dX3_tally_99 : decode cX3_tally 99 = .ok (.iaload, 1) := by decide +kernel
theorem dX3_tally_100 : decode cX3_tally 100 = .ok (.i2d, 1) := by decide +kernel
theorem dX3_tally_101 : decode cX3_tally 101 = .ok (.aload_n 0, 1) := by decide +kernel
theorem dX3_tally_102 : decode cX3_tally 102 = .ok (.getfield 38, 3) := by decide +kernel
theorem dX3_tally_105 : decode cX3_tally 105 = .ok (.iload_n 1, 1) := by decide +kernel
theorem dX3_tally_106 : decode cX3_tally 106 = .ok (.daload, 1) := by decide +kernel
theorem dX3_tally_107 : decode cX3_tally 107 = .ok (.dcmp .g, 1) := by decide +kernel
theorem dX3_tally_108 : decode cX3_tally 108 = .ok (.ifCond .ge 13, 3) := by decide +kernel
theorem dX3_tally_111 : decode cX3_tally 111 = .ok (.aload_n 0, 1) := by decide +kernel
theorem dX3_tally_112 : decode cX3_tally 112 = .ok (.getfield 72, 3) := by decide +kernel
theorem dX3_tally_115 : decode cX3_tally 115 = .ok (.iload_n 1, 1) := by decide +kernel
theorem dX3_tally_116 : decode cX3_tally 116 = .ok (.dup2, 1) := by decide +kernel
theorem dX3_tally_117 : decode cX3_tally 117 = .ok (.iaload, 1) := by decide +kernel
theorem dX3_tally_118 : decode cX3_tally 118 = .ok (.iconst 1, 1) := by decide +kernel
theorem dX3_tally_119 : decode cX3_tally 119 = .ok (.iadd, 1) := by decide +kernel
theorem dX3_tally_120 : decode cX3_tally 120 = .ok (.iastore, 1) := by decide +kernel
theorem dX3_tally_121 : decode cX3_tally 121 = .ok (.aload_n 0, 1) := by decide +kernel
theorem dX3_tally_122 : decode cX3_tally 122 = .ok (.getfield 28, 3) := by decide +kernel
theorem dX3_tally_125 : decode cX3_tally 125 = .ok (.iload_n 1, 1) := by decide +kernel
theorem dX3_tally_126 : decode cX3_tally 126 = .ok (.iload_n 2, 1) := by decide +kernel
theorem dX3_tally_127 : decode cX3_tally 127 = .ok (.bastore, 1) := by decide +kernel
theorem dX3_tally_128 : decode cX3_tally 128 = .ok (.aload_n 0, 1) := by decide +kernel
theorem dX3_tally_129 : decode cX3_tally 129 = .ok (.getfield 7, 3) := by decide +kernel
theorem dX3_tally_132 : decode cX3_tally 132 = .ok (.aload_n 0, 1) := by decide +kernel
theorem dX3_tally_133 : decode cX3_tally 133 = .ok (.getfield 69, 3) := by decide +kernel
theorem dX3_tally_136 : decode cX3_tally 136 = .ok (.iload_n 1, 1) := by decide +kernel
theorem dX3_tally_137 : decode cX3_tally 137 = .ok (.iaload, 1) := by decide +kernel
theorem dX3_tally_138 : decode cX3_tally 138 = .ok (.aload_n 0, 1) := by decide +kernel
theorem dX3_tally_139 : decode cX3_tally 139 = .ok (.getfield 72, 3) := by decide +kernel
theorem dX3_tally_142 : decode cX3_tally 142 = .ok (.iload_n 1, 1) := by decide +kernel
theorem dX3_tally_143 : decode cX3_tally 143 = .ok (.iaload, 1) := by decide +kernel
theorem dX3_tally_144 : decode cX3_tally 144 = .ok (.i2d, 1) := by decide +kernel
theorem dX3_tally_145 : decode cX3_tally 145 = .ok (.aload_n 0, 1) := by decide +kernel
theorem dX3_tally_146 : decode cX3_tally 146 = .ok (.getfield 38, 3) := by decide +kernel
theorem dX3_tally_149 : decode cX3_tally 149 = .ok (.iload_n 1, 1) := by decide +kernel
theorem dX3_tally_150 : decode cX3_tally 150 = .ok (.daload, 1) := by decide +kernel
theorem dX3_tally_151 : decode cX3_tally 151 = .ok (.dcmp .l, 1) := by decide +kernel
theorem dX3_tally_152 : decode cX3_tally 152 = .ok (.ifCond .ne 7, 3) := by decide +kernel
theorem dX3_tally_155 : decode cX3_tally 155 = .ok (.iconst 1, 1) := by decide +kernel
theorem dX3_tally_156 : decode cX3_tally 156 = .ok (.goto 4, 3) := by decide +kernel
theorem dX3_tally_159 : decode cX3_tally 159 = .ok (.iconst 0, 1) := by decide +kernel
theorem dX3_tally_160 : decode cX3_tally 160 = .ok (.bastore, 1) := by decide +kernel
theorem dX3_tally_161 : decode cX3_tally 161 = .ok (.return_, 1) := by decide +kernel
theorem dX3_reckon_0 : decode cX3_reckon 0 = .ok (.aload_n 0, 1) := by decide +kernel
theorem dX3_reckon_1 : decode cX3_reckon 1 = .ok (.getfield 34, 3) := by decide +kernel
theorem dX3_reckon_4 : decode cX3_reckon 4 = .ok (.aload_n 0, 1) := by decide +kernel
theorem dX3_reckon_5 : decode cX3_reckon 5 = .ok (.getfield 63, 3) := by decide +kernel
theorem dX3_reckon_8 : decode cX3_reckon 8 = .ok (.iload_n 1, 1) := by decide +kernel
theorem dX3_reckon_9 : decode cX3_reckon 9 = .ok (.iaload, 1) := by decide +kernel
theorem dX3_reckon_10 : decode cX3_reckon 10 = .ok (.daload, 1) := by decide +kernel
theorem dX3_reckon_11 : decode cX3_reckon 11 = .ok (.dstore_n 2, 1) := by decide +kernel
theorem dX3_reckon_12 : decode cX3_reckon 12 = .ok (.aload_n 0, 1) := by decide +kernel
theorem dX3_reckon_13 : decode cX3_reckon 13 = .ok (.getfield 34, 3) := by decide +kernel
theorem dX3_reckon_16 : decode cX3_reckon 16 = .ok (.aload_n 0, 1) := by decide +kernel
theorem dX3_reckon_17 : decode cX3_reckon 17 = .ok (.getfield 66, 3) := by decide +kernel
theorem dX3_reckon_20 : decode cX3_reckon 20 = .ok (.iload_n 1, 1) := by decide +kernel
theorem dX3_reckon_21 : decode cX3_reckon 21 = .ok (.iaload, 1) := by decide +kernel
theorem dX3_reckon_22 : decode cX3_reckon 22 = .ok (.daload, 1) := by decide +kernel
theorem dX3_reckon_23 : decode cX3_reckon 23 = .ok (.dstore 4, 2) := by decide +kernel
theorem dX3_reckon_25 : decode cX3_reckon 25 = .ok (.dconst 0, 1) := by decide +kernel
theorem dX3_reckon_26 : decode cX3_reckon 26 = .ok (.dstore 6, 2) := by decide +kernel
theorem dX3_reckon_28 : decode cX3_reckon 28 = .ok (.aload_n 0, 1) := by decide +kernel
theorem dX3_reckon_29 : decode cX3_reckon 29 = .ok (.getfield 60, 3) := by decide +kernel
theorem dX3_reckon_32 : decode cX3_reckon 32 = .ok (.iload_n 1, 1) := by decide +kernel
theorem dX3_reckon_33 : decode cX3_reckon 33 = .ok (.iaload, 1) := by decide +kernel
theorem dX3_reckon_34 : decode cX3_reckon 34 = .ok (.tableswitch 136 4 8 #[34, 43, 52, 61, 79], 34) := by decide +kernel
theorem dX3_reckon_68 : decode cX3_reckon 68 = .ok (.dload_n 2, 1) := by decide +kernel
theorem dX3_reckon_69 : decode cX3_reckon 69 = .ok (.dload 4, 2) := by decide +kernel
theorem dX3_reckon_71 : decode cX3_reckon 71 = .ok (.dadd, 1) := by decide +kernel
theorem dX3_reckon_72 : decode cX3_reckon 72 = .ok (.dstore 6, 2) := by decide +kernel
theorem dX3_reckon_74 : decode cX3_reckon 74 = .ok (.goto 195, 3) := by decide +kernel
theorem dX3_reckon_77 : decode cX3_reckon 77 = .ok (.dload_n 2, 1) := by decide +kernel
theorem dX3_reckon_78 : decode cX3_reckon 78 = .ok (.dload 4, 2) := by decide +kernel
theorem dX3_reckon_80 : decode cX3_reckon 80 = .ok (.dsub, 1) := by decide +kernel
theorem dX3_reckon_81 : decode cX3_reckon 81 = .ok (.dstore 6, 2) := by decide +kernel
theorem dX3_reckon_83 : decode cX3_reckon 83 = .ok (.goto 186, 3) := by decide +kernel
theorem dX3_reckon_86 : decode cX3_reckon 86 = .ok (.dload_n 2, 1) := by decide +kernel
theorem dX3_reckon_87 : decode cX3_reckon 87 = .ok (.dload 4, 2) := by decide +kernel
theorem dX3_reckon_89 : decode cX3_reckon 89 = .ok (.dmul, 1) := by decide +kernel
theorem dX3_reckon_90 : decode cX3_reckon 90 = .ok (.dstore 6, 2) := by decide +kernel
theorem dX3_reckon_92 : decode cX3_reckon 92 = .ok (.goto 177, 3) := by decide +kernel
theorem dX3_reckon_95 : decode cX3_reckon 95 = .ok (.dload 4, 2) := by decide +kernel
theorem dX3_reckon_97 : decode cX3_reckon 97 = .ok (.dconst 0, 1) := by decide +kernel
theorem dX3_reckon_98 : decode cX3_reckon 98 = .ok (.dcmp .l, 1) := by decide +kernel
theorem dX3_reckon_99 : decode cX3_reckon 99 = .ok (.ifCond .ne 5, 3) := by decide +kernel
theorem dX3_reckon_102 : decode cX3_reckon 102 = .ok (.iconst 1, 1) := by decide +kernel
theorem dX3_reckon_103 : decode cX3_reckon 103 = .ok (.ireturn, 1) := by decide +kernel
theorem dX3_reckon_104 : decode cX3_reckon 104 = .ok (.dload_n 2, 1) := by decide +kernel
theorem dX3_reckon_105 : decode cX3_reckon 105 = .ok (.dload 4, 2) := by decide +kernel
theorem dX3_reckon_107 : decode cX3_reckon 107 = .ok (.ddiv, 1) := by decide +kernel
theorem dX3_reckon_108 : decode cX3_reckon 108 = .ok (.dstore 6, 2) := by decide +kernel
theorem dX3_reckon_110 : decode cX3_reckon 110 = .ok (.goto 159, 3) := by decide +kernel
theorem dX3_reckon_113 : decode cX3_reckon 113 = .ok (.dload 4, 2) := by decide +kernel
theorem dX3_reckon_115 : decode cX3_reckon 115 = .ok (.aload_n 0, 1) := by decide +kernel
theorem dX3_reckon_116 : decode cX3_reckon 116 = .ok (.getfield 38, 3) := by decide +kernel
theorem dX3_reckon_119 : decode cX3_reckon 119 = .ok (.iload_n 1, 1) := by decide +kernel
theorem dX3_reckon_120 : decode cX3_reckon 120 = .ok (.daload, 1) := by decide +kernel
theorem dX3_reckon_121 : decode cX3_reckon 121 = .ok (.dcmp .l, 1) := by decide +kernel
theorem dX3_reckon_122 : decode cX3_reckon 122 = .ok (.ifCond .le 5, 3) := by decide +kernel
theorem dX3_reckon_125 : decode cX3_reckon 125 = .ok (.iconst 1, 1) := by decide +kernel
theorem dX3_reckon_126 : decode cX3_reckon 126 = .ok (.ireturn, 1) := by decide +kernel
theorem dX3_reckon_127 : decode cX3_reckon 127 = .ok (.dload_n 2, 1) := by decide +kernel
theorem dX3_reckon_128 : decode cX3_reckon 128 = .ok (.dload 4, 2) := by decide +kernel
theorem dX3_reckon_130 : decode cX3_reckon 130 = .ok (.dcmp .g, 1) := by decide +kernel
theorem dX3_reckon_131 : decode cX3_reckon 131 = .ok (.ifCond .ge 8, 3) := by decide +kernel
theorem dX3_reckon_134 : decode cX3_reckon 134 = .ok (.dload 4, 2) := by decide +kernel
theorem dX3_reckon_136 : decode cX3_reckon 136 = .ok (.goto 4, 3) := by decide +kernel
theorem dX3_reckon_139 : decode cX3_reckon 139 = .ok (.dload_n 2, 1) := by decide +kernel
theorem dX3_reckon_140 : decode cX3_reckon 140 = .ok (.dstore 6, 2) := by decide +kernel
theorem dX3_reckon_142 : decode cX3_reckon 142 = .ok (.dload 6, 2) := by decide +kernel
theorem dX3_reckon_144 : decode cX3_reckon 144 = .ok (.aload_n 0, 1) := by decide +kernel
theorem dX3_reckon_145 : decode cX3_reckon 145 = .ok (.getfield 38, 3) := by decide +kernel
theorem dX3_reckon_148 : decode cX3_reckon 148 = .ok (.iload_n 1, 1) := by decide +kernel
theorem dX3_reckon_149 : decode cX3_reckon 149 = .ok (.daload, 1) := by decide +kernel
theorem dX3_reckon_150 : decode cX3_reckon 150 = .ok (.dcmp .l, 1) := by decide +kernel
theorem dX3_reckon_151 : decode cX3_reckon 151 = .ok (.ifCond .le 12, 3) := by decide +kernel
theorem dX3_reckon_154 : decode cX3_reckon 154 = .ok (.aload_n 0, 1) := by decide +kernel
theorem dX3_reckon_155 : decode cX3_reckon 155 = .ok (.getfield 38, 3) := by decide +kernel
theorem dX3_reckon_158 : decode cX3_reckon 158 = .ok (.iload_n 1, 1) := by decide +kernel
theorem dX3_reckon_159 : decode cX3_reckon 159 = .ok (.daload, 1) := by decide +kernel
theorem dX3_reckon_160 : decode cX3_reckon 160 = .ok (.goto 5, 3) := by decide +kernel
theorem dX3_reckon_163 : decode cX3_reckon 163 = .ok (.dload 6, 2) := by decide +kernel
theorem dX3_reckon_165 : decode cX3_reckon 165 = .ok (.dstore 6, 2) := by decide +kernel
theorem dX3_reckon_167 : decode cX3_reckon 167 = .ok (.goto 102, 3) := by decide +kernel
theorem dX3_reckon_170 : decode cX3_reckon 170 = .ok (.dload 4, 2) := by decide +kernel
theorem dX3_reckon_172 : decode cX3_reckon 172 = .ok (.dload_n 2, 1) := by decide +kernel
theorem dX3_reckon_173 : decode cX3_reckon 173 = .ok (.dsub, 1) := by decide +kernel
theorem dX3_reckon_174 : decode cX3_reckon 174 = .ok (.dstore 8, 2) := by decide +kernel
theorem dX3_reckon_176 : decode cX3_reckon 176 = .ok (.aload_n 0, 1) := by decide +kernel
theorem dX3_reckon_177 : decode cX3_reckon 177 = .ok (.getfield 41, 3) := by decide +kernel
theorem dX3_reckon_180 : decode cX3_reckon 180 = .ok (.iload_n 1, 1) := by decide +kernel
theorem dX3_reckon_181 : decode cX3_reckon 181 = .ok (.daload, 1) := by decide +kernel
theorem dX3_reckon_182 : decode cX3_reckon 182 = .ok (.dload 8, 2) := by decide +kernel
theorem dX3_reckon_184 : decode cX3_reckon 184 = .ok (.ldc2_w 116, 3) := by decide +kernel
theorem dX3_reckon_187 : decode cX3_reckon 187 = .ok (.dmul, 1) := by decide +kernel
theorem dX3_reckon_188 : decode cX3_reckon 188 = .ok (.dadd, 1) := by decide +kernel
theorem dX3_reckon_189 : decode cX3_reckon 189 = .ok (.dstore 10, 2) := by decide +kernel
theorem dX3_reckon_191 : decode cX3_reckon 191 = .ok (.aload_n 0, 1) := by decide +kernel
theorem dX3_reckon_192 : decode cX3_reckon 192 = .ok (.getfield 41, 3) := by decide +kernel
theorem dX3_reckon_195 : decode cX3_reckon 195 = .ok (.iload_n 1, 1) := by decide +kernel
theorem dX3_reckon_196 : decode cX3_reckon 196 = .ok (.dload 10, 2) := by decide +kernel
theorem dX3_reckon_198 : decode cX3_reckon 198 = .ok (.ldc2_w 106, 3) := by decide +kernel
theorem dX3_reckon_201 : decode cX3_reckon 201 = .ok (.dcmp .g, 1) := by decide +kernel
theorem dX3_reckon_202 : decode cX3_reckon 202 = .ok (.ifCond .ge 9, 3) := by decide +kernel
theorem dX3_reckon_205 : decode cX3_reckon 205 = .ok (.ldc2_w 106, 3) := by decide +kernel
theorem dX3_reckon_208 : decode cX3_reckon 208 = .ok (.goto 20, 3) := by decide +kernel
theorem dX3_reckon_211 : decode cX3_reckon 211 = .ok (.dload 10, 2) := by decide +kernel
theorem dX3_reckon_213 : decode cX3_reckon 213 = .ok (.ldc2_w 100, 3) := by decide +kernel
theorem dX3_reckon_216 : decode cX3_reckon 216 = .ok (.dcmp .l, 1) := by decide +kernel
theorem dX3_reckon_217 : decode cX3_reckon 217 = .ok (.ifCond .le 9, 3) := by decide +kernel
theorem dX3_reckon_220 : decode cX3_reckon 220 = .ok (.ldc2_w 100, 3) := by decide +kernel
theorem dX3_reckon_223 : decode cX3_reckon 223 = .ok (.goto 5, 3) := by decide +kernel
theorem dX3_reckon_226 : decode cX3_reckon 226 = .ok (.dload 10, 2) := by decide +kernel
theorem dX3_reckon_228 : decode cX3_reckon 228 = .ok (.dastore, 1) := by decide +kernel
theorem dX3_reckon_229 : decode cX3_reckon 229 = .ok (.aload_n 0, 1) := by decide +kernel
theorem dX3_reckon_230 : decode cX3_reckon 230 = .ok (.getfield 38, 3) := by decide +kernel
theorem dX3_reckon_233 : decode cX3_reckon 233 = .ok (.iload_n 1, 1) := by decide +kernel
theorem dX3_reckon_234 : decode cX3_reckon 234 = .ok (.daload, 1) := by decide +kernel
theorem dX3_reckon_235 : decode cX3_reckon 235 = .ok (.dload 8, 2) := by decide +kernel
theorem dX3_reckon_237 : decode cX3_reckon 237 = .ok (.aload_n 0, 1) := by decide +kernel
theorem dX3_reckon_238 : decode cX3_reckon 238 = .ok (.getfield 41, 3) := by decide +kernel
theorem dX3_reckon_241 : decode cX3_reckon 241 = .ok (.iload_n 1, 1) := by decide +kernel
theorem dX3_reckon_242 : decode cX3_reckon 242 = .ok (.daload, 1) := by decide +kernel
theorem dX3_reckon_243 : decode cX3_reckon 243 = .ok (.dadd, 1) := by decide +kernel
theorem dX3_reckon_244 : decode cX3_reckon 244 = .ok (.dload 8, 2) := by decide +kernel
theorem dX3_reckon_246 : decode cX3_reckon 246 = .ok (.aload_n 0, 1) := by decide +kernel
theorem dX3_reckon_247 : decode cX3_reckon 247 = .ok (.getfield 44, 3) := by decide +kernel
theorem dX3_reckon_250 : decode cX3_reckon 250 = .ok (.iload_n 1, 1) := by decide +kernel
theorem dX3_reckon_251 : decode cX3_reckon 251 = .ok (.daload, 1) := by decide +kernel
theorem dX3_reckon_252 : decode cX3_reckon 252 = .ok (.dsub, 1) := by decide +kernel
theorem dX3_reckon_253 : decode cX3_reckon 253 = .ok (.ldc2_w 118, 3) := by decide +kernel
theorem dX3_reckon_256 : decode cX3_reckon 256 = .ok (.dmul, 1) := by decide +kernel
theorem dX3_reckon_257 : decode cX3_reckon 257 = .ok (.dadd, 1) := by decide +kernel
theorem dX3_reckon_258 : decode cX3_reckon 258 = .ok (.dmul, 1) := by decide +kernel
theorem dX3_reckon_259 : decode cX3_reckon 259 = .ok (.dstore 6, 2) := by decide +kernel
theorem dX3_reckon_261 : decode cX3_reckon 261 = .ok (.aload_n 0, 1) := by decide +kernel
theorem dX3_reckon_262 : decode cX3_reckon 262 = .ok (.getfield 44, 3) := by decide +kernel
theorem dX3_reckon_265 : decode cX3_reckon 265 = .ok (.iload_n 1, 1) := by decide +kernel
theorem dX3_reckon_266 : decode cX3_reckon 266 = .ok (.dload 8, 2) := by decide +kernel
theorem dX3_reckon_268 : decode cX3_reckon 268 = .ok (.dastore, 1) := by decide +kernel
theorem dX3_reckon_269 : decode cX3_reckon 269 = .ok (.dload 6, 2) := by decide +kernel
theorem dX3_reckon_271 : decode cX3_reckon 271 = .ok (.ldc2_w 112, 3) := by decide +kernel
theorem dX3_reckon_274 : decode cX3_reckon 274 = .ok (.dcmp .l, 1) := by decide +kernel
theorem dX3_reckon_275 : decode cX3_reckon 275 = .ok (.ifCond .gt 12, 3) := by decide +kernel
theorem dX3_reckon_278 : decode cX3_reckon 278 = .ok (.dload 6, 2) := by decide +kernel
theorem dX3_reckon_280 : decode cX3_reckon 280 = .ok (.ldc2_w 114, 3) := by decide +kernel
theorem dX3_reckon_283 : decode cX3_reckon 283 = .ok (.dcmp .g, 1) := by decide +kernel
theorem dX3_reckon_284 : decode cX3_reckon 284 = .ok (.ifCond .ge 5, 3) := by decide +kernel
theorem dX3_reckon_287 : decode cX3_reckon 287 = .ok (.iconst 1, 1) := by decide +kernel
theorem dX3_reckon_288 : decode cX3_reckon 288 = .ok (.ireturn, 1) := by decide +kernel
theorem dX3_reckon_289 : decode cX3_reckon 289 = .ok (.aload_n 0, 1) := by decide +kernel
theorem dX3_reckon_290 : decode cX3_reckon 290 = .ok (.getfield 34, 3) := by decide +kernel
theorem dX3_reckon_293 : decode cX3_reckon 293 = .ok (.aload_n 0, 1) := by decide +kernel
theorem dX3_reckon_294 : decode cX3_reckon 294 = .ok (.getfield 69, 3) := by decide +kernel
theorem dX3_reckon_297 : decode cX3_reckon 297 = .ok (.iload_n 1, 1) := by decide +kernel
theorem dX3_reckon_298 : decode cX3_reckon 298 = .ok (.iaload, 1) := by decide +kernel
theorem dX3_reckon_299 : decode cX3_reckon 299 = .ok (.dload 6, 2) := by decide +kernel
theorem dX3_reckon_301 : decode cX3_reckon 301 = .ok (.dastore, 1) := by decide +kernel
theorem dX3_reckon_302 : decode cX3_reckon 302 = .ok (.iconst 0, 1) := by decide +kernel
theorem dX3_reckon_303 : decode cX3_reckon 303 = .ok (.ireturn, 1) := by decide +kernel
theorem dX3_resume_0 : decode cX3_resume 0 = .ok (.aload_n 0, 1) := by decide +kernel
theorem dX3_resume_1 : decode cX3_resume 1 = .ok (.iconst 0, 1) := by decide +kernel
theorem dX3_resume_2 : decode cX3_resume 2 = .ok (.putfield 85, 3) := by decide +kernel
theorem dX3_resume_5 : decode cX3_resume 5 = .ok (.aload_n 0, 1) := by decide +kernel
theorem dX3_resume_6 : decode cX3_resume 6 = .ok (.getfield 130, 3) := by decide +kernel
theorem dX3_resume_9 : decode cX3_resume 9 = .ok (.ifCond .eq 10, 3) := by decide +kernel
theorem dX3_resume_12 : decode cX3_resume 12 = .ok (.aload_n 0, 1) := by decide +kernel
theorem dX3_resume_13 : decode cX3_resume 13 = .ok (.getfield 81, 3) := by decide +kernel
theorem dX3_resume_16 : decode cX3_resume 16 = .ok (.goto 4, 3) := by decide +kernel
theorem dX3_resume_19 : decode cX3_resume 19 = .ok (.iconst (-1), 1) := by decide +kernel
theorem dX3_resume_20 : decode cX3_resume 20 = .ok (.istore_n 1, 1) := by decide +kernel
theorem dX3_resume_21 : decode cX3_resume 21 = .ok (.aload_n 0, 1) := by decide +kernel
theorem dX3_resume_22 : decode cX3_resume 22 = .ok (.iconst 0, 1) := by decide +kernel
theorem dX3_resume_23 : decode cX3_resume 23 = .ok (.putfield 130, 3) := by decide +kernel
theorem dX3_resume_26 : decode cX3_resume 26 = .ok (.iload_n 1, 1) := by decide +kernel
theorem dX3_resume_27 : decode cX3_resume 27 = .ok (.ireturn, 1) := by decide +kernel
theorem dX3_bit_0 : decode cX3_bit 0 = .ok (.aload_n 0, 1) := by decide +kernel
theorem dX3_bit_1 : decode cX3_bit 1 = .ok (.iload_n 1, 1) := by decide +kernel
theorem dX3_bit_2 : decode cX3_bit 2 = .ok (.iconst 0, 1) := by decide +kernel
theorem dX3_bit_3 : decode cX3_bit 3 = .ok (.bipush 23, 2) := by decide +kernel
theorem dX3_bit_5 : decode cX3_bit 5 = .ok (.invokestatic 88, 3) := by decide +kernel
theorem dX3_bit_8 : decode cX3_bit 8 = .ok (.ifCond .eq 7, 3) := by decide +kernel
theorem dX3_bit_11 : decode cX3_bit 11 = .ok (.iconst 0, 1) := by decide +kernel
theorem dX3_bit_12 : decode cX3_bit 12 = .ok (.goto 4, 3) := by decide +kernel
theorem dX3_bit_15 : decode cX3_bit 15 = .ok (.iconst 1, 1) := by decide +kernel
theorem dX3_bit_16 : decode cX3_bit 16 = .ok (.putfield 85, 3) := by decide +kernel
theorem dX3_bit_19 : decode cX3_bit 19 = .ok (.aload_n 0, 1) := by decide +kernel
theorem dX3_bit_20 : decode cX3_bit 20 = .ok (.getfield 85, 3) := by decide +kernel
theorem dX3_bit_23 : decode cX3_bit 23 = .ok (.ifCond .ne 16, 3) := by decide +kernel
theorem dX3_bit_26 : decode cX3_bit 26 = .ok (.aload_n 0, 1) := by decide +kernel
theorem dX3_bit_27 : decode cX3_bit 27 = .ok (.getfield 7, 3) := by decide +kernel
theorem dX3_bit_30 : decode cX3_bit 30 = .ok (.iload_n 1, 1) := by decide +kernel
theorem dX3_bit_31 : decode cX3_bit 31 = .ok (.baload, 1) := by decide +kernel
theorem dX3_bit_32 : decode cX3_bit 32 = .ok (.ifCond .eq 7, 3) := by decide +kernel
theorem dX3_bit_35 : decode cX3_bit 35 = .ok (.iconst 1, 1) := by decide +kernel
theorem dX3_bit_36 : decode cX3_bit 36 = .ok (.goto 4, 3) := by decide +kernel
theorem dX3_bit_39 : decode cX3_bit 39 = .ok (.iconst 0, 1) := by decide +kernel
theorem dX3_bit_40 : decode cX3_bit 40 = .ok (.ireturn, 1) := by decide +kernel
theorem dX3_register_0 : decode cX3_register 0 = .ok (.aload_n 0, 1) := by decide +kernel
theorem dX3_register_1 : decode cX3_register 1 = .ok (.iload_n 1, 1) := by decide +kernel
theorem dX3_register_2 : decode cX3_register 2 = .ok (.invokestatic 102, 3) := by decide +kernel
theorem dX3_register_5 : decode cX3_register 5 = .ok (.ifCond .eq 7, 3) := by decide +kernel
theorem dX3_register_8 : decode cX3_register 8 = .ok (.iconst 0, 1) := by decide +kernel
theorem dX3_register_9 : decode cX3_register 9 = .ok (.goto 4, 3) := by decide +kernel
theorem dX3_register_12 : decode cX3_register 12 = .ok (.iconst 1, 1) := by decide +kernel
theorem dX3_register_13 : decode cX3_register 13 = .ok (.putfield 85, 3) := by decide +kernel
theorem dX3_register_16 : decode cX3_register 16 = .ok (.aload_n 0, 1) := by decide +kernel
theorem dX3_register_17 : decode cX3_register 17 = .ok (.getfield 85, 3) := by decide +kernel
theorem dX3_register_20 : decode cX3_register 20 = .ok (.ifCond .le 7, 3) := by decide +kernel
theorem dX3_register_23 : decode cX3_register 23 = .ok (.dconst 0, 1) := by decide +kernel
theorem dX3_register_24 : decode cX3_register 24 = .ok (.goto 9, 3) := by decide +kernel
theorem dX3_register_27 : decode cX3_register 27 = .ok (.aload_n 0, 1) := by decide +kernel
theorem dX3_register_28 : decode cX3_register 28 = .ok (.getfield 34, 3) := by decide +kernel
theorem dX3_register_31 : decode cX3_register 31 = .ok (.iload_n 1, 1) := by decide +kernel
theorem dX3_register_32 : decode cX3_register 32 = .ok (.daload, 1) := by decide +kernel
theorem dX3_register_33 : decode cX3_register 33 = .ok (.dreturn, 1) := by decide +kernel
theorem dX3_power_0 : decode cX3_power 0 = .ok (.aload_n 0, 1) := by decide +kernel
theorem dX3_power_1 : decode cX3_power 1 = .ok (.iload_n 1, 1) := by decide +kernel
theorem dX3_power_2 : decode cX3_power 2 = .ok (.iconst 0, 1) := by decide +kernel
theorem dX3_power_3 : decode cX3_power 3 = .ok (.iconst 4, 1) := by decide +kernel
theorem dX3_power_4 : decode cX3_power 4 = .ok (.invokestatic 88, 3) := by decide +kernel
theorem dX3_power_7 : decode cX3_power 7 = .ok (.ifCond .eq 25, 3) := by decide +kernel
theorem dX3_power_10 : decode cX3_power 10 = .ok (.iload_n 2, 1) := by decide +kernel
theorem dX3_power_11 : decode cX3_power 11 = .ok (.iconst 0, 1) := by decide +kernel
theorem dX3_power_12 : decode cX3_power 12 = .ok (.iconst 2, 1) := by decide +kernel
theorem dX3_power_13 : decode cX3_power 13 = .ok (.invokestatic 88, 3) := by decide +kernel
theorem dX3_power_16 : decode cX3_power 16 = .ok (.ifCond .eq 16, 3) := by decide +kernel
theorem dX3_power_19 : decode cX3_power 19 = .ok (.iload_n 3, 1) := by decide +kernel
theorem dX3_power_20 : decode cX3_power 20 = .ok (.iconst (-1), 1) := by decide +kernel
theorem dX3_power_21 : decode cX3_power 21 = .ok (.iconst 3, 1) := by decide +kernel
theorem dX3_power_22 : decode cX3_power 22 = .ok (.invokestatic 88, 3) := by decide +kernel
theorem dX3_power_25 : decode cX3_power 25 = .ok (.ifCond .eq 7, 3) := by decide +kernel
theorem dX3_power_28 : decode cX3_power 28 = .ok (.iconst 0, 1) := by decide +kernel
theorem dX3_power_29 : decode cX3_power 29 = .ok (.goto 4, 3) := by decide +kernel
theorem dX3_power_32 : decode cX3_power 32 = .ok (.iconst 1, 1) := by decide +kernel
theorem dX3_power_33 : decode cX3_power 33 = .ok (.putfield 85, 3) := by decide +kernel
theorem dX3_power_36 : decode cX3_power 36 = .ok (.aload_n 0, 1) := by decide +kernel
theorem dX3_power_37 : decode cX3_power 37 = .ok (.getfield 85, 3) := by decide +kernel
theorem dX3_power_40 : decode cX3_power 40 = .ok (.ifCond .gt 12, 3) := by decide +kernel
theorem dX3_power_43 : decode cX3_power 43 = .ok (.aload_n 0, 1) := by decide +kernel
theorem dX3_power_44 : decode cX3_power 44 = .ok (.getfield 22, 3) := by decide +kernel
theorem dX3_power_47 : decode cX3_power 47 = .ok (.iload_n 1, 1) := by decide +kernel
theorem dX3_power_48 : decode cX3_power 48 = .ok (.baload, 1) := by decide +kernel
theorem dX3_power_49 : decode cX3_power 49 = .ok (.ifCond .ne 5, 3) := by decide +kernel
theorem dX3_power_52 : decode cX3_power 52 = .ok (.iconst 0, 1) := by decide +kernel
theorem dX3_power_53 : decode cX3_power 53 = .ok (.ireturn, 1) := by decide +kernel
theorem dX3_power_54 : decode cX3_power 54 = .ok (.iload_n 3, 1) := by decide +kernel
theorem dX3_power_55 : decode cX3_power 55 = .ok (.ifCond .lt 17, 3) := by decide +kernel
theorem dX3_power_58 : decode cX3_power 58 = .ok (.aload_n 0, 1) := by decide +kernel
theorem dX3_power_59 : decode cX3_power 59 = .ok (.getfield 19, 3) := by decide +kernel
theorem dX3_power_62 : decode cX3_power 62 = .ok (.iload_n 1, 1) := by decide +kernel
theorem dX3_power_63 : decode cX3_power 63 = .ok (.iload_n 2, 1) := by decide +kernel
theorem dX3_power_64 : decode cX3_power 64 = .ok (.iload_n 3, 1) := by decide +kernel
theorem dX3_power_65 : decode cX3_power 65 = .ok (.invokestatic 96, 3) := by decide +kernel
theorem dX3_power_68 : decode cX3_power 68 = .ok (.baload, 1) := by decide +kernel
theorem dX3_power_69 : decode cX3_power 69 = .ok (.ifCond .eq 7, 3) := by decide +kernel
theorem dX3_power_72 : decode cX3_power 72 = .ok (.iconst 1, 1) := by decide +kernel
theorem dX3_power_73 : decode cX3_power 73 = .ok (.goto 4, 3) := by decide +kernel
theorem dX3_power_76 : decode cX3_power 76 = .ok (.iconst 0, 1) := by decide +kernel
theorem dX3_power_77 : decode cX3_power 77 = .ok (.ireturn, 1) := by decide +kernel
theorem dX3_told_0 : decode cX3_told 0 = .ok (.iload_n 2, 1) := by decide +kernel
theorem dX3_told_1 : decode cX3_told 1 = .ok (.iconst 0, 1) := by decide +kernel
theorem dX3_told_2 : decode cX3_told 2 = .ok (.iconst 4, 1) := by decide +kernel
theorem dX3_told_3 : decode cX3_told 3 = .ok (.invokestatic 88, 3) := by decide +kernel
theorem dX3_told_6 : decode cX3_told 6 = .ok (.ifCond .ne 9, 3) := by decide +kernel
theorem dX3_told_9 : decode cX3_told 9 = .ok (.aload_n 0, 1) := by decide +kernel
theorem dX3_told_10 : decode cX3_told 10 = .ok (.iconst 1, 1) := by decide +kernel
theorem dX3_told_11 : decode cX3_told 11 = .ok (.invokevirtual 92, 3) := by decide +kernel
theorem dX3_told_14 : decode cX3_told 14 = .ok (.ireturn, 1) := by decide +kernel
theorem dX3_told_15 : decode cX3_told 15 = .ok (.iload_n 1, 1) := by decide +kernel
theorem dX3_told_16 : decode cX3_told 16 = .ok (.iconst 0, 1) := by decide +kernel
theorem dX3_told_17 : decode cX3_told 17 = .ok (.bipush 7, 2) := by decide +kernel
theorem dX3_told_19 : decode cX3_told 19 = .ok (.invokestatic 88, 3) := by decide +kernel
theorem dX3_told_22 : decode cX3_told 22 = .ok (.ifCond .ne 9, 3) := by decide +kernel
theorem dX3_told_25 : decode cX3_told 25 = .ok (.aload_n 0, 1) := by decide +kernel
theorem dX3_told_26 : decode cX3_told 26 = .ok (.iconst 2, 1) := by decide +kernel
theorem dX3_told_27 : decode cX3_told 27 = .ok (.invokevirtual 92, 3) := by decide +kernel
theorem dX3_told_30 : decode cX3_told 30 = .ok (.ireturn, 1) := by decide +kernel
theorem dX3_told_31 : decode cX3_told 31 = .ok (.aload_n 0, 1) := by decide +kernel
theorem dX3_told_32 : decode cX3_told 32 = .ok (.iconst 0, 1) := by decide +kernel
theorem dX3_told_33 : decode cX3_told 33 = .ok (.putfield 85, 3) := by decide +kernel
theorem dX3_told_36 : decode cX3_told 36 = .ok (.iload_n 2, 1) := by decide +kernel
theorem dX3_told_37 : decode cX3_told 37 = .ok (.ifCond .ne 12, 3) := by decide +kernel
theorem dX3_told_40 : decode cX3_told 40 = .ok (.aload_n 0, 1) := by decide +kernel
theorem dX3_told_41 : decode cX3_told 41 = .ok (.getfield 60, 3) := by decide +kernel
theorem dX3_told_44 : decode cX3_told 44 = .ok (.iload_n 1, 1) := by decide +kernel
theorem dX3_told_45 : decode cX3_told 45 = .ok (.iaload, 1) := by decide +kernel
theorem dX3_told_46 : decode cX3_told 46 = .ok (.goto 59, 3) := by decide +kernel
theorem dX3_told_49 : decode cX3_told 49 = .ok (.iload_n 2, 1) := by decide +kernel
theorem dX3_told_50 : decode cX3_told 50 = .ok (.iconst 1, 1) := by decide +kernel
theorem dX3_told_51 : decode cX3_told 51 = .ok (.if_icmp .ne 12, 3) := by decide +kernel
theorem dX3_told_54 : decode cX3_told 54 = .ok (.aload_n 0, 1) := by decide +kernel
theorem dX3_told_55 : decode cX3_told 55 = .ok (.getfield 72, 3) := by decide +kernel
theorem dX3_told_58 : decode cX3_told 58 = .ok (.iload_n 1, 1) := by decide +kernel
theorem dX3_told_59 : decode cX3_told 59 = .ok (.iaload, 1) := by decide +kernel
theorem dX3_told_60 : decode cX3_told 60 = .ok (.goto 45, 3) := by decide +kernel
theorem dX3_told_63 : decode cX3_told 63 = .ok (.iload_n 2, 1) := by decide +kernel
theorem dX3_told_64 : decode cX3_told 64 = .ok (.iconst 2, 1) := by decide +kernel
theorem dX3_told_65 : decode cX3_told 65 = .ok (.if_icmp .ne 20, 3) := by decide +kernel
theorem dX3_told_68 : decode cX3_told 68 = .ok (.aload_n 0, 1) := by decide +kernel
theorem dX3_told_69 : decode cX3_told 69 = .ok (.getfield 25, 3) := by decide +kernel
theorem dX3_told_72 : decode cX3_told 72 = .ok (.iload_n 1, 1) := by decide +kernel
theorem dX3_told_73 : decode cX3_told 73 = .ok (.baload, 1) := by decide +kernel
theorem dX3_told_74 : decode cX3_told 74 = .ok (.ifCond .eq 7, 3) := by decide +kernel
theorem dX3_told_77 : decode cX3_told 77 = .ok (.iconst 1, 1) := by decide +kernel
theorem dX3_told_78 : decode cX3_told 78 = .ok (.goto 27, 3) := by decide +kernel
theorem dX3_told_81 : decode cX3_told 81 = .ok (.iconst 0, 1) := by decide +kernel
theorem dX3_told_82 : decode cX3_told 82 = .ok (.goto 23, 3) := by decide +kernel
theorem dX3_told_85 : decode cX3_told 85 = .ok (.iload_n 2, 1) := by decide +kernel
theorem dX3_told_86 : decode cX3_told 86 = .ok (.iconst 3, 1) := by decide +kernel
theorem dX3_told_87 : decode cX3_told 87 = .ok (.if_icmp .ne 12, 3) := by decide +kernel
theorem dX3_told_90 : decode cX3_told 90 = .ok (.aload_n 0, 1) := by decide +kernel
theorem dX3_told_91 : decode cX3_told 91 = .ok (.getfield 75, 3) := by decide +kernel
theorem dX3_told_94 : decode cX3_told 94 = .ok (.iload_n 1, 1) := by decide +kernel
theorem dX3_told_95 : decode cX3_told 95 = .ok (.iaload, 1) := by decide +kernel
theorem dX3_told_96 : decode cX3_told 96 = .ok (.goto 9, 3) := by decide +kernel
theorem dX3_told_99 : decode cX3_told 99 = .ok (.aload_n 0, 1) := by decide +kernel
theorem dX3_told_100 : decode cX3_told 100 = .ok (.getfield 78, 3) := by decide +kernel
theorem dX3_told_103 : decode cX3_told 103 = .ok (.iload_n 1, 1) := by decide +kernel
theorem dX3_told_104 : decode cX3_told 104 = .ok (.iaload, 1) := by decide +kernel
theorem dX3_told_105 : decode cX3_told 105 = .ok (.ireturn, 1) := by decide +kernel
theorem dX3_count_0 : decode cX3_count 0 = .ok (.iload_n 1, 1) := by decide +kernel
theorem dX3_count_1 : decode cX3_count 1 = .ok (.iconst 0, 1) := by decide +kernel
theorem dX3_count_2 : decode cX3_count 2 = .ok (.iconst 3, 1) := by decide +kernel
theorem dX3_count_3 : decode cX3_count 3 = .ok (.invokestatic 88, 3) := by decide +kernel
theorem dX3_count_6 : decode cX3_count 6 = .ok (.ifCond .ne 9, 3) := by decide +kernel
theorem dX3_count_9 : decode cX3_count 9 = .ok (.aload_n 0, 1) := by decide +kernel
theorem dX3_count_10 : decode cX3_count 10 = .ok (.iconst 1, 1) := by decide +kernel
theorem dX3_count_11 : decode cX3_count 11 = .ok (.invokevirtual 92, 3) := by decide +kernel
theorem dX3_count_14 : decode cX3_count 14 = .ok (.ireturn, 1) := by decide +kernel
theorem dX3_count_15 : decode cX3_count 15 = .ok (.aload_n 0, 1) := by decide +kernel
theorem dX3_count_16 : decode cX3_count 16 = .ok (.iconst 0, 1) := by decide +kernel
theorem dX3_count_17 : decode cX3_count 17 = .ok (.putfield 85, 3) := by decide +kernel
theorem dX3_count_20 : decode cX3_count 20 = .ok (.iconst 0, 1) := by decide +kernel
theorem dX3_count_21 : decode cX3_count 21 = .ok (.istore_n 2, 1) := by decide +kernel
theorem dX3_count_22 : decode cX3_count 22 = .ok (.iconst 0, 1) := by decide +kernel
theorem dX3_count_23 : decode cX3_count 23 = .ok (.istore_n 3, 1) := by decide +kernel
theorem dX3_count_24 : decode cX3_count 24 = .ok (.iload_n 3, 1) := by decide +kernel
theorem dX3_count_25 : decode cX3_count 25 = .ok (.bipush 24, 2) := by decide +kernel
theorem dX3_count_27 : decode cX3_count 27 = .ok (.if_icmp .ge 21, 3) := by decide +kernel
theorem dX3_count_30 : decode cX3_count 30 = .ok (.aload_n 0, 1) := by decide +kernel
theorem dX3_count_31 : decode cX3_count 31 = .ok (.getfield 7, 3) := by decide +kernel
theorem dX3_count_34 : decode cX3_count 34 = .ok (.iload_n 3, 1) := by decide +kernel
theorem dX3_count_35 : decode cX3_count 35 = .ok (.baload, 1) := by decide +kernel
theorem dX3_count_36 : decode cX3_count 36 = .ok (.ifCond .eq 6, 3) := by decide +kernel
theorem dX3_count_39 : decode cX3_count 39 = .ok (.iinc 2 1, 3) := by decide +kernel
theorem dX3_count_42 : decode cX3_count 42 = .ok (.iinc 3 1, 3) := by decide +kernel
theorem dX3_count_45 : decode cX3_count 45 = .ok (.goto (-21), 3) := by decide +kernel
end
section
/-! decode rows -/
theorem dX3_count_48 : decode cX3_count 48 = .ok (.iload_n 1, 1) := by decide +kernel
theorem dX3_count_49 : decode cX3_count 49 = .ok (.ifCond .ne 10, 3) := by decide +kernel
theorem dX3_count_52 : decode cX3_count 52 = .ok (.aload_n 0, 1) := by decide +kernel
theorem dX3_count_53 : decode cX3_count 53 = .ok (.getfield 145, 3) := by decide +kernel
theorem dX3_count_56 : decode cX3_count 56 = .ok (.goto 36, 3) := by decide +kernel
theorem dX3_count_59 : decode cX3_count 59 = .ok (.iload_n 1, 1) := by decide +kernel
theorem dX3_count_60 : decode cX3_count 60 = .ok (.iconst 1, 1) := by decide +kernel
theorem dX3_count_61 : decode cX3_count 61 = .ok (.if_icmp .ne 18, 3) := by decide +kernel
theorem dX3_count_64 : decode cX3_count 64 = .ok (.aload_n 0, 1) := by decide +kernel
theorem dX3_count_65 : decode cX3_count 65 = .ok (.getfield 130, 3) := by decide +kernel
theorem dX3_count_68 : decode cX3_count 68 = .ok (.ifCond .eq 7, 3) := by decide +kernel
theorem dX3_count_71 : decode cX3_count 71 = .ok (.iconst 1, 1) := by decide +kernel
theorem dX3_count_72 : decode cX3_count 72 = .ok (.goto 20, 3) := by decide +kernel
theorem dX3_count_75 : decode cX3_count 75 = .ok (.iconst 0, 1) := by decide +kernel
theorem dX3_count_76 : decode cX3_count 76 = .ok (.goto 16, 3) := by decide +kernel
theorem dX3_count_79 : decode cX3_count 79 = .ok (.iload_n 1, 1) := by decide +kernel
theorem dX3_count_80 : decode cX3_count 80 = .ok (.iconst 2, 1) := by decide +kernel
theorem dX3_count_81 : decode cX3_count 81 = .ok (.if_icmp .ne 7, 3) := by decide +kernel
theorem dX3_count_84 : decode cX3_count 84 = .ok (.iload_n 2, 1) := by decide +kernel
theorem dX3_count_85 : decode cX3_count 85 = .ok (.goto 7, 3) := by decide +kernel
theorem dX3_count_88 : decode cX3_count 88 = .ok (.aload_n 0, 1) := by decide +kernel
theorem dX3_count_89 : decode cX3_count 89 = .ok (.getfield 127, 3) := by decide +kernel
theorem dX3_count_92 : decode cX3_count 92 = .ok (.ireturn, 1) := by decide +kernel
end
section
/-! decode rows of the law -/
theorem dL_law_0 : decode cL_law 0 = .ok (.new 8, 3) := by decide +kernel
theorem dL_law_3 : decode cL_law 3 = .ok (.dup, 1) := by decide +kernel
theorem dL_law_4 : decode cL_law 4 = .ok (.invokespecial 67, 3) := by decide +kernel
theorem dL_law_7 : decode cL_law 7 = .ok (.astore_n 1, 1) := by decide +kernel
theorem dL_law_8 : decode cL_law 8 = .ok (.new 68, 3) := by decide +kernel
theorem dL_law_11 : decode cL_law 11 = .ok (.dup, 1) := by decide +kernel
theorem dL_law_12 : decode cL_law 12 = .ok (.invokespecial 70, 3) := by decide +kernel
theorem dL_law_15 : decode cL_law 15 = .ok (.astore_n 2, 1) := by decide +kernel
theorem dL_law_16 : decode cL_law 16 = .ok (.iconst 1, 1) := by decide +kernel
theorem dL_law_17 : decode cL_law 17 = .ok (.newarray .long, 2) := by decide +kernel
theorem dL_law_19 : decode cL_law 19 = .ok (.astore_n 3, 1) := by decide +kernel
theorem dL_law_20 : decode cL_law 20 = .ok (.iconst 1, 1) := by decide +kernel
theorem dL_law_21 : decode cL_law 21 = .ok (.newarray .double, 2) := by decide +kernel
theorem dL_law_23 : decode cL_law 23 = .ok (.astore 4, 2) := by decide +kernel
theorem dL_law_25 : decode cL_law 25 = .ok (.iconst 0, 1) := by decide +kernel
theorem dL_law_26 : decode cL_law 26 = .ok (.istore 5, 2) := by decide +kernel
theorem dL_law_28 : decode cL_law 28 = .ok (.iload 5, 2) := by decide +kernel
theorem dL_law_30 : decode cL_law 30 = .ok (.aload_n 0, 1) := by decide +kernel
theorem dL_law_31 : decode cL_law 31 = .ok (.arraylength, 1) := by decide +kernel
theorem dL_law_32 : decode cL_law 32 = .ok (.bipush 7, 2) := by decide +kernel
theorem dL_law_34 : decode cL_law 34 = .ok (.isub, 1) := by decide +kernel
theorem dL_law_35 : decode cL_law 35 = .ok (.if_icmp .gt 1227, 3) := by decide +kernel
theorem dL_law_38 : decode cL_law 38 = .ok (.aload_n 0, 1) := by decide +kernel
theorem dL_law_39 : decode cL_law 39 = .ok (.iload 5, 2) := by decide +kernel
theorem dL_law_41 : decode cL_law 41 = .ok (.iaload, 1) := by decide +kernel
theorem dL_law_42 : decode cL_law 42 = .ok (.bipush 15, 2) := by decide +kernel
theorem dL_law_44 : decode cL_law 44 = .ok (.iand, 1) := by decide +kernel
theorem dL_law_45 : decode cL_law 45 = .ok (.tableswitch 1211 0 13 #[71, 175, 290, 382, 510, 601, 692, 791, 847, 860, 923, 1000, 1087, 1155], 71) := by decide +kernel
theorem dL_law_116 : decode cL_law 116 = .ok (.aload_n 1, 1) := by decide +kernel
theorem dL_law_117 : decode cL_law 117 = .ok (.aload_n 0, 1) := by decide +kernel
theorem dL_law_118 : decode cL_law 118 = .ok (.iload 5, 2) := by decide +kernel
theorem dL_law_120 : decode cL_law 120 = .ok (.iconst 1, 1) := by decide +kernel
theorem dL_law_121 : decode cL_law 121 = .ok (.iadd, 1) := by decide +kernel
theorem dL_law_122 : decode cL_law 122 = .ok (.iaload, 1) := by decide +kernel
theorem dL_law_123 : decode cL_law 123 = .ok (.aload_n 0, 1) := by decide +kernel
theorem dL_law_124 : decode cL_law 124 = .ok (.iload 5, 2) := by decide +kernel
theorem dL_law_126 : decode cL_law 126 = .ok (.iconst 2, 1) := by decide +kernel
theorem dL_law_127 : decode cL_law 127 = .ok (.iadd, 1) := by decide +kernel
theorem dL_law_128 : decode cL_law 128 = .ok (.iaload, 1) := by decide +kernel
theorem dL_law_129 : decode cL_law 129 = .ok (.aload_n 0, 1) := by decide +kernel
theorem dL_law_130 : decode cL_law 130 = .ok (.iload 5, 2) := by decide +kernel
theorem dL_law_132 : decode cL_law 132 = .ok (.iconst 3, 1) := by decide +kernel
theorem dL_law_133 : decode cL_law 133 = .ok (.iadd, 1) := by decide +kernel
theorem dL_law_134 : decode cL_law 134 = .ok (.iaload, 1) := by decide +kernel
theorem dL_law_135 : decode cL_law 135 = .ok (.aload_n 0, 1) := by decide +kernel
theorem dL_law_136 : decode cL_law 136 = .ok (.iload 5, 2) := by decide +kernel
theorem dL_law_138 : decode cL_law 138 = .ok (.iconst 4, 1) := by decide +kernel
theorem dL_law_139 : decode cL_law 139 = .ok (.iadd, 1) := by decide +kernel
theorem dL_law_140 : decode cL_law 140 = .ok (.iaload, 1) := by decide +kernel
theorem dL_law_141 : decode cL_law 141 = .ok (.aload_n 0, 1) := by decide +kernel
theorem dL_law_142 : decode cL_law 142 = .ok (.iload 5, 2) := by decide +kernel
theorem dL_law_144 : decode cL_law 144 = .ok (.iconst 5, 1) := by decide +kernel
theorem dL_law_145 : decode cL_law 145 = .ok (.iadd, 1) := by decide +kernel
theorem dL_law_146 : decode cL_law 146 = .ok (.iaload, 1) := by decide +kernel
theorem dL_law_147 : decode cL_law 147 = .ok (.aload_n 3, 1) := by decide +kernel
theorem dL_law_148 : decode cL_law 148 = .ok (.invokestatic 71, 3) := by decide +kernel
theorem dL_law_151 : decode cL_law 151 = .ok (.istore 6, 2) := by decide +kernel
theorem dL_law_153 : decode cL_law 153 = .ok (.aload_n 2, 1) := by decide +kernel
theorem dL_law_154 : decode cL_law 154 = .ok (.aload_n 0, 1) := by decide +kernel
theorem dL_law_155 : decode cL_law 155 = .ok (.iload 5, 2) := by decide +kernel
theorem dL_law_157 : decode cL_law 157 = .ok (.iconst 1, 1) := by decide +kernel
theorem dL_law_158 : decode cL_law 158 = .ok (.iadd, 1) := by decide +kernel
theorem dL_law_159 : decode cL_law 159 = .ok (.iaload, 1) := by decide +kernel
theorem dL_law_160 : decode cL_law 160 = .ok (.aload_n 0, 1) := by decide +kernel
theorem dL_law_161 : decode cL_law 161 = .ok (.iload 5, 2) := by decide +kernel
theorem dL_law_163 : decode cL_law 163 = .ok (.iconst 2, 1) := by decide +kernel
theorem dL_law_164 : decode cL_law 164 = .ok (.iadd, 1) := by decide +kernel
theorem dL_law_165 : decode cL_law 165 = .ok (.iaload, 1) := by decide +kernel
theorem dL_law_166 : decode cL_law 166 = .ok (.aload_n 0, 1) := by decide +kernel
theorem dL_law_167 : decode cL_law 167 = .ok (.iload 5, 2) := by decide +kernel
theorem dL_law_169 : decode cL_law 169 = .ok (.iconst 3, 1) := by decide +kernel
theorem dL_law_170 : decode cL_law 170 = .ok (.iadd, 1) := by decide +kernel
theorem dL_law_171 : decode cL_law 171 = .ok (.iaload, 1) := by decide +kernel
theorem dL_law_172 : decode cL_law 172 = .ok (.aload_n 0, 1) := by decide +kernel
theorem dL_law_173 : decode cL_law 173 = .ok (.iload 5, 2) := by decide +kernel
theorem dL_law_175 : decode cL_law 175 = .ok (.iconst 4, 1) := by decide +kernel
theorem dL_law_176 : decode cL_law 176 = .ok (.iadd, 1) := by decide +kernel
theorem dL_law_177 : decode cL_law 177 = .ok (.iaload, 1) := by decide +kernel
theorem dL_law_178 : decode cL_law 178 = .ok (.aload_n 0, 1) := by decide +kernel
theorem dL_law_179 : decode cL_law 179 = .ok (.iload 5, 2) := by decide +kernel
theorem dL_law_181 : decode cL_law 181 = .ok (.iconst 5, 1) := by decide +kernel
theorem dL_law_182 : decode cL_law 182 = .ok (.iadd, 1) := by decide +kernel
theorem dL_law_183 : decode cL_law 183 = .ok (.iaload, 1) := by decide +kernel
theorem dL_law_184 : decode cL_law 184 = .ok (.invokevirtual 76, 3) := by decide +kernel
theorem dL_law_187 : decode cL_law 187 = .ok (.istore 7, 2) := by decide +kernel
theorem dL_law_189 : decode cL_law 189 = .ok (.aload_n 2, 1) := by decide +kernel
theorem dL_law_190 : decode cL_law 190 = .ok (.invokevirtual 77, 3) := by decide +kernel
theorem dL_law_193 : decode cL_law 193 = .ok (.iload 6, 2) := by decide +kernel
theorem dL_law_195 : decode cL_law 195 = .ok (.if_icmp .eq 5, 3) := by decide +kernel
theorem dL_law_198 : decode cL_law 198 = .ok (.iconst 0, 1) := by decide +kernel
theorem dL_law_199 : decode cL_law 199 = .ok (.ireturn, 1) := by decide +kernel
theorem dL_law_200 : decode cL_law 200 = .ok (.iload 6, 2) := by decide +kernel
theorem dL_law_202 : decode cL_law 202 = .ok (.ifCond .ne 15, 3) := by decide +kernel
theorem dL_law_205 : decode cL_law 205 = .ok (.aload_n 3, 1) := by decide +kernel
theorem dL_law_206 : decode cL_law 206 = .ok (.iconst 0, 1) := by decide +kernel
theorem dL_law_207 : decode cL_law 207 = .ok (.laload, 1) := by decide +kernel
theorem dL_law_208 : decode cL_law 208 = .ok (.iload 7, 2) := by decide +kernel
theorem dL_law_210 : decode cL_law 210 = .ok (.i2l, 1) := by decide +kernel
theorem dL_law_211 : decode cL_law 211 = .ok (.lcmp, 1) := by decide +kernel
theorem dL_law_212 : decode cL_law 212 = .ok (.ifCond .eq 5, 3) := by decide +kernel
end
section
/-! decode rows of the law -/
theorem dL_law_215 : decode cL_law 215 = .ok (.iconst 0, 1) := by decide +kernel
theorem dL_law_216 : decode cL_law 216 = .ok (.ireturn, 1) := by decide +kernel
theorem dL_law_217 : decode cL_law 217 = .ok (.goto 1039, 3) := by decide +kernel
theorem dL_law_220 : decode cL_law 220 = .ok (.aload_n 1, 1) := by decide +kernel
theorem dL_law_221 : decode cL_law 221 = .ok (.aload_n 0, 1) := by decide +kernel
theorem dL_law_222 : decode cL_law 222 = .ok (.iload 5, 2) := by decide +kernel
theorem dL_law_224 : decode cL_law 224 = .ok (.iconst 1, 1) := by decide +kernel
theorem dL_law_225 : decode cL_law 225 = .ok (.iadd, 1) := by decide +kernel
theorem dL_law_226 : decode cL_law 226 = .ok (.iaload, 1) := by decide +kernel
theorem dL_law_227 : decode cL_law 227 = .ok (.aload_n 0, 1) := by decide +kernel
theorem dL_law_228 : decode cL_law 228 = .ok (.iload 5, 2) := by decide +kernel
theorem dL_law_230 : decode cL_law 230 = .ok (.iconst 2, 1) := by decide +kernel
theorem dL_law_231 : decode cL_law 231 = .ok (.iadd, 1) := by decide +kernel
theorem dL_law_232 : decode cL_law 232 = .ok (.iaload, 1) := by decide +kernel
theorem dL_law_233 : decode cL_law 233 = .ok (.aload_n 0, 1) := by decide +kernel
theorem dL_law_234 : decode cL_law 234 = .ok (.iload 5, 2) := by decide +kernel
theorem dL_law_236 : decode cL_law 236 = .ok (.iconst 3, 1) := by decide +kernel
theorem dL_law_237 : decode cL_law 237 = .ok (.iadd, 1) := by decide +kernel
theorem dL_law_238 : decode cL_law 238 = .ok (.iaload, 1) := by decide +kernel
theorem dL_law_239 : decode cL_law 239 = .ok (.aload_n 0, 1) := by decide +kernel
theorem dL_law_240 : decode cL_law 240 = .ok (.iload 5, 2) := by decide +kernel
theorem dL_law_242 : decode cL_law 242 = .ok (.iconst 4, 1) := by decide +kernel
theorem dL_law_243 : decode cL_law 243 = .ok (.iadd, 1) := by decide +kernel
theorem dL_law_244 : decode cL_law 244 = .ok (.iaload, 1) := by decide +kernel
theorem dL_law_245 : decode cL_law 245 = .ok (.ifCond .eq 7, 3) := by decide +kernel
theorem dL_law_248 : decode cL_law 248 = .ok (.iconst 1, 1) := by decide +kernel
theorem dL_law_249 : decode cL_law 249 = .ok (.goto 4, 3) := by decide +kernel
theorem dL_law_252 : decode cL_law 252 = .ok (.iconst 0, 1) := by decide +kernel
theorem dL_law_253 : decode cL_law 253 = .ok (.aload_n 3, 1) := by decide +kernel
theorem dL_law_254 : decode cL_law 254 = .ok (.invokestatic 81, 3) := by decide +kernel
theorem dL_law_257 : decode cL_law 257 = .ok (.istore 6, 2) := by decide +kernel
theorem dL_law_259 : decode cL_law 259 = .ok (.aload_n 2, 1) := by decide +kernel
theorem dL_law_260 : decode cL_law 260 = .ok (.aload_n 0, 1) := by decide +kernel
theorem dL_law_261 : decode cL_law 261 = .ok (.iload 5, 2) := by decide +kernel
theorem dL_law_263 : decode cL_law 263 = .ok (.iconst 1, 1) := by decide +kernel
theorem dL_law_264 : decode cL_law 264 = .ok (.iadd, 1) := by decide +kernel
theorem dL_law_265 : decode cL_law 265 = .ok (.iaload, 1) := by decide +kernel
theorem dL_law_266 : decode cL_law 266 = .ok (.aload_n 0, 1) := by decide +kernel
theorem dL_law_267 : decode cL_law 267 = .ok (.iload 5, 2) := by decide +kernel
theorem dL_law_269 : decode cL_law 269 = .ok (.iconst 2, 1) := by decide +kernel
theorem dL_law_270 : decode cL_law 270 = .ok (.iadd, 1) := by decide +kernel
theorem dL_law_271 : decode cL_law 271 = .ok (.iaload, 1) := by decide +kernel
theorem dL_law_272 : decode cL_law 272 = .ok (.aload_n 0, 1) := by decide +kernel
theorem dL_law_273 : decode cL_law 273 = .ok (.iload 5, 2) := by decide +kernel
theorem dL_law_275 : decode cL_law 275 = .ok (.iconst 3, 1) := by decide +kernel
theorem dL_law_276 : decode cL_law 276 = .ok (.iadd, 1) := by decide +kernel
theorem dL_law_277 : decode cL_law 277 = .ok (.iaload, 1) := by decide +kernel
theorem dL_law_278 : decode cL_law 278 = .ok (.aload_n 0, 1) := by decide +kernel
theorem dL_law_279 : decode cL_law 279 = .ok (.iload 5, 2) := by decide +kernel
theorem dL_law_281 : decode cL_law 281 = .ok (.iconst 4, 1) := by decide +kernel
theorem dL_law_282 : decode cL_law 282 = .ok (.iadd, 1) := by decide +kernel
theorem dL_law_283 : decode cL_law 283 = .ok (.iaload, 1) := by decide +kernel
theorem dL_law_284 : decode cL_law 284 = .ok (.ifCond .eq 7, 3) := by decide +kernel
theorem dL_law_287 : decode cL_law 287 = .ok (.iconst 1, 1) := by decide +kernel
theorem dL_law_288 : decode cL_law 288 = .ok (.goto 4, 3) := by decide +kernel
theorem dL_law_291 : decode cL_law 291 = .ok (.iconst 0, 1) := by decide +kernel
theorem dL_law_292 : decode cL_law 292 = .ok (.invokevirtual 84, 3) := by decide +kernel
theorem dL_law_295 : decode cL_law 295 = .ok (.istore 7, 2) := by decide +kernel
theorem dL_law_297 : decode cL_law 297 = .ok (.aload_n 2, 1) := by decide +kernel
theorem dL_law_298 : decode cL_law 298 = .ok (.invokevirtual 77, 3) := by decide +kernel
theorem dL_law_301 : decode cL_law 301 = .ok (.iload 6, 2) := by decide +kernel
theorem dL_law_303 : decode cL_law 303 = .ok (.if_icmp .eq 5, 3) := by decide +kernel
theorem dL_law_306 : decode cL_law 306 = .ok (.iconst 0, 1) := by decide +kernel
theorem dL_law_307 : decode cL_law 307 = .ok (.ireturn, 1) := by decide +kernel
theorem dL_law_308 : decode cL_law 308 = .ok (.iload 6, 2) := by decide +kernel
theorem dL_law_310 : decode cL_law 310 = .ok (.ifCond .ne 22, 3) := by decide +kernel
theorem dL_law_313 : decode cL_law 313 = .ok (.aload_n 3, 1) := by decide +kernel
theorem dL_law_314 : decode cL_law 314 = .ok (.iconst 0, 1) := by decide +kernel
theorem dL_law_315 : decode cL_law 315 = .ok (.laload, 1) := by decide +kernel
theorem dL_law_316 : decode cL_law 316 = .ok (.iload 7, 2) := by decide +kernel
theorem dL_law_318 : decode cL_law 318 = .ok (.ifCond .eq 7, 3) := by decide +kernel
theorem dL_law_321 : decode cL_law 321 = .ok (.lconst 1, 1) := by decide +kernel
theorem dL_law_322 : decode cL_law 322 = .ok (.goto 4, 3) := by decide +kernel
theorem dL_law_325 : decode cL_law 325 = .ok (.lconst 0, 1) := by decide +kernel
theorem dL_law_326 : decode cL_law 326 = .ok (.lcmp, 1) := by decide +kernel
theorem dL_law_327 : decode cL_law 327 = .ok (.ifCond .eq 5, 3) := by decide +kernel
theorem dL_law_330 : decode cL_law 330 = .ok (.iconst 0, 1) := by decide +kernel
theorem dL_law_331 : decode cL_law 331 = .ok (.ireturn, 1) := by decide +kernel
theorem dL_law_332 : decode cL_law 332 = .ok (.goto 924, 3) := by decide +kernel
theorem dL_law_335 : decode cL_law 335 = .ok (.aload_n 1, 1) := by decide +kernel
theorem dL_law_336 : decode cL_law 336 = .ok (.aload_n 0, 1) := by decide +kernel
theorem dL_law_337 : decode cL_law 337 = .ok (.iload 5, 2) := by decide +kernel
theorem dL_law_339 : decode cL_law 339 = .ok (.iconst 1, 1) := by decide +kernel
theorem dL_law_340 : decode cL_law 340 = .ok (.iadd, 1) := by decide +kernel
theorem dL_law_341 : decode cL_law 341 = .ok (.iaload, 1) := by decide +kernel
theorem dL_law_342 : decode cL_law 342 = .ok (.aload_n 0, 1) := by decide +kernel
theorem dL_law_343 : decode cL_law 343 = .ok (.iload 5, 2) := by decide +kernel
theorem dL_law_345 : decode cL_law 345 = .ok (.iconst 2, 1) := by decide +kernel
theorem dL_law_346 : decode cL_law 346 = .ok (.iadd, 1) := by decide +kernel
theorem dL_law_347 : decode cL_law 347 = .ok (.iaload, 1) := by decide +kernel
theorem dL_law_348 : decode cL_law 348 = .ok (.aload_n 0, 1) := by decide +kernel
theorem dL_law_349 : decode cL_law 349 = .ok (.iload 5, 2) := by decide +kernel
theorem dL_law_351 : decode cL_law 351 = .ok (.iconst 3, 1) := by decide +kernel
theorem dL_law_352 : decode cL_law 352 = .ok (.iadd, 1) := by decide +kernel
theorem dL_law_353 : decode cL_law 353 = .ok (.iaload, 1) := by decide +kernel
theorem dL_law_354 : decode cL_law 354 = .ok (.aload_n 0, 1) := by decide +kernel
theorem dL_law_355 : decode cL_law 355 = .ok (.iload 5, 2) := by decide +kernel
theorem dL_law_357 : decode cL_law 357 = .ok (.iconst 4, 1) := by decide +kernel
theorem dL_law_358 : decode cL_law 358 = .ok (.iadd, 1) := by decide +kernel
theorem dL_law_359 : decode cL_law 359 = .ok (.iaload, 1) := by decide +kernel
end
section
/-! decode rows of the law -/
theorem dL_law_360 : decode cL_law 360 = .ok (.aload_n 3, 1) := by decide +kernel
theorem dL_law_361 : decode cL_law 361 = .ok (.invokestatic 85, 3) := by decide +kernel
theorem dL_law_364 : decode cL_law 364 = .ok (.istore 6, 2) := by decide +kernel
theorem dL_law_366 : decode cL_law 366 = .ok (.aload_n 2, 1) := by decide +kernel
theorem dL_law_367 : decode cL_law 367 = .ok (.aload_n 0, 1) := by decide +kernel
theorem dL_law_368 : decode cL_law 368 = .ok (.iload 5, 2) := by decide +kernel
theorem dL_law_370 : decode cL_law 370 = .ok (.iconst 1, 1) := by decide +kernel
theorem dL_law_371 : decode cL_law 371 = .ok (.iadd, 1) := by decide +kernel
theorem dL_law_372 : decode cL_law 372 = .ok (.iaload, 1) := by decide +kernel
theorem dL_law_373 : decode cL_law 373 = .ok (.aload_n 0, 1) := by decide +kernel
theorem dL_law_374 : decode cL_law 374 = .ok (.iload 5, 2) := by decide +kernel
theorem dL_law_376 : decode cL_law 376 = .ok (.iconst 2, 1) := by decide +kernel
theorem dL_law_377 : decode cL_law 377 = .ok (.iadd, 1) := by decide +kernel
theorem dL_law_378 : decode cL_law 378 = .ok (.iaload, 1) := by decide +kernel
theorem dL_law_379 : decode cL_law 379 = .ok (.aload_n 0, 1) := by decide +kernel
theorem dL_law_380 : decode cL_law 380 = .ok (.iload 5, 2) := by decide +kernel
theorem dL_law_382 : decode cL_law 382 = .ok (.iconst 3, 1) := by decide +kernel
theorem dL_law_383 : decode cL_law 383 = .ok (.iadd, 1) := by decide +kernel
theorem dL_law_384 : decode cL_law 384 = .ok (.iaload, 1) := by decide +kernel
theorem dL_law_385 : decode cL_law 385 = .ok (.aload_n 0, 1) := by decide +kernel
theorem dL_law_386 : decode cL_law 386 = .ok (.iload 5, 2) := by decide +kernel
theorem dL_law_388 : decode cL_law 388 = .ok (.iconst 4, 1) := by decide +kernel
theorem dL_law_389 : decode cL_law 389 = .ok (.iadd, 1) := by decide +kernel
theorem dL_law_390 : decode cL_law 390 = .ok (.iaload, 1) := by decide +kernel
theorem dL_law_391 : decode cL_law 391 = .ok (.invokevirtual 88, 3) := by decide +kernel
theorem dL_law_394 : decode cL_law 394 = .ok (.istore 7, 2) := by decide +kernel
theorem dL_law_396 : decode cL_law 396 = .ok (.aload_n 2, 1) := by decide +kernel
theorem dL_law_397 : decode cL_law 397 = .ok (.invokevirtual 77, 3) := by decide +kernel
theorem dL_law_400 : decode cL_law 400 = .ok (.iload 6, 2) := by decide +kernel
theorem dL_law_402 : decode cL_law 402 = .ok (.if_icmp .eq 5, 3) := by decide +kernel
theorem dL_law_405 : decode cL_law 405 = .ok (.iconst 0, 1) := by decide +kernel
theorem dL_law_406 : decode cL_law 406 = .ok (.ireturn, 1) := by decide +kernel
theorem dL_law_407 : decode cL_law 407 = .ok (.iload 6, 2) := by decide +kernel
theorem dL_law_409 : decode cL_law 409 = .ok (.ifCond .ne 15, 3) := by decide +kernel
theorem dL_law_412 : decode cL_law 412 = .ok (.aload_n 3, 1) := by decide +kernel
theorem dL_law_413 : decode cL_law 413 = .ok (.iconst 0, 1) := by decide +kernel
theorem dL_law_414 : decode cL_law 414 = .ok (.laload, 1) := by decide +kernel
theorem dL_law_415 : decode cL_law 415 = .ok (.iload 7, 2) := by decide +kernel
theorem dL_law_417 : decode cL_law 417 = .ok (.i2l, 1) := by decide +kernel
theorem dL_law_418 : decode cL_law 418 = .ok (.lcmp, 1) := by decide +kernel
theorem dL_law_419 : decode cL_law 419 = .ok (.ifCond .eq 5, 3) := by decide +kernel
theorem dL_law_422 : decode cL_law 422 = .ok (.iconst 0, 1) := by decide +kernel
theorem dL_law_423 : decode cL_law 423 = .ok (.ireturn, 1) := by decide +kernel
theorem dL_law_424 : decode cL_law 424 = .ok (.goto 832, 3) := by decide +kernel
theorem dL_law_427 : decode cL_law 427 = .ok (.aload_n 1, 1) := by decide +kernel
theorem dL_law_428 : decode cL_law 428 = .ok (.aload_n 0, 1) := by decide +kernel
theorem dL_law_429 : decode cL_law 429 = .ok (.iload 5, 2) := by decide +kernel
theorem dL_law_431 : decode cL_law 431 = .ok (.iconst 1, 1) := by decide +kernel
theorem dL_law_432 : decode cL_law 432 = .ok (.iadd, 1) := by decide +kernel
theorem dL_law_433 : decode cL_law 433 = .ok (.iaload, 1) := by decide +kernel
theorem dL_law_434 : decode cL_law 434 = .ok (.aload_n 0, 1) := by decide +kernel
theorem dL_law_435 : decode cL_law 435 = .ok (.iload 5, 2) := by decide +kernel
theorem dL_law_437 : decode cL_law 437 = .ok (.iconst 2, 1) := by decide +kernel
theorem dL_law_438 : decode cL_law 438 = .ok (.iadd, 1) := by decide +kernel
theorem dL_law_439 : decode cL_law 439 = .ok (.iaload, 1) := by decide +kernel
theorem dL_law_440 : decode cL_law 440 = .ok (.aload_n 0, 1) := by decide +kernel
theorem dL_law_441 : decode cL_law 441 = .ok (.iload 5, 2) := by decide +kernel
theorem dL_law_443 : decode cL_law 443 = .ok (.iconst 3, 1) := by decide +kernel
theorem dL_law_444 : decode cL_law 444 = .ok (.iadd, 1) := by decide +kernel
theorem dL_law_445 : decode cL_law 445 = .ok (.iaload, 1) := by decide +kernel
theorem dL_law_446 : decode cL_law 446 = .ok (.aload_n 0, 1) := by decide +kernel
theorem dL_law_447 : decode cL_law 447 = .ok (.iload 5, 2) := by decide +kernel
theorem dL_law_449 : decode cL_law 449 = .ok (.iconst 4, 1) := by decide +kernel
theorem dL_law_450 : decode cL_law 450 = .ok (.iadd, 1) := by decide +kernel
theorem dL_law_451 : decode cL_law 451 = .ok (.iaload, 1) := by decide +kernel
theorem dL_law_452 : decode cL_law 452 = .ok (.aload_n 0, 1) := by decide +kernel
theorem dL_law_453 : decode cL_law 453 = .ok (.iload 5, 2) := by decide +kernel
theorem dL_law_455 : decode cL_law 455 = .ok (.iconst 5, 1) := by decide +kernel
theorem dL_law_456 : decode cL_law 456 = .ok (.iadd, 1) := by decide +kernel
theorem dL_law_457 : decode cL_law 457 = .ok (.iaload, 1) := by decide +kernel
theorem dL_law_458 : decode cL_law 458 = .ok (.aload_n 0, 1) := by decide +kernel
theorem dL_law_459 : decode cL_law 459 = .ok (.iload 5, 2) := by decide +kernel
theorem dL_law_461 : decode cL_law 461 = .ok (.bipush 6, 2) := by decide +kernel
theorem dL_law_463 : decode cL_law 463 = .ok (.iadd, 1) := by decide +kernel
theorem dL_law_464 : decode cL_law 464 = .ok (.iaload, 1) := by decide +kernel
theorem dL_law_465 : decode cL_law 465 = .ok (.i2d, 1) := by decide +kernel
theorem dL_law_466 : decode cL_law 466 = .ok (.ldc2_w 89, 3) := by decide +kernel
theorem dL_law_469 : decode cL_law 469 = .ok (.dmul, 1) := by decide +kernel
theorem dL_law_470 : decode cL_law 470 = .ok (.aload_n 3, 1) := by decide +kernel
theorem dL_law_471 : decode cL_law 471 = .ok (.invokestatic 91, 3) := by decide +kernel
theorem dL_law_474 : decode cL_law 474 = .ok (.istore 6, 2) := by decide +kernel
theorem dL_law_476 : decode cL_law 476 = .ok (.aload_n 2, 1) := by decide +kernel
theorem dL_law_477 : decode cL_law 477 = .ok (.aload_n 0, 1) := by decide +kernel
theorem dL_law_478 : decode cL_law 478 = .ok (.iload 5, 2) := by decide +kernel
theorem dL_law_480 : decode cL_law 480 = .ok (.iconst 1, 1) := by decide +kernel
theorem dL_law_481 : decode cL_law 481 = .ok (.iadd, 1) := by decide +kernel
theorem dL_law_482 : decode cL_law 482 = .ok (.iaload, 1) := by decide +kernel
theorem dL_law_483 : decode cL_law 483 = .ok (.aload_n 0, 1) := by decide +kernel
theorem dL_law_484 : decode cL_law 484 = .ok (.iload 5, 2) := by decide +kernel
theorem dL_law_486 : decode cL_law 486 = .ok (.iconst 2, 1) := by decide +kernel
theorem dL_law_487 : decode cL_law 487 = .ok (.iadd, 1) := by decide +kernel
theorem dL_law_488 : decode cL_law 488 = .ok (.iaload, 1) := by decide +kernel
theorem dL_law_489 : decode cL_law 489 = .ok (.aload_n 0, 1) := by decide +kernel
theorem dL_law_490 : decode cL_law 490 = .ok (.iload 5, 2) := by decide +kernel
theorem dL_law_492 : decode cL_law 492 = .ok (.iconst 3, 1) := by decide +kernel
theorem dL_law_493 : decode cL_law 493 = .ok (.iadd, 1) := by decide +kernel
theorem dL_law_494 : decode cL_law 494 = .ok (.iaload, 1) := by decide +kernel
theorem dL_law_495 : decode cL_law 495 = .ok (.aload_n 0, 1) := by decide +kernel
theorem dL_law_496 : decode cL_law 496 = .ok (.iload 5, 2) := by decide +kernel
theorem dL_law_498 : decode cL_law 498 = .ok (.iconst 4, 1) := by decide +kernel
end
section
/-! decode rows of the law -/
theorem dL_law_499 : decode cL_law 499 = .ok (.iadd, 1) := by decide +kernel
theorem dL_law_500 : decode cL_law 500 = .ok (.iaload, 1) := by decide +kernel
theorem dL_law_501 : decode cL_law 501 = .ok (.aload_n 0, 1) := by decide +kernel
theorem dL_law_502 : decode cL_law 502 = .ok (.iload 5, 2) := by decide +kernel
theorem dL_law_504 : decode cL_law 504 = .ok (.iconst 5, 1) := by decide +kernel
theorem dL_law_505 : decode cL_law 505 = .ok (.iadd, 1) := by decide +kernel
theorem dL_law_506 : decode cL_law 506 = .ok (.iaload, 1) := by decide +kernel
theorem dL_law_507 : decode cL_law 507 = .ok (.aload_n 0, 1) := by decide +kernel
theorem dL_law_508 : decode cL_law 508 = .ok (.iload 5, 2) := by decide +kernel
theorem dL_law_510 : decode cL_law 510 = .ok (.bipush 6, 2) := by decide +kernel
theorem dL_law_512 : decode cL_law 512 = .ok (.iadd, 1) := by decide +kernel
theorem dL_law_513 : decode cL_law 513 = .ok (.iaload, 1) := by decide +kernel
theorem dL_law_514 : decode cL_law 514 = .ok (.i2d, 1) := by decide +kernel
theorem dL_law_515 : decode cL_law 515 = .ok (.ldc2_w 89, 3) := by decide +kernel
theorem dL_law_518 : decode cL_law 518 = .ok (.dmul, 1) := by decide +kernel
theorem dL_law_519 : decode cL_law 519 = .ok (.invokevirtual 94, 3) := by decide +kernel
theorem dL_law_522 : decode cL_law 522 = .ok (.istore 7, 2) := by decide +kernel
theorem dL_law_524 : decode cL_law 524 = .ok (.aload_n 2, 1) := by decide +kernel
theorem dL_law_525 : decode cL_law 525 = .ok (.invokevirtual 77, 3) := by decide +kernel
theorem dL_law_528 : decode cL_law 528 = .ok (.iload 6, 2) := by decide +kernel
theorem dL_law_530 : decode cL_law 530 = .ok (.if_icmp .eq 5, 3) := by decide +kernel
theorem dL_law_533 : decode cL_law 533 = .ok (.iconst 0, 1) := by decide +kernel
theorem dL_law_534 : decode cL_law 534 = .ok (.ireturn, 1) := by decide +kernel
theorem dL_law_535 : decode cL_law 535 = .ok (.iload 6, 2) := by decide +kernel
theorem dL_law_537 : decode cL_law 537 = .ok (.ifCond .ne 15, 3) := by decide +kernel
theorem dL_law_540 : decode cL_law 540 = .ok (.aload_n 3, 1) := by decide +kernel
theorem dL_law_541 : decode cL_law 541 = .ok (.iconst 0, 1) := by decide +kernel
theorem dL_law_542 : decode cL_law 542 = .ok (.laload, 1) := by decide +kernel
theorem dL_law_543 : decode cL_law 543 = .ok (.iload 7, 2) := by decide +kernel
theorem dL_law_545 : decode cL_law 545 = .ok (.i2l, 1) := by decide +kernel
theorem dL_law_546 : decode cL_law 546 = .ok (.lcmp, 1) := by decide +kernel
theorem dL_law_547 : decode cL_law 547 = .ok (.ifCond .eq 5, 3) := by decide +kernel
theorem dL_law_550 : decode cL_law 550 = .ok (.iconst 0, 1) := by decide +kernel
theorem dL_law_551 : decode cL_law 551 = .ok (.ireturn, 1) := by decide +kernel
theorem dL_law_552 : decode cL_law 552 = .ok (.goto 704, 3) := by decide +kernel
theorem dL_law_555 : decode cL_law 555 = .ok (.aload_n 1, 1) := by decide +kernel
theorem dL_law_556 : decode cL_law 556 = .ok (.aload_n 0, 1) := by decide +kernel
theorem dL_law_557 : decode cL_law 557 = .ok (.iload 5, 2) := by decide +kernel
theorem dL_law_559 : decode cL_law 559 = .ok (.iconst 1, 1) := by decide +kernel
theorem dL_law_560 : decode cL_law 560 = .ok (.iadd, 1) := by decide +kernel
theorem dL_law_561 : decode cL_law 561 = .ok (.iaload, 1) := by decide +kernel
theorem dL_law_562 : decode cL_law 562 = .ok (.aload_n 0, 1) := by decide +kernel
theorem dL_law_563 : decode cL_law 563 = .ok (.iload 5, 2) := by decide +kernel
theorem dL_law_565 : decode cL_law 565 = .ok (.iconst 2, 1) := by decide +kernel
theorem dL_law_566 : decode cL_law 566 = .ok (.iadd, 1) := by decide +kernel
theorem dL_law_567 : decode cL_law 567 = .ok (.iaload, 1) := by decide +kernel
theorem dL_law_568 : decode cL_law 568 = .ok (.ifCond .eq 7, 3) := by decide +kernel
theorem dL_law_571 : decode cL_law 571 = .ok (.iconst 1, 1) := by decide +kernel
theorem dL_law_572 : decode cL_law 572 = .ok (.goto 4, 3) := by decide +kernel
theorem dL_law_575 : decode cL_law 575 = .ok (.iconst 0, 1) := by decide +kernel
theorem dL_law_576 : decode cL_law 576 = .ok (.aload_n 3, 1) := by decide +kernel
theorem dL_law_577 : decode cL_law 577 = .ok (.invokestatic 95, 3) := by decide +kernel
theorem dL_law_580 : decode cL_law 580 = .ok (.istore 6, 2) := by decide +kernel
theorem dL_law_582 : decode cL_law 582 = .ok (.aload_n 2, 1) := by decide +kernel
theorem dL_law_583 : decode cL_law 583 = .ok (.aload_n 0, 1) := by decide +kernel
theorem dL_law_584 : decode cL_law 584 = .ok (.iload 5, 2) := by decide +kernel
theorem dL_law_586 : decode cL_law 586 = .ok (.iconst 1, 1) := by decide +kernel
theorem dL_law_587 : decode cL_law 587 = .ok (.iadd, 1) := by decide +kernel
theorem dL_law_588 : decode cL_law 588 = .ok (.iaload, 1) := by decide +kernel
theorem dL_law_589 : decode cL_law 589 = .ok (.aload_n 0, 1) := by decide +kernel
theorem dL_law_590 : decode cL_law 590 = .ok (.iload 5, 2) := by decide +kernel
theorem dL_law_592 : decode cL_law 592 = .ok (.iconst 2, 1) := by decide +kernel
theorem dL_law_593 : decode cL_law 593 = .ok (.iadd, 1) := by decide +kernel
theorem dL_law_594 : decode cL_law 594 = .ok (.iaload, 1) := by decide +kernel
theorem dL_law_595 : decode cL_law 595 = .ok (.ifCond .eq 7, 3) := by decide +kernel
theorem dL_law_598 : decode cL_law 598 = .ok (.iconst 1, 1) := by decide +kernel
theorem dL_law_599 : decode cL_law 599 = .ok (.goto 4, 3) := by decide +kernel
theorem dL_law_602 : decode cL_law 602 = .ok (.iconst 0, 1) := by decide +kernel
theorem dL_law_603 : decode cL_law 603 = .ok (.invokevirtual 98, 3) := by decide +kernel
theorem dL_law_606 : decode cL_law 606 = .ok (.istore 7, 2) := by decide +kernel
theorem dL_law_608 : decode cL_law 608 = .ok (.aload_n 2, 1) := by decide +kernel
theorem dL_law_609 : decode cL_law 609 = .ok (.invokevirtual 77, 3) := by decide +kernel
theorem dL_law_612 : decode cL_law 612 = .ok (.iload 6, 2) := by decide +kernel
theorem dL_law_614 : decode cL_law 614 = .ok (.if_icmp .eq 5, 3) := by decide +kernel
theorem dL_law_617 : decode cL_law 617 = .ok (.iconst 0, 1) := by decide +kernel
theorem dL_law_618 : decode cL_law 618 = .ok (.ireturn, 1) := by decide +kernel
theorem dL_law_619 : decode cL_law 619 = .ok (.iload 6, 2) := by decide +kernel
theorem dL_law_621 : decode cL_law 621 = .ok (.ifCond .ne 22, 3) := by decide +kernel
theorem dL_law_624 : decode cL_law 624 = .ok (.aload_n 3, 1) := by decide +kernel
theorem dL_law_625 : decode cL_law 625 = .ok (.iconst 0, 1) := by decide +kernel
theorem dL_law_626 : decode cL_law 626 = .ok (.laload, 1) := by decide +kernel
theorem dL_law_627 : decode cL_law 627 = .ok (.iload 7, 2) := by decide +kernel
theorem dL_law_629 : decode cL_law 629 = .ok (.ifCond .eq 7, 3) := by decide +kernel
theorem dL_law_632 : decode cL_law 632 = .ok (.lconst 1, 1) := by decide +kernel
theorem dL_law_633 : decode cL_law 633 = .ok (.goto 4, 3) := by decide +kernel
theorem dL_law_636 : decode cL_law 636 = .ok (.lconst 0, 1) := by decide +kernel
theorem dL_law_637 : decode cL_law 637 = .ok (.lcmp, 1) := by decide +kernel
theorem dL_law_638 : decode cL_law 638 = .ok (.ifCond .eq 5, 3) := by decide +kernel
theorem dL_law_641 : decode cL_law 641 = .ok (.iconst 0, 1) := by decide +kernel
theorem dL_law_642 : decode cL_law 642 = .ok (.ireturn, 1) := by decide +kernel
theorem dL_law_643 : decode cL_law 643 = .ok (.goto 613, 3) := by decide +kernel
theorem dL_law_646 : decode cL_law 646 = .ok (.aload_n 1, 1) := by decide +kernel
theorem dL_law_647 : decode cL_law 647 = .ok (.aload_n 0, 1) := by decide +kernel
theorem dL_law_648 : decode cL_law 648 = .ok (.iload 5, 2) := by decide +kernel
theorem dL_law_650 : decode cL_law 650 = .ok (.iconst 1, 1) := by decide +kernel
theorem dL_law_651 : decode cL_law 651 = .ok (.iadd, 1) := by decide +kernel
theorem dL_law_652 : decode cL_law 652 = .ok (.iaload, 1) := by decide +kernel
theorem dL_law_653 : decode cL_law 653 = .ok (.aload_n 0, 1) := by decide +kernel
theorem dL_law_654 : decode cL_law 654 = .ok (.iload 5, 2) := by decide +kernel
theorem dL_law_656 : decode cL_law 656 = .ok (.iconst 2, 1) := by decide +kernel
end
section
/-! decode rows of the law -/
theorem dL_law_657 : decode cL_law 657 = .ok (.iadd, 1) := by decide +kernel
theorem dL_law_658 : decode cL_law 658 = .ok (.iaload, 1) := by decide +kernel
theorem dL_law_659 : decode cL_law 659 = .ok (.ifCond .eq 7, 3) := by decide +kernel
theorem dL_law_662 : decode cL_law 662 = .ok (.iconst 1, 1) := by decide +kernel
theorem dL_law_663 : decode cL_law 663 = .ok (.goto 4, 3) := by decide +kernel
theorem dL_law_666 : decode cL_law 666 = .ok (.iconst 0, 1) := by decide +kernel
theorem dL_law_667 : decode cL_law 667 = .ok (.aload_n 3, 1) := by decide +kernel
theorem dL_law_668 : decode cL_law 668 = .ok (.invokestatic 99, 3) := by decide +kernel
theorem dL_law_671 : decode cL_law 671 = .ok (.istore 6, 2) := by decide +kernel
theorem dL_law_673 : decode cL_law 673 = .ok (.aload_n 2, 1) := by decide +kernel
theorem dL_law_674 : decode cL_law 674 = .ok (.aload_n 0, 1) := by decide +kernel
theorem dL_law_675 : decode cL_law 675 = .ok (.iload 5, 2) := by decide +kernel
theorem dL_law_677 : decode cL_law 677 = .ok (.iconst 1, 1) := by decide +kernel
theorem dL_law_678 : decode cL_law 678 = .ok (.iadd, 1) := by decide +kernel
theorem dL_law_679 : decode cL_law 679 = .ok (.iaload, 1) := by decide +kernel
theorem dL_law_680 : decode cL_law 680 = .ok (.aload_n 0, 1) := by decide +kernel
theorem dL_law_681 : decode cL_law 681 = .ok (.iload 5, 2) := by decide +kernel
theorem dL_law_683 : decode cL_law 683 = .ok (.iconst 2, 1) := by decide +kernel
theorem dL_law_684 : decode cL_law 684 = .ok (.iadd, 1) := by decide +kernel
theorem dL_law_685 : decode cL_law 685 = .ok (.iaload, 1) := by decide +kernel
theorem dL_law_686 : decode cL_law 686 = .ok (.ifCond .eq 7, 3) := by decide +kernel
theorem dL_law_689 : decode cL_law 689 = .ok (.iconst 1, 1) := by decide +kernel
theorem dL_law_690 : decode cL_law 690 = .ok (.goto 4, 3) := by decide +kernel
theorem dL_law_693 : decode cL_law 693 = .ok (.iconst 0, 1) := by decide +kernel
theorem dL_law_694 : decode cL_law 694 = .ok (.invokevirtual 101, 3) := by decide +kernel
theorem dL_law_697 : decode cL_law 697 = .ok (.istore 7, 2) := by decide +kernel
theorem dL_law_699 : decode cL_law 699 = .ok (.aload_n 2, 1) := by decide +kernel
theorem dL_law_700 : decode cL_law 700 = .ok (.invokevirtual 77, 3) := by decide +kernel
theorem dL_law_703 : decode cL_law 703 = .ok (.iload 6, 2) := by decide +kernel
theorem dL_law_705 : decode cL_law 705 = .ok (.if_icmp .eq 5, 3) := by decide +kernel
theorem dL_law_708 : decode cL_law 708 = .ok (.iconst 0, 1) := by decide +kernel
theorem dL_law_709 : decode cL_law 709 = .ok (.ireturn, 1) := by decide +kernel
theorem dL_law_710 : decode cL_law 710 = .ok (.iload 6, 2) := by decide +kernel
theorem dL_law_712 : decode cL_law 712 = .ok (.ifCond .ne 22, 3) := by decide +kernel
theorem dL_law_715 : decode cL_law 715 = .ok (.aload_n 3, 1) := by decide +kernel
theorem dL_law_716 : decode cL_law 716 = .ok (.iconst 0, 1) := by decide +kernel
theorem dL_law_717 : decode cL_law 717 = .ok (.laload, 1) := by decide +kernel
theorem dL_law_718 : decode cL_law 718 = .ok (.iload 7, 2) := by decide +kernel
theorem dL_law_720 : decode cL_law 720 = .ok (.ifCond .eq 7, 3) := by decide +kernel
theorem dL_law_723 : decode cL_law 723 = .ok (.lconst 1, 1) := by decide +kernel
theorem dL_law_724 : decode cL_law 724 = .ok (.goto 4, 3) := by decide +kernel
theorem dL_law_727 : decode cL_law 727 = .ok (.lconst 0, 1) := by decide +kernel
theorem dL_law_728 : decode cL_law 728 = .ok (.lcmp, 1) := by decide +kernel
theorem dL_law_729 : decode cL_law 729 = .ok (.ifCond .eq 5, 3) := by decide +kernel
theorem dL_law_732 : decode cL_law 732 = .ok (.iconst 0, 1) := by decide +kernel
theorem dL_law_733 : decode cL_law 733 = .ok (.ireturn, 1) := by decide +kernel
theorem dL_law_734 : decode cL_law 734 = .ok (.goto 522, 3) := by decide +kernel
theorem dL_law_737 : decode cL_law 737 = .ok (.aload_n 1, 1) := by decide +kernel
theorem dL_law_738 : decode cL_law 738 = .ok (.aload_n 0, 1) := by decide +kernel
theorem dL_law_739 : decode cL_law 739 = .ok (.iload 5, 2) := by decide +kernel
theorem dL_law_741 : decode cL_law 741 = .ok (.iconst 1, 1) := by decide +kernel
theorem dL_law_742 : decode cL_law 742 = .ok (.iadd, 1) := by decide +kernel
theorem dL_law_743 : decode cL_law 743 = .ok (.iaload, 1) := by decide +kernel
theorem dL_law_744 : decode cL_law 744 = .ok (.aload_n 0, 1) := by decide +kernel
theorem dL_law_745 : decode cL_law 745 = .ok (.iload 5, 2) := by decide +kernel
theorem dL_law_747 : decode cL_law 747 = .ok (.iconst 2, 1) := by decide +kernel
theorem dL_law_748 : decode cL_law 748 = .ok (.iadd, 1) := by decide +kernel
theorem dL_law_749 : decode cL_law 749 = .ok (.iaload, 1) := by decide +kernel
theorem dL_law_750 : decode cL_law 750 = .ok (.i2d, 1) := by decide +kernel
theorem dL_law_751 : decode cL_law 751 = .ok (.ldc2_w 89, 3) := by decide +kernel
theorem dL_law_754 : decode cL_law 754 = .ok (.dmul, 1) := by decide +kernel
theorem dL_law_755 : decode cL_law 755 = .ok (.aload 4, 2) := by decide +kernel
theorem dL_law_757 : decode cL_law 757 = .ok (.invokestatic 102, 3) := by decide +kernel
theorem dL_law_760 : decode cL_law 760 = .ok (.istore 6, 2) := by decide +kernel
theorem dL_law_762 : decode cL_law 762 = .ok (.aload_n 2, 1) := by decide +kernel
theorem dL_law_763 : decode cL_law 763 = .ok (.aload_n 0, 1) := by decide +kernel
theorem dL_law_764 : decode cL_law 764 = .ok (.iload 5, 2) := by decide +kernel
theorem dL_law_766 : decode cL_law 766 = .ok (.iconst 1, 1) := by decide +kernel
theorem dL_law_767 : decode cL_law 767 = .ok (.iadd, 1) := by decide +kernel
theorem dL_law_768 : decode cL_law 768 = .ok (.iaload, 1) := by decide +kernel
theorem dL_law_769 : decode cL_law 769 = .ok (.aload_n 0, 1) := by decide +kernel
theorem dL_law_770 : decode cL_law 770 = .ok (.iload 5, 2) := by decide +kernel
theorem dL_law_772 : decode cL_law 772 = .ok (.iconst 2, 1) := by decide +kernel
theorem dL_law_773 : decode cL_law 773 = .ok (.iadd, 1) := by decide +kernel
theorem dL_law_774 : decode cL_law 774 = .ok (.iaload, 1) := by decide +kernel
theorem dL_law_775 : decode cL_law 775 = .ok (.i2d, 1) := by decide +kernel
theorem dL_law_776 : decode cL_law 776 = .ok (.ldc2_w 89, 3) := by decide +kernel
theorem dL_law_779 : decode cL_law 779 = .ok (.dmul, 1) := by decide +kernel
theorem dL_law_780 : decode cL_law 780 = .ok (.invokevirtual 105, 3) := by decide +kernel
theorem dL_law_783 : decode cL_law 783 = .ok (.dstore 7, 2) := by decide +kernel
theorem dL_law_785 : decode cL_law 785 = .ok (.aload_n 2, 1) := by decide +kernel
theorem dL_law_786 : decode cL_law 786 = .ok (.invokevirtual 77, 3) := by decide +kernel
theorem dL_law_789 : decode cL_law 789 = .ok (.iload 6, 2) := by decide +kernel
theorem dL_law_791 : decode cL_law 791 = .ok (.if_icmp .eq 5, 3) := by decide +kernel
theorem dL_law_794 : decode cL_law 794 = .ok (.iconst 0, 1) := by decide +kernel
theorem dL_law_795 : decode cL_law 795 = .ok (.ireturn, 1) := by decide +kernel
theorem dL_law_796 : decode cL_law 796 = .ok (.iload 6, 2) := by decide +kernel
theorem dL_law_798 : decode cL_law 798 = .ok (.ifCond .ne 35, 3) := by decide +kernel
theorem dL_law_801 : decode cL_law 801 = .ok (.aload 4, 2) := by decide +kernel
theorem dL_law_803 : decode cL_law 803 = .ok (.iconst 0, 1) := by decide +kernel
theorem dL_law_804 : decode cL_law 804 = .ok (.daload, 1) := by decide +kernel
theorem dL_law_805 : decode cL_law 805 = .ok (.dload 7, 2) := by decide +kernel
theorem dL_law_807 : decode cL_law 807 = .ok (.dcmp .l, 1) := by decide +kernel
theorem dL_law_808 : decode cL_law 808 = .ok (.ifCond .eq 25, 3) := by decide +kernel
theorem dL_law_811 : decode cL_law 811 = .ok (.aload 4, 2) := by decide +kernel
theorem dL_law_813 : decode cL_law 813 = .ok (.iconst 0, 1) := by decide +kernel
theorem dL_law_814 : decode cL_law 814 = .ok (.daload, 1) := by decide +kernel
theorem dL_law_815 : decode cL_law 815 = .ok (.aload 4, 2) := by decide +kernel
theorem dL_law_817 : decode cL_law 817 = .ok (.iconst 0, 1) := by decide +kernel
theorem dL_law_818 : decode cL_law 818 = .ok (.daload, 1) := by decide +kernel
end
section
/-! decode rows of the law -/
theorem dL_law_819 : decode cL_law 819 = .ok (.dcmp .l, 1) := by decide +kernel
theorem dL_law_820 : decode cL_law 820 = .ok (.ifCond .eq 11, 3) := by decide +kernel
theorem dL_law_823 : decode cL_law 823 = .ok (.dload 7, 2) := by decide +kernel
theorem dL_law_825 : decode cL_law 825 = .ok (.dload 7, 2) := by decide +kernel
theorem dL_law_827 : decode cL_law 827 = .ok (.dcmp .l, 1) := by decide +kernel
theorem dL_law_828 : decode cL_law 828 = .ok (.ifCond .ne 5, 3) := by decide +kernel
theorem dL_law_831 : decode cL_law 831 = .ok (.iconst 0, 1) := by decide +kernel
theorem dL_law_832 : decode cL_law 832 = .ok (.ireturn, 1) := by decide +kernel
theorem dL_law_833 : decode cL_law 833 = .ok (.goto 423, 3) := by decide +kernel
theorem dL_law_836 : decode cL_law 836 = .ok (.aload_n 1, 1) := by decide +kernel
theorem dL_law_837 : decode cL_law 837 = .ok (.aload_n 0, 1) := by decide +kernel
theorem dL_law_838 : decode cL_law 838 = .ok (.iload 5, 2) := by decide +kernel
theorem dL_law_840 : decode cL_law 840 = .ok (.iconst 1, 1) := by decide +kernel
theorem dL_law_841 : decode cL_law 841 = .ok (.iadd, 1) := by decide +kernel
theorem dL_law_842 : decode cL_law 842 = .ok (.iaload, 1) := by decide +kernel
theorem dL_law_843 : decode cL_law 843 = .ok (.aload_n 3, 1) := by decide +kernel
theorem dL_law_844 : decode cL_law 844 = .ok (.invokestatic 106, 3) := by decide +kernel
theorem dL_law_847 : decode cL_law 847 = .ok (.istore 6, 2) := by decide +kernel
theorem dL_law_849 : decode cL_law 849 = .ok (.aload_n 2, 1) := by decide +kernel
theorem dL_law_850 : decode cL_law 850 = .ok (.aload_n 0, 1) := by decide +kernel
theorem dL_law_851 : decode cL_law 851 = .ok (.iload 5, 2) := by decide +kernel
theorem dL_law_853 : decode cL_law 853 = .ok (.iconst 1, 1) := by decide +kernel
theorem dL_law_854 : decode cL_law 854 = .ok (.iadd, 1) := by decide +kernel
theorem dL_law_855 : decode cL_law 855 = .ok (.iaload, 1) := by decide +kernel
theorem dL_law_856 : decode cL_law 856 = .ok (.invokevirtual 109, 3) := by decide +kernel
theorem dL_law_859 : decode cL_law 859 = .ok (.istore 7, 2) := by decide +kernel
theorem dL_law_861 : decode cL_law 861 = .ok (.aload_n 2, 1) := by decide +kernel
theorem dL_law_862 : decode cL_law 862 = .ok (.invokevirtual 77, 3) := by decide +kernel
theorem dL_law_865 : decode cL_law 865 = .ok (.iload 6, 2) := by decide +kernel
theorem dL_law_867 : decode cL_law 867 = .ok (.if_icmp .eq 5, 3) := by decide +kernel
theorem dL_law_870 : decode cL_law 870 = .ok (.iconst 0, 1) := by decide +kernel
theorem dL_law_871 : decode cL_law 871 = .ok (.ireturn, 1) := by decide +kernel
theorem dL_law_872 : decode cL_law 872 = .ok (.iload 6, 2) := by decide +kernel
theorem dL_law_874 : decode cL_law 874 = .ok (.ifCond .ne 15, 3) := by decide +kernel
theorem dL_law_877 : decode cL_law 877 = .ok (.aload_n 3, 1) := by decide +kernel
theorem dL_law_878 : decode cL_law 878 = .ok (.iconst 0, 1) := by decide +kernel
theorem dL_law_879 : decode cL_law 879 = .ok (.laload, 1) := by decide +kernel
theorem dL_law_880 : decode cL_law 880 = .ok (.iload 7, 2) := by decide +kernel
theorem dL_law_882 : decode cL_law 882 = .ok (.i2l, 1) := by decide +kernel
theorem dL_law_883 : decode cL_law 883 = .ok (.lcmp, 1) := by decide +kernel
theorem dL_law_884 : decode cL_law 884 = .ok (.ifCond .eq 5, 3) := by decide +kernel
theorem dL_law_887 : decode cL_law 887 = .ok (.iconst 0, 1) := by decide +kernel
theorem dL_law_888 : decode cL_law 888 = .ok (.ireturn, 1) := by decide +kernel
theorem dL_law_889 : decode cL_law 889 = .ok (.goto 367, 3) := by decide +kernel
theorem dL_law_892 : decode cL_law 892 = .ok (.aload_n 1, 1) := by decide +kernel
theorem dL_law_893 : decode cL_law 893 = .ok (.invokevirtual 110, 3) := by decide +kernel
theorem dL_law_896 : decode cL_law 896 = .ok (.aload_n 2, 1) := by decide +kernel
theorem dL_law_897 : decode cL_law 897 = .ok (.invokevirtual 113, 3) := by decide +kernel
theorem dL_law_900 : decode cL_law 900 = .ok (.if_icmp .eq 356, 3) := by decide +kernel
theorem dL_law_903 : decode cL_law 903 = .ok (.iconst 0, 1) := by decide +kernel
theorem dL_law_904 : decode cL_law 904 = .ok (.ireturn, 1) := by decide +kernel
theorem dL_law_905 : decode cL_law 905 = .ok (.aload_n 1, 1) := by decide +kernel
theorem dL_law_906 : decode cL_law 906 = .ok (.aload_n 0, 1) := by decide +kernel
theorem dL_law_907 : decode cL_law 907 = .ok (.iload 5, 2) := by decide +kernel
theorem dL_law_909 : decode cL_law 909 = .ok (.iconst 1, 1) := by decide +kernel
theorem dL_law_910 : decode cL_law 910 = .ok (.iadd, 1) := by decide +kernel
theorem dL_law_911 : decode cL_law 911 = .ok (.iaload, 1) := by decide +kernel
theorem dL_law_912 : decode cL_law 912 = .ok (.aload_n 3, 1) := by decide +kernel
theorem dL_law_913 : decode cL_law 913 = .ok (.invokestatic 114, 3) := by decide +kernel
theorem dL_law_916 : decode cL_law 916 = .ok (.istore 6, 2) := by decide +kernel
theorem dL_law_918 : decode cL_law 918 = .ok (.aload_n 2, 1) := by decide +kernel
theorem dL_law_919 : decode cL_law 919 = .ok (.aload_n 0, 1) := by decide +kernel
theorem dL_law_920 : decode cL_law 920 = .ok (.iload 5, 2) := by decide +kernel
theorem dL_law_922 : decode cL_law 922 = .ok (.iconst 1, 1) := by decide +kernel
theorem dL_law_923 : decode cL_law 923 = .ok (.iadd, 1) := by decide +kernel
theorem dL_law_924 : decode cL_law 924 = .ok (.iaload, 1) := by decide +kernel
theorem dL_law_925 : decode cL_law 925 = .ok (.invokevirtual 116, 3) := by decide +kernel
theorem dL_law_928 : decode cL_law 928 = .ok (.istore 7, 2) := by decide +kernel
theorem dL_law_930 : decode cL_law 930 = .ok (.aload_n 2, 1) := by decide +kernel
theorem dL_law_931 : decode cL_law 931 = .ok (.invokevirtual 77, 3) := by decide +kernel
theorem dL_law_934 : decode cL_law 934 = .ok (.iload 6, 2) := by decide +kernel
theorem dL_law_936 : decode cL_law 936 = .ok (.if_icmp .eq 5, 3) := by decide +kernel
theorem dL_law_939 : decode cL_law 939 = .ok (.iconst 0, 1) := by decide +kernel
theorem dL_law_940 : decode cL_law 940 = .ok (.ireturn, 1) := by decide +kernel
theorem dL_law_941 : decode cL_law 941 = .ok (.iload 6, 2) := by decide +kernel
theorem dL_law_943 : decode cL_law 943 = .ok (.ifCond .ne 22, 3) := by decide +kernel
theorem dL_law_946 : decode cL_law 946 = .ok (.aload_n 3, 1) := by decide +kernel
theorem dL_law_947 : decode cL_law 947 = .ok (.iconst 0, 1) := by decide +kernel
theorem dL_law_948 : decode cL_law 948 = .ok (.laload, 1) := by decide +kernel
theorem dL_law_949 : decode cL_law 949 = .ok (.iload 7, 2) := by decide +kernel
theorem dL_law_951 : decode cL_law 951 = .ok (.ifCond .eq 7, 3) := by decide +kernel
theorem dL_law_954 : decode cL_law 954 = .ok (.lconst 1, 1) := by decide +kernel
theorem dL_law_955 : decode cL_law 955 = .ok (.goto 4, 3) := by decide +kernel
theorem dL_law_958 : decode cL_law 958 = .ok (.lconst 0, 1) := by decide +kernel
theorem dL_law_959 : decode cL_law 959 = .ok (.lcmp, 1) := by decide +kernel
theorem dL_law_960 : decode cL_law 960 = .ok (.ifCond .eq 5, 3) := by decide +kernel
theorem dL_law_963 : decode cL_law 963 = .ok (.iconst 0, 1) := by decide +kernel
theorem dL_law_964 : decode cL_law 964 = .ok (.ireturn, 1) := by decide +kernel
theorem dL_law_965 : decode cL_law 965 = .ok (.goto 291, 3) := by decide +kernel
theorem dL_law_968 : decode cL_law 968 = .ok (.aload_n 1, 1) := by decide +kernel
theorem dL_law_969 : decode cL_law 969 = .ok (.aload_n 0, 1) := by decide +kernel
theorem dL_law_970 : decode cL_law 970 = .ok (.iload 5, 2) := by decide +kernel
theorem dL_law_972 : decode cL_law 972 = .ok (.iconst 1, 1) := by decide +kernel
theorem dL_law_973 : decode cL_law 973 = .ok (.iadd, 1) := by decide +kernel
theorem dL_law_974 : decode cL_law 974 = .ok (.iaload, 1) := by decide +kernel
theorem dL_law_975 : decode cL_law 975 = .ok (.aload 4, 2) := by decide +kernel
theorem dL_law_977 : decode cL_law 977 = .ok (.invokestatic 117, 3) := by decide +kernel
theorem dL_law_980 : decode cL_law 980 = .ok (.istore 6, 2) := by decide +kernel
theorem dL_law_982 : decode cL_law 982 = .ok (.aload_n 2, 1) := by decide +kernel
theorem dL_law_983 : decode cL_law 983 = .ok (.aload_n 0, 1) := by decide +kernel
end
section
/-! decode rows of the law -/
theorem dL_law_984 : decode cL_law 984 = .ok (.iload 5, 2) := by decide +kernel
theorem dL_law_986 : decode cL_law 986 = .ok (.iconst 1, 1) := by decide +kernel
theorem dL_law_987 : decode cL_law 987 = .ok (.iadd, 1) := by decide +kernel
theorem dL_law_988 : decode cL_law 988 = .ok (.iaload, 1) := by decide +kernel
theorem dL_law_989 : decode cL_law 989 = .ok (.invokevirtual 120, 3) := by decide +kernel
theorem dL_law_992 : decode cL_law 992 = .ok (.dstore 7, 2) := by decide +kernel
theorem dL_law_994 : decode cL_law 994 = .ok (.aload_n 2, 1) := by decide +kernel
theorem dL_law_995 : decode cL_law 995 = .ok (.invokevirtual 77, 3) := by decide +kernel
theorem dL_law_998 : decode cL_law 998 = .ok (.iload 6, 2) := by decide +kernel
theorem dL_law_1000 : decode cL_law 1000 = .ok (.if_icmp .eq 5, 3) := by decide +kernel
theorem dL_law_1003 : decode cL_law 1003 = .ok (.iconst 0, 1) := by decide +kernel
theorem dL_law_1004 : decode cL_law 1004 = .ok (.ireturn, 1) := by decide +kernel
theorem dL_law_1005 : decode cL_law 1005 = .ok (.iload 6, 2) := by decide +kernel
theorem dL_law_1007 : decode cL_law 1007 = .ok (.ifCond .ne 35, 3) := by decide +kernel
theorem dL_law_1010 : decode cL_law 1010 = .ok (.aload 4, 2) := by decide +kernel
theorem dL_law_1012 : decode cL_law 1012 = .ok (.iconst 0, 1) := by decide +kernel
theorem dL_law_1013 : decode cL_law 1013 = .ok (.daload, 1) := by decide +kernel
theorem dL_law_1014 : decode cL_law 1014 = .ok (.dload 7, 2) := by decide +kernel
theorem dL_law_1016 : decode cL_law 1016 = .ok (.dcmp .l, 1) := by decide +kernel
theorem dL_law_1017 : decode cL_law 1017 = .ok (.ifCond .eq 25, 3) := by decide +kernel
theorem dL_law_1020 : decode cL_law 1020 = .ok (.aload 4, 2) := by decide +kernel
theorem dL_law_1022 : decode cL_law 1022 = .ok (.iconst 0, 1) := by decide +kernel
theorem dL_law_1023 : decode cL_law 1023 = .ok (.daload, 1) := by decide +kernel
theorem dL_law_1024 : decode cL_law 1024 = .ok (.aload 4, 2) := by decide +kernel
theorem dL_law_1026 : decode cL_law 1026 = .ok (.iconst 0, 1) := by decide +kernel
theorem dL_law_1027 : decode cL_law 1027 = .ok (.daload, 1) := by decide +kernel
theorem dL_law_1028 : decode cL_law 1028 = .ok (.dcmp .l, 1) := by decide +kernel
theorem dL_law_1029 : decode cL_law 1029 = .ok (.ifCond .eq 11, 3) := by decide +kernel
theorem dL_law_1032 : decode cL_law 1032 = .ok (.dload 7, 2) := by decide +kernel
theorem dL_law_1034 : decode cL_law 1034 = .ok (.dload 7, 2) := by decide +kernel
theorem dL_law_1036 : decode cL_law 1036 = .ok (.dcmp .l, 1) := by decide +kernel
theorem dL_law_1037 : decode cL_law 1037 = .ok (.ifCond .ne 5, 3) := by decide +kernel
theorem dL_law_1040 : decode cL_law 1040 = .ok (.iconst 0, 1) := by decide +kernel
theorem dL_law_1041 : decode cL_law 1041 = .ok (.ireturn, 1) := by decide +kernel
theorem dL_law_1042 : decode cL_law 1042 = .ok (.goto 214, 3) := by decide +kernel
theorem dL_law_1045 : decode cL_law 1045 = .ok (.aload_n 1, 1) := by decide +kernel
theorem dL_law_1046 : decode cL_law 1046 = .ok (.aload_n 0, 1) := by decide +kernel
theorem dL_law_1047 : decode cL_law 1047 = .ok (.iload 5, 2) := by decide +kernel
theorem dL_law_1049 : decode cL_law 1049 = .ok (.iconst 1, 1) := by decide +kernel
theorem dL_law_1050 : decode cL_law 1050 = .ok (.iadd, 1) := by decide +kernel
theorem dL_law_1051 : decode cL_law 1051 = .ok (.iaload, 1) := by decide +kernel
theorem dL_law_1052 : decode cL_law 1052 = .ok (.aload_n 0, 1) := by decide +kernel
theorem dL_law_1053 : decode cL_law 1053 = .ok (.iload 5, 2) := by decide +kernel
theorem dL_law_1055 : decode cL_law 1055 = .ok (.iconst 2, 1) := by decide +kernel
theorem dL_law_1056 : decode cL_law 1056 = .ok (.iadd, 1) := by decide +kernel
theorem dL_law_1057 : decode cL_law 1057 = .ok (.iaload, 1) := by decide +kernel
theorem dL_law_1058 : decode cL_law 1058 = .ok (.aload_n 0, 1) := by decide +kernel
theorem dL_law_1059 : decode cL_law 1059 = .ok (.iload 5, 2) := by decide +kernel
theorem dL_law_1061 : decode cL_law 1061 = .ok (.iconst 3, 1) := by decide +kernel
theorem dL_law_1062 : decode cL_law 1062 = .ok (.iadd, 1) := by decide +kernel
theorem dL_law_1063 : decode cL_law 1063 = .ok (.iaload, 1) := by decide +kernel
theorem dL_law_1064 : decode cL_law 1064 = .ok (.aload_n 3, 1) := by decide +kernel
theorem dL_law_1065 : decode cL_law 1065 = .ok (.invokestatic 121, 3) := by decide +kernel
theorem dL_law_1068 : decode cL_law 1068 = .ok (.istore 6, 2) := by decide +kernel
theorem dL_law_1070 : decode cL_law 1070 = .ok (.aload_n 2, 1) := by decide +kernel
theorem dL_law_1071 : decode cL_law 1071 = .ok (.aload_n 0, 1) := by decide +kernel
theorem dL_law_1072 : decode cL_law 1072 = .ok (.iload 5, 2) := by decide +kernel
theorem dL_law_1074 : decode cL_law 1074 = .ok (.iconst 1, 1) := by decide +kernel
theorem dL_law_1075 : decode cL_law 1075 = .ok (.iadd, 1) := by decide +kernel
theorem dL_law_1076 : decode cL_law 1076 = .ok (.iaload, 1) := by decide +kernel
theorem dL_law_1077 : decode cL_law 1077 = .ok (.aload_n 0, 1) := by decide +kernel
theorem dL_law_1078 : decode cL_law 1078 = .ok (.iload 5, 2) := by decide +kernel
theorem dL_law_1080 : decode cL_law 1080 = .ok (.iconst 2, 1) := by decide +kernel
theorem dL_law_1081 : decode cL_law 1081 = .ok (.iadd, 1) := by decide +kernel
theorem dL_law_1082 : decode cL_law 1082 = .ok (.iaload, 1) := by decide +kernel
theorem dL_law_1083 : decode cL_law 1083 = .ok (.aload_n 0, 1) := by decide +kernel
theorem dL_law_1084 : decode cL_law 1084 = .ok (.iload 5, 2) := by decide +kernel
theorem dL_law_1086 : decode cL_law 1086 = .ok (.iconst 3, 1) := by decide +kernel
theorem dL_law_1087 : decode cL_law 1087 = .ok (.iadd, 1) := by decide +kernel
theorem dL_law_1088 : decode cL_law 1088 = .ok (.iaload, 1) := by decide +kernel
theorem dL_law_1089 : decode cL_law 1089 = .ok (.invokevirtual 124, 3) := by decide +kernel
theorem dL_law_1092 : decode cL_law 1092 = .ok (.istore 7, 2) := by decide +kernel
theorem dL_law_1094 : decode cL_law 1094 = .ok (.aload_n 2, 1) := by decide +kernel
theorem dL_law_1095 : decode cL_law 1095 = .ok (.invokevirtual 77, 3) := by decide +kernel
theorem dL_law_1098 : decode cL_law 1098 = .ok (.iload 6, 2) := by decide +kernel
theorem dL_law_1100 : decode cL_law 1100 = .ok (.if_icmp .eq 5, 3) := by decide +kernel
theorem dL_law_1103 : decode cL_law 1103 = .ok (.iconst 0, 1) := by decide +kernel
theorem dL_law_1104 : decode cL_law 1104 = .ok (.ireturn, 1) := by decide +kernel
theorem dL_law_1105 : decode cL_law 1105 = .ok (.iload 6, 2) := by decide +kernel
theorem dL_law_1107 : decode cL_law 1107 = .ok (.ifCond .ne 22, 3) := by decide +kernel
theorem dL_law_1110 : decode cL_law 1110 = .ok (.aload_n 3, 1) := by decide +kernel
theorem dL_law_1111 : decode cL_law 1111 = .ok (.iconst 0, 1) := by decide +kernel
theorem dL_law_1112 : decode cL_law 1112 = .ok (.laload, 1) := by decide +kernel
theorem dL_law_1113 : decode cL_law 1113 = .ok (.iload 7, 2) := by decide +kernel
theorem dL_law_1115 : decode cL_law 1115 = .ok (.ifCond .eq 7, 3) := by decide +kernel
theorem dL_law_1118 : decode cL_law 1118 = .ok (.lconst 1, 1) := by decide +kernel
theorem dL_law_1119 : decode cL_law 1119 = .ok (.goto 4, 3) := by decide +kernel
theorem dL_law_1122 : decode cL_law 1122 = .ok (.lconst 0, 1) := by decide +kernel
theorem dL_law_1123 : decode cL_law 1123 = .ok (.lcmp, 1) := by decide +kernel
theorem dL_law_1124 : decode cL_law 1124 = .ok (.ifCond .eq 5, 3) := by decide +kernel
theorem dL_law_1127 : decode cL_law 1127 = .ok (.iconst 0, 1) := by decide +kernel
theorem dL_law_1128 : decode cL_law 1128 = .ok (.ireturn, 1) := by decide +kernel
theorem dL_law_1129 : decode cL_law 1129 = .ok (.goto 127, 3) := by decide +kernel
theorem dL_law_1132 : decode cL_law 1132 = .ok (.aload_n 1, 1) := by decide +kernel
theorem dL_law_1133 : decode cL_law 1133 = .ok (.aload_n 0, 1) := by decide +kernel
theorem dL_law_1134 : decode cL_law 1134 = .ok (.iload 5, 2) := by decide +kernel
theorem dL_law_1136 : decode cL_law 1136 = .ok (.iconst 1, 1) := by decide +kernel
theorem dL_law_1137 : decode cL_law 1137 = .ok (.iadd, 1) := by decide +kernel
theorem dL_law_1138 : decode cL_law 1138 = .ok (.iaload, 1) := by decide +kernel
theorem dL_law_1139 : decode cL_law 1139 = .ok (.aload_n 0, 1) := by decide +kernel
end
section
/-! decode rows of the law -/
theorem dL_law_1140 : decode cL_law 1140 = .ok (.iload 5, 2) := by decide +kernel
theorem dL_law_1142 : decode cL_law 1142 = .ok (.iconst 2, 1) := by decide +kernel
theorem dL_law_1143 : decode cL_law 1143 = .ok (.iadd, 1) := by decide +kernel
theorem dL_law_1144 : decode cL_law 1144 = .ok (.iaload, 1) := by decide +kernel
theorem dL_law_1145 : decode cL_law 1145 = .ok (.aload_n 3, 1) := by decide +kernel
theorem dL_law_1146 : decode cL_law 1146 = .ok (.invokestatic 125, 3) := by decide +kernel
theorem dL_law_1149 : decode cL_law 1149 = .ok (.istore 6, 2) := by decide +kernel
theorem dL_law_1151 : decode cL_law 1151 = .ok (.aload_n 2, 1) := by decide +kernel
theorem dL_law_1152 : decode cL_law 1152 = .ok (.aload_n 0, 1) := by decide +kernel
theorem dL_law_1153 : decode cL_law 1153 = .ok (.iload 5, 2) := by decide +kernel
theorem dL_law_1155 : decode cL_law 1155 = .ok (.iconst 1, 1) := by decide +kernel
theorem dL_law_1156 : decode cL_law 1156 = .ok (.iadd, 1) := by decide +kernel
theorem dL_law_1157 : decode cL_law 1157 = .ok (.iaload, 1) := by decide +kernel
theorem dL_law_1158 : decode cL_law 1158 = .ok (.aload_n 0, 1) := by decide +kernel
theorem dL_law_1159 : decode cL_law 1159 = .ok (.iload 5, 2) := by decide +kernel
theorem dL_law_1161 : decode cL_law 1161 = .ok (.iconst 2, 1) := by decide +kernel
theorem dL_law_1162 : decode cL_law 1162 = .ok (.iadd, 1) := by decide +kernel
theorem dL_law_1163 : decode cL_law 1163 = .ok (.iaload, 1) := by decide +kernel
theorem dL_law_1164 : decode cL_law 1164 = .ok (.invokevirtual 128, 3) := by decide +kernel
theorem dL_law_1167 : decode cL_law 1167 = .ok (.istore 7, 2) := by decide +kernel
theorem dL_law_1169 : decode cL_law 1169 = .ok (.aload_n 2, 1) := by decide +kernel
theorem dL_law_1170 : decode cL_law 1170 = .ok (.invokevirtual 77, 3) := by decide +kernel
theorem dL_law_1173 : decode cL_law 1173 = .ok (.iload 6, 2) := by decide +kernel
theorem dL_law_1175 : decode cL_law 1175 = .ok (.if_icmp .eq 5, 3) := by decide +kernel
theorem dL_law_1178 : decode cL_law 1178 = .ok (.iconst 0, 1) := by decide +kernel
theorem dL_law_1179 : decode cL_law 1179 = .ok (.ireturn, 1) := by decide +kernel
theorem dL_law_1180 : decode cL_law 1180 = .ok (.iload 6, 2) := by decide +kernel
theorem dL_law_1182 : decode cL_law 1182 = .ok (.ifCond .ne 15, 3) := by decide +kernel
theorem dL_law_1185 : decode cL_law 1185 = .ok (.aload_n 3, 1) := by decide +kernel
theorem dL_law_1186 : decode cL_law 1186 = .ok (.iconst 0, 1) := by decide +kernel
theorem dL_law_1187 : decode cL_law 1187 = .ok (.laload, 1) := by decide +kernel
theorem dL_law_1188 : decode cL_law 1188 = .ok (.iload 7, 2) := by decide +kernel
theorem dL_law_1190 : decode cL_law 1190 = .ok (.i2l, 1) := by decide +kernel
theorem dL_law_1191 : decode cL_law 1191 = .ok (.lcmp, 1) := by decide +kernel
theorem dL_law_1192 : decode cL_law 1192 = .ok (.ifCond .eq 5, 3) := by decide +kernel
theorem dL_law_1195 : decode cL_law 1195 = .ok (.iconst 0, 1) := by decide +kernel
theorem dL_law_1196 : decode cL_law 1196 = .ok (.ireturn, 1) := by decide +kernel
theorem dL_law_1197 : decode cL_law 1197 = .ok (.goto 59, 3) := by decide +kernel
theorem dL_law_1200 : decode cL_law 1200 = .ok (.aload_n 1, 1) := by decide +kernel
theorem dL_law_1201 : decode cL_law 1201 = .ok (.aload_n 0, 1) := by decide +kernel
theorem dL_law_1202 : decode cL_law 1202 = .ok (.iload 5, 2) := by decide +kernel
theorem dL_law_1204 : decode cL_law 1204 = .ok (.iconst 1, 1) := by decide +kernel
theorem dL_law_1205 : decode cL_law 1205 = .ok (.iadd, 1) := by decide +kernel
theorem dL_law_1206 : decode cL_law 1206 = .ok (.iaload, 1) := by decide +kernel
theorem dL_law_1207 : decode cL_law 1207 = .ok (.aload_n 3, 1) := by decide +kernel
theorem dL_law_1208 : decode cL_law 1208 = .ok (.invokestatic 129, 3) := by decide +kernel
theorem dL_law_1211 : decode cL_law 1211 = .ok (.istore 6, 2) := by decide +kernel
theorem dL_law_1213 : decode cL_law 1213 = .ok (.aload_n 2, 1) := by decide +kernel
theorem dL_law_1214 : decode cL_law 1214 = .ok (.aload_n 0, 1) := by decide +kernel
theorem dL_law_1215 : decode cL_law 1215 = .ok (.iload 5, 2) := by decide +kernel
theorem dL_law_1217 : decode cL_law 1217 = .ok (.iconst 1, 1) := by decide +kernel
theorem dL_law_1218 : decode cL_law 1218 = .ok (.iadd, 1) := by decide +kernel
theorem dL_law_1219 : decode cL_law 1219 = .ok (.iaload, 1) := by decide +kernel
theorem dL_law_1220 : decode cL_law 1220 = .ok (.invokevirtual 131, 3) := by decide +kernel
theorem dL_law_1223 : decode cL_law 1223 = .ok (.istore 7, 2) := by decide +kernel
theorem dL_law_1225 : decode cL_law 1225 = .ok (.aload_n 2, 1) := by decide +kernel
theorem dL_law_1226 : decode cL_law 1226 = .ok (.invokevirtual 77, 3) := by decide +kernel
theorem dL_law_1229 : decode cL_law 1229 = .ok (.iload 6, 2) := by decide +kernel
theorem dL_law_1231 : decode cL_law 1231 = .ok (.if_icmp .eq 5, 3) := by decide +kernel
theorem dL_law_1234 : decode cL_law 1234 = .ok (.iconst 0, 1) := by decide +kernel
theorem dL_law_1235 : decode cL_law 1235 = .ok (.ireturn, 1) := by decide +kernel
theorem dL_law_1236 : decode cL_law 1236 = .ok (.iload 6, 2) := by decide +kernel
theorem dL_law_1238 : decode cL_law 1238 = .ok (.ifCond .ne 15, 3) := by decide +kernel
theorem dL_law_1241 : decode cL_law 1241 = .ok (.aload_n 3, 1) := by decide +kernel
theorem dL_law_1242 : decode cL_law 1242 = .ok (.iconst 0, 1) := by decide +kernel
theorem dL_law_1243 : decode cL_law 1243 = .ok (.laload, 1) := by decide +kernel
theorem dL_law_1244 : decode cL_law 1244 = .ok (.iload 7, 2) := by decide +kernel
theorem dL_law_1246 : decode cL_law 1246 = .ok (.i2l, 1) := by decide +kernel
theorem dL_law_1247 : decode cL_law 1247 = .ok (.lcmp, 1) := by decide +kernel
theorem dL_law_1248 : decode cL_law 1248 = .ok (.ifCond .eq 5, 3) := by decide +kernel
theorem dL_law_1251 : decode cL_law 1251 = .ok (.iconst 0, 1) := by decide +kernel
theorem dL_law_1252 : decode cL_law 1252 = .ok (.ireturn, 1) := by decide +kernel
theorem dL_law_1253 : decode cL_law 1253 = .ok (.goto 3, 3) := by decide +kernel
theorem dL_law_1256 : decode cL_law 1256 = .ok (.iinc 5 7, 3) := by decide +kernel
theorem dL_law_1259 : decode cL_law 1259 = .ok (.goto (-1231), 3) := by decide +kernel
theorem dL_law_1262 : decode cL_law 1262 = .ok (.iconst 1, 1) := by decide +kernel
theorem dL_law_1263 : decode cL_law 1263 = .ok (.ireturn, 1) := by decide +kernel
end
section
/-! the nest's words: links of private members across the nest -/
def nw_all : List Cond := [.methodLinkNest RX2 23 yX1_init RX2, .methodLinkNest RX2 30 yX0_init RX2, .methodLinkNest RX1 34 yX2_looksAtBit RX2, .methodLinkNest RX0 81 yX2_isValue RX2, .fieldLinkNest RX2 161 RX1 "coilKinds" "[I" RX2, .fieldLinkNest RX2 165 RX1 "coilNumbers" "[I" RX2, .fieldLinkNest RX2 75 RX0 "guarded" "Z" RX2]
def nw_ok (U : State) : Prop := ∀ w ∈ nw_all, va_Nw w U
theorem nw_tb : ∀ w ∈ nw_all, w.onTables = true := by decide +kernel
theorem nw_same {u U : State} (h : u.vm = U.vm) (hZ : nw_ok u) : nw_ok U := fun w hw => va_Nw.same (nw_tb w hw) h (hZ w hw)
theorem nw_warm {s U : State} (hW : s.WarmedH U.vm) (hZ : nw_ok s) : nw_ok U := by
  intro w hw
  have h := hZ w hw
  simp only [nw_all, List.mem_cons, List.not_mem_nil, or_false] at hw
  rcases hw with rfl | rfl | rfl | rfl | rfl | rfl | rfl
  · exact va_Nw.warmM hW h
  · exact va_Nw.warmM hW h
  · exact va_Nw.warmM hW h
  · exact va_Nw.warmM hW h
  · exact va_Nw.warmF hW h
  · exact va_Nw.warmF hW h
  · exact va_Nw.warmF hW h
/-! worlds up to order, frames, calls that read, calls that write (sf_) -/
theorem sf_P_iff {D : va_G} {cl : List vw_C} {ws : va_W} {H : Heap} : va_P D cl ws H ↔ ∀ q ∈ ws, va_at D cl q H := by
  constructor
  · intro h q hq
    obtain ⟨k, hk⟩ := List.getElem?_of_mem hq
    exact h k q hk
  · intro h k q hk
    exact h q (List.mem_of_getElem? hk)
theorem sf_P_perm {D : va_G} {cl : List vw_C} {ws ws' : va_W} {H : Heap} (hp : List.Perm ws ws') (h : va_P D cl ws H) : va_P D cl ws' H :=
  sf_P_iff.mpr fun q hq => sf_P_iff.mp h q (hp.mem_iff.mpr hq)
theorem sf_D_iff {A : Nat → Prop} {ws : va_W} : va_D A ws ↔ (ws.map Prod.fst).Nodup ∧ ∀ q ∈ ws, A q.1 := by
  constructor
  · intro ⟨h1, h2⟩
    refine ⟨?_, fun q hq => ?_⟩
    · refine List.pairwise_iff_getElem.mpr fun i j hi hj hij he => ?_
      have hi' : i < ws.length := by simpa using hi
      have hj' : j < ws.length := by simpa using hj
      have h9 := h1 i j ws[i] ws[j] (List.getElem?_eq_getElem hi') (List.getElem?_eq_getElem hj') (by simpa using he)
      omega
    · obtain ⟨k, hk⟩ := List.getElem?_of_mem hq
      exact h2 k q hk
  · intro ⟨h1, h2⟩
    have key : ∀ (i j : Nat) (p q : Nat × va_E), i < j → ws[i]? = some p → ws[j]? = some q → p.1 ≠ q.1 := by
      intro i j p q hij hp hq
      obtain ⟨hi, hp'⟩ := List.getElem?_eq_some_iff.mp hp
      obtain ⟨hj, hq'⟩ := List.getElem?_eq_some_iff.mp hq
      have h9 := List.pairwise_iff_getElem.mp h1 i j (by simpa using hi) (by simpa using hj) hij
      simpa [hp', hq'] using h9
    refine ⟨fun i j p q hp hq he => ?_, fun k q hk => h2 q (List.mem_of_getElem? hk)⟩
    rcases Nat.lt_trichotomy i j with h | h | h
    · exact absurd he (key i j p q h hp hq)
    · exact h
    · exact absurd he.symm (key j i q p h hq hp)
theorem sf_D_perm {A : Nat → Prop} {ws ws' : va_W} (hp : List.Perm ws ws') (h : va_D A ws) : va_D A ws' :=
  sf_D_iff.mpr ⟨(hp.map Prod.fst).nodup_iff.mp (sf_D_iff.mp h).1, fun q hq => (sf_D_iff.mp h).2 q (hp.mem_iff.mpr hq)⟩
theorem sf_P_left {D : va_G} {cl : List vw_C} {w1 w2 : va_W} {H : Heap} (h : va_P D cl (w1 ++ w2) H) : va_P D cl w1 H :=
  sf_P_iff.mpr fun q hq => sf_P_iff.mp h q (List.mem_append_left _ hq)
theorem sf_P_right {D : va_G} {cl : List vw_C} {w1 w2 : va_W} {H : Heap} (h : va_P D cl (w1 ++ w2) H) : va_P D cl w2 H :=
  sf_P_iff.mpr fun q hq => sf_P_iff.mp h q (List.mem_append_right _ hq)
theorem sf_D_left {A : Nat → Prop} {w1 w2 : va_W} (h : va_D A (w1 ++ w2)) : va_D A w1 := by
  have h1 := sf_D_iff.mp h
  rw [List.map_append, List.nodup_append] at h1
  exact sf_D_iff.mpr ⟨h1.1.1, fun q hq => h1.2 q (List.mem_append_left _ hq)⟩
theorem sf_free {A0 : Nat → Prop} {wc wr : va_W} {H0 H : Heap} {locs : List Loc} (hD : va_D A0 (wc ++ wr)) (hS : va_S A0 H0 H locs) (hA : ∀ q, H0.size ≤ q → A0 q) : ∀ q, va_A wc H.size q → A0 q := by
  intro q h
  rcases h with ⟨k, e, h⟩ | h
  · exact (sf_D_iff.mp hD).2 (q, e) (List.mem_append_left _ (List.mem_of_getElem? h))
  · exact hA q (Nat.le_trans hS.1 h)
/-- behind a call: the callee's new world beside the caller's other cells -/
theorem sf_fr {A0 : Nat → Prop} {D : va_G} {cl : List vw_C} {wc wr w1 : va_W} {H H1 : Heap} (hP : va_P D cl (wc ++ wr) H) (hD : va_D A0 (wc ++ wr))
    (hk : ∀ q : Nat, q < H.size → ¬ va_A wc H.size q → H1[q]? = H[q]?) (hF : ∀ q, va_A wc H.size q → A0 q) (hP1 : va_P D cl w1 H1) (hD1 : va_D (va_A wc H.size) w1) :
    va_P D cl (w1 ++ wr) H1 ∧ va_D A0 (w1 ++ wr) := by
  have hn := (sf_D_iff.mp hD).1
  rw [List.map_append, List.nodup_append] at hn
  have hout : ∀ q ∈ wr, q.1 < H.size ∧ ¬ va_A wc H.size q.1 := by
    intro q hq
    have hl := (sf_P_iff.mp hP q (List.mem_append_right _ hq)).lt
    refine ⟨hl, ?_⟩
    rintro (⟨k, e, h⟩ | h)
    · exact hn.2.2 q.1 (List.mem_map.mpr ⟨(q.1, e), List.mem_of_getElem? h, rfl⟩) q.1 (List.mem_map.mpr ⟨q, hq, rfl⟩) rfl
    · omega
  refine ⟨sf_P_iff.mpr fun q hq => ?_, sf_D_iff.mpr ⟨?_, fun q hq => ?_⟩⟩
  · rcases List.mem_append.mp hq with h | h
    · exact sf_P_iff.mp hP1 q h
    · exact (sf_P_iff.mp hP q (List.mem_append_right _ h)).kept (hk q.1 (hout q h).1 (hout q h).2)
  · rw [List.map_append, List.nodup_append]
    refine ⟨(sf_D_iff.mp hD1).1, hn.2.1, fun a ha b hb hab => ?_⟩
    obtain ⟨x, hx, rfl⟩ := List.mem_map.mp ha
    obtain ⟨y, hy, rfl⟩ := List.mem_map.mp hb
    exact (hout y hy).2 (by rw [← hab]; exact (sf_D_iff.mp hD1).2 x hx)
  · rcases List.mem_append.mp hq with h | h
    · exact hF _ ((sf_D_iff.mp hD1).2 q h)
    · exact (sf_D_iff.mp hD).2 q (List.mem_append_right _ h)
/-- what a method that only reads says at its end -/
def sf_R (v : Option Value) : Array Value → State → Outcome → State → Prop := fun _ st o t => o = .returned v ∧ t.heap = st.heap
/-- what a method that writes says at its end: its world wc has become w1 -/
def sf_V (D : va_G) (cl : List vw_C) (v : Option Value) (wc w1 : va_W) : Array Value → State → Outcome → State → Prop := fun _ st o t =>
  o = .returned v ∧ va_P D cl w1 t.heap ∧ va_D (va_A wc st.heap.size) w1 ∧ va_F (va_A wc st.heap.size) st t
/-- starts -/
def sf_PR (D : va_G) (cl : List vw_C) (tys : List (ClassId × FieldType)) (ws : va_W) (av : List Value) : Array Value → State → Prop := va_Pc av (fun U => va_P D cl ws U.heap ∧ va_K D cl tys U ∧ nw_ok U)
def sf_PV (D : va_G) (cl : List vw_C) (tys : List (ClassId × FieldType)) (ws : va_W) (sz : Nat) (av : List Value) : Array Value → State → Prop := va_Pc av (fun U => U.heap.size = sz ∧ va_P D cl ws U.heap ∧ va_D (fun _ => True) ws ∧ va_K D cl tys U ∧ nw_ok U)
theorem sf_blindR {D : va_G} {cl : List vw_C} {tys : List (ClassId × FieldType)} {ws : va_W} {av : List Value} : FrameBlind (sf_PR D cl tys ws av) :=
  fun a U g mk q => ⟨q.1, q.2.1, va_K.moved (u := U) (U := U.calling g mk a) (Vm.Alike.refl U.vm) q.2.2.1, nw_same (u := U) (U := U.calling g mk a) rfl q.2.2.2⟩
theorem sf_blindV {D : va_G} {cl : List vw_C} {tys : List (ClassId × FieldType)} {ws : va_W} {sz : Nat} {av : List Value} : FrameBlind (sf_PV D cl tys ws sz av) :=
  fun a U g mk q => ⟨q.1, q.2.1, q.2.2.1, q.2.2.2.1, va_K.moved (u := U) (U := U.calling g mk a) (Vm.Alike.refl U.vm) q.2.2.2.2.1, nw_same (u := U) (U := U.calling g mk a) rfl q.2.2.2.2.2⟩
def sf_P0 (av : List Value) : Array Value → State → Prop := va_Pc av (fun _ => True)
theorem sf_blind0 {av : List Value} : FrameBlind (sf_P0 av) := fun _ _ _ _ q => q
section SFC
variable {p : Program} {l : Launch} {e : Env} {R : Room} {s : State} {m : MethodId} {args : Array Value} {below : List Frame} {meth : Method} {c : Code} {H : Heap} {locs : List Loc} {cells slots : Nat} {Q : State → Prop}
variable {mc ms pc : Nat} {ls : Array Slot} {st0 rest : List Value} {a : Array Value} {A0 : Nat → Prop} {H0 : Heap} {D : va_G} {cl : List vw_C} {tys : List (ClassId × FieldType)} {wc wr w1 : va_W} {v : Option Value}
theorem sf_pre0 {av : List Value} : PreS s H (sf_P0 av) av := ⟨sf_blind0, fun _ _ _ => ⟨rfl, trivial⟩⟩
theorem sf_preSR {av : List Value} (hK : va_K D cl tys s) (hZ : nw_ok s) (hP : va_P D cl wc H) : PreS s H (sf_PR D cl tys wc av) av :=
  ⟨sf_blindR, fun U hU hW => ⟨rfl, by rw [hU]; exact hP, va_K.moved hW.alike hK, nw_warm hW hZ⟩⟩
theorem sf_preVR {C : String} {b : Addr} {av : List Value} (hr : ∃ cell : Cell, H[b]? = some cell ∧ cell.vm.isStatics = false ∧ s.vm.findClass C = some cell.cls) (hK : va_K D cl tys s) (hZ : nw_ok s) (hP : va_P D cl wc H) : PreV s H C b (sf_PR D cl tys wc (.ref b :: av)) av :=
  ⟨sf_blindR, hr, fun U hU hW => ⟨rfl, by rw [hU]; exact hP, va_K.moved hW.alike hK, nw_warm hW hZ⟩⟩
theorem sf_preSV {av : List Value} (hK : va_K D cl tys s) (hZ : nw_ok s) (hP : va_P D cl (wc ++ wr) H) (hD : va_D A0 (wc ++ wr)) : PreS s H (sf_PV D cl tys wc H.size av) av :=
  ⟨sf_blindV, fun U hU hW => ⟨rfl, by rw [hU], by rw [hU]; exact sf_P_left hP, (sf_D_left hD).weaken (fun _ _ _ _ => trivial), va_K.moved hW.alike hK, nw_warm hW hZ⟩⟩
theorem sf_preVV {C : String} {b : Addr} {av : List Value} (hr : ∃ cell : Cell, H[b]? = some cell ∧ cell.vm.isStatics = false ∧ s.vm.findClass C = some cell.cls) (hK : va_K D cl tys s) (hZ : nw_ok s) (hP : va_P D cl (wc ++ wr) H) (hD : va_D A0 (wc ++ wr)) : PreV s H C b (sf_PV D cl tys wc H.size (.ref b :: av)) av :=
  ⟨sf_blindV, hr, fun U hU hW => ⟨rfl, by rw [hU], by rw [hU]; exact sf_P_left hP, (sf_D_left hD).weaken (fun _ _ _ _ => trivial), va_K.moved hW.alike hK, nw_warm hW hZ⟩⟩
/-- behind a call that only reads: the heap is the same -/
theorem sf_callR (hr : va_Run p l e R s m args below meth c H locs cells slots 0 0 (F0 m pc ls st0) rest (sf_R v a) (fun _ => False))
    (kk : W p l e R s m args below meth c H locs cells slots Q (F0 m (pc + 3) ls (v.toList ++ rest))) : W p l e R s m args below meth c H locs cells slots Q (F0 m pc ls st0) := by
  intro T hT X
  obtain ⟨v', st₀, t, T', L, h0, X', hL, e1, e2, ⟨hv, hh⟩, st⟩ := hr T hT X
  cases hv
  obtain ⟨t2, a1, b1⟩ := kk T' (by rw [e1, hh, h0]) (Stand.forget X' (fun q h => (hL q h).elim))
  exact ⟨t2, st t2 a1, b1⟩
/-- behind a call that writes -/
theorem sf_callV (hr : va_Run p l e R s m args below meth c H locs cells slots mc ms (F0 m pc ls st0) rest (sf_V D cl v wc w1 a) (va_A wc H.size)) (hS : va_S A0 H0 H locs) (hP : va_P D cl (wc ++ wr) H) (hD : va_D A0 (wc ++ wr)) (hA : ∀ q, H0.size ≤ q → A0 q)
    (kk : ∀ (H1 : Heap) (locs1 : List Loc), va_P D cl (w1 ++ wr) H1 → va_D A0 (w1 ++ wr) → va_S A0 H0 H1 locs1 → W p l e R s m args below meth c H1 locs1 (cells + mc) (slots + ms) Q (F0 m (pc + 3) ls (v.toList ++ rest))) : W p l e R s m args below meth c H locs cells slots Q (F0 m pc ls st0) := by
  intro T hT X
  obtain ⟨v', st₀, t, T', L, h0, X', hL, e1, e2, ⟨hv, hP1, hD1, hF⟩, st⟩ := hr T hT X
  cases hv
  have hz := hF.1
  have hk := hF.2
  rw [h0] at hz hk hD1
  have hFc := sf_free hD hS hA
  obtain ⟨hP2, hD2⟩ := sf_fr hP hD hk hFc hP1 hD1
  have hS2 : va_S A0 H0 t.heap (locs ++ L) := ⟨Nat.le_trans hS.1 hz, fun q h1 h2 => (hk q (Nat.lt_of_lt_of_le h1 hS.1) (fun z => h2 (hFc q z))).trans (hS.2.1 q h1 h2), fun q hq => by
    rcases List.mem_append.mp hq with h | h
    · exact hS.2.2 q h
    · exact hFc _ (hL q h)⟩
  obtain ⟨t2, a1, b1⟩ := kk t.heap (locs ++ L) hP2 hD2 hS2 T' e1 X'
  exact ⟨t2, st t2 a1, b1⟩
end SFC
/-! rows of my own: booleans, arrays by a Nat index, values by equality (sf_) -/
def sf_b (b : Bool) : Int32 := match b with
  | true => 1
  | false => 0
theorem sf_b_nar (b : Bool) : vp_nar .boolean (sf_b b) = sf_b b := by cases b <;> decide
theorem sf_b_nb (b : Bool) : narrow .boolean (.int (sf_b b)) = .int (sf_b b) := by cases b <;> decide
theorem sf_b_fit (b : Bool) : fits .boolean (.int (sf_b b)) = true := by cases b <;> decide
theorem sf_b_0 {b : Bool} (h : sf_b b = 0) : b = false := by
  cases b
  · rfl
  · exact absurd h (by decide)
theorem sf_b_n0 {b : Bool} (h : ¬ sf_b b = 0) : b = true := by
  cases b
  · exact absurd rfl h
  · rfl
theorem sf_upb (f : Nat → Bool) (k : Nat) (b : Bool) : upd (fun j => sf_b (f j)) k (vp_nar .boolean (sf_b b)) = fun j => sf_b (va_up f k b j) := by
  funext j
  rw [sf_b_nar]
  show (if j = k then sf_b b else sf_b (f j)) = sf_b (if j = k then b else f j)
  by_cases h : j = k
  · rw [if_pos h, if_pos h]
  · rw [if_neg h, if_neg h]
theorem sf_upi (f : Nat → Int32) (k : Nat) (x : Int32) : upd f k x = va_up f k x := rfl
theorem sf_upd (f : Nat → UInt64) (k : Nat) (x : UInt64) : vf_upd f k x = va_up f k x := rfl
section SFR
variable {p : Program} {l : Launch} {e : Env} {R : Room} {s : State} {m : MethodId} {args : Array Value} {below : List Frame} {meth : Method} {c : Code} {H : Heap} {locs : List Loc} {cells slots : Nat} {Q : State → Prop}
variable {cc : ByteArray} {pc : Nat} {ls : Array Slot} {rest : List Value} {D : va_G} {cl : List vw_C} {A : Nat → Prop} {a : Nat} {tys : List (ClassId × FieldType)} {ws : va_W} {H0 : Heap}
theorem sf_topi {x y : Int32} (h : x = y) (k : W p l e R s m args below meth c H locs cells slots Q (F0 m pc ls (.int y :: rest))) : W p l e R s m args below meth c H locs cells slots Q (F0 m pc ls (.int x :: rest)) := h ▸ k
theorem sf_topd {x y : UInt64} (h : x = y) (k : W p l e R s m args below meth c H locs cells slots Q (F0 m pc ls (.double y :: rest))) : W p l e R s m args below meth c H locs cells slots Q (F0 m pc ls (.double x :: rest)) := h ▸ k
theorem sf_ifeq (hexec : p.tables.exec = Jvm.exec) (hb : c.code = cc) {b : Bool} {off : Int} {tgt : Nat} (hdg : decode cc pc = .ok (.ifCond .eq off, 3)) (ht : (pc : Int) + off = (tgt : Int))
    (kt : b = false → W p l e R s m args below meth c H locs cells slots Q (F0 m tgt ls rest)) (kf : b = true → W p l e R s m args below meth c H locs cells slots Q (F0 m (pc + 3) ls rest)) : W p l e R s m args below meth c H locs cells slots Q (F0 m pc ls (.int (sf_b b) :: rest)) :=
  lv_if_eq hexec hb hdg ht (fun h => kt (sf_b_0 h)) (fun h => kf (sf_b_n0 h))
theorem sf_ifne (hexec : p.tables.exec = Jvm.exec) (hb : c.code = cc) {b : Bool} {off : Int} {tgt : Nat} (hdg : decode cc pc = .ok (.ifCond .ne off, 3)) (ht : (pc : Int) + off = (tgt : Int))
    (kt : b = true → W p l e R s m args below meth c H locs cells slots Q (F0 m tgt ls rest)) (kf : b = false → W p l e R s m args below meth c H locs cells slots Q (F0 m (pc + 3) ls rest)) : W p l e R s m args below meth c H locs cells slots Q (F0 m pc ls (.int (sf_b b) :: rest)) :=
  lv_if_ne hexec hb hdg ht (fun h => kt (sf_b_n0 h)) (fun h => kf (sf_b_0 h))
theorem sf_zald (hexec : p.tables.exec = Jvm.exec) (hb : c.code = cc) (hK : va_K D cl tys s) (hP : va_P D cl ws H) (q0 t0 : Nat) {cA : ClassId} {n : Nat} {f : Nat → Bool} (ha : ws[q0]? = some (a, .inl (cA, n, .inl (fun j => sf_b (f j))))) (ht : tys[t0]? = some (cA, .boolean)) {i : Int32} (k : Nat) (hi : i = nI k) (hk : k < n) (hn : n < 2 ^ 31) (hdg : decode cc pc = .ok (.baload, 1))
    (kk : W p l e R s m args below meth c H locs cells slots Q (F0 m (pc + 1) ls (.int (sf_b (f k)) :: rest))) : W p l e R s m args below meth c H locs cells slots Q (F0 m pc ls (.int i :: .ref a :: rest)) := by
  subst hi
  refine va_zald hexec hb hK hP q0 t0 ha ht (vp_in_nI hk hn) hdg ?_
  rw [nI_clamp (Nat.lt_trans hk hn)]
  exact kk
theorem sf_iald (hexec : p.tables.exec = Jvm.exec) (hb : c.code = cc) (hK : va_K D cl tys s) (hP : va_P D cl ws H) (q0 t0 : Nat) {cA : ClassId} {n : Nat} {f : Nat → Int32} (ha : ws[q0]? = some (a, .inl (cA, n, .inl f))) (ht : tys[t0]? = some (cA, .int)) {i : Int32} (k : Nat) (hi : i = nI k) (hk : k < n) (hn : n < 2 ^ 31) (hdg : decode cc pc = .ok (.iaload, 1))
    (kk : W p l e R s m args below meth c H locs cells slots Q (F0 m (pc + 1) ls (.int (f k) :: rest))) : W p l e R s m args below meth c H locs cells slots Q (F0 m pc ls (.int i :: .ref a :: rest)) := by
  subst hi
  refine va_iald hexec hb hK hP q0 t0 ha ht (vp_in_nI hk hn) hdg ?_
  rw [nI_clamp (Nat.lt_trans hk hn)]
  exact kk
theorem sf_dald (hexec : p.tables.exec = Jvm.exec) (hb : c.code = cc) (hK : va_K D cl tys s) (hP : va_P D cl ws H) (q0 t0 : Nat) {cA : ClassId} {n : Nat} {f : Nat → UInt64} (ha : ws[q0]? = some (a, .inl (cA, n, .inr (.inr (.inr (.inl f)))))) (ht : tys[t0]? = some (cA, .double)) {i : Int32} (k : Nat) (hi : i = nI k) (hk : k < n) (hn : n < 2 ^ 31) (hdg : decode cc pc = .ok (.daload, 1))
    (kk : W p l e R s m args below meth c H locs cells slots Q (F0 m (pc + 1) ls (.double (f k) :: rest))) : W p l e R s m args below meth c H locs cells slots Q (F0 m pc ls (.int i :: .ref a :: rest)) := by
  subst hi
  refine va_dald hexec hb hK hP q0 t0 ha ht (vp_in_nI hk hn) hdg ?_
  rw [nI_clamp (Nat.lt_trans hk hn)]
  exact kk
theorem sf_aald (hexec : p.tables.exec = Jvm.exec) (hb : c.code = cc) (hK : va_K D cl tys s) (hP : va_P D cl ws H) (q0 t0 : Nat) {cA : ClassId} {C : String} {n r : Nat} {f : Nat → Option Nat} (ha : ws[q0]? = some (a, .inl (cA, n, .inr (.inr (.inr (.inr f)))))) (ht : tys[t0]? = some (cA, .object C)) {i : Int32} (k : Nat) (hi : i = nI k) (hk : k < n) (hn : n < 2 ^ 31) (hf : f k = some r) (hdg : decode cc pc = .ok (.aaload, 1))
    (kk : W p l e R s m args below meth c H locs cells slots Q (F0 m (pc + 1) ls (.ref r :: rest))) : W p l e R s m args below meth c H locs cells slots Q (F0 m pc ls (.int i :: .ref a :: rest)) := by
  subst hi
  refine va_aldq hexec hb hK hP q0 t0 ha ht (vp_in_nI hk hn) hdg ?_
  rw [nI_clamp (Nat.lt_trans hk hn), hf]
  exact kk
theorem sf_zast (hexec : p.tables.exec = Jvm.exec) (hb : c.code = cc) (hK : va_K D cl tys s) (hP : va_P D cl ws H) (hD : va_D A ws) (hS : va_S A H0 H locs) (q0 t0 : Nat) {cA : ClassId} {n : Nat} {f : Nat → Bool} (ha : ws[q0]? = some (a, .inl (cA, n, .inl (fun j => sf_b (f j))))) (ht : tys[t0]? = some (cA, .boolean)) {i : Int32} {b : Bool} (k : Nat) (hi : i = nI k) (hk : k < n) (hn : n < 2 ^ 31) (hdg : decode cc pc = .ok (.bastore, 1))
    (kk : ∀ (H1 : Heap) (locs1 : List Loc), va_P D cl (ws.set q0 (a, .inl (cA, n, .inl (fun j => sf_b (va_up f k b j))))) H1 → va_D A (ws.set q0 (a, .inl (cA, n, .inl (fun j => sf_b (va_up f k b j))))) → va_S A H0 H1 locs1 → W p l e R s m args below meth c H1 locs1 cells slots Q (F0 m (pc + 1) ls rest)) : W p l e R s m args below meth c H locs cells slots Q (F0 m pc ls (.int (sf_b b) :: .int i :: .ref a :: rest)) := by
  subst hi
  refine va_zast hexec hb hK hP hD hS q0 t0 ha ht (vp_in_nI hk hn) hdg (fun H1 locs1 h1 h2 h3 => ?_)
  rw [nI_clamp (Nat.lt_trans hk hn), sf_upb] at h1 h2
  exact kk H1 locs1 h1 h2 h3
theorem sf_iast (hexec : p.tables.exec = Jvm.exec) (hb : c.code = cc) (hK : va_K D cl tys s) (hP : va_P D cl ws H) (hD : va_D A ws) (hS : va_S A H0 H locs) (q0 t0 : Nat) {cA : ClassId} {n : Nat} {f : Nat → Int32} (ha : ws[q0]? = some (a, .inl (cA, n, .inl f))) (ht : tys[t0]? = some (cA, .int)) {i x : Int32} (k : Nat) (hi : i = nI k) (hk : k < n) (hn : n < 2 ^ 31) (hdg : decode cc pc = .ok (.iastore, 1))
    (kk : ∀ (H1 : Heap) (locs1 : List Loc), va_P D cl (ws.set q0 (a, .inl (cA, n, .inl (va_up f k x)))) H1 → va_D A (ws.set q0 (a, .inl (cA, n, .inl (va_up f k x)))) → va_S A H0 H1 locs1 → W p l e R s m args below meth c H1 locs1 cells slots Q (F0 m (pc + 1) ls rest)) : W p l e R s m args below meth c H locs cells slots Q (F0 m pc ls (.int x :: .int i :: .ref a :: rest)) := by
  subst hi
  refine va_iast hexec hb hK hP hD hS q0 t0 ha ht (vp_in_nI hk hn) hdg (fun H1 locs1 h1 h2 h3 => ?_)
  rw [nI_clamp (Nat.lt_trans hk hn), sf_upi] at h1 h2
  exact kk H1 locs1 h1 h2 h3
theorem sf_dast (hexec : p.tables.exec = Jvm.exec) (hb : c.code = cc) (hK : va_K D cl tys s) (hP : va_P D cl ws H) (hD : va_D A ws) (hS : va_S A H0 H locs) (q0 t0 : Nat) {cA : ClassId} {n : Nat} {f : Nat → UInt64} (ha : ws[q0]? = some (a, .inl (cA, n, .inr (.inr (.inr (.inl f)))))) (ht : tys[t0]? = some (cA, .double)) {i : Int32} {x : UInt64} (k : Nat) (hi : i = nI k) (hk : k < n) (hn : n < 2 ^ 31) (hdg : decode cc pc = .ok (.dastore, 1))
    (kk : ∀ (H1 : Heap) (locs1 : List Loc), va_P D cl (ws.set q0 (a, .inl (cA, n, .inr (.inr (.inr (.inl (va_up f k x))))))) H1 → va_D A (ws.set q0 (a, .inl (cA, n, .inr (.inr (.inr (.inl (va_up f k x))))))) → va_S A H0 H1 locs1 → W p l e R s m args below meth c H1 locs1 cells slots Q (F0 m (pc + 1) ls rest)) : W p l e R s m args below meth c H locs cells slots Q (F0 m pc ls (.double x :: .int i :: .ref a :: rest)) := by
  subst hi
  refine va_dast hexec hb hK hP hD hS q0 t0 ha ht (vp_in_nI hk hn) hdg (fun H1 locs1 h1 h2 h3 => ?_)
  rw [nI_clamp (Nat.lt_trans hk hn), sf_upd] at h1 h2
  exact kk H1 locs1 h1 h2 h3
end SFR
/-! doubles: comparisons as Booleans, sizes by the exponent, no NaN (sd_) -/
def sd_ge (x y : UInt64) : Bool := decide (FP.dcmp x y = some .gt ∨ FP.dcmp x y = some .eq)
def sd_le (x y : UInt64) : Bool := decide (FP.dcmp x y = some .lt ∨ FP.dcmp x y = some .eq)
def sd_lt (x y : UInt64) : Bool := decide (FP.dcmp x y = some .lt)
def sd_gt (x y : UInt64) : Bool := decide (FP.dcmp x y = some .gt)
def sd_eq (x y : UInt64) : Bool := decide (FP.dcmp x y = some .eq)
/-- what an instruction's int says: l answers -1 for no number, g answers 1 -/
theorem sd_l_lt {x y : UInt64} : Op.cmpValue (FP.dcmp x y) .l < 0 ↔ sd_ge x y = false := by
  unfold sd_ge
  rcases FP.dcmp x y with _ | o
  · decide
  · cases o <;> decide
theorem sd_g_gt {x y : UInt64} : 0 < Op.cmpValue (FP.dcmp x y) .g ↔ sd_le x y = false := by
  unfold sd_le
  rcases FP.dcmp x y with _ | o
  · decide
  · cases o <;> decide
theorem sd_g_ge {x y : UInt64} : 0 ≤ Op.cmpValue (FP.dcmp x y) .g ↔ sd_lt x y = false := by
  unfold sd_lt
  rcases FP.dcmp x y with _ | o
  · decide
  · cases o <;> decide
theorem sd_l_le {x y : UInt64} : Op.cmpValue (FP.dcmp x y) .l ≤ 0 ↔ sd_gt x y = false := by
  unfold sd_gt
  rcases FP.dcmp x y with _ | o
  · decide
  · cases o <;> decide
theorem sd_l_eq {x y : UInt64} : Op.cmpValue (FP.dcmp x y) .l = 0 ↔ sd_eq x y = true := by
  unfold sd_eq
  rcases FP.dcmp x y with _ | o
  · decide
  · cases o <;> decide
theorem sd_nn {x : UInt64} (h : FP.Core.val64 x ≠ .nan) : vf_n64 x := by
  unfold vf_n64
  rw [UInt64.le_iff_toNat_le, FP.Core.mask_toNat]
  exact (FP.Core.ne_nan x).mp h
/-- below 2 ^ (K - 1023) in size -/
def sd_K (K : Nat) (x : UInt64) : Prop := x.toNat % 2 ^ 63 < K * 2 ^ 52
theorem sd_K.mono {K L : Nat} {x : UInt64} (h : sd_K K x) (hl : K ≤ L) : sd_K L x := Nat.lt_of_lt_of_le h (Nat.mul_le_mul_right _ hl)
theorem sd_K.fin {K : Nat} {x : UInt64} (h : sd_K K x) (hK : K ≤ 2047) : FP.Core.DFin x := FP.Core.fin_of_lt h hK
theorem sd_K.nn {K : Nat} {x : UInt64} (h : sd_K K x) (hK : K ≤ 2047) : vf_n64 x := sd_nn (h.fin hK).ne_nan
theorem sd_add {K : Nat} {x y : UInt64} (hx : sd_K K x) (hy : sd_K K y) (hK : K ≤ 2047) : sd_K (K + 2) (FP.dadd x y) := FP.Core.dadd_mag hx hy hK
theorem sd_sub {K : Nat} {x y : UInt64} (hx : sd_K K x) (hy : sd_K K y) (hK : K ≤ 2047) : sd_K (K + 2) (FP.dsub x y) := FP.Core.dsub_mag hx hy hK
theorem sd_mul {K L : Nat} {x y : UInt64} (hx : sd_K K x) (hy : sd_K L y) (hK : K ≤ 2047) (hL : L ≤ 2047) : sd_K (K + L - 1025 + 3) (FP.dmul x y) := FP.Core.dmul_mag hx hy hK hL
theorem sd_div {x y : UInt64} (hx : FP.Core.DFin x) (hy : FP.Core.DFin y) (h0 : sd_eq y 0 = false) : vf_n64 (FP.ddiv x y) := by
  have hz : ¬ FP.Core.DZero y := fun h => by
    have := FP.Core.zero_iff.mpr h
    unfold sd_eq at h0
    rw [decide_eq_false_iff_not] at h0
    exact h0 this
  exact sd_nn ((FP.Core.notNaN_iff _).mp (FP.Core.ddiv_out hx.notNaN hy hz))
/-- between -c and c, c with the bits b -/
theorem sd_btw {x lo hi : UInt64} {K : Nat} (hlo : lo.toNat = hi.toNat + 2 ^ 63) (hhi : hi.toNat < K * 2 ^ 52) (hK : K ≤ 2047) (h1 : sd_ge x lo = true) (h2 : sd_le x hi = true) : sd_K K x := by
  unfold sd_ge at h1
  unfold sd_le at h2
  rw [decide_eq_true_iff] at h1 h2
  have hx : FP.Core.val64 x ≠ .nan := by
    rcases h1 with h | h <;> exact (FP.Core.dcmp_some h).1
  have hl : FP.Core.val64 lo ≠ .nan := by
    rcases h1 with h | h <;> exact (FP.Core.dcmp_some h).2
  have hh : FP.Core.val64 hi ≠ .nan := by
    rcases h2 with h | h <;> exact (FP.Core.dcmp_some h).2
  have k1 : FP.Core.dkey lo ≤ FP.Core.dkey x := by
    rcases h1 with h | h
    · have := (FP.Core.dcmp_gt_key hx hl).mp h
      omega
    · have := (FP.Core.dcmp_eq_key hx hl).mp h
      omega
  have k2 : FP.Core.dkey x ≤ FP.Core.dkey hi := by
    rcases h2 with h | h
    · have := (FP.Core.dcmp_lt_key hx hh).mp h
      omega
    · have := (FP.Core.dcmp_eq_key hx hh).mp h
      omega
  have hlt := x.toNat_lt
  have hlt2 := lo.toNat_lt
  unfold FP.Core.dkey at k1 k2
  unfold sd_K
  rw [hlo] at k1 hlt2
  have e1 : ¬ (2 ^ 63 ≤ hi.toNat) := by omega
  rw [if_pos (by omega)] at k1
  rw [if_neg e1] at k2
  by_cases hs : 2 ^ 63 ≤ x.toNat
  · rw [if_pos hs] at k1 k2
    omega
  · rw [if_neg hs] at k1 k2
    omega
/-! families of cells: one of them in front (sf_) -/
theorem sf_er {α : Type} {n g : Nat} {F G : Nat → List α} (h : ∀ j, j ≠ g → F j = G j) : ((List.range n).erase g).flatMap F = ((List.range n).erase g).flatMap G := by
  have e : ∀ j ∈ (List.range n).erase g, F j = G j := fun j hj => h j ((List.nodup_range).mem_erase_iff.mp hj).1
  generalize (List.range n).erase g = l at e ⊢
  induction l with
  | nil => rfl
  | cons a t ih =>
    rw [List.flatMap_cons, List.flatMap_cons, e a List.mem_cons_self, ih (fun j hj => e j (List.mem_cons_of_mem _ hj))]
theorem sf_one {α : Type} {n g : Nat} (hg : g < n) (F : Nat → List α) : List.Perm ((List.range n).flatMap F) (F g ++ ((List.range n).erase g).flatMap F) := by
  have h := (List.perm_cons_erase (List.mem_range.mpr hg)).flatMap_right F
  rw [List.flatMap_cons] at h
  exact h
/-- X, the family F, Y: the g-th of F in front -/
theorem sf_pick {α : Type} {n g : Nat} (hg : g < n) (F : Nat → List α) (X Y : List α) : List.Perm (X ++ ((List.range n).flatMap F ++ Y)) (F g ++ (X ++ (((List.range n).erase g).flatMap F ++ Y))) := by
  refine List.Perm.trans (List.Perm.append_left X ((sf_one hg F).append_right Y)) ?_
  rw [List.append_assoc]
  exact List.perm_append_comm_assoc _ _ _
/-! words of calls -/
theorem gw_G {w : Cond} (h : w ∈ gw_all) : w ∈ gw_all ∧ ((w.onTables && w.keeps) = true ∨ ∃ ty, w = .arrayClass ty) := ⟨h, gw_good h⟩
theorem gw_C {c : Cond} (h4 : c ∈ gw_all) : GoodIn gw_all (c :: gw_all) := fun w hw => gw_G ((List.mem_cons.mp hw).elim (fun h => h ▸ h4) id)
theorem gw_S {own : String} {idx : Nat} {y : MethodName} {c : Cond} (h1 : Cond.methodLink own idx y ∈ gw_all) (h2 : Cond.static y ∈ gw_all) (h3 : Cond.initialized own ∈ gw_all) (h4 : c ∈ gw_all) : GoodIn gw_all (wsS own idx y (c :: gw_all)) := by
  intro w hw
  unfold wsS at hw
  rcases List.mem_append.mp hw with h | h
  · simp only [List.mem_cons, List.not_mem_nil, or_false] at h
    rcases h with rfl | rfl | rfl
    · exact gw_G h1
    · exact gw_G h2
    · exact gw_G h3
  · exact gw_C h4 w h
theorem gw_V {own C : String} {idx : Nat} {y : MethodName} {c : Cond} (h1 : Cond.methodLink own idx y ∈ gw_all) (h2 : Cond.instanceMethod y ∈ gw_all) (h3 : Cond.selects C y y ∈ gw_all) (h5 : Cond.initialized C ∈ gw_all) (h4 : c ∈ gw_all) : GoodIn gw_all (wsV own idx C y (c :: gw_all)) := by
  intro w hw
  unfold wsV at hw
  rcases List.mem_append.mp hw with h | h
  · simp only [List.mem_cons, List.not_mem_nil, or_false] at h
    rcases h with rfl | rfl | rfl | rfl
    · exact gw_G h1
    · exact gw_G h2
    · exact gw_G h3
    · exact gw_G h5
  · exact gw_C h4 w h
section SFQ
variable {p : Program} {l : Launch} {e : Env} {R : Room} {s : State} {m : MethodId} {args : Array Value} {below : List Frame} {meth : Method} {c : Code} {H : Heap} {locs : List Loc} {cells slots : Nat} {Q : State → Prop}
variable {mc ms pc : Nat} {ls : Array Slot} {st0 rest : List Value} {a : Array Value} {A0 : Nat → Prop} {H0 : Heap} {D : va_G} {cl : List vw_C} {tys : List (ClassId × FieldType)} {wc wr w1 : va_W}
theorem sf_callRi {r : Int32} (hr : va_Run p l e R s m args below meth c H locs cells slots 0 0 (F0 m pc ls st0) rest (sf_R (some (.int r)) a) (fun _ => False))
    (kk : W p l e R s m args below meth c H locs cells slots Q (F0 m (pc + 3) ls (.int r :: rest))) : W p l e R s m args below meth c H locs cells slots Q (F0 m pc ls st0) := sf_callR hr kk
theorem sf_callRd {r : UInt64} (hr : va_Run p l e R s m args below meth c H locs cells slots 0 0 (F0 m pc ls st0) rest (sf_R (some (.double r)) a) (fun _ => False))
    (kk : W p l e R s m args below meth c H locs cells slots Q (F0 m (pc + 3) ls (.double r :: rest))) : W p l e R s m args below meth c H locs cells slots Q (F0 m pc ls st0) := sf_callR hr kk
theorem sf_callVi {r : Int32} (hr : va_Run p l e R s m args below meth c H locs cells slots mc ms (F0 m pc ls st0) rest (sf_V D cl (some (.int r)) wc w1 a) (va_A wc H.size)) (hS : va_S A0 H0 H locs) (hP : va_P D cl (wc ++ wr) H) (hD : va_D A0 (wc ++ wr)) (hA : ∀ q, H0.size ≤ q → A0 q)
    (kk : ∀ (H1 : Heap) (locs1 : List Loc), va_P D cl (w1 ++ wr) H1 → va_D A0 (w1 ++ wr) → va_S A0 H0 H1 locs1 → W p l e R s m args below meth c H1 locs1 (cells + mc) (slots + ms) Q (F0 m (pc + 3) ls (.int r :: rest))) : W p l e R s m args below meth c H locs cells slots Q (F0 m pc ls st0) := sf_callV hr hS hP hD hA kk
theorem sf_callVd {r : UInt64} (hr : va_Run p l e R s m args below meth c H locs cells slots mc ms (F0 m pc ls st0) rest (sf_V D cl (some (.double r)) wc w1 a) (va_A wc H.size)) (hS : va_S A0 H0 H locs) (hP : va_P D cl (wc ++ wr) H) (hD : va_D A0 (wc ++ wr)) (hA : ∀ q, H0.size ≤ q → A0 q)
    (kk : ∀ (H1 : Heap) (locs1 : List Loc), va_P D cl (w1 ++ wr) H1 → va_D A0 (w1 ++ wr) → va_S A0 H0 H1 locs1 → W p l e R s m args below meth c H1 locs1 (cells + mc) (slots + ms) Q (F0 m (pc + 3) ls (.double r :: rest))) : W p l e R s m args below meth c H locs cells slots Q (F0 m pc ls st0) := sf_callV hr hS hP hD hA kk
theorem sf_callVv (hr : va_Run p l e R s m args below meth c H locs cells slots mc ms (F0 m pc ls st0) rest (sf_V D cl none wc w1 a) (va_A wc H.size)) (hS : va_S A0 H0 H locs) (hP : va_P D cl (wc ++ wr) H) (hD : va_D A0 (wc ++ wr)) (hA : ∀ q, H0.size ≤ q → A0 q)
    (kk : ∀ (H1 : Heap) (locs1 : List Loc), va_P D cl (w1 ++ wr) H1 → va_D A0 (w1 ++ wr) → va_S A0 H0 H1 locs1 → W p l e R s m args below meth c H1 locs1 (cells + mc) (slots + ms) Q (F0 m (pc + 3) ls rest)) : W p l e R s m args below meth c H locs cells slots Q (F0 m pc ls st0) := sf_callV hr hS hP hD hA kk
end SFQ
section SFM
variable {p : Program} {l : Launch} {e : Env} {R : Room} {s : State} {m : MethodId} {args : Array Value} {below : List Frame} {meth : Method} {c : Code} {H : Heap} {locs : List Loc} {cells slots : Nat} {Q : State → Prop} {ls : Array Slot} {pc : Nat} {st0 : List Value}
/-- two roads meet at pc2 with a Boolean on the stack: what follows is walked once -/
theorem sf_cutb (pc2 : Nat) (x : Bool) (st2 : Bool → List Value) (k : W p l e R s m args below meth c H locs cells slots Q (F0 m pc2 ls (st2 x))) (h : (∀ v, v = x → W p l e R s m args below meth c H locs cells slots Q (F0 m pc2 ls (st2 v))) → W p l e R s m args below meth c H locs cells slots Q (F0 m pc ls st0)) : W p l e R s m args below meth c H locs cells slots Q (F0 m pc ls st0) :=
  h (fun v hv => hv ▸ k)
theorem sf_cuti (pc2 : Nat) (x : Int32) (st2 : Int32 → List Value) (k : W p l e R s m args below meth c H locs cells slots Q (F0 m pc2 ls (st2 x))) (h : (∀ v, v = x → W p l e R s m args below meth c H locs cells slots Q (F0 m pc2 ls (st2 v))) → W p l e R s m args below meth c H locs cells slots Q (F0 m pc ls st0)) : W p l e R s m args below meth c H locs cells slots Q (F0 m pc ls st0) :=
  h (fun v hv => hv ▸ k)
theorem sf_cutd (pc2 : Nat) (x : UInt64) (st2 : UInt64 → List Value) (k : W p l e R s m args below meth c H locs cells slots Q (F0 m pc2 ls (st2 x))) (h : (∀ v, v = x → W p l e R s m args below meth c H locs cells slots Q (F0 m pc2 ls (st2 v))) → W p l e R s m args below meth c H locs cells slots Q (F0 m pc ls st0)) : W p l e R s m args below meth c H locs cells slots Q (F0 m pc ls st0) :=
  h (fun v hv => hv ▸ k)
end SFM
end
section
/-! numbers: what the class's and the reference's static methods compute (fc_, fm_) -/
def fc_btw (i lo hi : Int32) : Bool := decide (¬ i < lo) && decide (¬ hi < i)
def fc_ix (i n : Int32) : Bool := decide (¬ i < 0) && decide (¬ n ≤ i)
def fc_row (g row : Int32) : Bool := fc_ix g 5 && fc_ix row 3
def fc_looks (k : Int32) : Bool := fc_btw k 2 5
def fc_isCell (k b : Int32) : Bool := fc_btw k 0 5 && (!fc_looks k || fc_ix b 24)
def fc_isCoil (k n : Int32) : Bool := if k = 0 then true else if k = 1 then fc_btw n 8 23 else if k = 2 then fc_btw n 8 23 else if k = 3 then fc_btw n 8 23 else if k = 4 then fc_ix n 8 else false
def fc_regs (a b : Int32) : Bool := fc_ix a 8 && fc_ix b 8
def fc_bbit (i : Int32) : Bool := fc_btw i 8 21
def fc_cntb (n : UInt64) : Bool := sd_ge n FP.dconst1 && (sd_le n 4652007308841189376 && sd_eq n (FP.i2d (FP.d2i n)))
def fc_setg (n : UInt64) : Bool := sd_ge n 13875379345695965184 && sd_le n 4652007308841189376
def fc_val (n : UInt64) : Bool := sd_ge n 14009883241494872064 && sd_le n 4786511204640096256
def fc_isBlock (k a b c : Int32) (n : UInt64) : Bool :=
  if k = 0 then true else if k = 1 then fc_bbit c && fc_cntb n else if k = 2 then fc_bbit c && fc_cntb n else if k = 3 then fc_regs a b && fc_bbit c
  else if k = 4 then fc_regs a b && fc_ix c 8 else if k = 5 then fc_regs a b && fc_ix c 8 else if k = 6 then fc_regs a b && fc_ix c 8 else if k = 7 then fc_regs a b && fc_ix c 8
  else if k = 8 then fc_regs a b && (fc_ix c 8 && fc_setg n) else if k = 9 then fc_regs a b && (fc_ix c 8 && fc_setg n) else false
def fc_lim (v lo hi : UInt64) : UInt64 := if sd_lt v lo = true then lo else if sd_gt v hi = true then hi else v
def fm_at (g row col : Int32) : Int32 := 12 * g + 4 * row + col
def fm_reg (r : Int32) : Bool := fc_btw r 0 7
def fm_fits (k a b c : Int32) (n : UInt64) : Bool :=
  if fc_btw k 0 9 = false then false else if k = 0 then true
  else if ¬ 3 ≤ k then fc_btw c 8 21 && (sd_ge n FP.dconst1 && (sd_le n 4652007308841189376 && sd_eq n (FP.i2d (FP.d2i n))))
  else if fm_reg a = false then false else if fm_reg b = false then false else if k = 3 then fc_btw c 8 21
  else fm_reg c && (decide (k < 8) || (sd_ge n 13875379345695965184 && sd_le n 4652007308841189376))
theorem sd_nl_lt {x y : UInt64} (h : ¬ Op.cmpValue (FP.dcmp x y) .l < 0) : sd_ge x y = true := by
  cases q : sd_ge x y
  · exact absurd (sd_l_lt.mpr q) h
  · rfl
theorem sd_ng_gt {x y : UInt64} (h : ¬ 0 < Op.cmpValue (FP.dcmp x y) .g) : sd_le x y = true := by
  cases q : sd_le x y
  · exact absurd (sd_g_gt.mpr q) h
  · rfl
theorem sd_ng_ge {x y : UInt64} (h : ¬ 0 ≤ Op.cmpValue (FP.dcmp x y) .g) : sd_lt x y = true := by
  cases q : sd_lt x y
  · exact absurd (sd_g_ge.mpr q) h
  · rfl
theorem sd_nl_le {x y : UInt64} (h : ¬ Op.cmpValue (FP.dcmp x y) .l ≤ 0) : sd_gt x y = true := by
  cases q : sd_gt x y
  · exact absurd (sd_l_le.mpr q) h
  · rfl
theorem sd_nl_eq {x y : UInt64} (h : ¬ Op.cmpValue (FP.dcmp x y) .l = 0) : sd_eq x y = false := by
  cases q : sd_eq x y
  · rfl
  · exact absurd (sd_l_eq.mpr q) h
end
section
set_option maxHeartbeats 4000000 in
set_option maxRecDepth 100000 in
theorem c_X2_isBetween (l : Launch) (i : Int32) (lo : Int32) (hi : Int32) : Met l yX2_isBetween wX2_isBetween ({ frames := 0, cells := 0, slots := 0, locals := 0 }) (sf_P0 [.int i, .int lo, .int hi]) (sf_R (some (.int (sf_b (fc_btw i lo hi))))) 0 0 (fun _ => False) := by
  refine Met.ofW (cc := cX2_isBetween) (maxL := 3) (ret := (some .boolean)) (by decide) rfl ?_
  intro p e s m args below meth c s₁ B hml hv
  have hx := B.exec
  have hb := B.bytes
  have hr := B.returns
  have hts := atoms_spec (ws := wX2_isBetween) B.pre
  have hg : ∀ w ∈ gw_all, w.before args s = true := fun w h => hts w (List.mem_cons_of_mem _ h)
  have hown : s.vm.findClass RX2 = some m.cls := findClass_of_methodNamed B.named
  have hlocks := B.notSynchronized
  obtain ⟨rfl, -⟩ := hv
  have hl := lv_entry ([.int i, .int lo, .int hi]) (n := 3) (Nat.le_of_ble_eq_true rfl)
  rw [lg_entry_eq]
  generalize (lg_sl ([.int i, .int lo, .int hi]) ++ List.replicate (3 - (lg_sl ([.int i, .int lo, .int hi])).length) Slot.unset).toArray = ls at hl ⊢
  have hl : lv_has ls 3 [(0, .int i), (1, .int lo), (2, .int hi)] := hl
  refine lv_iload_n hx hb dX2_isBetween_0 rfl (lv_at hl 0 rfl) ?_
  refine lv_iload_n hx hb dX2_isBetween_1 rfl (lv_at hl 1 rfl) ?_
  refine lv_icmp_lt (tgt := 14) hx hb dX2_isBetween_2 (by decide) (fun c_1 => ?_) (fun c_1 => ?_)
  · refine lv_iconst (v := sf_b false) hx hb dX2_isBetween_14 (by decide) ?_
    refine sf_topi (y := sf_b (fc_btw i lo hi)) (congrArg sf_b (by first | (simp [fc_btw, c_1]; done) | (clear hl; simp_all [fc_btw]; done))) ?_
    exact W.zret hx hb hr (sf_b_nb _) (fun t ht _ => ⟨rfl, ht⟩) (fun _ h => nomatch h) dX2_isBetween_15
  · refine lv_iload_n hx hb dX2_isBetween_5 rfl (lv_at hl 0 rfl) ?_
    refine lv_iload_n hx hb dX2_isBetween_6 rfl (lv_at hl 2 rfl) ?_
    refine lv_icmp_gt (tgt := 14) hx hb dX2_isBetween_7 (by decide) (fun c_2 => ?_) (fun c_2 => ?_)
    · refine lv_iconst (v := sf_b false) hx hb dX2_isBetween_14 (by decide) ?_
      refine sf_topi (y := sf_b (fc_btw i lo hi)) (congrArg sf_b (by first | (simp [fc_btw, c_1, c_2]; done) | (clear hl; simp_all [fc_btw]; done))) ?_
      exact W.zret hx hb hr (sf_b_nb _) (fun t ht _ => ⟨rfl, ht⟩) (fun _ h => nomatch h) dX2_isBetween_15
    · refine lv_iconst (v := sf_b true) hx hb dX2_isBetween_10 (by decide) ?_
      refine lv_goto (tgt := 15) hx hb dX2_isBetween_11 (by decide) ?_
      refine sf_topi (y := sf_b (fc_btw i lo hi)) (congrArg sf_b (by first | (simp [fc_btw, c_1, c_2]; done) | (clear hl; simp_all [fc_btw]; done))) ?_
      exact W.zret hx hb hr (sf_b_nb _) (fun t ht _ => ⟨rfl, ht⟩) (fun _ h => nomatch h) dX2_isBetween_15
set_option maxHeartbeats 4000000 in
set_option maxRecDepth 100000 in
theorem c_X2_isIndex (l : Launch) (i : Int32) (n : Int32) : Met l yX2_isIndex wX2_isIndex ({ frames := 0, cells := 0, slots := 0, locals := 0 }) (sf_P0 [.int i, .int n]) (sf_R (some (.int (sf_b (fc_ix i n))))) 0 0 (fun _ => False) := by
  refine Met.ofW (cc := cX2_isIndex) (maxL := 2) (ret := (some .boolean)) (by decide) rfl ?_
  intro p e s m args below meth c s₁ B hml hv
  have hx := B.exec
  have hb := B.bytes
  have hr := B.returns
  have hts := atoms_spec (ws := wX2_isIndex) B.pre
  have hg : ∀ w ∈ gw_all, w.before args s = true := fun w h => hts w (List.mem_cons_of_mem _ h)
  have hown : s.vm.findClass RX2 = some m.cls := findClass_of_methodNamed B.named
  have hlocks := B.notSynchronized
  obtain ⟨rfl, -⟩ := hv
  have hl := lv_entry ([.int i, .int n]) (n := 2) (Nat.le_of_ble_eq_true rfl)
  rw [lg_entry_eq]
  generalize (lg_sl ([.int i, .int n]) ++ List.replicate (2 - (lg_sl ([.int i, .int n])).length) Slot.unset).toArray = ls at hl ⊢
  have hl : lv_has ls 2 [(0, .int i), (1, .int n)] := hl
  refine lv_iload_n hx hb dX2_isIndex_0 rfl (lv_at hl 0 rfl) ?_
  refine lv_if_lt (tgt := 13) hx hb dX2_isIndex_1 (by decide) (fun c_1 => ?_) (fun c_1 => ?_)
  · refine lv_iconst (v := sf_b false) hx hb dX2_isIndex_13 (by decide) ?_
    refine sf_topi (y := sf_b (fc_ix i n)) (congrArg sf_b (by first | (simp [fc_ix, c_1]; done) | (clear hl; simp_all [fc_ix]; done))) ?_
    exact W.zret hx hb hr (sf_b_nb _) (fun t ht _ => ⟨rfl, ht⟩) (fun _ h => nomatch h) dX2_isIndex_14
  · refine lv_iload_n hx hb dX2_isIndex_4 rfl (lv_at hl 0 rfl) ?_
    refine lv_iload_n hx hb dX2_isIndex_5 rfl (lv_at hl 1 rfl) ?_
    refine lv_icmp_ge (tgt := 13) hx hb dX2_isIndex_6 (by decide) (fun c_2 => ?_) (fun c_2 => ?_)
    · refine lv_iconst (v := sf_b false) hx hb dX2_isIndex_13 (by decide) ?_
      refine sf_topi (y := sf_b (fc_ix i n)) (congrArg sf_b (by first | (simp [fc_ix, c_1, c_2]; done) | (clear hl; simp_all [fc_ix]; done))) ?_
      exact W.zret hx hb hr (sf_b_nb _) (fun t ht _ => ⟨rfl, ht⟩) (fun _ h => nomatch h) dX2_isIndex_14
    · refine lv_iconst (v := sf_b true) hx hb dX2_isIndex_9 (by decide) ?_
      refine lv_goto (tgt := 14) hx hb dX2_isIndex_10 (by decide) ?_
      refine sf_topi (y := sf_b (fc_ix i n)) (congrArg sf_b (by first | (simp [fc_ix, c_1, c_2]; done) | (clear hl; simp_all [fc_ix]; done))) ?_
      exact W.zret hx hb hr (sf_b_nb _) (fun t ht _ => ⟨rfl, ht⟩) (fun _ h => nomatch h) dX2_isIndex_14
set_option maxHeartbeats 4000000 in
set_option maxRecDepth 100000 in
theorem c_X2_isRow (l : Launch) (g : Int32) (r : Int32) : Met l yX2_isRow wX2_isRow ({ frames := 1, cells := 0, slots := 0, locals := 21 }) (sf_P0 [.int g, .int r]) (sf_R (some (.int (sf_b (fc_row g r))))) 0 0 (fun _ => False) := by
  refine Met.ofW (cc := cX2_isRow) (maxL := 2) (ret := (some .boolean)) (by decide) rfl ?_
  intro p e s m args below meth c s₁ B hml hv
  have hx := B.exec
  have hb := B.bytes
  have hr := B.returns
  have hts := atoms_spec (ws := wX2_isRow) B.pre
  have hg : ∀ w ∈ gw_all, w.before args s = true := fun w h => hts w (List.mem_cons_of_mem _ h)
  have hown : s.vm.findClass RX2 = some m.cls := findClass_of_methodNamed B.named
  have hlocks := B.notSynchronized
  obtain ⟨rfl, -⟩ := hv
  have hl := lv_entry ([.int g, .int r]) (n := 2) (Nat.le_of_ble_eq_true rfl)
  rw [lg_entry_eq]
  generalize (lg_sl ([.int g, .int r]) ++ List.replicate (2 - (lg_sl ([.int g, .int r])).length) Slot.unset).toArray = ls at hl ⊢
  have hl : lv_has ls 2 [(0, .int g), (1, .int r)] := hl
  refine lv_iload_n hx hb dX2_isRow_0 rfl (lv_at hl 0 rfl) ?_
  refine lv_iconst (v := 5) hx hb dX2_isRow_1 (by decide) ?_
  refine sf_callRi (va_runS (As := [.int g, .int 5]) (rest := []) ⟨hx, hb, hml, hown, hg⟩ (c_X2_isIndex l g 5) (cwS 2 hg (gw_S mw_163 mw_164 mw_21 mw_165) rfl rfl rfl (by decide +kernel) ⟨Nat.le_of_ble_eq_true rfl, Nat.le_of_ble_eq_true rfl⟩) sf_pre0 rfl rfl hl.1 rfl (lv_room (Nat.le_of_ble_eq_true rfl)) dX2_isRow_2 ⟨Nat.zero_le _, Nat.zero_le _⟩) ?_
  refine sf_ifeq (tgt := 20) hx hb dX2_isRow_5 (by decide) (fun c_1 => ?_) (fun c_1 => ?_)
  · refine lv_iconst (v := sf_b false) hx hb dX2_isRow_20 (by decide) ?_
    refine sf_topi (y := sf_b (fc_row g r)) (congrArg sf_b (by first | (simp [fc_row, c_1]; done) | (clear hl; simp_all [fc_row]; done))) ?_
    exact W.zret hx hb hr (sf_b_nb _) (fun t ht _ => ⟨rfl, ht⟩) (fun _ h => nomatch h) dX2_isRow_21
  · refine lv_iload_n hx hb dX2_isRow_8 rfl (lv_at hl 1 rfl) ?_
    refine lv_iconst (v := 3) hx hb dX2_isRow_9 (by decide) ?_
    refine sf_callRi (va_runS (As := [.int r, .int 3]) (rest := []) ⟨hx, hb, hml, hown, hg⟩ (c_X2_isIndex l r 3) (cwS 2 hg (gw_S mw_163 mw_164 mw_21 mw_165) rfl rfl rfl (by decide +kernel) ⟨Nat.le_of_ble_eq_true rfl, Nat.le_of_ble_eq_true rfl⟩) sf_pre0 rfl rfl hl.1 rfl (lv_room (Nat.le_of_ble_eq_true rfl)) dX2_isRow_10 ⟨Nat.zero_le _, Nat.zero_le _⟩) ?_
    refine sf_ifeq (tgt := 20) hx hb dX2_isRow_13 (by decide) (fun c_2 => ?_) (fun c_2 => ?_)
    · refine lv_iconst (v := sf_b false) hx hb dX2_isRow_20 (by decide) ?_
      refine sf_topi (y := sf_b (fc_row g r)) (congrArg sf_b (by first | (simp [fc_row, c_1, c_2]; done) | (clear hl; simp_all [fc_row]; done))) ?_
      exact W.zret hx hb hr (sf_b_nb _) (fun t ht _ => ⟨rfl, ht⟩) (fun _ h => nomatch h) dX2_isRow_21
    · refine lv_iconst (v := sf_b true) hx hb dX2_isRow_16 (by decide) ?_
      refine lv_goto (tgt := 21) hx hb dX2_isRow_17 (by decide) ?_
      refine sf_topi (y := sf_b (fc_row g r)) (congrArg sf_b (by first | (simp [fc_row, c_1, c_2]; done) | (clear hl; simp_all [fc_row]; done))) ?_
      exact W.zret hx hb hr (sf_b_nb _) (fun t ht _ => ⟨rfl, ht⟩) (fun _ h => nomatch h) dX2_isRow_21
set_option maxHeartbeats 4000000 in
set_option maxRecDepth 100000 in
theorem c_X2_looksAtBit (l : Launch) (k : Int32) : Met l yX2_looksAtBit wX2_looksAtBit ({ frames := 1, cells := 0, slots := 0, locals := 22 }) (sf_P0 [.int k]) (sf_R (some (.int (sf_b (fc_looks k))))) 0 0 (fun _ => False) := by
  refine Met.ofW (cc := cX2_looksAtBit) (maxL := 1) (ret := (some .boolean)) (by decide) rfl ?_
  intro p e s m args below meth c s₁ B hml hv
  have hx := B.exec
  have hb := B.bytes
  have hr := B.returns
  have hts := atoms_spec (ws := wX2_looksAtBit) B.pre
  have hg : ∀ w ∈ gw_all, w.before args s = true := fun w h => hts w (List.mem_cons_of_mem _ h)
  have hown : s.vm.findClass RX2 = some m.cls := findClass_of_methodNamed B.named
  have hlocks := B.notSynchronized
  obtain ⟨rfl, -⟩ := hv
  have hl := lv_entry ([.int k]) (n := 1) (Nat.le_of_ble_eq_true rfl)
  rw [lg_entry_eq]
  generalize (lg_sl ([.int k]) ++ List.replicate (1 - (lg_sl ([.int k])).length) Slot.unset).toArray = ls at hl ⊢
  have hl : lv_has ls 1 [(0, .int k)] := hl
  refine lv_iload_n hx hb dX2_looksAtBit_0 rfl (lv_at hl 0 rfl) ?_
  refine lv_iconst (v := 2) hx hb dX2_looksAtBit_1 (by decide) ?_
  refine lv_iconst (v := 5) hx hb dX2_looksAtBit_2 (by decide) ?_
  refine sf_callRi (va_runS (As := [.int k, .int 2, .int 5]) (rest := []) ⟨hx, hb, hml, hown, hg⟩ (c_X2_isBetween l k 2 5) (cwS 3 hg (gw_S mw_157 mw_158 mw_21 mw_159) rfl rfl rfl (by decide +kernel) ⟨Nat.le_of_ble_eq_true rfl, Nat.le_of_ble_eq_true rfl⟩) sf_pre0 rfl rfl hl.1 rfl (lv_room (Nat.le_of_ble_eq_true rfl)) dX2_looksAtBit_3 ⟨Nat.zero_le _, Nat.zero_le _⟩) ?_
  refine sf_topi (y := sf_b (fc_looks k)) (congrArg sf_b (by first | (simp [fc_looks]; done) | (clear hl; simp_all [fc_looks]; done))) ?_
  exact W.zret hx hb hr (sf_b_nb _) (fun t ht _ => ⟨rfl, ht⟩) (fun _ h => nomatch h) dX2_looksAtBit_6
set_option maxHeartbeats 4000000 in
set_option maxRecDepth 100000 in
theorem c_X2_isCell (l : Launch) (k : Int32) (b : Int32) : Met l yX2_isCell wX2_isCell ({ frames := 2, cells := 0, slots := 0, locals := 42 }) (sf_P0 [.int k, .int b]) (sf_R (some (.int (sf_b (fc_isCell k b))))) 0 0 (fun _ => False) := by
  refine Met.ofW (cc := cX2_isCell) (maxL := 2) (ret := (some .boolean)) (by decide) rfl ?_
  intro p e s m args below meth c s₁ B hml hv
  have hx := B.exec
  have hb := B.bytes
  have hr := B.returns
  have hts := atoms_spec (ws := wX2_isCell) B.pre
  have hg : ∀ w ∈ gw_all, w.before args s = true := fun w h => hts w (List.mem_cons_of_mem _ h)
  have hown : s.vm.findClass RX2 = some m.cls := findClass_of_methodNamed B.named
  have hlocks := B.notSynchronized
  obtain ⟨rfl, -⟩ := hv
  have hl := lv_entry ([.int k, .int b]) (n := 2) (Nat.le_of_ble_eq_true rfl)
  rw [lg_entry_eq]
  generalize (lg_sl ([.int k, .int b]) ++ List.replicate (2 - (lg_sl ([.int k, .int b])).length) Slot.unset).toArray = ls at hl ⊢
  have hl : lv_has ls 2 [(0, .int k), (1, .int b)] := hl
  refine lv_iload_n hx hb dX2_isCell_0 rfl (lv_at hl 0 rfl) ?_
  refine lv_iconst (v := 0) hx hb dX2_isCell_1 (by decide) ?_
  refine lv_iconst (v := 5) hx hb dX2_isCell_2 (by decide) ?_
  refine sf_callRi (va_runS (As := [.int k, .int 0, .int 5]) (rest := []) ⟨hx, hb, hml, hown, hg⟩ (c_X2_isBetween l k 0 5) (cwS 3 hg (gw_S mw_157 mw_158 mw_21 mw_159) rfl rfl rfl (by decide +kernel) ⟨Nat.le_of_ble_eq_true rfl, Nat.le_of_ble_eq_true rfl⟩) sf_pre0 rfl rfl hl.1 rfl (lv_room (Nat.le_of_ble_eq_true rfl)) dX2_isCell_3 ⟨Nat.zero_le _, Nat.zero_le _⟩) ?_
  refine sf_ifeq (tgt := 29) hx hb dX2_isCell_6 (by decide) (fun c_1 => ?_) (fun c_1 => ?_)
  · refine lv_iconst (v := sf_b false) hx hb dX2_isCell_29 (by decide) ?_
    refine sf_topi (y := sf_b (fc_isCell k b)) (congrArg sf_b (by first | (simp [fc_isCell, c_1]; done) | (clear hl; simp_all [fc_isCell]; done))) ?_
    exact W.zret hx hb hr (sf_b_nb _) (fun t ht _ => ⟨rfl, ht⟩) (fun _ h => nomatch h) dX2_isCell_30
  · refine lv_iload_n hx hb dX2_isCell_9 rfl (lv_at hl 0 rfl) ?_
    refine sf_callRi (va_runS (As := [.int k]) (rest := []) ⟨hx, hb, hml, hown, hg⟩ (c_X2_looksAtBit l k) (cwS 1 hg (gw_S mw_160 mw_161 mw_21 mw_162) rfl rfl rfl (by decide +kernel) ⟨Nat.le_of_ble_eq_true rfl, Nat.le_of_ble_eq_true rfl⟩) sf_pre0 rfl rfl hl.1 rfl (lv_room (Nat.le_of_ble_eq_true rfl)) dX2_isCell_10 ⟨Nat.zero_le _, Nat.zero_le _⟩) ?_
    refine sf_ifeq (tgt := 25) hx hb dX2_isCell_13 (by decide) (fun c_2 => ?_) (fun c_2 => ?_)
    · refine lv_iconst (v := sf_b true) hx hb dX2_isCell_25 (by decide) ?_
      refine lv_goto (tgt := 30) hx hb dX2_isCell_26 (by decide) ?_
      refine sf_topi (y := sf_b (fc_isCell k b)) (congrArg sf_b (by first | (simp [fc_isCell, c_1, c_2]; done) | (clear hl; simp_all [fc_isCell]; done))) ?_
      exact W.zret hx hb hr (sf_b_nb _) (fun t ht _ => ⟨rfl, ht⟩) (fun _ h => nomatch h) dX2_isCell_30
    · refine lv_iload_n hx hb dX2_isCell_16 rfl (lv_at hl 1 rfl) ?_
      refine lv_bipush (v := 24) hx hb dX2_isCell_17 (by decide) ?_
      refine sf_callRi (va_runS (As := [.int b, .int 24]) (rest := []) ⟨hx, hb, hml, hown, hg⟩ (c_X2_isIndex l b 24) (cwS 2 hg (gw_S mw_163 mw_164 mw_21 mw_165) rfl rfl rfl (by decide +kernel) ⟨Nat.le_of_ble_eq_true rfl, Nat.le_of_ble_eq_true rfl⟩) sf_pre0 rfl rfl hl.1 rfl (lv_room (Nat.le_of_ble_eq_true rfl)) dX2_isCell_19 ⟨Nat.zero_le _, Nat.zero_le _⟩) ?_
      refine sf_ifeq (tgt := 29) hx hb dX2_isCell_22 (by decide) (fun c_3 => ?_) (fun c_3 => ?_)
      · refine lv_iconst (v := sf_b false) hx hb dX2_isCell_29 (by decide) ?_
        refine sf_topi (y := sf_b (fc_isCell k b)) (congrArg sf_b (by first | (simp [fc_isCell, c_1, c_2, c_3]; done) | (clear hl; simp_all [fc_isCell]; done))) ?_
        exact W.zret hx hb hr (sf_b_nb _) (fun t ht _ => ⟨rfl, ht⟩) (fun _ h => nomatch h) dX2_isCell_30
      · refine lv_iconst (v := sf_b true) hx hb dX2_isCell_25 (by decide) ?_
        refine lv_goto (tgt := 30) hx hb dX2_isCell_26 (by decide) ?_
        refine sf_topi (y := sf_b (fc_isCell k b)) (congrArg sf_b (by first | (simp [fc_isCell, c_1, c_2, c_3]; done) | (clear hl; simp_all [fc_isCell]; done))) ?_
        exact W.zret hx hb hr (sf_b_nb _) (fun t ht _ => ⟨rfl, ht⟩) (fun _ h => nomatch h) dX2_isCell_30
set_option maxHeartbeats 4000000 in
set_option maxRecDepth 100000 in
theorem c_X2_isCoil (l : Launch) (k : Int32) (n : Int32) : Met l yX2_isCoil wX2_isCoil ({ frames := 1, cells := 0, slots := 0, locals := 22 }) (sf_P0 [.int k, .int n]) (sf_R (some (.int (sf_b (fc_isCoil k n))))) 0 0 (fun _ => False) := by
  refine Met.ofW (cc := cX2_isCoil) (maxL := 2) (ret := (some .boolean)) (by decide) rfl ?_
  intro p e s m args below meth c s₁ B hml hv
  have hx := B.exec
  have hb := B.bytes
  have hr := B.returns
  have hts := atoms_spec (ws := wX2_isCoil) B.pre
  have hg : ∀ w ∈ gw_all, w.before args s = true := fun w h => hts w (List.mem_cons_of_mem _ h)
  have hown : s.vm.findClass RX2 = some m.cls := findClass_of_methodNamed B.named
  have hlocks := B.notSynchronized
  obtain ⟨rfl, -⟩ := hv
  have hl := lv_entry ([.int k, .int n]) (n := 2) (Nat.le_of_ble_eq_true rfl)
  rw [lg_entry_eq]
  generalize (lg_sl ([.int k, .int n]) ++ List.replicate (2 - (lg_sl ([.int k, .int n])).length) Slot.unset).toArray = ls at hl ⊢
  have hl : lv_has ls 2 [(0, .int k), (1, .int n)] := hl
  refine lv_iload_n hx hb dX2_isCoil_0 rfl (lv_at hl 0 rfl) ?_
  by_cases c_1 : k = 0
  · refine lv_tableIn (off := 35) (tgt := 36) hx hb dX2_isCoil_1 (by rw [c_1]; decide) (by rw [c_1]; decide) (by rw [c_1]; decide) (by decide) ?_
    refine lv_iconst (v := sf_b true) hx hb dX2_isCoil_36 (by decide) ?_
    refine sf_topi (y := sf_b (fc_isCoil k n)) (congrArg sf_b (by first | (simp [fc_isCoil, c_1]; done) | (clear hl; simp_all [fc_isCoil]; done))) ?_
    exact W.zret hx hb hr (sf_b_nb _) (fun t ht _ => ⟨rfl, ht⟩) (fun _ h => nomatch h) dX2_isCoil_37
  · skip
    by_cases c_2 : k = 1
    · refine lv_tableIn (off := 37) (tgt := 38) hx hb dX2_isCoil_1 (by rw [c_2]; decide) (by rw [c_2]; decide) (by rw [c_2]; decide) (by decide) ?_
      refine lv_iload_n hx hb dX2_isCoil_38 rfl (lv_at hl 1 rfl) ?_
      refine lv_bipush (v := 8) hx hb dX2_isCoil_39 (by decide) ?_
      refine lv_bipush (v := 23) hx hb dX2_isCoil_41 (by decide) ?_
      refine sf_callRi (va_runS (As := [.int n, .int 8, .int 23]) (rest := []) ⟨hx, hb, hml, hown, hg⟩ (c_X2_isBetween l n 8 23) (cwS 3 hg (gw_S mw_157 mw_158 mw_21 mw_159) rfl rfl rfl (by decide +kernel) ⟨Nat.le_of_ble_eq_true rfl, Nat.le_of_ble_eq_true rfl⟩) sf_pre0 rfl rfl hl.1 rfl (lv_room (Nat.le_of_ble_eq_true rfl)) dX2_isCoil_43 ⟨Nat.zero_le _, Nat.zero_le _⟩) ?_
      refine sf_topi (y := sf_b (fc_isCoil k n)) (congrArg sf_b (by first | (simp [fc_isCoil, c_1, c_2]; done) | (clear hl; simp_all [fc_isCoil]; done))) ?_
      exact W.zret hx hb hr (sf_b_nb _) (fun t ht _ => ⟨rfl, ht⟩) (fun _ h => nomatch h) dX2_isCoil_46
    · skip
      by_cases c_3 : k = 2
      · refine lv_tableIn (off := 37) (tgt := 38) hx hb dX2_isCoil_1 (by rw [c_3]; decide) (by rw [c_3]; decide) (by rw [c_3]; decide) (by decide) ?_
        refine lv_iload_n hx hb dX2_isCoil_38 rfl (lv_at hl 1 rfl) ?_
        refine lv_bipush (v := 8) hx hb dX2_isCoil_39 (by decide) ?_
        refine lv_bipush (v := 23) hx hb dX2_isCoil_41 (by decide) ?_
        refine sf_callRi (va_runS (As := [.int n, .int 8, .int 23]) (rest := []) ⟨hx, hb, hml, hown, hg⟩ (c_X2_isBetween l n 8 23) (cwS 3 hg (gw_S mw_157 mw_158 mw_21 mw_159) rfl rfl rfl (by decide +kernel) ⟨Nat.le_of_ble_eq_true rfl, Nat.le_of_ble_eq_true rfl⟩) sf_pre0 rfl rfl hl.1 rfl (lv_room (Nat.le_of_ble_eq_true rfl)) dX2_isCoil_43 ⟨Nat.zero_le _, Nat.zero_le _⟩) ?_
        refine sf_topi (y := sf_b (fc_isCoil k n)) (congrArg sf_b (by first | (simp [fc_isCoil, c_1, c_2, c_3]; done) | (clear hl; simp_all [fc_isCoil]; done))) ?_
        exact W.zret hx hb hr (sf_b_nb _) (fun t ht _ => ⟨rfl, ht⟩) (fun _ h => nomatch h) dX2_isCoil_46
      · skip
        by_cases c_4 : k = 3
        · refine lv_tableIn (off := 37) (tgt := 38) hx hb dX2_isCoil_1 (by rw [c_4]; decide) (by rw [c_4]; decide) (by rw [c_4]; decide) (by decide) ?_
          refine lv_iload_n hx hb dX2_isCoil_38 rfl (lv_at hl 1 rfl) ?_
          refine lv_bipush (v := 8) hx hb dX2_isCoil_39 (by decide) ?_
          refine lv_bipush (v := 23) hx hb dX2_isCoil_41 (by decide) ?_
          refine sf_callRi (va_runS (As := [.int n, .int 8, .int 23]) (rest := []) ⟨hx, hb, hml, hown, hg⟩ (c_X2_isBetween l n 8 23) (cwS 3 hg (gw_S mw_157 mw_158 mw_21 mw_159) rfl rfl rfl (by decide +kernel) ⟨Nat.le_of_ble_eq_true rfl, Nat.le_of_ble_eq_true rfl⟩) sf_pre0 rfl rfl hl.1 rfl (lv_room (Nat.le_of_ble_eq_true rfl)) dX2_isCoil_43 ⟨Nat.zero_le _, Nat.zero_le _⟩) ?_
          refine sf_topi (y := sf_b (fc_isCoil k n)) (congrArg sf_b (by first | (simp [fc_isCoil, c_1, c_2, c_3, c_4]; done) | (clear hl; simp_all [fc_isCoil]; done))) ?_
          exact W.zret hx hb hr (sf_b_nb _) (fun t ht _ => ⟨rfl, ht⟩) (fun _ h => nomatch h) dX2_isCoil_46
        · skip
          by_cases c_5 : k = 4
          · refine lv_tableIn (off := 46) (tgt := 47) hx hb dX2_isCoil_1 (by rw [c_5]; decide) (by rw [c_5]; decide) (by rw [c_5]; decide) (by decide) ?_
            refine lv_iload_n hx hb dX2_isCoil_47 rfl (lv_at hl 1 rfl) ?_
            refine lv_bipush (v := 8) hx hb dX2_isCoil_48 (by decide) ?_
            refine sf_callRi (va_runS (As := [.int n, .int 8]) (rest := []) ⟨hx, hb, hml, hown, hg⟩ (c_X2_isIndex l n 8) (cwS 2 hg (gw_S mw_163 mw_164 mw_21 mw_165) rfl rfl rfl (by decide +kernel) ⟨Nat.le_of_ble_eq_true rfl, Nat.le_of_ble_eq_true rfl⟩) sf_pre0 rfl rfl hl.1 rfl (lv_room (Nat.le_of_ble_eq_true rfl)) dX2_isCoil_50 ⟨Nat.zero_le _, Nat.zero_le _⟩) ?_
            refine sf_topi (y := sf_b (fc_isCoil k n)) (congrArg sf_b (by first | (simp [fc_isCoil, c_1, c_2, c_3, c_4, c_5]; done) | (clear hl; simp_all [fc_isCoil]; done))) ?_
            exact W.zret hx hb hr (sf_b_nb _) (fun t ht _ => ⟨rfl, ht⟩) (fun _ h => nomatch h) dX2_isCoil_53
          · skip
            have h_6 : k.toInt < 0 ∨ 4 < k.toInt := by
              have q0 : ¬ k.toInt = 0 := lv_neT c_1 (by decide)
              have q1 : ¬ k.toInt = 1 := lv_neT c_2 (by decide)
              have q2 : ¬ k.toInt = 2 := lv_neT c_3 (by decide)
              have q3 : ¬ k.toInt = 3 := lv_neT c_4 (by decide)
              have q4 : ¬ k.toInt = 4 := lv_neT c_5 (by decide)
              omega
            refine lv_tableOut (tgt := 54) hx hb dX2_isCoil_1 h_6 (by decide) ?_
            refine lv_iconst (v := sf_b false) hx hb dX2_isCoil_54 (by decide) ?_
            refine sf_topi (y := sf_b (fc_isCoil k n)) (congrArg sf_b (by first | (simp [fc_isCoil, c_1, c_2, c_3, c_4, c_5]; done) | (clear hl; simp_all [fc_isCoil]; done))) ?_
            exact W.zret hx hb hr (sf_b_nb _) (fun t ht _ => ⟨rfl, ht⟩) (fun _ h => nomatch h) dX2_isCoil_55
set_option maxHeartbeats 4000000 in
set_option maxRecDepth 100000 in
theorem c_X2_areRegisters (l : Launch) (a : Int32) (b : Int32) : Met l yX2_areRegisters wX2_areRegisters ({ frames := 1, cells := 0, slots := 0, locals := 21 }) (sf_P0 [.int a, .int b]) (sf_R (some (.int (sf_b (fc_regs a b))))) 0 0 (fun _ => False) := by
  refine Met.ofW (cc := cX2_areRegisters) (maxL := 2) (ret := (some .boolean)) (by decide) rfl ?_
  intro p e s m args below meth c s₁ B hml hv
  have hx := B.exec
  have hb := B.bytes
  have hr := B.returns
  have hts := atoms_spec (ws := wX2_areRegisters) B.pre
  have hg : ∀ w ∈ gw_all, w.before args s = true := fun w h => hts w (List.mem_cons_of_mem _ h)
  have hown : s.vm.findClass RX2 = some m.cls := findClass_of_methodNamed B.named
  have hlocks := B.notSynchronized
  obtain ⟨rfl, -⟩ := hv
  have hl := lv_entry ([.int a, .int b]) (n := 2) (Nat.le_of_ble_eq_true rfl)
  rw [lg_entry_eq]
  generalize (lg_sl ([.int a, .int b]) ++ List.replicate (2 - (lg_sl ([.int a, .int b])).length) Slot.unset).toArray = ls at hl ⊢
  have hl : lv_has ls 2 [(0, .int a), (1, .int b)] := hl
  refine lv_iload_n hx hb dX2_areRegisters_0 rfl (lv_at hl 0 rfl) ?_
  refine lv_bipush (v := 8) hx hb dX2_areRegisters_1 (by decide) ?_
  refine sf_callRi (va_runS (As := [.int a, .int 8]) (rest := []) ⟨hx, hb, hml, hown, hg⟩ (c_X2_isIndex l a 8) (cwS 2 hg (gw_S mw_163 mw_164 mw_21 mw_165) rfl rfl rfl (by decide +kernel) ⟨Nat.le_of_ble_eq_true rfl, Nat.le_of_ble_eq_true rfl⟩) sf_pre0 rfl rfl hl.1 rfl (lv_room (Nat.le_of_ble_eq_true rfl)) dX2_areRegisters_3 ⟨Nat.zero_le _, Nat.zero_le _⟩) ?_
  refine sf_ifeq (tgt := 22) hx hb dX2_areRegisters_6 (by decide) (fun c_1 => ?_) (fun c_1 => ?_)
  · refine lv_iconst (v := sf_b false) hx hb dX2_areRegisters_22 (by decide) ?_
    refine sf_topi (y := sf_b (fc_regs a b)) (congrArg sf_b (by first | (simp [fc_regs, c_1]; done) | (clear hl; simp_all [fc_regs]; done))) ?_
    exact W.zret hx hb hr (sf_b_nb _) (fun t ht _ => ⟨rfl, ht⟩) (fun _ h => nomatch h) dX2_areRegisters_23
  · refine lv_iload_n hx hb dX2_areRegisters_9 rfl (lv_at hl 1 rfl) ?_
    refine lv_bipush (v := 8) hx hb dX2_areRegisters_10 (by decide) ?_
    refine sf_callRi (va_runS (As := [.int b, .int 8]) (rest := []) ⟨hx, hb, hml, hown, hg⟩ (c_X2_isIndex l b 8) (cwS 2 hg (gw_S mw_163 mw_164 mw_21 mw_165) rfl rfl rfl (by decide +kernel) ⟨Nat.le_of_ble_eq_true rfl, Nat.le_of_ble_eq_true rfl⟩) sf_pre0 rfl rfl hl.1 rfl (lv_room (Nat.le_of_ble_eq_true rfl)) dX2_areRegisters_12 ⟨Nat.zero_le _, Nat.zero_le _⟩) ?_
    refine sf_ifeq (tgt := 22) hx hb dX2_areRegisters_15 (by decide) (fun c_2 => ?_) (fun c_2 => ?_)
    · refine lv_iconst (v := sf_b false) hx hb dX2_areRegisters_22 (by decide) ?_
      refine sf_topi (y := sf_b (fc_regs a b)) (congrArg sf_b (by first | (simp [fc_regs, c_1, c_2]; done) | (clear hl; simp_all [fc_regs]; done))) ?_
      exact W.zret hx hb hr (sf_b_nb _) (fun t ht _ => ⟨rfl, ht⟩) (fun _ h => nomatch h) dX2_areRegisters_23
    · refine lv_iconst (v := sf_b true) hx hb dX2_areRegisters_18 (by decide) ?_
      refine lv_goto (tgt := 23) hx hb dX2_areRegisters_19 (by decide) ?_
      refine sf_topi (y := sf_b (fc_regs a b)) (congrArg sf_b (by first | (simp [fc_regs, c_1, c_2]; done) | (clear hl; simp_all [fc_regs]; done))) ?_
      exact W.zret hx hb hr (sf_b_nb _) (fun t ht _ => ⟨rfl, ht⟩) (fun _ h => nomatch h) dX2_areRegisters_23
set_option maxHeartbeats 4000000 in
set_option maxRecDepth 100000 in
theorem c_X2_isBlockBit (l : Launch) (i : Int32) : Met l yX2_isBlockBit wX2_isBlockBit ({ frames := 1, cells := 0, slots := 0, locals := 22 }) (sf_P0 [.int i]) (sf_R (some (.int (sf_b (fc_bbit i))))) 0 0 (fun _ => False) := by
  refine Met.ofW (cc := cX2_isBlockBit) (maxL := 1) (ret := (some .boolean)) (by decide) rfl ?_
  intro p e s m args below meth c s₁ B hml hv
  have hx := B.exec
  have hb := B.bytes
  have hr := B.returns
  have hts := atoms_spec (ws := wX2_isBlockBit) B.pre
  have hg : ∀ w ∈ gw_all, w.before args s = true := fun w h => hts w (List.mem_cons_of_mem _ h)
  have hown : s.vm.findClass RX2 = some m.cls := findClass_of_methodNamed B.named
  have hlocks := B.notSynchronized
  obtain ⟨rfl, -⟩ := hv
  have hl := lv_entry ([.int i]) (n := 1) (Nat.le_of_ble_eq_true rfl)
  rw [lg_entry_eq]
  generalize (lg_sl ([.int i]) ++ List.replicate (1 - (lg_sl ([.int i])).length) Slot.unset).toArray = ls at hl ⊢
  have hl : lv_has ls 1 [(0, .int i)] := hl
  refine lv_iload_n hx hb dX2_isBlockBit_0 rfl (lv_at hl 0 rfl) ?_
  refine lv_bipush (v := 8) hx hb dX2_isBlockBit_1 (by decide) ?_
  refine lv_bipush (v := 21) hx hb dX2_isBlockBit_3 (by decide) ?_
  refine sf_callRi (va_runS (As := [.int i, .int 8, .int 21]) (rest := []) ⟨hx, hb, hml, hown, hg⟩ (c_X2_isBetween l i 8 21) (cwS 3 hg (gw_S mw_157 mw_158 mw_21 mw_159) rfl rfl rfl (by decide +kernel) ⟨Nat.le_of_ble_eq_true rfl, Nat.le_of_ble_eq_true rfl⟩) sf_pre0 rfl rfl hl.1 rfl (lv_room (Nat.le_of_ble_eq_true rfl)) dX2_isBlockBit_5 ⟨Nat.zero_le _, Nat.zero_le _⟩) ?_
  refine sf_topi (y := sf_b (fc_bbit i)) (congrArg sf_b (by first | (simp [fc_bbit]; done) | (clear hl; simp_all [fc_bbit]; done))) ?_
  exact W.zret hx hb hr (sf_b_nb _) (fun t ht _ => ⟨rfl, ht⟩) (fun _ h => nomatch h) dX2_isBlockBit_8
set_option maxHeartbeats 4000000 in
set_option maxRecDepth 100000 in
theorem c_X2_isCountable (l : Launch) (n : UInt64) : Met l yX2_isCountable wX2_isCountable ({ frames := 0, cells := 0, slots := 0, locals := 0 }) (sf_P0 [.double n]) (sf_R (some (.int (sf_b (fc_cntb n))))) 0 0 (fun _ => False) := by
  refine Met.ofW (cc := cX2_isCountable) (maxL := 2) (ret := (some .boolean)) (by decide) rfl ?_
  intro p e s m args below meth c s₁ B hml hv
  have hx := B.exec
  have hb := B.bytes
  have hr := B.returns
  have hts := atoms_spec (ws := wX2_isCountable) B.pre
  have hg : ∀ w ∈ gw_all, w.before args s = true := fun w h => hts w (List.mem_cons_of_mem _ h)
  have hown : s.vm.findClass RX2 = some m.cls := findClass_of_methodNamed B.named
  have hlocks := B.notSynchronized
  obtain ⟨rfl, -⟩ := hv
  have hl := lv_entry ([.double n]) (n := 2) (Nat.le_of_ble_eq_true rfl)
  rw [lg_entry_eq]
  generalize (lg_sl ([.double n]) ++ List.replicate (2 - (lg_sl ([.double n])).length) Slot.unset).toArray = ls at hl ⊢
  have hl : lv_has ls 2 [(0, .double n)] := hl
  refine lv_dload_n hx hb dX2_isCountable_0 rfl (lv_at hl 0 rfl) ?_
  refine lv_dconst1 hx hb dX2_isCountable_1 ?_
  refine lv_dcmp hx hb dX2_isCountable_2 ?_
  refine lv_if_lt (tgt := 26) hx hb dX2_isCountable_3 (by decide) (fun c_1 => ?_) (fun c_1 => ?_)
  · have c_1 := sd_l_lt.mp c_1
    refine lv_iconst (v := sf_b false) hx hb dX2_isCountable_26 (by decide) ?_
    refine sf_topi (y := sf_b (fc_cntb n)) (congrArg sf_b (by first | (simp [fc_cntb, c_1]; done) | (clear hl; simp_all [fc_cntb]; done))) ?_
    exact W.zret hx hb hr (sf_b_nb _) (fun t ht _ => ⟨rfl, ht⟩) (fun _ h => nomatch h) dX2_isCountable_27
  · have c_1 := sd_nl_lt c_1
    refine lv_dload_n hx hb dX2_isCountable_6 rfl (lv_at hl 0 rfl) ?_
    refine lv_ldc2d (v := 4652007308841189376) hx hb hown (hg _ mw_306) dX2_isCountable_7 ?_
    refine lv_dcmp hx hb dX2_isCountable_10 ?_
    refine lv_if_gt (tgt := 26) hx hb dX2_isCountable_11 (by decide) (fun c_2 => ?_) (fun c_2 => ?_)
    · have c_2 := sd_g_gt.mp c_2
      refine lv_iconst (v := sf_b false) hx hb dX2_isCountable_26 (by decide) ?_
      refine sf_topi (y := sf_b (fc_cntb n)) (congrArg sf_b (by first | (simp [fc_cntb, c_1, c_2]; done) | (clear hl; simp_all [fc_cntb]; done))) ?_
      exact W.zret hx hb hr (sf_b_nb _) (fun t ht _ => ⟨rfl, ht⟩) (fun _ h => nomatch h) dX2_isCountable_27
    · have c_2 := sd_ng_gt c_2
      refine lv_dload_n hx hb dX2_isCountable_14 rfl (lv_at hl 0 rfl) ?_
      refine lv_dload_n hx hb dX2_isCountable_15 rfl (lv_at hl 0 rfl) ?_
      refine lv_d2i hx hb dX2_isCountable_16 ?_
      refine lv_i2d hx hb dX2_isCountable_17 ?_
      refine lv_dcmp hx hb dX2_isCountable_18 ?_
      refine lv_if_ne (tgt := 26) hx hb dX2_isCountable_19 (by decide) (fun c_3 => ?_) (fun c_3 => ?_)
      · have c_3 := sd_nl_eq c_3
        refine lv_iconst (v := sf_b false) hx hb dX2_isCountable_26 (by decide) ?_
        refine sf_topi (y := sf_b (fc_cntb n)) (congrArg sf_b (by first | (simp [fc_cntb, c_1, c_2, c_3]; done) | (clear hl; simp_all [fc_cntb]; done))) ?_
        exact W.zret hx hb hr (sf_b_nb _) (fun t ht _ => ⟨rfl, ht⟩) (fun _ h => nomatch h) dX2_isCountable_27
      · have c_3 := sd_l_eq.mp c_3
        refine lv_iconst (v := sf_b true) hx hb dX2_isCountable_22 (by decide) ?_
        refine lv_goto (tgt := 27) hx hb dX2_isCountable_23 (by decide) ?_
        refine sf_topi (y := sf_b (fc_cntb n)) (congrArg sf_b (by first | (simp [fc_cntb, c_1, c_2, c_3]; done) | (clear hl; simp_all [fc_cntb]; done))) ?_
        exact W.zret hx hb hr (sf_b_nb _) (fun t ht _ => ⟨rfl, ht⟩) (fun _ h => nomatch h) dX2_isCountable_27
set_option maxHeartbeats 4000000 in
set_option maxRecDepth 100000 in
theorem c_X2_isSetting (l : Launch) (n : UInt64) : Met l yX2_isSetting wX2_isSetting ({ frames := 0, cells := 0, slots := 0, locals := 0 }) (sf_P0 [.double n]) (sf_R (some (.int (sf_b (fc_setg n))))) 0 0 (fun _ => False) := by
  refine Met.ofW (cc := cX2_isSetting) (maxL := 2) (ret := (some .boolean)) (by decide) rfl ?_
  intro p e s m args below meth c s₁ B hml hv
  have hx := B.exec
  have hb := B.bytes
  have hr := B.returns
  have hts := atoms_spec (ws := wX2_isSetting) B.pre
  have hg : ∀ w ∈ gw_all, w.before args s = true := fun w h => hts w (List.mem_cons_of_mem _ h)
  have hown : s.vm.findClass RX2 = some m.cls := findClass_of_methodNamed B.named
  have hlocks := B.notSynchronized
  obtain ⟨rfl, -⟩ := hv
  have hl := lv_entry ([.double n]) (n := 2) (Nat.le_of_ble_eq_true rfl)
  rw [lg_entry_eq]
  generalize (lg_sl ([.double n]) ++ List.replicate (2 - (lg_sl ([.double n])).length) Slot.unset).toArray = ls at hl ⊢
  have hl : lv_has ls 2 [(0, .double n)] := hl
  refine lv_dload_n hx hb dX2_isSetting_0 rfl (lv_at hl 0 rfl) ?_
  refine lv_ldc2d (v := 13875379345695965184) hx hb hown (hg _ mw_313) dX2_isSetting_1 ?_
  refine lv_dcmp hx hb dX2_isSetting_4 ?_
  refine lv_if_lt (tgt := 20) hx hb dX2_isSetting_5 (by decide) (fun c_1 => ?_) (fun c_1 => ?_)
  · have c_1 := sd_l_lt.mp c_1
    refine lv_iconst (v := sf_b false) hx hb dX2_isSetting_20 (by decide) ?_
    refine sf_topi (y := sf_b (fc_setg n)) (congrArg sf_b (by first | (simp [fc_setg, c_1]; done) | (clear hl; simp_all [fc_setg]; done))) ?_
    exact W.zret hx hb hr (sf_b_nb _) (fun t ht _ => ⟨rfl, ht⟩) (fun _ h => nomatch h) dX2_isSetting_21
  · have c_1 := sd_nl_lt c_1
    refine lv_dload_n hx hb dX2_isSetting_8 rfl (lv_at hl 0 rfl) ?_
    refine lv_ldc2d (v := 4652007308841189376) hx hb hown (hg _ mw_306) dX2_isSetting_9 ?_
    refine lv_dcmp hx hb dX2_isSetting_12 ?_
    refine lv_if_gt (tgt := 20) hx hb dX2_isSetting_13 (by decide) (fun c_2 => ?_) (fun c_2 => ?_)
    · have c_2 := sd_g_gt.mp c_2
      refine lv_iconst (v := sf_b false) hx hb dX2_isSetting_20 (by decide) ?_
      refine sf_topi (y := sf_b (fc_setg n)) (congrArg sf_b (by first | (simp [fc_setg, c_1, c_2]; done) | (clear hl; simp_all [fc_setg]; done))) ?_
      exact W.zret hx hb hr (sf_b_nb _) (fun t ht _ => ⟨rfl, ht⟩) (fun _ h => nomatch h) dX2_isSetting_21
    · have c_2 := sd_ng_gt c_2
      refine lv_iconst (v := sf_b true) hx hb dX2_isSetting_16 (by decide) ?_
      refine lv_goto (tgt := 21) hx hb dX2_isSetting_17 (by decide) ?_
      refine sf_topi (y := sf_b (fc_setg n)) (congrArg sf_b (by first | (simp [fc_setg, c_1, c_2]; done) | (clear hl; simp_all [fc_setg]; done))) ?_
      exact W.zret hx hb hr (sf_b_nb _) (fun t ht _ => ⟨rfl, ht⟩) (fun _ h => nomatch h) dX2_isSetting_21
set_option maxHeartbeats 4000000 in
set_option maxRecDepth 100000 in
theorem c_X2_isValue (l : Launch) (n : UInt64) : Met l yX2_isValue wX2_isValue ({ frames := 0, cells := 0, slots := 0, locals := 0 }) (sf_P0 [.double n]) (sf_R (some (.int (sf_b (fc_val n))))) 0 0 (fun _ => False) := by
  refine Met.ofW (cc := cX2_isValue) (maxL := 2) (ret := (some .boolean)) (by decide) rfl ?_
  intro p e s m args below meth c s₁ B hml hv
  have hx := B.exec
  have hb := B.bytes
  have hr := B.returns
  have hts := atoms_spec (ws := wX2_isValue) B.pre
  have hg : ∀ w ∈ gw_all, w.before args s = true := fun w h => hts w (List.mem_cons_of_mem _ h)
  have hown : s.vm.findClass RX2 = some m.cls := findClass_of_methodNamed B.named
  have hlocks := B.notSynchronized
  obtain ⟨rfl, -⟩ := hv
  have hl := lv_entry ([.double n]) (n := 2) (Nat.le_of_ble_eq_true rfl)
  rw [lg_entry_eq]
  generalize (lg_sl ([.double n]) ++ List.replicate (2 - (lg_sl ([.double n])).length) Slot.unset).toArray = ls at hl ⊢
  have hl : lv_has ls 2 [(0, .double n)] := hl
  refine lv_dload_n hx hb dX2_isValue_0 rfl (lv_at hl 0 rfl) ?_
  refine lv_ldc2d (v := 14009883241494872064) hx hb hown (hg _ mw_342) dX2_isValue_1 ?_
  refine lv_dcmp hx hb dX2_isValue_4 ?_
  refine lv_if_lt (tgt := 20) hx hb dX2_isValue_5 (by decide) (fun c_1 => ?_) (fun c_1 => ?_)
  · have c_1 := sd_l_lt.mp c_1
    refine lv_iconst (v := sf_b false) hx hb dX2_isValue_20 (by decide) ?_
    refine sf_topi (y := sf_b (fc_val n)) (congrArg sf_b (by first | (simp [fc_val, c_1]; done) | (clear hl; simp_all [fc_val]; done))) ?_
    exact W.zret hx hb hr (sf_b_nb _) (fun t ht _ => ⟨rfl, ht⟩) (fun _ h => nomatch h) dX2_isValue_21
  · have c_1 := sd_nl_lt c_1
    refine lv_dload_n hx hb dX2_isValue_8 rfl (lv_at hl 0 rfl) ?_
    refine lv_ldc2d (v := 4786511204640096256) hx hb hown (hg _ mw_343) dX2_isValue_9 ?_
    refine lv_dcmp hx hb dX2_isValue_12 ?_
    refine lv_if_gt (tgt := 20) hx hb dX2_isValue_13 (by decide) (fun c_2 => ?_) (fun c_2 => ?_)
    · have c_2 := sd_g_gt.mp c_2
      refine lv_iconst (v := sf_b false) hx hb dX2_isValue_20 (by decide) ?_
      refine sf_topi (y := sf_b (fc_val n)) (congrArg sf_b (by first | (simp [fc_val, c_1, c_2]; done) | (clear hl; simp_all [fc_val]; done))) ?_
      exact W.zret hx hb hr (sf_b_nb _) (fun t ht _ => ⟨rfl, ht⟩) (fun _ h => nomatch h) dX2_isValue_21
    · have c_2 := sd_ng_gt c_2
      refine lv_iconst (v := sf_b true) hx hb dX2_isValue_16 (by decide) ?_
      refine lv_goto (tgt := 21) hx hb dX2_isValue_17 (by decide) ?_
      refine sf_topi (y := sf_b (fc_val n)) (congrArg sf_b (by first | (simp [fc_val, c_1, c_2]; done) | (clear hl; simp_all [fc_val]; done))) ?_
      exact W.zret hx hb hr (sf_b_nb _) (fun t ht _ => ⟨rfl, ht⟩) (fun _ h => nomatch h) dX2_isValue_21
set_option maxHeartbeats 4000000 in
set_option maxRecDepth 100000 in
theorem c_X2_isBlock (l : Launch) (k : Int32) (a0 : Int32) (b0 : Int32) (c0 : Int32) (n : UInt64) : Met l yX2_isBlock wX2_isBlock ({ frames := 2, cells := 0, slots := 0, locals := 42 }) (sf_P0 [.int k, .int a0, .int b0, .int c0, .double n]) (sf_R (some (.int (sf_b (fc_isBlock k a0 b0 c0 n))))) 0 0 (fun _ => False) := by
  refine Met.ofW (cc := cX2_isBlock) (maxL := 6) (ret := (some .boolean)) (by decide) rfl ?_
  intro p e s m args below meth c s₁ B hml hv
  have hx := B.exec
  have hb := B.bytes
  have hr := B.returns
  have hts := atoms_spec (ws := wX2_isBlock) B.pre
  have hg : ∀ w ∈ gw_all, w.before args s = true := fun w h => hts w (List.mem_cons_of_mem _ h)
  have hown : s.vm.findClass RX2 = some m.cls := findClass_of_methodNamed B.named
  have hlocks := B.notSynchronized
  obtain ⟨rfl, -⟩ := hv
  have hl := lv_entry ([.int k, .int a0, .int b0, .int c0, .double n]) (n := 6) (Nat.le_of_ble_eq_true rfl)
  rw [lg_entry_eq]
  generalize (lg_sl ([.int k, .int a0, .int b0, .int c0, .double n]) ++ List.replicate (6 - (lg_sl ([.int k, .int a0, .int b0, .int c0, .double n])).length) Slot.unset).toArray = ls at hl ⊢
  have hl : lv_has ls 6 [(0, .int k), (1, .int a0), (2, .int b0), (3, .int c0), (4, .double n)] := hl
  refine lv_iload_n hx hb dX2_isBlock_0 rfl (lv_at hl 0 rfl) ?_
  by_cases c_1 : k = 0
  · refine lv_tableIn (off := 55) (tgt := 56) hx hb dX2_isBlock_1 (by rw [c_1]; decide) (by rw [c_1]; decide) (by rw [c_1]; decide) (by decide) ?_
    refine lv_iconst (v := sf_b true) hx hb dX2_isBlock_56 (by decide) ?_
    refine sf_topi (y := sf_b (fc_isBlock k a0 b0 c0 n)) (congrArg sf_b (by first | (simp [fc_isBlock, c_1]; done) | (clear hl; simp_all [fc_isBlock]; done))) ?_
    exact W.zret hx hb hr (sf_b_nb _) (fun t ht _ => ⟨rfl, ht⟩) (fun _ h => nomatch h) dX2_isBlock_57
  · skip
    by_cases c_2 : k = 1
    · refine lv_tableIn (off := 57) (tgt := 58) hx hb dX2_isBlock_1 (by rw [c_2]; decide) (by rw [c_2]; decide) (by rw [c_2]; decide) (by decide) ?_
      refine lv_iload_n hx hb dX2_isBlock_58 rfl (lv_at hl 3 rfl) ?_
      refine sf_callRi (va_runS (As := [.int c0]) (rest := []) ⟨hx, hb, hml, hown, hg⟩ (c_X2_isBlockBit l c0) (cwS 1 hg (gw_S mw_300 mw_301 mw_21 mw_302) rfl rfl rfl (by decide +kernel) ⟨Nat.le_of_ble_eq_true rfl, Nat.le_of_ble_eq_true rfl⟩) sf_pre0 rfl rfl hl.1 rfl (lv_room (Nat.le_of_ble_eq_true rfl)) dX2_isBlock_59 ⟨Nat.zero_le _, Nat.zero_le _⟩) ?_
      refine sf_ifeq (tgt := 77) hx hb dX2_isBlock_62 (by decide) (fun c_3 => ?_) (fun c_3 => ?_)
      · refine lv_iconst (v := sf_b false) hx hb dX2_isBlock_77 (by decide) ?_
        refine sf_topi (y := sf_b (fc_isBlock k a0 b0 c0 n)) (congrArg sf_b (by first | (simp [fc_isBlock, c_1, c_2, c_3]; done) | (clear hl; simp_all [fc_isBlock]; done))) ?_
        exact W.zret hx hb hr (sf_b_nb _) (fun t ht _ => ⟨rfl, ht⟩) (fun _ h => nomatch h) dX2_isBlock_78
      · refine lv_dload hx hb dX2_isBlock_65 (lv_at hl 4 rfl) ?_
        refine sf_callRi (va_runS (As := [.double n]) (rest := []) ⟨hx, hb, hml, hown, hg⟩ (c_X2_isCountable l n) (cwS 1 hg (gw_S mw_303 mw_304 mw_21 mw_305) rfl rfl rfl (by decide +kernel) ⟨Nat.le_of_ble_eq_true rfl, Nat.le_of_ble_eq_true rfl⟩) sf_pre0 rfl rfl hl.1 rfl (lv_room (Nat.le_of_ble_eq_true rfl)) dX2_isBlock_67 ⟨Nat.zero_le _, Nat.zero_le _⟩) ?_
        refine sf_ifeq (tgt := 77) hx hb dX2_isBlock_70 (by decide) (fun c_4 => ?_) (fun c_4 => ?_)
        · refine lv_iconst (v := sf_b false) hx hb dX2_isBlock_77 (by decide) ?_
          refine sf_topi (y := sf_b (fc_isBlock k a0 b0 c0 n)) (congrArg sf_b (by first | (simp [fc_isBlock, c_1, c_2, c_3, c_4]; done) | (clear hl; simp_all [fc_isBlock]; done))) ?_
          exact W.zret hx hb hr (sf_b_nb _) (fun t ht _ => ⟨rfl, ht⟩) (fun _ h => nomatch h) dX2_isBlock_78
        · refine lv_iconst (v := sf_b true) hx hb dX2_isBlock_73 (by decide) ?_
          refine lv_goto (tgt := 78) hx hb dX2_isBlock_74 (by decide) ?_
          refine sf_topi (y := sf_b (fc_isBlock k a0 b0 c0 n)) (congrArg sf_b (by first | (simp [fc_isBlock, c_1, c_2, c_3, c_4]; done) | (clear hl; simp_all [fc_isBlock]; done))) ?_
          exact W.zret hx hb hr (sf_b_nb _) (fun t ht _ => ⟨rfl, ht⟩) (fun _ h => nomatch h) dX2_isBlock_78
    · skip
      by_cases c_5 : k = 2
      · refine lv_tableIn (off := 57) (tgt := 58) hx hb dX2_isBlock_1 (by rw [c_5]; decide) (by rw [c_5]; decide) (by rw [c_5]; decide) (by decide) ?_
        refine lv_iload_n hx hb dX2_isBlock_58 rfl (lv_at hl 3 rfl) ?_
        refine sf_callRi (va_runS (As := [.int c0]) (rest := []) ⟨hx, hb, hml, hown, hg⟩ (c_X2_isBlockBit l c0) (cwS 1 hg (gw_S mw_300 mw_301 mw_21 mw_302) rfl rfl rfl (by decide +kernel) ⟨Nat.le_of_ble_eq_true rfl, Nat.le_of_ble_eq_true rfl⟩) sf_pre0 rfl rfl hl.1 rfl (lv_room (Nat.le_of_ble_eq_true rfl)) dX2_isBlock_59 ⟨Nat.zero_le _, Nat.zero_le _⟩) ?_
        refine sf_ifeq (tgt := 77) hx hb dX2_isBlock_62 (by decide) (fun c_6 => ?_) (fun c_6 => ?_)
        · refine lv_iconst (v := sf_b false) hx hb dX2_isBlock_77 (by decide) ?_
          refine sf_topi (y := sf_b (fc_isBlock k a0 b0 c0 n)) (congrArg sf_b (by first | (simp [fc_isBlock, c_1, c_2, c_5, c_6]; done) | (clear hl; simp_all [fc_isBlock]; done))) ?_
          exact W.zret hx hb hr (sf_b_nb _) (fun t ht _ => ⟨rfl, ht⟩) (fun _ h => nomatch h) dX2_isBlock_78
        · refine lv_dload hx hb dX2_isBlock_65 (lv_at hl 4 rfl) ?_
          refine sf_callRi (va_runS (As := [.double n]) (rest := []) ⟨hx, hb, hml, hown, hg⟩ (c_X2_isCountable l n) (cwS 1 hg (gw_S mw_303 mw_304 mw_21 mw_305) rfl rfl rfl (by decide +kernel) ⟨Nat.le_of_ble_eq_true rfl, Nat.le_of_ble_eq_true rfl⟩) sf_pre0 rfl rfl hl.1 rfl (lv_room (Nat.le_of_ble_eq_true rfl)) dX2_isBlock_67 ⟨Nat.zero_le _, Nat.zero_le _⟩) ?_
          refine sf_ifeq (tgt := 77) hx hb dX2_isBlock_70 (by decide) (fun c_7 => ?_) (fun c_7 => ?_)
          · refine lv_iconst (v := sf_b false) hx hb dX2_isBlock_77 (by decide) ?_
            refine sf_topi (y := sf_b (fc_isBlock k a0 b0 c0 n)) (congrArg sf_b (by first | (simp [fc_isBlock, c_1, c_2, c_5, c_6, c_7]; done) | (clear hl; simp_all [fc_isBlock]; done))) ?_
            exact W.zret hx hb hr (sf_b_nb _) (fun t ht _ => ⟨rfl, ht⟩) (fun _ h => nomatch h) dX2_isBlock_78
          · refine lv_iconst (v := sf_b true) hx hb dX2_isBlock_73 (by decide) ?_
            refine lv_goto (tgt := 78) hx hb dX2_isBlock_74 (by decide) ?_
            refine sf_topi (y := sf_b (fc_isBlock k a0 b0 c0 n)) (congrArg sf_b (by first | (simp [fc_isBlock, c_1, c_2, c_5, c_6, c_7]; done) | (clear hl; simp_all [fc_isBlock]; done))) ?_
            exact W.zret hx hb hr (sf_b_nb _) (fun t ht _ => ⟨rfl, ht⟩) (fun _ h => nomatch h) dX2_isBlock_78
      · skip
        by_cases c_8 : k = 3
        · refine lv_tableIn (off := 78) (tgt := 79) hx hb dX2_isBlock_1 (by rw [c_8]; decide) (by rw [c_8]; decide) (by rw [c_8]; decide) (by decide) ?_
          refine lv_iload_n hx hb dX2_isBlock_79 rfl (lv_at hl 1 rfl) ?_
          refine lv_iload_n hx hb dX2_isBlock_80 rfl (lv_at hl 2 rfl) ?_
          refine sf_callRi (va_runS (As := [.int a0, .int b0]) (rest := []) ⟨hx, hb, hml, hown, hg⟩ (c_X2_areRegisters l a0 b0) (cwS 2 hg (gw_S mw_307 mw_308 mw_21 mw_309) rfl rfl rfl (by decide +kernel) ⟨Nat.le_of_ble_eq_true rfl, Nat.le_of_ble_eq_true rfl⟩) sf_pre0 rfl rfl hl.1 rfl (lv_room (Nat.le_of_ble_eq_true rfl)) dX2_isBlock_81 ⟨Nat.zero_le _, Nat.zero_le _⟩) ?_
          refine sf_ifeq (tgt := 98) hx hb dX2_isBlock_84 (by decide) (fun c_9 => ?_) (fun c_9 => ?_)
          · refine lv_iconst (v := sf_b false) hx hb dX2_isBlock_98 (by decide) ?_
            refine sf_topi (y := sf_b (fc_isBlock k a0 b0 c0 n)) (congrArg sf_b (by first | (simp [fc_isBlock, c_1, c_2, c_5, c_8, c_9]; done) | (clear hl; simp_all [fc_isBlock]; done))) ?_
            exact W.zret hx hb hr (sf_b_nb _) (fun t ht _ => ⟨rfl, ht⟩) (fun _ h => nomatch h) dX2_isBlock_99
          · refine lv_iload_n hx hb dX2_isBlock_87 rfl (lv_at hl 3 rfl) ?_
            refine sf_callRi (va_runS (As := [.int c0]) (rest := []) ⟨hx, hb, hml, hown, hg⟩ (c_X2_isBlockBit l c0) (cwS 1 hg (gw_S mw_300 mw_301 mw_21 mw_302) rfl rfl rfl (by decide +kernel) ⟨Nat.le_of_ble_eq_true rfl, Nat.le_of_ble_eq_true rfl⟩) sf_pre0 rfl rfl hl.1 rfl (lv_room (Nat.le_of_ble_eq_true rfl)) dX2_isBlock_88 ⟨Nat.zero_le _, Nat.zero_le _⟩) ?_
            refine sf_ifeq (tgt := 98) hx hb dX2_isBlock_91 (by decide) (fun c_10 => ?_) (fun c_10 => ?_)
            · refine lv_iconst (v := sf_b false) hx hb dX2_isBlock_98 (by decide) ?_
              refine sf_topi (y := sf_b (fc_isBlock k a0 b0 c0 n)) (congrArg sf_b (by first | (simp [fc_isBlock, c_1, c_2, c_5, c_8, c_9, c_10]; done) | (clear hl; simp_all [fc_isBlock]; done))) ?_
              exact W.zret hx hb hr (sf_b_nb _) (fun t ht _ => ⟨rfl, ht⟩) (fun _ h => nomatch h) dX2_isBlock_99
            · refine lv_iconst (v := sf_b true) hx hb dX2_isBlock_94 (by decide) ?_
              refine lv_goto (tgt := 99) hx hb dX2_isBlock_95 (by decide) ?_
              refine sf_topi (y := sf_b (fc_isBlock k a0 b0 c0 n)) (congrArg sf_b (by first | (simp [fc_isBlock, c_1, c_2, c_5, c_8, c_9, c_10]; done) | (clear hl; simp_all [fc_isBlock]; done))) ?_
              exact W.zret hx hb hr (sf_b_nb _) (fun t ht _ => ⟨rfl, ht⟩) (fun _ h => nomatch h) dX2_isBlock_99
        · skip
          by_cases c_11 : k = 4
          · refine lv_tableIn (off := 99) (tgt := 100) hx hb dX2_isBlock_1 (by rw [c_11]; decide) (by rw [c_11]; decide) (by rw [c_11]; decide) (by decide) ?_
            refine lv_iload_n hx hb dX2_isBlock_100 rfl (lv_at hl 1 rfl) ?_
            refine lv_iload_n hx hb dX2_isBlock_101 rfl (lv_at hl 2 rfl) ?_
            refine sf_callRi (va_runS (As := [.int a0, .int b0]) (rest := []) ⟨hx, hb, hml, hown, hg⟩ (c_X2_areRegisters l a0 b0) (cwS 2 hg (gw_S mw_307 mw_308 mw_21 mw_309) rfl rfl rfl (by decide +kernel) ⟨Nat.le_of_ble_eq_true rfl, Nat.le_of_ble_eq_true rfl⟩) sf_pre0 rfl rfl hl.1 rfl (lv_room (Nat.le_of_ble_eq_true rfl)) dX2_isBlock_102 ⟨Nat.zero_le _, Nat.zero_le _⟩) ?_
            refine sf_ifeq (tgt := 121) hx hb dX2_isBlock_105 (by decide) (fun c_12 => ?_) (fun c_12 => ?_)
            · refine lv_iconst (v := sf_b false) hx hb dX2_isBlock_121 (by decide) ?_
              refine sf_topi (y := sf_b (fc_isBlock k a0 b0 c0 n)) (congrArg sf_b (by first | (simp [fc_isBlock, c_1, c_2, c_5, c_8, c_11, c_12]; done) | (clear hl; simp_all [fc_isBlock]; done))) ?_
              exact W.zret hx hb hr (sf_b_nb _) (fun t ht _ => ⟨rfl, ht⟩) (fun _ h => nomatch h) dX2_isBlock_122
            · refine lv_iload_n hx hb dX2_isBlock_108 rfl (lv_at hl 3 rfl) ?_
              refine lv_bipush (v := 8) hx hb dX2_isBlock_109 (by decide) ?_
              refine sf_callRi (va_runS (As := [.int c0, .int 8]) (rest := []) ⟨hx, hb, hml, hown, hg⟩ (c_X2_isIndex l c0 8) (cwS 2 hg (gw_S mw_163 mw_164 mw_21 mw_165) rfl rfl rfl (by decide +kernel) ⟨Nat.le_of_ble_eq_true rfl, Nat.le_of_ble_eq_true rfl⟩) sf_pre0 rfl rfl hl.1 rfl (lv_room (Nat.le_of_ble_eq_true rfl)) dX2_isBlock_111 ⟨Nat.zero_le _, Nat.zero_le _⟩) ?_
              refine sf_ifeq (tgt := 121) hx hb dX2_isBlock_114 (by decide) (fun c_13 => ?_) (fun c_13 => ?_)
              · refine lv_iconst (v := sf_b false) hx hb dX2_isBlock_121 (by decide) ?_
                refine sf_topi (y := sf_b (fc_isBlock k a0 b0 c0 n)) (congrArg sf_b (by first | (simp [fc_isBlock, c_1, c_2, c_5, c_8, c_11, c_12, c_13]; done) | (clear hl; simp_all [fc_isBlock]; done))) ?_
                exact W.zret hx hb hr (sf_b_nb _) (fun t ht _ => ⟨rfl, ht⟩) (fun _ h => nomatch h) dX2_isBlock_122
              · refine lv_iconst (v := sf_b true) hx hb dX2_isBlock_117 (by decide) ?_
                refine lv_goto (tgt := 122) hx hb dX2_isBlock_118 (by decide) ?_
                refine sf_topi (y := sf_b (fc_isBlock k a0 b0 c0 n)) (congrArg sf_b (by first | (simp [fc_isBlock, c_1, c_2, c_5, c_8, c_11, c_12, c_13]; done) | (clear hl; simp_all [fc_isBlock]; done))) ?_
                exact W.zret hx hb hr (sf_b_nb _) (fun t ht _ => ⟨rfl, ht⟩) (fun _ h => nomatch h) dX2_isBlock_122
          · skip
            by_cases c_14 : k = 5
            · refine lv_tableIn (off := 99) (tgt := 100) hx hb dX2_isBlock_1 (by rw [c_14]; decide) (by rw [c_14]; decide) (by rw [c_14]; decide) (by decide) ?_
              refine lv_iload_n hx hb dX2_isBlock_100 rfl (lv_at hl 1 rfl) ?_
              refine lv_iload_n hx hb dX2_isBlock_101 rfl (lv_at hl 2 rfl) ?_
              refine sf_callRi (va_runS (As := [.int a0, .int b0]) (rest := []) ⟨hx, hb, hml, hown, hg⟩ (c_X2_areRegisters l a0 b0) (cwS 2 hg (gw_S mw_307 mw_308 mw_21 mw_309) rfl rfl rfl (by decide +kernel) ⟨Nat.le_of_ble_eq_true rfl, Nat.le_of_ble_eq_true rfl⟩) sf_pre0 rfl rfl hl.1 rfl (lv_room (Nat.le_of_ble_eq_true rfl)) dX2_isBlock_102 ⟨Nat.zero_le _, Nat.zero_le _⟩) ?_
              refine sf_ifeq (tgt := 121) hx hb dX2_isBlock_105 (by decide) (fun c_15 => ?_) (fun c_15 => ?_)
              · refine lv_iconst (v := sf_b false) hx hb dX2_isBlock_121 (by decide) ?_
                refine sf_topi (y := sf_b (fc_isBlock k a0 b0 c0 n)) (congrArg sf_b (by first | (simp [fc_isBlock, c_1, c_2, c_5, c_8, c_11, c_14, c_15]; done) | (clear hl; simp_all [fc_isBlock]; done))) ?_
                exact W.zret hx hb hr (sf_b_nb _) (fun t ht _ => ⟨rfl, ht⟩) (fun _ h => nomatch h) dX2_isBlock_122
              · refine lv_iload_n hx hb dX2_isBlock_108 rfl (lv_at hl 3 rfl) ?_
                refine lv_bipush (v := 8) hx hb dX2_isBlock_109 (by decide) ?_
                refine sf_callRi (va_runS (As := [.int c0, .int 8]) (rest := []) ⟨hx, hb, hml, hown, hg⟩ (c_X2_isIndex l c0 8) (cwS 2 hg (gw_S mw_163 mw_164 mw_21 mw_165) rfl rfl rfl (by decide +kernel) ⟨Nat.le_of_ble_eq_true rfl, Nat.le_of_ble_eq_true rfl⟩) sf_pre0 rfl rfl hl.1 rfl (lv_room (Nat.le_of_ble_eq_true rfl)) dX2_isBlock_111 ⟨Nat.zero_le _, Nat.zero_le _⟩) ?_
                refine sf_ifeq (tgt := 121) hx hb dX2_isBlock_114 (by decide) (fun c_16 => ?_) (fun c_16 => ?_)
                · refine lv_iconst (v := sf_b false) hx hb dX2_isBlock_121 (by decide) ?_
                  refine sf_topi (y := sf_b (fc_isBlock k a0 b0 c0 n)) (congrArg sf_b (by first | (simp [fc_isBlock, c_1, c_2, c_5, c_8, c_11, c_14, c_15, c_16]; done) | (clear hl; simp_all [fc_isBlock]; done))) ?_
                  exact W.zret hx hb hr (sf_b_nb _) (fun t ht _ => ⟨rfl, ht⟩) (fun _ h => nomatch h) dX2_isBlock_122
                · refine lv_iconst (v := sf_b true) hx hb dX2_isBlock_117 (by decide) ?_
                  refine lv_goto (tgt := 122) hx hb dX2_isBlock_118 (by decide) ?_
                  refine sf_topi (y := sf_b (fc_isBlock k a0 b0 c0 n)) (congrArg sf_b (by first | (simp [fc_isBlock, c_1, c_2, c_5, c_8, c_11, c_14, c_15, c_16]; done) | (clear hl; simp_all [fc_isBlock]; done))) ?_
                  exact W.zret hx hb hr (sf_b_nb _) (fun t ht _ => ⟨rfl, ht⟩) (fun _ h => nomatch h) dX2_isBlock_122
            · skip
              by_cases c_17 : k = 6
              · refine lv_tableIn (off := 99) (tgt := 100) hx hb dX2_isBlock_1 (by rw [c_17]; decide) (by rw [c_17]; decide) (by rw [c_17]; decide) (by decide) ?_
                refine lv_iload_n hx hb dX2_isBlock_100 rfl (lv_at hl 1 rfl) ?_
                refine lv_iload_n hx hb dX2_isBlock_101 rfl (lv_at hl 2 rfl) ?_
                refine sf_callRi (va_runS (As := [.int a0, .int b0]) (rest := []) ⟨hx, hb, hml, hown, hg⟩ (c_X2_areRegisters l a0 b0) (cwS 2 hg (gw_S mw_307 mw_308 mw_21 mw_309) rfl rfl rfl (by decide +kernel) ⟨Nat.le_of_ble_eq_true rfl, Nat.le_of_ble_eq_true rfl⟩) sf_pre0 rfl rfl hl.1 rfl (lv_room (Nat.le_of_ble_eq_true rfl)) dX2_isBlock_102 ⟨Nat.zero_le _, Nat.zero_le _⟩) ?_
                refine sf_ifeq (tgt := 121) hx hb dX2_isBlock_105 (by decide) (fun c_18 => ?_) (fun c_18 => ?_)
                · refine lv_iconst (v := sf_b false) hx hb dX2_isBlock_121 (by decide) ?_
                  refine sf_topi (y := sf_b (fc_isBlock k a0 b0 c0 n)) (congrArg sf_b (by first | (simp [fc_isBlock, c_1, c_2, c_5, c_8, c_11, c_14, c_17, c_18]; done) | (clear hl; simp_all [fc_isBlock]; done))) ?_
                  exact W.zret hx hb hr (sf_b_nb _) (fun t ht _ => ⟨rfl, ht⟩) (fun _ h => nomatch h) dX2_isBlock_122
                · refine lv_iload_n hx hb dX2_isBlock_108 rfl (lv_at hl 3 rfl) ?_
                  refine lv_bipush (v := 8) hx hb dX2_isBlock_109 (by decide) ?_
                  refine sf_callRi (va_runS (As := [.int c0, .int 8]) (rest := []) ⟨hx, hb, hml, hown, hg⟩ (c_X2_isIndex l c0 8) (cwS 2 hg (gw_S mw_163 mw_164 mw_21 mw_165) rfl rfl rfl (by decide +kernel) ⟨Nat.le_of_ble_eq_true rfl, Nat.le_of_ble_eq_true rfl⟩) sf_pre0 rfl rfl hl.1 rfl (lv_room (Nat.le_of_ble_eq_true rfl)) dX2_isBlock_111 ⟨Nat.zero_le _, Nat.zero_le _⟩) ?_
                  refine sf_ifeq (tgt := 121) hx hb dX2_isBlock_114 (by decide) (fun c_19 => ?_) (fun c_19 => ?_)
                  · refine lv_iconst (v := sf_b false) hx hb dX2_isBlock_121 (by decide) ?_
                    refine sf_topi (y := sf_b (fc_isBlock k a0 b0 c0 n)) (congrArg sf_b (by first | (simp [fc_isBlock, c_1, c_2, c_5, c_8, c_11, c_14, c_17, c_18, c_19]; done) | (clear hl; simp_all [fc_isBlock]; done))) ?_
                    exact W.zret hx hb hr (sf_b_nb _) (fun t ht _ => ⟨rfl, ht⟩) (fun _ h => nomatch h) dX2_isBlock_122
                  · refine lv_iconst (v := sf_b true) hx hb dX2_isBlock_117 (by decide) ?_
                    refine lv_goto (tgt := 122) hx hb dX2_isBlock_118 (by decide) ?_
                    refine sf_topi (y := sf_b (fc_isBlock k a0 b0 c0 n)) (congrArg sf_b (by first | (simp [fc_isBlock, c_1, c_2, c_5, c_8, c_11, c_14, c_17, c_18, c_19]; done) | (clear hl; simp_all [fc_isBlock]; done))) ?_
                    exact W.zret hx hb hr (sf_b_nb _) (fun t ht _ => ⟨rfl, ht⟩) (fun _ h => nomatch h) dX2_isBlock_122
              · skip
                by_cases c_20 : k = 7
                · refine lv_tableIn (off := 99) (tgt := 100) hx hb dX2_isBlock_1 (by rw [c_20]; decide) (by rw [c_20]; decide) (by rw [c_20]; decide) (by decide) ?_
                  refine lv_iload_n hx hb dX2_isBlock_100 rfl (lv_at hl 1 rfl) ?_
                  refine lv_iload_n hx hb dX2_isBlock_101 rfl (lv_at hl 2 rfl) ?_
                  refine sf_callRi (va_runS (As := [.int a0, .int b0]) (rest := []) ⟨hx, hb, hml, hown, hg⟩ (c_X2_areRegisters l a0 b0) (cwS 2 hg (gw_S mw_307 mw_308 mw_21 mw_309) rfl rfl rfl (by decide +kernel) ⟨Nat.le_of_ble_eq_true rfl, Nat.le_of_ble_eq_true rfl⟩) sf_pre0 rfl rfl hl.1 rfl (lv_room (Nat.le_of_ble_eq_true rfl)) dX2_isBlock_102 ⟨Nat.zero_le _, Nat.zero_le _⟩) ?_
                  refine sf_ifeq (tgt := 121) hx hb dX2_isBlock_105 (by decide) (fun c_21 => ?_) (fun c_21 => ?_)
                  · refine lv_iconst (v := sf_b false) hx hb dX2_isBlock_121 (by decide) ?_
                    refine sf_topi (y := sf_b (fc_isBlock k a0 b0 c0 n)) (congrArg sf_b (by first | (simp [fc_isBlock, c_1, c_2, c_5, c_8, c_11, c_14, c_17, c_20, c_21]; done) | (clear hl; simp_all [fc_isBlock]; done))) ?_
                    exact W.zret hx hb hr (sf_b_nb _) (fun t ht _ => ⟨rfl, ht⟩) (fun _ h => nomatch h) dX2_isBlock_122
                  · refine lv_iload_n hx hb dX2_isBlock_108 rfl (lv_at hl 3 rfl) ?_
                    refine lv_bipush (v := 8) hx hb dX2_isBlock_109 (by decide) ?_
                    refine sf_callRi (va_runS (As := [.int c0, .int 8]) (rest := []) ⟨hx, hb, hml, hown, hg⟩ (c_X2_isIndex l c0 8) (cwS 2 hg (gw_S mw_163 mw_164 mw_21 mw_165) rfl rfl rfl (by decide +kernel) ⟨Nat.le_of_ble_eq_true rfl, Nat.le_of_ble_eq_true rfl⟩) sf_pre0 rfl rfl hl.1 rfl (lv_room (Nat.le_of_ble_eq_true rfl)) dX2_isBlock_111 ⟨Nat.zero_le _, Nat.zero_le _⟩) ?_
                    refine sf_ifeq (tgt := 121) hx hb dX2_isBlock_114 (by decide) (fun c_22 => ?_) (fun c_22 => ?_)
                    · refine lv_iconst (v := sf_b false) hx hb dX2_isBlock_121 (by decide) ?_
                      refine sf_topi (y := sf_b (fc_isBlock k a0 b0 c0 n)) (congrArg sf_b (by first | (simp [fc_isBlock, c_1, c_2, c_5, c_8, c_11, c_14, c_17, c_20, c_21, c_22]; done) | (clear hl; simp_all [fc_isBlock]; done))) ?_
                      exact W.zret hx hb hr (sf_b_nb _) (fun t ht _ => ⟨rfl, ht⟩) (fun _ h => nomatch h) dX2_isBlock_122
                    · refine lv_iconst (v := sf_b true) hx hb dX2_isBlock_117 (by decide) ?_
                      refine lv_goto (tgt := 122) hx hb dX2_isBlock_118 (by decide) ?_
                      refine sf_topi (y := sf_b (fc_isBlock k a0 b0 c0 n)) (congrArg sf_b (by first | (simp [fc_isBlock, c_1, c_2, c_5, c_8, c_11, c_14, c_17, c_20, c_21, c_22]; done) | (clear hl; simp_all [fc_isBlock]; done))) ?_
                      exact W.zret hx hb hr (sf_b_nb _) (fun t ht _ => ⟨rfl, ht⟩) (fun _ h => nomatch h) dX2_isBlock_122
                · skip
                  by_cases c_23 : k = 8
                  · refine lv_tableIn (off := 122) (tgt := 123) hx hb dX2_isBlock_1 (by rw [c_23]; decide) (by rw [c_23]; decide) (by rw [c_23]; decide) (by decide) ?_
                    refine lv_iload_n hx hb dX2_isBlock_123 rfl (lv_at hl 1 rfl) ?_
                    refine lv_iload_n hx hb dX2_isBlock_124 rfl (lv_at hl 2 rfl) ?_
                    refine sf_callRi (va_runS (As := [.int a0, .int b0]) (rest := []) ⟨hx, hb, hml, hown, hg⟩ (c_X2_areRegisters l a0 b0) (cwS 2 hg (gw_S mw_307 mw_308 mw_21 mw_309) rfl rfl rfl (by decide +kernel) ⟨Nat.le_of_ble_eq_true rfl, Nat.le_of_ble_eq_true rfl⟩) sf_pre0 rfl rfl hl.1 rfl (lv_room (Nat.le_of_ble_eq_true rfl)) dX2_isBlock_125 ⟨Nat.zero_le _, Nat.zero_le _⟩) ?_
                    refine sf_ifeq (tgt := 152) hx hb dX2_isBlock_128 (by decide) (fun c_24 => ?_) (fun c_24 => ?_)
                    · refine lv_iconst (v := sf_b false) hx hb dX2_isBlock_152 (by decide) ?_
                      refine sf_topi (y := sf_b (fc_isBlock k a0 b0 c0 n)) (congrArg sf_b (by first | (simp [fc_isBlock, c_1, c_2, c_5, c_8, c_11, c_14, c_17, c_20, c_23, c_24]; done) | (clear hl; simp_all [fc_isBlock]; done))) ?_
                      exact W.zret hx hb hr (sf_b_nb _) (fun t ht _ => ⟨rfl, ht⟩) (fun _ h => nomatch h) dX2_isBlock_153
                    · refine lv_iload_n hx hb dX2_isBlock_131 rfl (lv_at hl 3 rfl) ?_
                      refine lv_bipush (v := 8) hx hb dX2_isBlock_132 (by decide) ?_
                      refine sf_callRi (va_runS (As := [.int c0, .int 8]) (rest := []) ⟨hx, hb, hml, hown, hg⟩ (c_X2_isIndex l c0 8) (cwS 2 hg (gw_S mw_163 mw_164 mw_21 mw_165) rfl rfl rfl (by decide +kernel) ⟨Nat.le_of_ble_eq_true rfl, Nat.le_of_ble_eq_true rfl⟩) sf_pre0 rfl rfl hl.1 rfl (lv_room (Nat.le_of_ble_eq_true rfl)) dX2_isBlock_134 ⟨Nat.zero_le _, Nat.zero_le _⟩) ?_
                      refine sf_ifeq (tgt := 152) hx hb dX2_isBlock_137 (by decide) (fun c_25 => ?_) (fun c_25 => ?_)
                      · refine lv_iconst (v := sf_b false) hx hb dX2_isBlock_152 (by decide) ?_
                        refine sf_topi (y := sf_b (fc_isBlock k a0 b0 c0 n)) (congrArg sf_b (by first | (simp [fc_isBlock, c_1, c_2, c_5, c_8, c_11, c_14, c_17, c_20, c_23, c_24, c_25]; done) | (clear hl; simp_all [fc_isBlock]; done))) ?_
                        exact W.zret hx hb hr (sf_b_nb _) (fun t ht _ => ⟨rfl, ht⟩) (fun _ h => nomatch h) dX2_isBlock_153
                      · refine lv_dload hx hb dX2_isBlock_140 (lv_at hl 4 rfl) ?_
                        refine sf_callRi (va_runS (As := [.double n]) (rest := []) ⟨hx, hb, hml, hown, hg⟩ (c_X2_isSetting l n) (cwS 1 hg (gw_S mw_310 mw_311 mw_21 mw_312) rfl rfl rfl (by decide +kernel) ⟨Nat.le_of_ble_eq_true rfl, Nat.le_of_ble_eq_true rfl⟩) sf_pre0 rfl rfl hl.1 rfl (lv_room (Nat.le_of_ble_eq_true rfl)) dX2_isBlock_142 ⟨Nat.zero_le _, Nat.zero_le _⟩) ?_
                        refine sf_ifeq (tgt := 152) hx hb dX2_isBlock_145 (by decide) (fun c_26 => ?_) (fun c_26 => ?_)
                        · refine lv_iconst (v := sf_b false) hx hb dX2_isBlock_152 (by decide) ?_
                          refine sf_topi (y := sf_b (fc_isBlock k a0 b0 c0 n)) (congrArg sf_b (by first | (simp [fc_isBlock, c_1, c_2, c_5, c_8, c_11, c_14, c_17, c_20, c_23, c_24, c_25, c_26]; done) | (clear hl; simp_all [fc_isBlock]; done))) ?_
                          exact W.zret hx hb hr (sf_b_nb _) (fun t ht _ => ⟨rfl, ht⟩) (fun _ h => nomatch h) dX2_isBlock_153
                        · refine lv_iconst (v := sf_b true) hx hb dX2_isBlock_148 (by decide) ?_
                          refine lv_goto (tgt := 153) hx hb dX2_isBlock_149 (by decide) ?_
                          refine sf_topi (y := sf_b (fc_isBlock k a0 b0 c0 n)) (congrArg sf_b (by first | (simp [fc_isBlock, c_1, c_2, c_5, c_8, c_11, c_14, c_17, c_20, c_23, c_24, c_25, c_26]; done) | (clear hl; simp_all [fc_isBlock]; done))) ?_
                          exact W.zret hx hb hr (sf_b_nb _) (fun t ht _ => ⟨rfl, ht⟩) (fun _ h => nomatch h) dX2_isBlock_153
                  · skip
                    by_cases c_27 : k = 9
                    · refine lv_tableIn (off := 122) (tgt := 123) hx hb dX2_isBlock_1 (by rw [c_27]; decide) (by rw [c_27]; decide) (by rw [c_27]; decide) (by decide) ?_
                      refine lv_iload_n hx hb dX2_isBlock_123 rfl (lv_at hl 1 rfl) ?_
                      refine lv_iload_n hx hb dX2_isBlock_124 rfl (lv_at hl 2 rfl) ?_
                      refine sf_callRi (va_runS (As := [.int a0, .int b0]) (rest := []) ⟨hx, hb, hml, hown, hg⟩ (c_X2_areRegisters l a0 b0) (cwS 2 hg (gw_S mw_307 mw_308 mw_21 mw_309) rfl rfl rfl (by decide +kernel) ⟨Nat.le_of_ble_eq_true rfl, Nat.le_of_ble_eq_true rfl⟩) sf_pre0 rfl rfl hl.1 rfl (lv_room (Nat.le_of_ble_eq_true rfl)) dX2_isBlock_125 ⟨Nat.zero_le _, Nat.zero_le _⟩) ?_
                      refine sf_ifeq (tgt := 152) hx hb dX2_isBlock_128 (by decide) (fun c_28 => ?_) (fun c_28 => ?_)
                      · refine lv_iconst (v := sf_b false) hx hb dX2_isBlock_152 (by decide) ?_
                        refine sf_topi (y := sf_b (fc_isBlock k a0 b0 c0 n)) (congrArg sf_b (by first | (simp [fc_isBlock, c_1, c_2, c_5, c_8, c_11, c_14, c_17, c_20, c_23, c_27, c_28]; done) | (clear hl; simp_all [fc_isBlock]; done))) ?_
                        exact W.zret hx hb hr (sf_b_nb _) (fun t ht _ => ⟨rfl, ht⟩) (fun _ h => nomatch h) dX2_isBlock_153
                      · refine lv_iload_n hx hb dX2_isBlock_131 rfl (lv_at hl 3 rfl) ?_
                        refine lv_bipush (v := 8) hx hb dX2_isBlock_132 (by decide) ?_
                        refine sf_callRi (va_runS (As := [.int c0, .int 8]) (rest := []) ⟨hx, hb, hml, hown, hg⟩ (c_X2_isIndex l c0 8) (cwS 2 hg (gw_S mw_163 mw_164 mw_21 mw_165) rfl rfl rfl (by decide +kernel) ⟨Nat.le_of_ble_eq_true rfl, Nat.le_of_ble_eq_true rfl⟩) sf_pre0 rfl rfl hl.1 rfl (lv_room (Nat.le_of_ble_eq_true rfl)) dX2_isBlock_134 ⟨Nat.zero_le _, Nat.zero_le _⟩) ?_
                        refine sf_ifeq (tgt := 152) hx hb dX2_isBlock_137 (by decide) (fun c_29 => ?_) (fun c_29 => ?_)
                        · refine lv_iconst (v := sf_b false) hx hb dX2_isBlock_152 (by decide) ?_
                          refine sf_topi (y := sf_b (fc_isBlock k a0 b0 c0 n)) (congrArg sf_b (by first | (simp [fc_isBlock, c_1, c_2, c_5, c_8, c_11, c_14, c_17, c_20, c_23, c_27, c_28, c_29]; done) | (clear hl; simp_all [fc_isBlock]; done))) ?_
                          exact W.zret hx hb hr (sf_b_nb _) (fun t ht _ => ⟨rfl, ht⟩) (fun _ h => nomatch h) dX2_isBlock_153
                        · refine lv_dload hx hb dX2_isBlock_140 (lv_at hl 4 rfl) ?_
                          refine sf_callRi (va_runS (As := [.double n]) (rest := []) ⟨hx, hb, hml, hown, hg⟩ (c_X2_isSetting l n) (cwS 1 hg (gw_S mw_310 mw_311 mw_21 mw_312) rfl rfl rfl (by decide +kernel) ⟨Nat.le_of_ble_eq_true rfl, Nat.le_of_ble_eq_true rfl⟩) sf_pre0 rfl rfl hl.1 rfl (lv_room (Nat.le_of_ble_eq_true rfl)) dX2_isBlock_142 ⟨Nat.zero_le _, Nat.zero_le _⟩) ?_
                          refine sf_ifeq (tgt := 152) hx hb dX2_isBlock_145 (by decide) (fun c_30 => ?_) (fun c_30 => ?_)
                          · refine lv_iconst (v := sf_b false) hx hb dX2_isBlock_152 (by decide) ?_
                            refine sf_topi (y := sf_b (fc_isBlock k a0 b0 c0 n)) (congrArg sf_b (by first | (simp [fc_isBlock, c_1, c_2, c_5, c_8, c_11, c_14, c_17, c_20, c_23, c_27, c_28, c_29, c_30]; done) | (clear hl; simp_all [fc_isBlock]; done))) ?_
                            exact W.zret hx hb hr (sf_b_nb _) (fun t ht _ => ⟨rfl, ht⟩) (fun _ h => nomatch h) dX2_isBlock_153
                          · refine lv_iconst (v := sf_b true) hx hb dX2_isBlock_148 (by decide) ?_
                            refine lv_goto (tgt := 153) hx hb dX2_isBlock_149 (by decide) ?_
                            refine sf_topi (y := sf_b (fc_isBlock k a0 b0 c0 n)) (congrArg sf_b (by first | (simp [fc_isBlock, c_1, c_2, c_5, c_8, c_11, c_14, c_17, c_20, c_23, c_27, c_28, c_29, c_30]; done) | (clear hl; simp_all [fc_isBlock]; done))) ?_
                            exact W.zret hx hb hr (sf_b_nb _) (fun t ht _ => ⟨rfl, ht⟩) (fun _ h => nomatch h) dX2_isBlock_153
                    · skip
                      have h_31 : k.toInt < 0 ∨ 9 < k.toInt := by
                        have q0 : ¬ k.toInt = 0 := lv_neT c_1 (by decide)
                        have q1 : ¬ k.toInt = 1 := lv_neT c_2 (by decide)
                        have q2 : ¬ k.toInt = 2 := lv_neT c_5 (by decide)
                        have q3 : ¬ k.toInt = 3 := lv_neT c_8 (by decide)
                        have q4 : ¬ k.toInt = 4 := lv_neT c_11 (by decide)
                        have q5 : ¬ k.toInt = 5 := lv_neT c_14 (by decide)
                        have q6 : ¬ k.toInt = 6 := lv_neT c_17 (by decide)
                        have q7 : ¬ k.toInt = 7 := lv_neT c_20 (by decide)
                        have q8 : ¬ k.toInt = 8 := lv_neT c_23 (by decide)
                        have q9 : ¬ k.toInt = 9 := lv_neT c_27 (by decide)
                        omega
                      refine lv_tableOut (tgt := 154) hx hb dX2_isBlock_1 h_31 (by decide) ?_
                      refine lv_iconst (v := sf_b false) hx hb dX2_isBlock_154 (by decide) ?_
                      refine sf_topi (y := sf_b (fc_isBlock k a0 b0 c0 n)) (congrArg sf_b (by first | (simp [fc_isBlock, c_1, c_2, c_5, c_8, c_11, c_14, c_17, c_20, c_23, c_27]; done) | (clear hl; simp_all [fc_isBlock]; done))) ?_
                      exact W.zret hx hb hr (sf_b_nb _) (fun t ht _ => ⟨rfl, ht⟩) (fun _ h => nomatch h) dX2_isBlock_155
set_option maxHeartbeats 4000000 in
set_option maxRecDepth 100000 in
theorem c_X0_limited (l : Launch) (v : UInt64) (lo : UInt64) (hi : UInt64) : Met l yX0_limited wX0_limited ({ frames := 0, cells := 0, slots := 0, locals := 0 }) (sf_P0 [.double v, .double lo, .double hi]) (sf_R (some (.double (fc_lim v lo hi)))) 0 0 (fun _ => False) := by
  refine Met.ofW (cc := cX0_limited) (maxL := 6) (ret := (some .double)) (by decide) rfl ?_
  intro p e s m args below meth c s₁ B hml hv
  have hx := B.exec
  have hb := B.bytes
  have hr := B.returns
  have hts := atoms_spec (ws := wX0_limited) B.pre
  have hg : ∀ w ∈ gw_all, w.before args s = true := fun w h => hts w (List.mem_cons_of_mem _ h)
  have hown : s.vm.findClass RX0 = some m.cls := findClass_of_methodNamed B.named
  have hlocks := B.notSynchronized
  obtain ⟨rfl, -⟩ := hv
  have hl := lv_entry ([.double v, .double lo, .double hi]) (n := 6) (Nat.le_of_ble_eq_true rfl)
  rw [lg_entry_eq]
  generalize (lg_sl ([.double v, .double lo, .double hi]) ++ List.replicate (6 - (lg_sl ([.double v, .double lo, .double hi])).length) Slot.unset).toArray = ls at hl ⊢
  have hl : lv_has ls 6 [(0, .double v), (2, .double lo), (4, .double hi)] := hl
  refine lv_dload_n hx hb dX0_limited_0 rfl (lv_at hl 0 rfl) ?_
  refine lv_dload_n hx hb dX0_limited_1 rfl (lv_at hl 1 rfl) ?_
  refine lv_dcmp hx hb dX0_limited_2 ?_
  refine lv_if_ge (tgt := 10) hx hb dX0_limited_3 (by decide) (fun c_1 => ?_) (fun c_1 => ?_)
  · have c_1 := sd_g_ge.mp c_1
    refine lv_dload_n hx hb dX0_limited_10 rfl (lv_at hl 0 rfl) ?_
    refine lv_dload hx hb dX0_limited_11 (lv_at hl 2 rfl) ?_
    refine lv_dcmp hx hb dX0_limited_13 ?_
    refine lv_if_le (tgt := 22) hx hb dX0_limited_14 (by decide) (fun c_2 => ?_) (fun c_2 => ?_)
    · have c_2 := sd_l_le.mp c_2
      refine lv_dload_n hx hb dX0_limited_22 rfl (lv_at hl 0 rfl) ?_
      refine sf_topd (y := fc_lim v lo hi) (by simp [fc_lim, c_1, c_2]) ?_
      exact W.dret hx hb hr (fun t ht _ => ⟨rfl, ht⟩) (fun _ h => nomatch h) dX0_limited_23
    · have c_2 := sd_nl_le c_2
      refine lv_dload hx hb dX0_limited_17 (lv_at hl 2 rfl) ?_
      refine lv_goto (tgt := 23) hx hb dX0_limited_19 (by decide) ?_
      refine sf_topd (y := fc_lim v lo hi) (by simp [fc_lim, c_1, c_2]) ?_
      exact W.dret hx hb hr (fun t ht _ => ⟨rfl, ht⟩) (fun _ h => nomatch h) dX0_limited_23
  · have c_1 := sd_ng_ge c_1
    refine lv_dload_n hx hb dX0_limited_6 rfl (lv_at hl 1 rfl) ?_
    refine lv_goto (tgt := 23) hx hb dX0_limited_7 (by decide) ?_
    refine sf_topd (y := fc_lim v lo hi) (by simp [fc_lim, c_1]) ?_
    exact W.dret hx hb hr (fun t ht _ => ⟨rfl, ht⟩) (fun _ h => nomatch h) dX0_limited_23
set_option maxHeartbeats 4000000 in
set_option maxRecDepth 100000 in
theorem c_X3_in (l : Launch) (i : Int32) (lo : Int32) (hi : Int32) : Met l yX3_in wX3_in ({ frames := 0, cells := 0, slots := 0, locals := 0 }) (sf_P0 [.int i, .int lo, .int hi]) (sf_R (some (.int (sf_b (fc_btw i lo hi))))) 0 0 (fun _ => False) := by
  refine Met.ofW (cc := cX3_in) (maxL := 3) (ret := (some .boolean)) (by decide) rfl ?_
  intro p e s m args below meth c s₁ B hml hv
  have hx := B.exec
  have hb := B.bytes
  have hr := B.returns
  have hts := atoms_spec (ws := wX3_in) B.pre
  have hg : ∀ w ∈ gw_all, w.before args s = true := fun w h => hts w (List.mem_cons_of_mem _ h)
  have hown : s.vm.findClass RX3 = some m.cls := findClass_of_methodNamed B.named
  have hlocks := B.notSynchronized
  obtain ⟨rfl, -⟩ := hv
  have hl := lv_entry ([.int i, .int lo, .int hi]) (n := 3) (Nat.le_of_ble_eq_true rfl)
  rw [lg_entry_eq]
  generalize (lg_sl ([.int i, .int lo, .int hi]) ++ List.replicate (3 - (lg_sl ([.int i, .int lo, .int hi])).length) Slot.unset).toArray = ls at hl ⊢
  have hl : lv_has ls 3 [(0, .int i), (1, .int lo), (2, .int hi)] := hl
  refine lv_iload_n hx hb dX3_in_0 rfl (lv_at hl 0 rfl) ?_
  refine lv_iload_n hx hb dX3_in_1 rfl (lv_at hl 1 rfl) ?_
  refine lv_icmp_lt (tgt := 14) hx hb dX3_in_2 (by decide) (fun c_1 => ?_) (fun c_1 => ?_)
  · refine lv_iconst (v := sf_b false) hx hb dX3_in_14 (by decide) ?_
    refine sf_topi (y := sf_b (fc_btw i lo hi)) (congrArg sf_b (by first | (simp [fc_btw, c_1]; done) | (clear hl; simp_all [fc_btw]; done))) ?_
    exact W.zret hx hb hr (sf_b_nb _) (fun t ht _ => ⟨rfl, ht⟩) (fun _ h => nomatch h) dX3_in_15
  · refine lv_iload_n hx hb dX3_in_5 rfl (lv_at hl 0 rfl) ?_
    refine lv_iload_n hx hb dX3_in_6 rfl (lv_at hl 2 rfl) ?_
    refine lv_icmp_gt (tgt := 14) hx hb dX3_in_7 (by decide) (fun c_2 => ?_) (fun c_2 => ?_)
    · refine lv_iconst (v := sf_b false) hx hb dX3_in_14 (by decide) ?_
      refine sf_topi (y := sf_b (fc_btw i lo hi)) (congrArg sf_b (by first | (simp [fc_btw, c_1, c_2]; done) | (clear hl; simp_all [fc_btw]; done))) ?_
      exact W.zret hx hb hr (sf_b_nb _) (fun t ht _ => ⟨rfl, ht⟩) (fun _ h => nomatch h) dX3_in_15
    · refine lv_iconst (v := sf_b true) hx hb dX3_in_10 (by decide) ?_
      refine lv_goto (tgt := 15) hx hb dX3_in_11 (by decide) ?_
      refine sf_topi (y := sf_b (fc_btw i lo hi)) (congrArg sf_b (by first | (simp [fc_btw, c_1, c_2]; done) | (clear hl; simp_all [fc_btw]; done))) ?_
      exact W.zret hx hb hr (sf_b_nb _) (fun t ht _ => ⟨rfl, ht⟩) (fun _ h => nomatch h) dX3_in_15
set_option maxHeartbeats 4000000 in
set_option maxRecDepth 100000 in
theorem c_X3_at (l : Launch) (g : Int32) (r : Int32) (k : Int32) : Met l yX3_at wX3_at ({ frames := 0, cells := 0, slots := 0, locals := 0 }) (sf_P0 [.int g, .int r, .int k]) (sf_R (some (.int (fm_at g r k)))) 0 0 (fun _ => False) := by
  refine Met.ofW (cc := cX3_at) (maxL := 3) (ret := (some .int)) (by decide) rfl ?_
  intro p e s m args below meth c s₁ B hml hv
  have hx := B.exec
  have hb := B.bytes
  have hr := B.returns
  have hts := atoms_spec (ws := wX3_at) B.pre
  have hg : ∀ w ∈ gw_all, w.before args s = true := fun w h => hts w (List.mem_cons_of_mem _ h)
  have hown : s.vm.findClass RX3 = some m.cls := findClass_of_methodNamed B.named
  have hlocks := B.notSynchronized
  obtain ⟨rfl, -⟩ := hv
  have hl := lv_entry ([.int g, .int r, .int k]) (n := 3) (Nat.le_of_ble_eq_true rfl)
  rw [lg_entry_eq]
  generalize (lg_sl ([.int g, .int r, .int k]) ++ List.replicate (3 - (lg_sl ([.int g, .int r, .int k])).length) Slot.unset).toArray = ls at hl ⊢
  have hl : lv_has ls 3 [(0, .int g), (1, .int r), (2, .int k)] := hl
  refine lv_bipush (v := 12) hx hb dX3_at_0 (by decide) ?_
  refine lv_iload_n hx hb dX3_at_2 rfl (lv_at hl 0 rfl) ?_
  refine lv_imul hx hb dX3_at_3 ?_
  refine lv_iconst (v := 4) hx hb dX3_at_4 (by decide) ?_
  refine lv_iload_n hx hb dX3_at_5 rfl (lv_at hl 1 rfl) ?_
  refine lv_imul hx hb dX3_at_6 ?_
  refine lv_iadd hx hb dX3_at_7 ?_
  refine lv_iload_n hx hb dX3_at_8 rfl (lv_at hl 2 rfl) ?_
  refine lv_iadd hx hb dX3_at_9 ?_
  exact W.iret hx hb hr (fun t ht _ => ⟨rfl, ht⟩) (fun _ h => nomatch h) dX3_at_10
set_option maxHeartbeats 4000000 in
set_option maxRecDepth 100000 in
theorem c_X3_isRegister (l : Launch) (r : Int32) : Met l yX3_isRegister wX3_isRegister ({ frames := 1, cells := 0, slots := 0, locals := 22 }) (sf_P0 [.int r]) (sf_R (some (.int (sf_b (fm_reg r))))) 0 0 (fun _ => False) := by
  refine Met.ofW (cc := cX3_isRegister) (maxL := 1) (ret := (some .boolean)) (by decide) rfl ?_
  intro p e s m args below meth c s₁ B hml hv
  have hx := B.exec
  have hb := B.bytes
  have hr := B.returns
  have hts := atoms_spec (ws := wX3_isRegister) B.pre
  have hg : ∀ w ∈ gw_all, w.before args s = true := fun w h => hts w (List.mem_cons_of_mem _ h)
  have hown : s.vm.findClass RX3 = some m.cls := findClass_of_methodNamed B.named
  have hlocks := B.notSynchronized
  obtain ⟨rfl, -⟩ := hv
  have hl := lv_entry ([.int r]) (n := 1) (Nat.le_of_ble_eq_true rfl)
  rw [lg_entry_eq]
  generalize (lg_sl ([.int r]) ++ List.replicate (1 - (lg_sl ([.int r])).length) Slot.unset).toArray = ls at hl ⊢
  have hl : lv_has ls 1 [(0, .int r)] := hl
  refine lv_iload_n hx hb dX3_isRegister_0 rfl (lv_at hl 0 rfl) ?_
  refine lv_iconst (v := 0) hx hb dX3_isRegister_1 (by decide) ?_
  refine lv_bipush (v := 7) hx hb dX3_isRegister_2 (by decide) ?_
  refine sf_callRi (va_runS (As := [.int r, .int 0, .int 7]) (rest := []) ⟨hx, hb, hml, hown, hg⟩ (c_X3_in l r 0 7) (cwS 3 hg (gw_S mw_592 mw_593 mw_24 mw_594) rfl rfl rfl (by decide +kernel) ⟨Nat.le_of_ble_eq_true rfl, Nat.le_of_ble_eq_true rfl⟩) sf_pre0 rfl rfl hl.1 rfl (lv_room (Nat.le_of_ble_eq_true rfl)) dX3_isRegister_4 ⟨Nat.zero_le _, Nat.zero_le _⟩) ?_
  refine sf_topi (y := sf_b (fm_reg r)) (congrArg sf_b (by first | (simp [fm_reg]; done) | (clear hl; simp_all [fm_reg]; done))) ?_
  exact W.zret hx hb hr (sf_b_nb _) (fun t ht _ => ⟨rfl, ht⟩) (fun _ h => nomatch h) dX3_isRegister_7
set_option maxHeartbeats 4000000 in
set_option maxRecDepth 100000 in
theorem c_X3_fits (l : Launch) (k : Int32) (a0 : Int32) (b0 : Int32) (c0 : Int32) (n : UInt64) : Met l yX3_fits wX3_fits ({ frames := 2, cells := 0, slots := 0, locals := 42 }) (sf_P0 [.int k, .int a0, .int b0, .int c0, .double n]) (sf_R (some (.int (sf_b (fm_fits k a0 b0 c0 n))))) 0 0 (fun _ => False) := by
  refine Met.ofW (cc := cX3_fits) (maxL := 6) (ret := (some .boolean)) (by decide) rfl ?_
  intro p e s m args below meth c s₁ B hml hv
  have hx := B.exec
  have hb := B.bytes
  have hr := B.returns
  have hts := atoms_spec (ws := wX3_fits) B.pre
  have hg : ∀ w ∈ gw_all, w.before args s = true := fun w h => hts w (List.mem_cons_of_mem _ h)
  have hown : s.vm.findClass RX3 = some m.cls := findClass_of_methodNamed B.named
  have hlocks := B.notSynchronized
  obtain ⟨rfl, -⟩ := hv
  have hl := lv_entry ([.int k, .int a0, .int b0, .int c0, .double n]) (n := 6) (Nat.le_of_ble_eq_true rfl)
  rw [lg_entry_eq]
  generalize (lg_sl ([.int k, .int a0, .int b0, .int c0, .double n]) ++ List.replicate (6 - (lg_sl ([.int k, .int a0, .int b0, .int c0, .double n])).length) Slot.unset).toArray = ls at hl ⊢
  have hl : lv_has ls 6 [(0, .int k), (1, .int a0), (2, .int b0), (3, .int c0), (4, .double n)] := hl
  refine lv_iload_n hx hb dX3_fits_0 rfl (lv_at hl 0 rfl) ?_
  refine lv_iconst (v := 0) hx hb dX3_fits_1 (by decide) ?_
  refine lv_bipush (v := 9) hx hb dX3_fits_2 (by decide) ?_
  refine sf_callRi (va_runS (As := [.int k, .int 0, .int 9]) (rest := []) ⟨hx, hb, hml, hown, hg⟩ (c_X3_in l k 0 9) (cwS 3 hg (gw_S mw_592 mw_593 mw_24 mw_594) rfl rfl rfl (by decide +kernel) ⟨Nat.le_of_ble_eq_true rfl, Nat.le_of_ble_eq_true rfl⟩) sf_pre0 rfl rfl hl.1 rfl (lv_room (Nat.le_of_ble_eq_true rfl)) dX3_fits_4 ⟨Nat.zero_le _, Nat.zero_le _⟩) ?_
  refine sf_ifne (tgt := 12) hx hb dX3_fits_7 (by decide) (fun c_1 => ?_) (fun c_1 => ?_)
  · refine lv_iload_n hx hb dX3_fits_12 rfl (lv_at hl 0 rfl) ?_
    refine lv_if_ne (tgt := 18) hx hb dX3_fits_13 (by decide) (fun c_2 => ?_) (fun c_2 => ?_)
    · refine lv_iload_n hx hb dX3_fits_18 rfl (lv_at hl 0 rfl) ?_
      refine lv_iconst (v := 3) hx hb dX3_fits_19 (by decide) ?_
      refine lv_icmp_ge (tgt := 66) hx hb dX3_fits_20 (by decide) (fun c_3 => ?_) (fun c_3 => ?_)
      · refine lv_iload_n hx hb dX3_fits_66 rfl (lv_at hl 1 rfl) ?_
        refine sf_callRi (va_runS (As := [.int a0]) (rest := []) ⟨hx, hb, hml, hown, hg⟩ (c_X3_isRegister l a0) (cwS 1 hg (gw_S mw_618 mw_619 mw_24 mw_620) rfl rfl rfl (by decide +kernel) ⟨Nat.le_of_ble_eq_true rfl, Nat.le_of_ble_eq_true rfl⟩) sf_pre0 rfl rfl hl.1 rfl (lv_room (Nat.le_of_ble_eq_true rfl)) dX3_fits_67 ⟨Nat.zero_le _, Nat.zero_le _⟩) ?_
        refine sf_ifeq (tgt := 80) hx hb dX3_fits_70 (by decide) (fun c_4 => ?_) (fun c_4 => ?_)
        · refine lv_iconst (v := sf_b false) hx hb dX3_fits_80 (by decide) ?_
          refine sf_topi (y := sf_b (fm_fits k a0 b0 c0 n)) (congrArg sf_b (by first | (simp [fm_fits, c_1, c_2, c_3, c_4]; done) | (clear hl; simp_all [fm_fits]; done))) ?_
          exact W.zret hx hb hr (sf_b_nb _) (fun t ht _ => ⟨rfl, ht⟩) (fun _ h => nomatch h) dX3_fits_81
        · refine lv_iload_n hx hb dX3_fits_73 rfl (lv_at hl 2 rfl) ?_
          refine sf_callRi (va_runS (As := [.int b0]) (rest := []) ⟨hx, hb, hml, hown, hg⟩ (c_X3_isRegister l b0) (cwS 1 hg (gw_S mw_618 mw_619 mw_24 mw_620) rfl rfl rfl (by decide +kernel) ⟨Nat.le_of_ble_eq_true rfl, Nat.le_of_ble_eq_true rfl⟩) sf_pre0 rfl rfl hl.1 rfl (lv_room (Nat.le_of_ble_eq_true rfl)) dX3_fits_74 ⟨Nat.zero_le _, Nat.zero_le _⟩) ?_
          refine sf_ifne (tgt := 82) hx hb dX3_fits_77 (by decide) (fun c_5 => ?_) (fun c_5 => ?_)
          · refine lv_iload_n hx hb dX3_fits_82 rfl (lv_at hl 0 rfl) ?_
            refine lv_iconst (v := 3) hx hb dX3_fits_83 (by decide) ?_
            refine lv_icmp_ne (tgt := 96) hx hb dX3_fits_84 (by decide) (fun c_6 => ?_) (fun c_6 => ?_)
            · refine lv_iload_n hx hb dX3_fits_96 rfl (lv_at hl 3 rfl) ?_
              refine sf_callRi (va_runS (As := [.int c0]) (rest := []) ⟨hx, hb, hml, hown, hg⟩ (c_X3_isRegister l c0) (cwS 1 hg (gw_S mw_618 mw_619 mw_24 mw_620) rfl rfl rfl (by decide +kernel) ⟨Nat.le_of_ble_eq_true rfl, Nat.le_of_ble_eq_true rfl⟩) sf_pre0 rfl rfl hl.1 rfl (lv_room (Nat.le_of_ble_eq_true rfl)) dX3_fits_97 ⟨Nat.zero_le _, Nat.zero_le _⟩) ?_
              refine sf_ifeq (tgt := 131) hx hb dX3_fits_100 (by decide) (fun c_7 => ?_) (fun c_7 => ?_)
              · refine lv_iconst (v := sf_b false) hx hb dX3_fits_131 (by decide) ?_
                refine sf_topi (y := sf_b (fm_fits k a0 b0 c0 n)) (congrArg sf_b (by first | (simp [fm_fits, c_1, c_2, c_3, c_4, c_5, c_6, c_7]; done) | (clear hl; simp_all [fm_fits]; done))) ?_
                exact W.zret hx hb hr (sf_b_nb _) (fun t ht _ => ⟨rfl, ht⟩) (fun _ h => nomatch h) dX3_fits_132
              · refine lv_iload_n hx hb dX3_fits_103 rfl (lv_at hl 0 rfl) ?_
                refine lv_bipush (v := 8) hx hb dX3_fits_104 (by decide) ?_
                refine lv_icmp_lt (tgt := 127) hx hb dX3_fits_106 (by decide) (fun c_8 => ?_) (fun c_8 => ?_)
                · refine lv_iconst (v := sf_b true) hx hb dX3_fits_127 (by decide) ?_
                  refine lv_goto (tgt := 132) hx hb dX3_fits_128 (by decide) ?_
                  refine sf_topi (y := sf_b (fm_fits k a0 b0 c0 n)) (congrArg sf_b (by first | (simp [fm_fits, c_1, c_2, c_3, c_4, c_5, c_6, c_7, c_8]; done) | (clear hl; simp_all [fm_fits]; done))) ?_
                  exact W.zret hx hb hr (sf_b_nb _) (fun t ht _ => ⟨rfl, ht⟩) (fun _ h => nomatch h) dX3_fits_132
                · refine lv_dload hx hb dX3_fits_109 (lv_at hl 4 rfl) ?_
                  refine lv_ldc2d (v := 13875379345695965184) hx hb hown (hg _ mw_621) dX3_fits_111 ?_
                  refine lv_dcmp hx hb dX3_fits_114 ?_
                  refine lv_if_lt (tgt := 131) hx hb dX3_fits_115 (by decide) (fun c_9 => ?_) (fun c_9 => ?_)
                  · have c_9 := sd_l_lt.mp c_9
                    refine lv_iconst (v := sf_b false) hx hb dX3_fits_131 (by decide) ?_
                    refine sf_topi (y := sf_b (fm_fits k a0 b0 c0 n)) (congrArg sf_b (by first | (simp [fm_fits, c_1, c_2, c_3, c_4, c_5, c_6, c_7, c_8, c_9]; done) | (clear hl; simp_all [fm_fits]; done))) ?_
                    exact W.zret hx hb hr (sf_b_nb _) (fun t ht _ => ⟨rfl, ht⟩) (fun _ h => nomatch h) dX3_fits_132
                  · have c_9 := sd_nl_lt c_9
                    refine lv_dload hx hb dX3_fits_118 (lv_at hl 4 rfl) ?_
                    refine lv_ldc2d (v := 4652007308841189376) hx hb hown (hg _ mw_617) dX3_fits_120 ?_
                    refine lv_dcmp hx hb dX3_fits_123 ?_
                    refine lv_if_gt (tgt := 131) hx hb dX3_fits_124 (by decide) (fun c_10 => ?_) (fun c_10 => ?_)
                    · have c_10 := sd_g_gt.mp c_10
                      refine lv_iconst (v := sf_b false) hx hb dX3_fits_131 (by decide) ?_
                      refine sf_topi (y := sf_b (fm_fits k a0 b0 c0 n)) (congrArg sf_b (by first | (simp [fm_fits, c_1, c_2, c_3, c_4, c_5, c_6, c_7, c_8, c_9, c_10]; done) | (clear hl; simp_all [fm_fits]; done))) ?_
                      exact W.zret hx hb hr (sf_b_nb _) (fun t ht _ => ⟨rfl, ht⟩) (fun _ h => nomatch h) dX3_fits_132
                    · have c_10 := sd_ng_gt c_10
                      refine lv_iconst (v := sf_b true) hx hb dX3_fits_127 (by decide) ?_
                      refine lv_goto (tgt := 132) hx hb dX3_fits_128 (by decide) ?_
                      refine sf_topi (y := sf_b (fm_fits k a0 b0 c0 n)) (congrArg sf_b (by first | (simp [fm_fits, c_1, c_2, c_3, c_4, c_5, c_6, c_7, c_8, c_9, c_10]; done) | (clear hl; simp_all [fm_fits]; done))) ?_
                      exact W.zret hx hb hr (sf_b_nb _) (fun t ht _ => ⟨rfl, ht⟩) (fun _ h => nomatch h) dX3_fits_132
            · refine lv_iload_n hx hb dX3_fits_87 rfl (lv_at hl 3 rfl) ?_
              refine lv_bipush (v := 8) hx hb dX3_fits_88 (by decide) ?_
              refine lv_bipush (v := 21) hx hb dX3_fits_90 (by decide) ?_
              refine sf_callRi (va_runS (As := [.int c0, .int 8, .int 21]) (rest := []) ⟨hx, hb, hml, hown, hg⟩ (c_X3_in l c0 8 21) (cwS 3 hg (gw_S mw_592 mw_593 mw_24 mw_594) rfl rfl rfl (by decide +kernel) ⟨Nat.le_of_ble_eq_true rfl, Nat.le_of_ble_eq_true rfl⟩) sf_pre0 rfl rfl hl.1 rfl (lv_room (Nat.le_of_ble_eq_true rfl)) dX3_fits_92 ⟨Nat.zero_le _, Nat.zero_le _⟩) ?_
              refine sf_topi (y := sf_b (fm_fits k a0 b0 c0 n)) (congrArg sf_b (by first | (simp [fm_fits, c_1, c_2, c_3, c_4, c_5, c_6]; done) | (clear hl; simp_all [fm_fits]; done))) ?_
              exact W.zret hx hb hr (sf_b_nb _) (fun t ht _ => ⟨rfl, ht⟩) (fun _ h => nomatch h) dX3_fits_95
          · refine lv_iconst (v := sf_b false) hx hb dX3_fits_80 (by decide) ?_
            refine sf_topi (y := sf_b (fm_fits k a0 b0 c0 n)) (congrArg sf_b (by first | (simp [fm_fits, c_1, c_2, c_3, c_4, c_5]; done) | (clear hl; simp_all [fm_fits]; done))) ?_
            exact W.zret hx hb hr (sf_b_nb _) (fun t ht _ => ⟨rfl, ht⟩) (fun _ h => nomatch h) dX3_fits_81
      · refine lv_iload_n hx hb dX3_fits_23 rfl (lv_at hl 3 rfl) ?_
        refine lv_bipush (v := 8) hx hb dX3_fits_24 (by decide) ?_
        refine lv_bipush (v := 21) hx hb dX3_fits_26 (by decide) ?_
        refine sf_callRi (va_runS (As := [.int c0, .int 8, .int 21]) (rest := []) ⟨hx, hb, hml, hown, hg⟩ (c_X3_in l c0 8 21) (cwS 3 hg (gw_S mw_592 mw_593 mw_24 mw_594) rfl rfl rfl (by decide +kernel) ⟨Nat.le_of_ble_eq_true rfl, Nat.le_of_ble_eq_true rfl⟩) sf_pre0 rfl rfl hl.1 rfl (lv_room (Nat.le_of_ble_eq_true rfl)) dX3_fits_28 ⟨Nat.zero_le _, Nat.zero_le _⟩) ?_
        refine sf_ifeq (tgt := 64) hx hb dX3_fits_31 (by decide) (fun c_11 => ?_) (fun c_11 => ?_)
        · refine lv_iconst (v := sf_b false) hx hb dX3_fits_64 (by decide) ?_
          refine sf_topi (y := sf_b (fm_fits k a0 b0 c0 n)) (congrArg sf_b (by first | (simp [fm_fits, c_1, c_2, c_3, c_11]; done) | (clear hl; simp_all [fm_fits]; done))) ?_
          exact W.zret hx hb hr (sf_b_nb _) (fun t ht _ => ⟨rfl, ht⟩) (fun _ h => nomatch h) dX3_fits_65
        · refine lv_dload hx hb dX3_fits_34 (lv_at hl 4 rfl) ?_
          refine lv_dconst1 hx hb dX3_fits_36 ?_
          refine lv_dcmp hx hb dX3_fits_37 ?_
          refine lv_if_lt (tgt := 64) hx hb dX3_fits_38 (by decide) (fun c_12 => ?_) (fun c_12 => ?_)
          · have c_12 := sd_l_lt.mp c_12
            refine lv_iconst (v := sf_b false) hx hb dX3_fits_64 (by decide) ?_
            refine sf_topi (y := sf_b (fm_fits k a0 b0 c0 n)) (congrArg sf_b (by first | (simp [fm_fits, c_1, c_2, c_3, c_11, c_12]; done) | (clear hl; simp_all [fm_fits]; done))) ?_
            exact W.zret hx hb hr (sf_b_nb _) (fun t ht _ => ⟨rfl, ht⟩) (fun _ h => nomatch h) dX3_fits_65
          · have c_12 := sd_nl_lt c_12
            refine lv_dload hx hb dX3_fits_41 (lv_at hl 4 rfl) ?_
            refine lv_ldc2d (v := 4652007308841189376) hx hb hown (hg _ mw_617) dX3_fits_43 ?_
            refine lv_dcmp hx hb dX3_fits_46 ?_
            refine lv_if_gt (tgt := 64) hx hb dX3_fits_47 (by decide) (fun c_13 => ?_) (fun c_13 => ?_)
            · have c_13 := sd_g_gt.mp c_13
              refine lv_iconst (v := sf_b false) hx hb dX3_fits_64 (by decide) ?_
              refine sf_topi (y := sf_b (fm_fits k a0 b0 c0 n)) (congrArg sf_b (by first | (simp [fm_fits, c_1, c_2, c_3, c_11, c_12, c_13]; done) | (clear hl; simp_all [fm_fits]; done))) ?_
              exact W.zret hx hb hr (sf_b_nb _) (fun t ht _ => ⟨rfl, ht⟩) (fun _ h => nomatch h) dX3_fits_65
            · have c_13 := sd_ng_gt c_13
              refine lv_dload hx hb dX3_fits_50 (lv_at hl 4 rfl) ?_
              refine lv_dload hx hb dX3_fits_52 (lv_at hl 4 rfl) ?_
              refine lv_d2i hx hb dX3_fits_54 ?_
              refine lv_i2d hx hb dX3_fits_55 ?_
              refine lv_dcmp hx hb dX3_fits_56 ?_
              refine lv_if_ne (tgt := 64) hx hb dX3_fits_57 (by decide) (fun c_14 => ?_) (fun c_14 => ?_)
              · have c_14 := sd_nl_eq c_14
                refine lv_iconst (v := sf_b false) hx hb dX3_fits_64 (by decide) ?_
                refine sf_topi (y := sf_b (fm_fits k a0 b0 c0 n)) (congrArg sf_b (by first | (simp [fm_fits, c_1, c_2, c_3, c_11, c_12, c_13, c_14]; done) | (clear hl; simp_all [fm_fits]; done))) ?_
                exact W.zret hx hb hr (sf_b_nb _) (fun t ht _ => ⟨rfl, ht⟩) (fun _ h => nomatch h) dX3_fits_65
              · have c_14 := sd_l_eq.mp c_14
                refine lv_iconst (v := sf_b true) hx hb dX3_fits_60 (by decide) ?_
                refine lv_goto (tgt := 65) hx hb dX3_fits_61 (by decide) ?_
                refine sf_topi (y := sf_b (fm_fits k a0 b0 c0 n)) (congrArg sf_b (by first | (simp [fm_fits, c_1, c_2, c_3, c_11, c_12, c_13, c_14]; done) | (clear hl; simp_all [fm_fits]; done))) ?_
                exact W.zret hx hb hr (sf_b_nb _) (fun t ht _ => ⟨rfl, ht⟩) (fun _ h => nomatch h) dX3_fits_65
    · refine lv_iconst (v := sf_b true) hx hb dX3_fits_16 (by decide) ?_
      refine sf_topi (y := sf_b (fm_fits k a0 b0 c0 n)) (congrArg sf_b (by first | (simp [fm_fits, c_1, c_2]; done) | (clear hl; simp_all [fm_fits]; done))) ?_
      exact W.zret hx hb hr (sf_b_nb _) (fun t ht _ => ⟨rfl, ht⟩) (fun _ h => nomatch h) dX3_fits_17
  · refine lv_iconst (v := sf_b false) hx hb dX3_fits_10 (by decide) ?_
    refine sf_topi (y := sf_b (fm_fits k a0 b0 c0 n)) (congrArg sf_b (by first | (simp [fm_fits, c_1]; done) | (clear hl; simp_all [fm_fits]; done))) ?_
    exact W.zret hx hb hr (sf_b_nb _) (fun t ht _ => ⟨rfl, ht⟩) (fun _ h => nomatch h) dX3_fits_11
end
section
/-! the class's state as a value (st_), its pictures (wp_), what its methods compute (fr_, fb_, fs_) -/
/-- a RUNG: kinds, bits, what was on, links, powers, coils' kinds, coils' numbers -/
abbrev st_R : Type := (Nat → Int32) × (Nat → Int32) × (Nat → Bool) × (Nat → Bool) × (Nat → Bool) × (Nat → Int32) × (Nat → Int32)
/-- a BLOCK: kind, a, b, c, n, guarded, counted, hadPower, sum, errorBefore, runs, faults -/
abbrev st_B : Type := Int32 × Int32 × Int32 × Int32 × UInt64 × Bool × Int32 × Bool × UInt64 × UInt64 × Int32 × Int32
abbrev wp_Z (a : Nat) (cZ : ClassId) (n : Nat) (f : Nat → Bool) : Nat × va_E := (a, .inl (cZ, n, .inl (fun j => sf_b (f j))))
abbrev wp_I (a : Nat) (cI : ClassId) (n : Nat) (f : Nat → Int32) : Nat × va_E := (a, .inl (cI, n, .inl f))
abbrev wp_D (a : Nat) (cD : ClassId) (n : Nat) (f : Nat → UInt64) : Nat × va_E := (a, .inl (cD, n, .inr (.inr (.inr (.inl f)))))
abbrev wp_R (cI cZ : ClassId) (a : Nat → Nat) (r : st_R) : va_W := [(a 0, .inr (1, [.ref (a 1), .ref (a 2), .ref (a 3), .ref (a 4), .ref (a 5), .ref (a 6), .ref (a 7)])),
  wp_I (a 1) cI 12 r.1, wp_I (a 2) cI 12 r.2.1, wp_Z (a 3) cZ 12 r.2.2.1, wp_Z (a 4) cZ 8 r.2.2.2.1, wp_Z (a 5) cZ 15 r.2.2.2.2.1, wp_I (a 6) cI 3 r.2.2.2.2.2.1, wp_I (a 7) cI 3 r.2.2.2.2.2.2]
abbrev wp_B (a : Nat) (b : st_B) : Nat × va_E := (a, .inr (0, [.int b.1, .int b.2.1, .int b.2.2.1, .int b.2.2.2.1, .double b.2.2.2.2.1, .int (sf_b b.2.2.2.2.2.1), .int b.2.2.2.2.2.2.1, .int (sf_b b.2.2.2.2.2.2.2.1), .double b.2.2.2.2.2.2.2.2.1, .double b.2.2.2.2.2.2.2.2.2.1, .int b.2.2.2.2.2.2.2.2.2.2.1, .int b.2.2.2.2.2.2.2.2.2.2.2]))
theorem ix_nat {x N : Int32} {n : Nat} (hN : N = nI n) (hn : n < 2 ^ 31) (h : fc_ix x N = true) : x = nI x.toNatClampNeg ∧ x.toNatClampNeg < n := by
  unfold fc_ix at h
  rw [Bool.and_eq_true, decide_eq_true_eq, decide_eq_true_eq] at h
  rcases pk_ix x hn with q | q | ⟨j, hj, q⟩
  · exact absurd q h.1
  · exact absurd (hN ▸ q) h.2
  · rw [q, nI_clamp (Nat.lt_trans hj hn)]
    exact ⟨rfl, hj⟩
-- RUNG
def fr_cell (r : st_R) (j : Nat) (k b : Int32) : st_R := (va_up r.1 j k, va_up r.2.1 j (if fc_looks k = true then b else 0), va_up r.2.2.1 j false, r.2.2.2)
def fr_link (r : st_R) (j : Nat) (x : Bool) : st_R := (r.1, r.2.1, r.2.2.1, va_up r.2.2.2.1 j x, r.2.2.2.2)
def fr_coil (r : st_R) (j : Nat) (k n : Int32) : st_R := (r.1, r.2.1, r.2.2.1, r.2.2.2.1, r.2.2.2.2.1, va_up r.2.2.2.2.2.1 j k, va_up r.2.2.2.2.2.2 j n)
def fr_con (k : Int32) (on was : Bool) : Bool := if k = 1 then true else if k = 2 then on else if k = 3 then !on else if k = 4 then on && !was else if k = 5 then !on && was else false
def fr_on (r : st_R) (bt : Nat → Bool) (j : Nat) : Bool := bt (r.2.1 j).toNatClampNeg
def fr_cond (r : st_R) (bt : Nat → Bool) (j : Nat) : Bool := fr_con (r.1 j) (fr_on r bt j) (r.2.2.1 j)
def fr_seen (r : st_R) (bt : Nat → Bool) (j : Nat) : st_R := (r.1, r.2.1, va_up r.2.2.1 j (fr_on r bt j), r.2.2.2)
def fr_pw (r : st_R) (f : Nat → Bool) : st_R := (r.1, r.2.1, r.2.2.1, r.2.2.2.1, f, r.2.2.2.2.2)
def fr_either (r : st_R) (u : Nat) : Bool := r.2.2.2.2.1 u || r.2.2.2.2.1 (u + 5)
def fr_join (r : st_R) (row col : Nat) : st_R := if r.2.2.2.1 (row * 4 + col) = true then
    fr_pw r (va_up (va_up r.2.2.2.2.1 (row * 5 + col + 1) (fr_either r (row * 5 + col + 1))) (row * 5 + col + 1 + 5) (fr_either r (row * 5 + col + 1))) else r
def fr_step (r : st_R) (bt : Nat → Bool) (col row : Nat) : st_R := fr_pw (fr_seen r bt (row * 4 + col)) (va_up r.2.2.2.2.1 (row * 5 + col + 1) (fr_cond r bt (row * 4 + col) && r.2.2.2.2.1 (row * 5 + col)))
def fr_start (r : st_R) : st_R := fr_pw r (va_up (va_up (va_up r.2.2.2.2.1 (0 * 5) true) (1 * 5) true) (2 * 5) true)
def fr_col (r : st_R) (bt : Nat → Bool) (col : Nat) : st_R := fr_join (fr_join (fr_join (fr_step (fr_step (fr_step r bt col 0) bt col 1) bt col 2) 0 col) 1 col) 0 col
def fr_look (r : st_R) (bt : Nat → Bool) : st_R := fr_col (fr_col (fr_col (fr_col (fr_start r) bt 0) bt 1) bt 2) bt 3
theorem fr_pw_cb (r : st_R) (f : Nat → Bool) : (fr_pw r f).2.1 = r.2.1 := rfl
theorem fr_join_cb (r : st_R) (i j : Nat) : (fr_join r i j).2.1 = r.2.1 := by
  unfold fr_join
  split
  · rfl
  · rfl
theorem fr_step_cb (r : st_R) (bt : Nat → Bool) (i j : Nat) : (fr_step r bt i j).2.1 = r.2.1 := rfl
theorem fr_start_cb (r : st_R) : (fr_start r).2.1 = r.2.1 := rfl
theorem fr_cols (r : st_R) (bt : Nat → Bool) (i : Nat) : (fr_col r bt i).2.1 = r.2.1 := by
  unfold fr_col
  rw [fr_join_cb, fr_join_cb, fr_join_cb, fr_step_cb, fr_step_cb, fr_step_cb]
end
section
set_option maxHeartbeats 4000000 in
set_option maxRecDepth 100000 in
theorem c_X1_changeCell (l : Launch) (dC : Nat → ClassId) (dI : Nat → Nat → Nat) (cI cZ : ClassId) (a : Nat → Nat) (r : st_R) (row col : Nat) (k b : Int32) (sz : Nat) (hrow : row < 3) (hcol : col < 4) : Met l yX1_changeCell wX1_changeCell ({ frames := 2, cells := 0, slots := 0, locals := 42 }) (sf_PV (dC, dI) vwCl [(cI, .int), (cZ, .boolean)] (wp_R cI cZ a r) sz [.ref (a 0), .int (nI row), .int (nI col), .int k, .int b]) (sf_V (dC, dI) vwCl (some (.int (r.1 (row * 4 + col)))) (wp_R cI cZ a r) (wp_R cI cZ a (fr_cell r (row * 4 + col) k b))) 0 0 (va_A (wp_R cI cZ a r) sz) := by
  refine Met.ofW (cc := cX1_changeCell) (maxL := 7) (ret := (some .int)) (by decide) rfl ?_
  intro p e s m args below meth c s₁ B hml hv
  have hx := B.exec
  have hb := B.bytes
  have hr := B.returns
  have hts := atoms_spec (ws := wX1_changeCell) B.pre
  have hg : ∀ w ∈ gw_all, w.before args s = true := fun w h => hts w (List.mem_cons_of_mem _ h)
  have hown : s.vm.findClass RX1 = some m.cls := findClass_of_methodNamed B.named
  have hlocks := B.notSynchronized
  obtain ⟨rfl, hsz, hP, hD0, hK, hZ⟩ := hv
  subst hsz
  have hl := lv_entry ([.ref (a 0), .int (nI row), .int (nI col), .int k, .int b]) (n := 7) (Nat.le_of_ble_eq_true rfl)
  rw [lg_entry_eq]
  generalize (lg_sl ([.ref (a 0), .int (nI row), .int (nI col), .int k, .int b]) ++ List.replicate (7 - (lg_sl ([.ref (a 0), .int (nI row), .int (nI col), .int k, .int b])).length) Slot.unset).toArray = ls at hl ⊢
  have hl : lv_has ls 7 [(0, .ref (a 0)), (1, .int (nI row)), (2, .int (nI col)), (3, .int k), (4, .int b)] := hl
  obtain ⟨A, hAe⟩ : ∃ A : Nat → Prop, A = va_A (wp_R cI cZ a r) s.heap.size := ⟨_, rfl⟩
  have hD := hD0.self (sz := s.heap.size)
  rw [← hAe] at hD
  have hA : ∀ q : Nat, s.heap.size ≤ q → A q := fun q h => by rw [hAe]; exact Or.inr h
  have hS : va_S A s.heap s.heap [] := va_S.rf
  have hP : va_P (dC, dI) vwCl [(a 0, .inr (1, [.ref (a 1), .ref (a 2), .ref (a 3), .ref (a 4), .ref (a 5), .ref (a 6), .ref (a 7)])), (a 1, .inl (cI, 12, .inl r.1)), (a 2, .inl (cI, 12, .inl r.2.1)), (a 3, .inl (cZ, 12, .inl (fun i9 => sf_b (r.2.2.1 i9)))), (a 4, .inl (cZ, 8, .inl (fun i9 => sf_b (r.2.2.2.1 i9)))), (a 5, .inl (cZ, 15, .inl (fun i9 => sf_b (r.2.2.2.2.1 i9)))), (a 6, .inl (cI, 3, .inl r.2.2.2.2.2.1)), (a 7, .inl (cI, 3, .inl r.2.2.2.2.2.2))] s.heap := hP
  have hD : va_D A [(a 0, .inr (1, [.ref (a 1), .ref (a 2), .ref (a 3), .ref (a 4), .ref (a 5), .ref (a 6), .ref (a 7)])), (a 1, .inl (cI, 12, .inl r.1)), (a 2, .inl (cI, 12, .inl r.2.1)), (a 3, .inl (cZ, 12, .inl (fun i9 => sf_b (r.2.2.1 i9)))), (a 4, .inl (cZ, 8, .inl (fun i9 => sf_b (r.2.2.2.1 i9)))), (a 5, .inl (cZ, 15, .inl (fun i9 => sf_b (r.2.2.2.2.1 i9)))), (a 6, .inl (cI, 3, .inl r.2.2.2.2.2.1)), (a 7, .inl (cI, 3, .inl r.2.2.2.2.2.2))] := hD
  refine lv_iload_n hx hb dX1_changeCell_0 rfl (lv_at hl 1 rfl) ?_
  refine lv_iconst (v := 4) hx hb dX1_changeCell_1 (by decide) ?_
  refine lv_imul hx hb dX1_changeCell_2 ?_
  refine sf_topi (y := nI (row * 4)) (pk_mul row 4) ?_
  refine lv_iload_n hx hb dX1_changeCell_3 rfl (lv_at hl 2 rfl) ?_
  refine lv_iadd hx hb dX1_changeCell_4 ?_
  refine sf_topi (y := nI (row * 4 + col)) (nI_add (row * 4) col) ?_
  refine lv_istore (lv' := [(5, .int (nI (row * 4 + col))), (0, .ref (a 0)), (1, .int (nI row)), (2, .int (nI col)), (3, .int k), (4, .int b)]) hx hb dX1_changeCell_5 hl (by decide) rfl (fun ls hl => ?_)
  refine lv_aload_n hx hb dX1_changeCell_7 rfl (lv_at hl 1 rfl) ?_
  refine va_get (D := (dC, dI)) (ci := 1) (v := .ref (a 1)) (C := RX1) (T := TX1) (N := 7) hx hb hg in_X1 hown hK hP 0 rfl rfl 0 (by decide) (hg _ mw_47) (fun _ h9 => h9) rfl dX1_changeCell_8 ?_
  refine lv_iload hx hb dX1_changeCell_11 (lv_at hl 0 rfl) ?_
  refine sf_iald hx hb hK hP 1 0 rfl rfl (row * 4 + col) rfl (by omega) (by decide) dX1_changeCell_13 ?_
  refine lv_istore (lv' := [(6, .int (r.1 (row * 4 + col))), (5, .int (nI (row * 4 + col))), (0, .ref (a 0)), (1, .int (nI row)), (2, .int (nI col)), (3, .int k), (4, .int b)]) hx hb dX1_changeCell_14 hl (by decide) rfl (fun ls hl => ?_)
  refine lv_aload_n hx hb dX1_changeCell_16 rfl (lv_at hl 2 rfl) ?_
  refine va_get (D := (dC, dI)) (ci := 1) (v := .ref (a 1)) (C := RX1) (T := TX1) (N := 7) hx hb hg in_X1 hown hK hP 0 rfl rfl 0 (by decide) (hg _ mw_47) (fun _ h9 => h9) rfl dX1_changeCell_17 ?_
  refine lv_iload hx hb dX1_changeCell_20 (lv_at hl 1 rfl) ?_
  refine lv_iload_n hx hb dX1_changeCell_22 rfl (lv_at hl 5 rfl) ?_
  refine sf_iast hx hb hK hP hD hS 1 0 rfl rfl (row * 4 + col) rfl (by omega) (by decide) dX1_changeCell_23 (fun H locs hP hD hS => ?_)
  have hP : va_P (dC, dI) vwCl [(a 0, .inr (1, [.ref (a 1), .ref (a 2), .ref (a 3), .ref (a 4), .ref (a 5), .ref (a 6), .ref (a 7)])), (a 1, .inl (cI, 12, .inl (va_up r.1 (row * 4 + col) k))), (a 2, .inl (cI, 12, .inl r.2.1)), (a 3, .inl (cZ, 12, .inl (fun i9 => sf_b (r.2.2.1 i9)))), (a 4, .inl (cZ, 8, .inl (fun i9 => sf_b (r.2.2.2.1 i9)))), (a 5, .inl (cZ, 15, .inl (fun i9 => sf_b (r.2.2.2.2.1 i9)))), (a 6, .inl (cI, 3, .inl r.2.2.2.2.2.1)), (a 7, .inl (cI, 3, .inl r.2.2.2.2.2.2))] H := hP
  have hD : va_D A [(a 0, .inr (1, [.ref (a 1), .ref (a 2), .ref (a 3), .ref (a 4), .ref (a 5), .ref (a 6), .ref (a 7)])), (a 1, .inl (cI, 12, .inl (va_up r.1 (row * 4 + col) k))), (a 2, .inl (cI, 12, .inl r.2.1)), (a 3, .inl (cZ, 12, .inl (fun i9 => sf_b (r.2.2.1 i9)))), (a 4, .inl (cZ, 8, .inl (fun i9 => sf_b (r.2.2.2.1 i9)))), (a 5, .inl (cZ, 15, .inl (fun i9 => sf_b (r.2.2.2.2.1 i9)))), (a 6, .inl (cI, 3, .inl r.2.2.2.2.2.1)), (a 7, .inl (cI, 3, .inl r.2.2.2.2.2.2))] := hD
  refine lv_aload_n hx hb dX1_changeCell_24 rfl (lv_at hl 2 rfl) ?_
  refine va_get (D := (dC, dI)) (ci := 1) (v := .ref (a 2)) (C := RX1) (T := TX1) (N := 7) hx hb hg in_X1 hown hK hP 0 rfl rfl 1 (by decide) (hg _ mw_48) (fun _ h9 => h9) rfl dX1_changeCell_25 ?_
  refine lv_iload hx hb dX1_changeCell_28 (lv_at hl 1 rfl) ?_
  refine lv_iload_n hx hb dX1_changeCell_30 rfl (lv_at hl 5 rfl) ?_
  refine sf_callRi (va_runSN (As := [.int k]) (rest := [.int (nI (row * 4 + col)), .ref (a 2)]) ⟨hx, hb, hml, hown, hg⟩ (c_X2_looksAtBit l k) ⟨(va_cnB 1 hg (gw_C mw_162) rfl rfl rfl (hZ (.methodLinkNest RX1 34 yX2_looksAtBit RX2) (by decide +kernel)) (hg _ mw_21) (by decide +kernel) ⟨Nat.le_of_ble_eq_true rfl, Nat.le_of_ble_eq_true rfl⟩), hg _ mw_161, trivial⟩ sf_pre0 rfl rfl hl.1 rfl (lv_room (Nat.le_of_ble_eq_true rfl)) dX1_changeCell_31 ⟨Nat.zero_le _, Nat.zero_le _⟩) ?_
  refine sf_ifeq (tgt := 42) hx hb dX1_changeCell_34 (by decide) (fun c_1 => ?_) (fun c_1 => ?_)
  · refine lv_iconst (v := 0) hx hb dX1_changeCell_42 (by decide) ?_
    refine sf_iast hx hb hK hP hD hS 2 0 rfl rfl (row * 4 + col) rfl (by omega) (by decide) dX1_changeCell_43 (fun H locs hP hD hS => ?_)
    have hP : va_P (dC, dI) vwCl [(a 0, .inr (1, [.ref (a 1), .ref (a 2), .ref (a 3), .ref (a 4), .ref (a 5), .ref (a 6), .ref (a 7)])), (a 1, .inl (cI, 12, .inl (va_up r.1 (row * 4 + col) k))), (a 2, .inl (cI, 12, .inl (va_up r.2.1 (row * 4 + col) 0))), (a 3, .inl (cZ, 12, .inl (fun i9 => sf_b (r.2.2.1 i9)))), (a 4, .inl (cZ, 8, .inl (fun i9 => sf_b (r.2.2.2.1 i9)))), (a 5, .inl (cZ, 15, .inl (fun i9 => sf_b (r.2.2.2.2.1 i9)))), (a 6, .inl (cI, 3, .inl r.2.2.2.2.2.1)), (a 7, .inl (cI, 3, .inl r.2.2.2.2.2.2))] H := hP
    have hD : va_D A [(a 0, .inr (1, [.ref (a 1), .ref (a 2), .ref (a 3), .ref (a 4), .ref (a 5), .ref (a 6), .ref (a 7)])), (a 1, .inl (cI, 12, .inl (va_up r.1 (row * 4 + col) k))), (a 2, .inl (cI, 12, .inl (va_up r.2.1 (row * 4 + col) 0))), (a 3, .inl (cZ, 12, .inl (fun i9 => sf_b (r.2.2.1 i9)))), (a 4, .inl (cZ, 8, .inl (fun i9 => sf_b (r.2.2.2.1 i9)))), (a 5, .inl (cZ, 15, .inl (fun i9 => sf_b (r.2.2.2.2.1 i9)))), (a 6, .inl (cI, 3, .inl r.2.2.2.2.2.1)), (a 7, .inl (cI, 3, .inl r.2.2.2.2.2.2))] := hD
    refine lv_aload_n hx hb dX1_changeCell_44 rfl (lv_at hl 2 rfl) ?_
    refine va_get (D := (dC, dI)) (ci := 1) (v := .ref (a 3)) (C := RX1) (T := TX1) (N := 7) hx hb hg in_X1 hown hK hP 0 rfl rfl 2 (by decide) (hg _ mw_49) (fun _ h9 => h9) rfl dX1_changeCell_45 ?_
    refine lv_iload hx hb dX1_changeCell_48 (lv_at hl 1 rfl) ?_
    refine lv_iconst (v := 0) hx hb dX1_changeCell_50 (by decide) ?_
    refine sf_topi (y := sf_b false) rfl ?_
    refine sf_zast hx hb hK hP hD hS 3 1 rfl rfl (row * 4 + col) rfl (by omega) (by decide) dX1_changeCell_51 (fun H locs hP hD hS => ?_)
    have hP : va_P (dC, dI) vwCl [(a 0, .inr (1, [.ref (a 1), .ref (a 2), .ref (a 3), .ref (a 4), .ref (a 5), .ref (a 6), .ref (a 7)])), (a 1, .inl (cI, 12, .inl (va_up r.1 (row * 4 + col) k))), (a 2, .inl (cI, 12, .inl (va_up r.2.1 (row * 4 + col) 0))), (a 3, .inl (cZ, 12, .inl (fun i9 => sf_b ((va_up r.2.2.1 (row * 4 + col) false) i9)))), (a 4, .inl (cZ, 8, .inl (fun i9 => sf_b (r.2.2.2.1 i9)))), (a 5, .inl (cZ, 15, .inl (fun i9 => sf_b (r.2.2.2.2.1 i9)))), (a 6, .inl (cI, 3, .inl r.2.2.2.2.2.1)), (a 7, .inl (cI, 3, .inl r.2.2.2.2.2.2))] H := hP
    have hD : va_D A [(a 0, .inr (1, [.ref (a 1), .ref (a 2), .ref (a 3), .ref (a 4), .ref (a 5), .ref (a 6), .ref (a 7)])), (a 1, .inl (cI, 12, .inl (va_up r.1 (row * 4 + col) k))), (a 2, .inl (cI, 12, .inl (va_up r.2.1 (row * 4 + col) 0))), (a 3, .inl (cZ, 12, .inl (fun i9 => sf_b ((va_up r.2.2.1 (row * 4 + col) false) i9)))), (a 4, .inl (cZ, 8, .inl (fun i9 => sf_b (r.2.2.2.1 i9)))), (a 5, .inl (cZ, 15, .inl (fun i9 => sf_b (r.2.2.2.2.1 i9)))), (a 6, .inl (cI, 3, .inl r.2.2.2.2.2.1)), (a 7, .inl (cI, 3, .inl r.2.2.2.2.2.2))] := hD
    refine lv_iload hx hb dX1_changeCell_52 (lv_at hl 0 rfl) ?_
    have hP9 : va_P (dC, dI) vwCl (wp_R cI cZ a (fr_cell r (row * 4 + col) k b)) H := by
      rw [show fr_cell r (row * 4 + col) k b = (va_up r.1 (row * 4 + col) k, va_up r.2.1 (row * 4 + col) 0, va_up r.2.2.1 (row * 4 + col) false, r.2.2.2.1, r.2.2.2.2.1, r.2.2.2.2.2.1, r.2.2.2.2.2.2) from by first | rfl | (simp [fr_cell, c_1]; done)]
      exact hP
    have hD9 : va_D A (wp_R cI cZ a (fr_cell r (row * 4 + col) k b)) := by
      rw [show fr_cell r (row * 4 + col) k b = (va_up r.1 (row * 4 + col) k, va_up r.2.1 (row * 4 + col) 0, va_up r.2.2.1 (row * 4 + col) false, r.2.2.2.1, r.2.2.2.2.1, r.2.2.2.2.2.1, r.2.2.2.2.2.2) from by first | rfl | (simp [fr_cell, c_1]; done)]
      exact hD
    exact W.iret hx hb hr (fun t ht _ => ⟨rfl, by rw [ht]; exact hP9, hAe ▸ hD9, hAe ▸ hS.F ht⟩) (fun q hq => by rw [← hAe]; exact hS.2.2 q hq) dX1_changeCell_54
  · refine lv_iload hx hb dX1_changeCell_37 (lv_at hl 6 rfl) ?_
    refine lv_goto (tgt := 43) hx hb dX1_changeCell_39 (by decide) ?_
    refine sf_iast hx hb hK hP hD hS 2 0 rfl rfl (row * 4 + col) rfl (by omega) (by decide) dX1_changeCell_43 (fun H locs hP hD hS => ?_)
    have hP : va_P (dC, dI) vwCl [(a 0, .inr (1, [.ref (a 1), .ref (a 2), .ref (a 3), .ref (a 4), .ref (a 5), .ref (a 6), .ref (a 7)])), (a 1, .inl (cI, 12, .inl (va_up r.1 (row * 4 + col) k))), (a 2, .inl (cI, 12, .inl (va_up r.2.1 (row * 4 + col) b))), (a 3, .inl (cZ, 12, .inl (fun i9 => sf_b (r.2.2.1 i9)))), (a 4, .inl (cZ, 8, .inl (fun i9 => sf_b (r.2.2.2.1 i9)))), (a 5, .inl (cZ, 15, .inl (fun i9 => sf_b (r.2.2.2.2.1 i9)))), (a 6, .inl (cI, 3, .inl r.2.2.2.2.2.1)), (a 7, .inl (cI, 3, .inl r.2.2.2.2.2.2))] H := hP
    have hD : va_D A [(a 0, .inr (1, [.ref (a 1), .ref (a 2), .ref (a 3), .ref (a 4), .ref (a 5), .ref (a 6), .ref (a 7)])), (a 1, .inl (cI, 12, .inl (va_up r.1 (row * 4 + col) k))), (a 2, .inl (cI, 12, .inl (va_up r.2.1 (row * 4 + col) b))), (a 3, .inl (cZ, 12, .inl (fun i9 => sf_b (r.2.2.1 i9)))), (a 4, .inl (cZ, 8, .inl (fun i9 => sf_b (r.2.2.2.1 i9)))), (a 5, .inl (cZ, 15, .inl (fun i9 => sf_b (r.2.2.2.2.1 i9)))), (a 6, .inl (cI, 3, .inl r.2.2.2.2.2.1)), (a 7, .inl (cI, 3, .inl r.2.2.2.2.2.2))] := hD
    refine lv_aload_n hx hb dX1_changeCell_44 rfl (lv_at hl 2 rfl) ?_
    refine va_get (D := (dC, dI)) (ci := 1) (v := .ref (a 3)) (C := RX1) (T := TX1) (N := 7) hx hb hg in_X1 hown hK hP 0 rfl rfl 2 (by decide) (hg _ mw_49) (fun _ h9 => h9) rfl dX1_changeCell_45 ?_
    refine lv_iload hx hb dX1_changeCell_48 (lv_at hl 1 rfl) ?_
    refine lv_iconst (v := 0) hx hb dX1_changeCell_50 (by decide) ?_
    refine sf_topi (y := sf_b false) rfl ?_
    refine sf_zast hx hb hK hP hD hS 3 1 rfl rfl (row * 4 + col) rfl (by omega) (by decide) dX1_changeCell_51 (fun H locs hP hD hS => ?_)
    have hP : va_P (dC, dI) vwCl [(a 0, .inr (1, [.ref (a 1), .ref (a 2), .ref (a 3), .ref (a 4), .ref (a 5), .ref (a 6), .ref (a 7)])), (a 1, .inl (cI, 12, .inl (va_up r.1 (row * 4 + col) k))), (a 2, .inl (cI, 12, .inl (va_up r.2.1 (row * 4 + col) b))), (a 3, .inl (cZ, 12, .inl (fun i9 => sf_b ((va_up r.2.2.1 (row * 4 + col) false) i9)))), (a 4, .inl (cZ, 8, .inl (fun i9 => sf_b (r.2.2.2.1 i9)))), (a 5, .inl (cZ, 15, .inl (fun i9 => sf_b (r.2.2.2.2.1 i9)))), (a 6, .inl (cI, 3, .inl r.2.2.2.2.2.1)), (a 7, .inl (cI, 3, .inl r.2.2.2.2.2.2))] H := hP
    have hD : va_D A [(a 0, .inr (1, [.ref (a 1), .ref (a 2), .ref (a 3), .ref (a 4), .ref (a 5), .ref (a 6), .ref (a 7)])), (a 1, .inl (cI, 12, .inl (va_up r.1 (row * 4 + col) k))), (a 2, .inl (cI, 12, .inl (va_up r.2.1 (row * 4 + col) b))), (a 3, .inl (cZ, 12, .inl (fun i9 => sf_b ((va_up r.2.2.1 (row * 4 + col) false) i9)))), (a 4, .inl (cZ, 8, .inl (fun i9 => sf_b (r.2.2.2.1 i9)))), (a 5, .inl (cZ, 15, .inl (fun i9 => sf_b (r.2.2.2.2.1 i9)))), (a 6, .inl (cI, 3, .inl r.2.2.2.2.2.1)), (a 7, .inl (cI, 3, .inl r.2.2.2.2.2.2))] := hD
    refine lv_iload hx hb dX1_changeCell_52 (lv_at hl 0 rfl) ?_
    have hP9 : va_P (dC, dI) vwCl (wp_R cI cZ a (fr_cell r (row * 4 + col) k b)) H := by
      rw [show fr_cell r (row * 4 + col) k b = (va_up r.1 (row * 4 + col) k, va_up r.2.1 (row * 4 + col) b, va_up r.2.2.1 (row * 4 + col) false, r.2.2.2.1, r.2.2.2.2.1, r.2.2.2.2.2.1, r.2.2.2.2.2.2) from by first | rfl | (simp [fr_cell, c_1]; done)]
      exact hP
    have hD9 : va_D A (wp_R cI cZ a (fr_cell r (row * 4 + col) k b)) := by
      rw [show fr_cell r (row * 4 + col) k b = (va_up r.1 (row * 4 + col) k, va_up r.2.1 (row * 4 + col) b, va_up r.2.2.1 (row * 4 + col) false, r.2.2.2.1, r.2.2.2.2.1, r.2.2.2.2.2.1, r.2.2.2.2.2.2) from by first | rfl | (simp [fr_cell, c_1]; done)]
      exact hD
    exact W.iret hx hb hr (fun t ht _ => ⟨rfl, by rw [ht]; exact hP9, hAe ▸ hD9, hAe ▸ hS.F ht⟩) (fun q hq => by rw [← hAe]; exact hS.2.2 q hq) dX1_changeCell_54
set_option maxHeartbeats 4000000 in
set_option maxRecDepth 100000 in
theorem c_X1_changeLink (l : Launch) (dC : Nat → ClassId) (dI : Nat → Nat → Nat) (cI cZ : ClassId) (a : Nat → Nat) (r : st_R) (row col : Nat) (x : Bool) (sz : Nat) (hrow : row < 2) (hcol : col < 4) : Met l yX1_changeLink wX1_changeLink ({ frames := 0, cells := 0, slots := 0, locals := 0 }) (sf_PV (dC, dI) vwCl [(cI, .int), (cZ, .boolean)] (wp_R cI cZ a r) sz [.ref (a 0), .int (nI row), .int (nI col), .int (sf_b x)]) (sf_V (dC, dI) vwCl (some (.int (sf_b (r.2.2.2.1 (row * 4 + col))))) (wp_R cI cZ a r) (wp_R cI cZ a (fr_link r (row * 4 + col) x))) 0 0 (va_A (wp_R cI cZ a r) sz) := by
  refine Met.ofW (cc := cX1_changeLink) (maxL := 6) (ret := (some .boolean)) (by decide) rfl ?_
  intro p e s m args below meth c s₁ B hml hv
  have hx := B.exec
  have hb := B.bytes
  have hr := B.returns
  have hts := atoms_spec (ws := wX1_changeLink) B.pre
  have hg : ∀ w ∈ gw_all, w.before args s = true := fun w h => hts w (List.mem_cons_of_mem _ h)
  have hown : s.vm.findClass RX1 = some m.cls := findClass_of_methodNamed B.named
  have hlocks := B.notSynchronized
  obtain ⟨rfl, hsz, hP, hD0, hK, hZ⟩ := hv
  subst hsz
  have hl := lv_entry ([.ref (a 0), .int (nI row), .int (nI col), .int (sf_b x)]) (n := 6) (Nat.le_of_ble_eq_true rfl)
  rw [lg_entry_eq]
  generalize (lg_sl ([.ref (a 0), .int (nI row), .int (nI col), .int (sf_b x)]) ++ List.replicate (6 - (lg_sl ([.ref (a 0), .int (nI row), .int (nI col), .int (sf_b x)])).length) Slot.unset).toArray = ls at hl ⊢
  have hl : lv_has ls 6 [(0, .ref (a 0)), (1, .int (nI row)), (2, .int (nI col)), (3, .int (sf_b x))] := hl
  obtain ⟨A, hAe⟩ : ∃ A : Nat → Prop, A = va_A (wp_R cI cZ a r) s.heap.size := ⟨_, rfl⟩
  have hD := hD0.self (sz := s.heap.size)
  rw [← hAe] at hD
  have hA : ∀ q : Nat, s.heap.size ≤ q → A q := fun q h => by rw [hAe]; exact Or.inr h
  have hS : va_S A s.heap s.heap [] := va_S.rf
  have hP : va_P (dC, dI) vwCl [(a 0, .inr (1, [.ref (a 1), .ref (a 2), .ref (a 3), .ref (a 4), .ref (a 5), .ref (a 6), .ref (a 7)])), (a 1, .inl (cI, 12, .inl r.1)), (a 2, .inl (cI, 12, .inl r.2.1)), (a 3, .inl (cZ, 12, .inl (fun i9 => sf_b (r.2.2.1 i9)))), (a 4, .inl (cZ, 8, .inl (fun i9 => sf_b (r.2.2.2.1 i9)))), (a 5, .inl (cZ, 15, .inl (fun i9 => sf_b (r.2.2.2.2.1 i9)))), (a 6, .inl (cI, 3, .inl r.2.2.2.2.2.1)), (a 7, .inl (cI, 3, .inl r.2.2.2.2.2.2))] s.heap := hP
  have hD : va_D A [(a 0, .inr (1, [.ref (a 1), .ref (a 2), .ref (a 3), .ref (a 4), .ref (a 5), .ref (a 6), .ref (a 7)])), (a 1, .inl (cI, 12, .inl r.1)), (a 2, .inl (cI, 12, .inl r.2.1)), (a 3, .inl (cZ, 12, .inl (fun i9 => sf_b (r.2.2.1 i9)))), (a 4, .inl (cZ, 8, .inl (fun i9 => sf_b (r.2.2.2.1 i9)))), (a 5, .inl (cZ, 15, .inl (fun i9 => sf_b (r.2.2.2.2.1 i9)))), (a 6, .inl (cI, 3, .inl r.2.2.2.2.2.1)), (a 7, .inl (cI, 3, .inl r.2.2.2.2.2.2))] := hD
  refine lv_iload_n hx hb dX1_changeLink_0 rfl (lv_at hl 1 rfl) ?_
  refine lv_iconst (v := 4) hx hb dX1_changeLink_1 (by decide) ?_
  refine lv_imul hx hb dX1_changeLink_2 ?_
  refine sf_topi (y := nI (row * 4)) (pk_mul row 4) ?_
  refine lv_iload_n hx hb dX1_changeLink_3 rfl (lv_at hl 2 rfl) ?_
  refine lv_iadd hx hb dX1_changeLink_4 ?_
  refine sf_topi (y := nI (row * 4 + col)) (nI_add (row * 4) col) ?_
  refine lv_istore (lv' := [(4, .int (nI (row * 4 + col))), (0, .ref (a 0)), (1, .int (nI row)), (2, .int (nI col)), (3, .int (sf_b x))]) hx hb dX1_changeLink_5 hl (by decide) rfl (fun ls hl => ?_)
  refine lv_aload_n hx hb dX1_changeLink_7 rfl (lv_at hl 1 rfl) ?_
  refine va_get (D := (dC, dI)) (ci := 1) (v := .ref (a 4)) (C := RX1) (T := TX1) (N := 7) hx hb hg in_X1 hown hK hP 0 rfl rfl 3 (by decide) (hg _ mw_50) (fun _ h9 => h9) rfl dX1_changeLink_8 ?_
  refine lv_iload hx hb dX1_changeLink_11 (lv_at hl 0 rfl) ?_
  refine sf_zald hx hb hK hP 4 1 rfl rfl (row * 4 + col) rfl (by omega) (by decide) dX1_changeLink_13 ?_
  refine lv_istore (lv' := [(5, .int (sf_b (r.2.2.2.1 (row * 4 + col)))), (4, .int (nI (row * 4 + col))), (0, .ref (a 0)), (1, .int (nI row)), (2, .int (nI col)), (3, .int (sf_b x))]) hx hb dX1_changeLink_14 hl (by decide) rfl (fun ls hl => ?_)
  refine lv_aload_n hx hb dX1_changeLink_16 rfl (lv_at hl 2 rfl) ?_
  refine va_get (D := (dC, dI)) (ci := 1) (v := .ref (a 4)) (C := RX1) (T := TX1) (N := 7) hx hb hg in_X1 hown hK hP 0 rfl rfl 3 (by decide) (hg _ mw_50) (fun _ h9 => h9) rfl dX1_changeLink_17 ?_
  refine lv_iload hx hb dX1_changeLink_20 (lv_at hl 1 rfl) ?_
  refine lv_iload_n hx hb dX1_changeLink_22 rfl (lv_at hl 5 rfl) ?_
  refine sf_zast hx hb hK hP hD hS 4 1 rfl rfl (row * 4 + col) rfl (by omega) (by decide) dX1_changeLink_23 (fun H locs hP hD hS => ?_)
  have hP : va_P (dC, dI) vwCl [(a 0, .inr (1, [.ref (a 1), .ref (a 2), .ref (a 3), .ref (a 4), .ref (a 5), .ref (a 6), .ref (a 7)])), (a 1, .inl (cI, 12, .inl r.1)), (a 2, .inl (cI, 12, .inl r.2.1)), (a 3, .inl (cZ, 12, .inl (fun i9 => sf_b (r.2.2.1 i9)))), (a 4, .inl (cZ, 8, .inl (fun i9 => sf_b ((va_up r.2.2.2.1 (row * 4 + col) x) i9)))), (a 5, .inl (cZ, 15, .inl (fun i9 => sf_b (r.2.2.2.2.1 i9)))), (a 6, .inl (cI, 3, .inl r.2.2.2.2.2.1)), (a 7, .inl (cI, 3, .inl r.2.2.2.2.2.2))] H := hP
  have hD : va_D A [(a 0, .inr (1, [.ref (a 1), .ref (a 2), .ref (a 3), .ref (a 4), .ref (a 5), .ref (a 6), .ref (a 7)])), (a 1, .inl (cI, 12, .inl r.1)), (a 2, .inl (cI, 12, .inl r.2.1)), (a 3, .inl (cZ, 12, .inl (fun i9 => sf_b (r.2.2.1 i9)))), (a 4, .inl (cZ, 8, .inl (fun i9 => sf_b ((va_up r.2.2.2.1 (row * 4 + col) x) i9)))), (a 5, .inl (cZ, 15, .inl (fun i9 => sf_b (r.2.2.2.2.1 i9)))), (a 6, .inl (cI, 3, .inl r.2.2.2.2.2.1)), (a 7, .inl (cI, 3, .inl r.2.2.2.2.2.2))] := hD
  refine lv_iload hx hb dX1_changeLink_24 (lv_at hl 0 rfl) ?_
  have hP9 : va_P (dC, dI) vwCl (wp_R cI cZ a (fr_link r (row * 4 + col) x)) H := by
    rw [show fr_link r (row * 4 + col) x = (r.1, r.2.1, r.2.2.1, va_up r.2.2.2.1 (row * 4 + col) x, r.2.2.2.2.1, r.2.2.2.2.2.1, r.2.2.2.2.2.2) from by first | rfl | (simp [fr_link]; done)]
    exact hP
  have hD9 : va_D A (wp_R cI cZ a (fr_link r (row * 4 + col) x)) := by
    rw [show fr_link r (row * 4 + col) x = (r.1, r.2.1, r.2.2.1, va_up r.2.2.2.1 (row * 4 + col) x, r.2.2.2.2.1, r.2.2.2.2.2.1, r.2.2.2.2.2.2) from by first | rfl | (simp [fr_link]; done)]
    exact hD
  exact W.zret hx hb hr (sf_b_nb _) (fun t ht _ => ⟨rfl, by rw [ht]; exact hP9, hAe ▸ hD9, hAe ▸ hS.F ht⟩) (fun q hq => by rw [← hAe]; exact hS.2.2 q hq) dX1_changeLink_26
set_option maxHeartbeats 4000000 in
set_option maxRecDepth 100000 in
theorem c_X1_changeCoil (l : Launch) (dC : Nat → ClassId) (dI : Nat → Nat → Nat) (cI cZ : ClassId) (a : Nat → Nat) (r : st_R) (row : Nat) (k n : Int32) (sz : Nat) (hrow : row < 3) : Met l yX1_changeCoil wX1_changeCoil ({ frames := 0, cells := 0, slots := 0, locals := 0 }) (sf_PV (dC, dI) vwCl [(cI, .int), (cZ, .boolean)] (wp_R cI cZ a r) sz [.ref (a 0), .int (nI row), .int k, .int n]) (sf_V (dC, dI) vwCl (some (.int (r.2.2.2.2.2.1 row))) (wp_R cI cZ a r) (wp_R cI cZ a (fr_coil r row k n))) 0 0 (va_A (wp_R cI cZ a r) sz) := by
  refine Met.ofW (cc := cX1_changeCoil) (maxL := 5) (ret := (some .int)) (by decide) rfl ?_
  intro p e s m args below meth c s₁ B hml hv
  have hx := B.exec
  have hb := B.bytes
  have hr := B.returns
  have hts := atoms_spec (ws := wX1_changeCoil) B.pre
  have hg : ∀ w ∈ gw_all, w.before args s = true := fun w h => hts w (List.mem_cons_of_mem _ h)
  have hown : s.vm.findClass RX1 = some m.cls := findClass_of_methodNamed B.named
  have hlocks := B.notSynchronized
  obtain ⟨rfl, hsz, hP, hD0, hK, hZ⟩ := hv
  subst hsz
  have hl := lv_entry ([.ref (a 0), .int (nI row), .int k, .int n]) (n := 5) (Nat.le_of_ble_eq_true rfl)
  rw [lg_entry_eq]
  generalize (lg_sl ([.ref (a 0), .int (nI row), .int k, .int n]) ++ List.replicate (5 - (lg_sl ([.ref (a 0), .int (nI row), .int k, .int n])).length) Slot.unset).toArray = ls at hl ⊢
  have hl : lv_has ls 5 [(0, .ref (a 0)), (1, .int (nI row)), (2, .int k), (3, .int n)] := hl
  obtain ⟨A, hAe⟩ : ∃ A : Nat → Prop, A = va_A (wp_R cI cZ a r) s.heap.size := ⟨_, rfl⟩
  have hD := hD0.self (sz := s.heap.size)
  rw [← hAe] at hD
  have hA : ∀ q : Nat, s.heap.size ≤ q → A q := fun q h => by rw [hAe]; exact Or.inr h
  have hS : va_S A s.heap s.heap [] := va_S.rf
  have hP : va_P (dC, dI) vwCl [(a 0, .inr (1, [.ref (a 1), .ref (a 2), .ref (a 3), .ref (a 4), .ref (a 5), .ref (a 6), .ref (a 7)])), (a 1, .inl (cI, 12, .inl r.1)), (a 2, .inl (cI, 12, .inl r.2.1)), (a 3, .inl (cZ, 12, .inl (fun i9 => sf_b (r.2.2.1 i9)))), (a 4, .inl (cZ, 8, .inl (fun i9 => sf_b (r.2.2.2.1 i9)))), (a 5, .inl (cZ, 15, .inl (fun i9 => sf_b (r.2.2.2.2.1 i9)))), (a 6, .inl (cI, 3, .inl r.2.2.2.2.2.1)), (a 7, .inl (cI, 3, .inl r.2.2.2.2.2.2))] s.heap := hP
  have hD : va_D A [(a 0, .inr (1, [.ref (a 1), .ref (a 2), .ref (a 3), .ref (a 4), .ref (a 5), .ref (a 6), .ref (a 7)])), (a 1, .inl (cI, 12, .inl r.1)), (a 2, .inl (cI, 12, .inl r.2.1)), (a 3, .inl (cZ, 12, .inl (fun i9 => sf_b (r.2.2.1 i9)))), (a 4, .inl (cZ, 8, .inl (fun i9 => sf_b (r.2.2.2.1 i9)))), (a 5, .inl (cZ, 15, .inl (fun i9 => sf_b (r.2.2.2.2.1 i9)))), (a 6, .inl (cI, 3, .inl r.2.2.2.2.2.1)), (a 7, .inl (cI, 3, .inl r.2.2.2.2.2.2))] := hD
  refine lv_aload_n hx hb dX1_changeCoil_0 rfl (lv_at hl 0 rfl) ?_
  refine va_get (D := (dC, dI)) (ci := 1) (v := .ref (a 6)) (C := RX1) (T := TX1) (N := 7) hx hb hg in_X1 hown hK hP 0 rfl rfl 5 (by decide) (hg _ mw_52) (fun _ h9 => h9) rfl dX1_changeCoil_1 ?_
  refine lv_iload_n hx hb dX1_changeCoil_4 rfl (lv_at hl 1 rfl) ?_
  refine sf_iald hx hb hK hP 6 0 rfl rfl row rfl (by omega) (by decide) dX1_changeCoil_5 ?_
  refine lv_istore (lv' := [(4, .int (r.2.2.2.2.2.1 row)), (0, .ref (a 0)), (1, .int (nI row)), (2, .int k), (3, .int n)]) hx hb dX1_changeCoil_6 hl (by decide) rfl (fun ls hl => ?_)
  refine lv_aload_n hx hb dX1_changeCoil_8 rfl (lv_at hl 1 rfl) ?_
  refine va_get (D := (dC, dI)) (ci := 1) (v := .ref (a 6)) (C := RX1) (T := TX1) (N := 7) hx hb hg in_X1 hown hK hP 0 rfl rfl 5 (by decide) (hg _ mw_52) (fun _ h9 => h9) rfl dX1_changeCoil_9 ?_
  refine lv_iload_n hx hb dX1_changeCoil_12 rfl (lv_at hl 2 rfl) ?_
  refine lv_iload_n hx hb dX1_changeCoil_13 rfl (lv_at hl 3 rfl) ?_
  refine sf_iast hx hb hK hP hD hS 6 0 rfl rfl row rfl (by omega) (by decide) dX1_changeCoil_14 (fun H locs hP hD hS => ?_)
  have hP : va_P (dC, dI) vwCl [(a 0, .inr (1, [.ref (a 1), .ref (a 2), .ref (a 3), .ref (a 4), .ref (a 5), .ref (a 6), .ref (a 7)])), (a 1, .inl (cI, 12, .inl r.1)), (a 2, .inl (cI, 12, .inl r.2.1)), (a 3, .inl (cZ, 12, .inl (fun i9 => sf_b (r.2.2.1 i9)))), (a 4, .inl (cZ, 8, .inl (fun i9 => sf_b (r.2.2.2.1 i9)))), (a 5, .inl (cZ, 15, .inl (fun i9 => sf_b (r.2.2.2.2.1 i9)))), (a 6, .inl (cI, 3, .inl (va_up r.2.2.2.2.2.1 row k))), (a 7, .inl (cI, 3, .inl r.2.2.2.2.2.2))] H := hP
  have hD : va_D A [(a 0, .inr (1, [.ref (a 1), .ref (a 2), .ref (a 3), .ref (a 4), .ref (a 5), .ref (a 6), .ref (a 7)])), (a 1, .inl (cI, 12, .inl r.1)), (a 2, .inl (cI, 12, .inl r.2.1)), (a 3, .inl (cZ, 12, .inl (fun i9 => sf_b (r.2.2.1 i9)))), (a 4, .inl (cZ, 8, .inl (fun i9 => sf_b (r.2.2.2.1 i9)))), (a 5, .inl (cZ, 15, .inl (fun i9 => sf_b (r.2.2.2.2.1 i9)))), (a 6, .inl (cI, 3, .inl (va_up r.2.2.2.2.2.1 row k))), (a 7, .inl (cI, 3, .inl r.2.2.2.2.2.2))] := hD
  refine lv_aload_n hx hb dX1_changeCoil_15 rfl (lv_at hl 1 rfl) ?_
  refine va_get (D := (dC, dI)) (ci := 1) (v := .ref (a 7)) (C := RX1) (T := TX1) (N := 7) hx hb hg in_X1 hown hK hP 0 rfl rfl 6 (by decide) (hg _ mw_54) (fun _ h9 => h9) rfl dX1_changeCoil_16 ?_
  refine lv_iload_n hx hb dX1_changeCoil_19 rfl (lv_at hl 2 rfl) ?_
  refine lv_iload_n hx hb dX1_changeCoil_20 rfl (lv_at hl 4 rfl) ?_
  refine sf_iast hx hb hK hP hD hS 7 0 rfl rfl row rfl (by omega) (by decide) dX1_changeCoil_21 (fun H locs hP hD hS => ?_)
  have hP : va_P (dC, dI) vwCl [(a 0, .inr (1, [.ref (a 1), .ref (a 2), .ref (a 3), .ref (a 4), .ref (a 5), .ref (a 6), .ref (a 7)])), (a 1, .inl (cI, 12, .inl r.1)), (a 2, .inl (cI, 12, .inl r.2.1)), (a 3, .inl (cZ, 12, .inl (fun i9 => sf_b (r.2.2.1 i9)))), (a 4, .inl (cZ, 8, .inl (fun i9 => sf_b (r.2.2.2.1 i9)))), (a 5, .inl (cZ, 15, .inl (fun i9 => sf_b (r.2.2.2.2.1 i9)))), (a 6, .inl (cI, 3, .inl (va_up r.2.2.2.2.2.1 row k))), (a 7, .inl (cI, 3, .inl (va_up r.2.2.2.2.2.2 row n)))] H := hP
  have hD : va_D A [(a 0, .inr (1, [.ref (a 1), .ref (a 2), .ref (a 3), .ref (a 4), .ref (a 5), .ref (a 6), .ref (a 7)])), (a 1, .inl (cI, 12, .inl r.1)), (a 2, .inl (cI, 12, .inl r.2.1)), (a 3, .inl (cZ, 12, .inl (fun i9 => sf_b (r.2.2.1 i9)))), (a 4, .inl (cZ, 8, .inl (fun i9 => sf_b (r.2.2.2.1 i9)))), (a 5, .inl (cZ, 15, .inl (fun i9 => sf_b (r.2.2.2.2.1 i9)))), (a 6, .inl (cI, 3, .inl (va_up r.2.2.2.2.2.1 row k))), (a 7, .inl (cI, 3, .inl (va_up r.2.2.2.2.2.2 row n)))] := hD
  refine lv_iload hx hb dX1_changeCoil_22 (lv_at hl 0 rfl) ?_
  have hP9 : va_P (dC, dI) vwCl (wp_R cI cZ a (fr_coil r row k n)) H := by
    rw [show fr_coil r row k n = (r.1, r.2.1, r.2.2.1, r.2.2.2.1, r.2.2.2.2.1, va_up r.2.2.2.2.2.1 row k, va_up r.2.2.2.2.2.2 row n) from by first | rfl | (simp [fr_coil]; done)]
    exact hP
  have hD9 : va_D A (wp_R cI cZ a (fr_coil r row k n)) := by
    rw [show fr_coil r row k n = (r.1, r.2.1, r.2.2.1, r.2.2.2.1, r.2.2.2.2.1, va_up r.2.2.2.2.2.1 row k, va_up r.2.2.2.2.2.2 row n) from by first | rfl | (simp [fr_coil]; done)]
    exact hD
  exact W.iret hx hb hr (fun t ht _ => ⟨rfl, by rw [ht]; exact hP9, hAe ▸ hD9, hAe ▸ hS.F ht⟩) (fun q hq => by rw [← hAe]; exact hS.2.2 q hq) dX1_changeCoil_24
set_option maxHeartbeats 4000000 in
set_option maxRecDepth 100000 in
theorem c_X1_hadPower (l : Launch) (dC : Nat → ClassId) (dI : Nat → Nat → Nat) (cI cZ : ClassId) (a : Nat → Nat) (r : st_R) (row j : Nat) (cv : Int32) (hrow : row < 3) (hj : j < 5) (hcv : cv + 1 = nI j) : Met l yX1_hadPower wX1_hadPower ({ frames := 0, cells := 0, slots := 0, locals := 0 }) (sf_PR (dC, dI) vwCl [(cI, .int), (cZ, .boolean)] (wp_R cI cZ a r) [.ref (a 0), .int (nI row), .int cv]) (sf_R (some (.int (sf_b (r.2.2.2.2.1 (row * 5 + j)))))) 0 0 (fun _ => False) := by
  refine Met.ofW (cc := cX1_hadPower) (maxL := 3) (ret := (some .boolean)) (by decide) rfl ?_
  intro p e s m args below meth c s₁ B hml hv
  have hx := B.exec
  have hb := B.bytes
  have hr := B.returns
  have hts := atoms_spec (ws := wX1_hadPower) B.pre
  have hg : ∀ w ∈ gw_all, w.before args s = true := fun w h => hts w (List.mem_cons_of_mem _ h)
  have hown : s.vm.findClass RX1 = some m.cls := findClass_of_methodNamed B.named
  have hlocks := B.notSynchronized
  obtain ⟨rfl, hP, hK, hZ⟩ := hv
  have hl := lv_entry ([.ref (a 0), .int (nI row), .int cv]) (n := 3) (Nat.le_of_ble_eq_true rfl)
  rw [lg_entry_eq]
  generalize (lg_sl ([.ref (a 0), .int (nI row), .int cv]) ++ List.replicate (3 - (lg_sl ([.ref (a 0), .int (nI row), .int cv])).length) Slot.unset).toArray = ls at hl ⊢
  have hl : lv_has ls 3 [(0, .ref (a 0)), (1, .int (nI row)), (2, .int cv)] := hl
  have hP : va_P (dC, dI) vwCl [(a 0, .inr (1, [.ref (a 1), .ref (a 2), .ref (a 3), .ref (a 4), .ref (a 5), .ref (a 6), .ref (a 7)])), (a 1, .inl (cI, 12, .inl r.1)), (a 2, .inl (cI, 12, .inl r.2.1)), (a 3, .inl (cZ, 12, .inl (fun i9 => sf_b (r.2.2.1 i9)))), (a 4, .inl (cZ, 8, .inl (fun i9 => sf_b (r.2.2.2.1 i9)))), (a 5, .inl (cZ, 15, .inl (fun i9 => sf_b (r.2.2.2.2.1 i9)))), (a 6, .inl (cI, 3, .inl r.2.2.2.2.2.1)), (a 7, .inl (cI, 3, .inl r.2.2.2.2.2.2))] s.heap := hP
  refine lv_aload_n hx hb dX1_hadPower_0 rfl (lv_at hl 0 rfl) ?_
  refine va_get (D := (dC, dI)) (ci := 1) (v := .ref (a 5)) (C := RX1) (T := TX1) (N := 7) hx hb hg in_X1 hown hK hP 0 rfl rfl 4 (by decide) (hg _ mw_51) (fun _ h9 => h9) rfl dX1_hadPower_1 ?_
  refine lv_iload_n hx hb dX1_hadPower_4 rfl (lv_at hl 1 rfl) ?_
  refine lv_iconst (v := 5) hx hb dX1_hadPower_5 (by decide) ?_
  refine lv_imul hx hb dX1_hadPower_6 ?_
  refine sf_topi (y := nI (row * 5)) (pk_mul row 5) ?_
  refine lv_iload_n hx hb dX1_hadPower_7 rfl (lv_at hl 2 rfl) ?_
  refine lv_iadd hx hb dX1_hadPower_8 ?_
  refine lv_iconst (v := 1) hx hb dX1_hadPower_9 (by decide) ?_
  refine lv_iadd hx hb dX1_hadPower_10 ?_
  refine sf_topi (y := nI (row * 5 + j)) (by rw [Int32.add_assoc, hcv, nI_add]) ?_
  refine sf_zald hx hb hK hP 5 1 rfl rfl (row * 5 + j) rfl (by omega) (by decide) dX1_hadPower_11 ?_
  exact W.zret hx hb hr (sf_b_nb _) (fun t ht _ => ⟨rfl, ht⟩) (fun _ h => nomatch h) dX1_hadPower_12
set_option maxHeartbeats 4000000 in
set_option maxRecDepth 100000 in
theorem c_X1_lookAtCell (l : Launch) (dC : Nat → ClassId) (dI : Nat → Nat → Nat) (cI cZ : ClassId) (a : Nat → Nat) (r : st_R) (hq : Nat) (bt : Nat → Bool) (j : Nat) (sz : Nat) (hj : j < 12) (hcb : ∀ j, j < 12 → fc_ix (r.2.1 j) 24 = true) : Met l yX1_lookAtCell wX1_lookAtCell ({ frames := 0, cells := 0, slots := 0, locals := 0 }) (sf_PV (dC, dI) vwCl [(cI, .int), (cZ, .boolean)] (wp_R cI cZ a r ++ [wp_Z hq cZ 24 bt]) sz [.ref (a 0), .int (nI j), .ref hq]) (sf_V (dC, dI) vwCl (some (.int (sf_b (fr_cond r bt j)))) (wp_R cI cZ a r ++ [wp_Z hq cZ 24 bt]) (wp_R cI cZ a (fr_seen r bt j) ++ [wp_Z hq cZ 24 bt])) 0 0 (va_A (wp_R cI cZ a r ++ [wp_Z hq cZ 24 bt]) sz) := by
  refine Met.ofW (cc := cX1_lookAtCell) (maxL := 5) (ret := (some .boolean)) (by decide) rfl ?_
  intro p e s m args below meth c s₁ B hml hv
  have hx := B.exec
  have hb := B.bytes
  have hr := B.returns
  have hts := atoms_spec (ws := wX1_lookAtCell) B.pre
  have hg : ∀ w ∈ gw_all, w.before args s = true := fun w h => hts w (List.mem_cons_of_mem _ h)
  have hown : s.vm.findClass RX1 = some m.cls := findClass_of_methodNamed B.named
  have hlocks := B.notSynchronized
  obtain ⟨rfl, hsz, hP, hD0, hK, hZ⟩ := hv
  subst hsz
  have hl := lv_entry ([.ref (a 0), .int (nI j), .ref hq]) (n := 5) (Nat.le_of_ble_eq_true rfl)
  rw [lg_entry_eq]
  generalize (lg_sl ([.ref (a 0), .int (nI j), .ref hq]) ++ List.replicate (5 - (lg_sl ([.ref (a 0), .int (nI j), .ref hq])).length) Slot.unset).toArray = ls at hl ⊢
  have hl : lv_has ls 5 [(0, .ref (a 0)), (1, .int (nI j)), (2, .ref hq)] := hl
  obtain ⟨A, hAe⟩ : ∃ A : Nat → Prop, A = va_A (wp_R cI cZ a r ++ [wp_Z hq cZ 24 bt]) s.heap.size := ⟨_, rfl⟩
  have hD := hD0.self (sz := s.heap.size)
  rw [← hAe] at hD
  have hA : ∀ q : Nat, s.heap.size ≤ q → A q := fun q h => by rw [hAe]; exact Or.inr h
  have hS : va_S A s.heap s.heap [] := va_S.rf
  have hP : va_P (dC, dI) vwCl [(a 0, .inr (1, [.ref (a 1), .ref (a 2), .ref (a 3), .ref (a 4), .ref (a 5), .ref (a 6), .ref (a 7)])), (a 1, .inl (cI, 12, .inl r.1)), (a 2, .inl (cI, 12, .inl r.2.1)), (a 3, .inl (cZ, 12, .inl (fun i9 => sf_b (r.2.2.1 i9)))), (a 4, .inl (cZ, 8, .inl (fun i9 => sf_b (r.2.2.2.1 i9)))), (a 5, .inl (cZ, 15, .inl (fun i9 => sf_b (r.2.2.2.2.1 i9)))), (a 6, .inl (cI, 3, .inl r.2.2.2.2.2.1)), (a 7, .inl (cI, 3, .inl r.2.2.2.2.2.2)), (hq, .inl (cZ, 24, .inl (fun i9 => sf_b (bt i9))))] s.heap := hP
  have hD : va_D A [(a 0, .inr (1, [.ref (a 1), .ref (a 2), .ref (a 3), .ref (a 4), .ref (a 5), .ref (a 6), .ref (a 7)])), (a 1, .inl (cI, 12, .inl r.1)), (a 2, .inl (cI, 12, .inl r.2.1)), (a 3, .inl (cZ, 12, .inl (fun i9 => sf_b (r.2.2.1 i9)))), (a 4, .inl (cZ, 8, .inl (fun i9 => sf_b (r.2.2.2.1 i9)))), (a 5, .inl (cZ, 15, .inl (fun i9 => sf_b (r.2.2.2.2.1 i9)))), (a 6, .inl (cI, 3, .inl r.2.2.2.2.2.1)), (a 7, .inl (cI, 3, .inl r.2.2.2.2.2.2)), (hq, .inl (cZ, 24, .inl (fun i9 => sf_b (bt i9))))] := hD
  have hq9 := ix_nat (n := 24) rfl (by decide) (hcb j hj)
  refine lv_aload_n hx hb dX1_lookAtCell_0 rfl (lv_at hl 2 rfl) ?_
  refine lv_aload_n hx hb dX1_lookAtCell_1 rfl (lv_at hl 0 rfl) ?_
  refine va_get (D := (dC, dI)) (ci := 1) (v := .ref (a 2)) (C := RX1) (T := TX1) (N := 7) hx hb hg in_X1 hown hK hP 0 rfl rfl 1 (by decide) (hg _ mw_48) (fun _ h9 => h9) rfl dX1_lookAtCell_2 ?_
  refine lv_iload_n hx hb dX1_lookAtCell_5 rfl (lv_at hl 1 rfl) ?_
  refine sf_iald hx hb hK hP 2 0 rfl rfl j rfl (by omega) (by decide) dX1_lookAtCell_6 ?_
  refine sf_zald hx hb hK hP 8 1 rfl rfl ((r.2.1 j).toNatClampNeg) hq9.1 hq9.2 (by decide) dX1_lookAtCell_7 ?_
  refine lv_istore_n (lv' := [(3, .int (sf_b (bt ((r.2.1 j).toNatClampNeg)))), (0, .ref (a 0)), (1, .int (nI j)), (2, .ref hq)]) hx hb dX1_lookAtCell_8 rfl hl (by decide) rfl (fun ls hl => ?_)
  refine lv_aload_n hx hb dX1_lookAtCell_9 rfl (lv_at hl 1 rfl) ?_
  refine va_get (D := (dC, dI)) (ci := 1) (v := .ref (a 3)) (C := RX1) (T := TX1) (N := 7) hx hb hg in_X1 hown hK hP 0 rfl rfl 2 (by decide) (hg _ mw_49) (fun _ h9 => h9) rfl dX1_lookAtCell_10 ?_
  refine lv_iload_n hx hb dX1_lookAtCell_13 rfl (lv_at hl 2 rfl) ?_
  refine sf_zald hx hb hK hP 3 1 rfl rfl j rfl (by omega) (by decide) dX1_lookAtCell_14 ?_
  refine lv_istore (lv' := [(4, .int (sf_b (r.2.2.1 j))), (3, .int (sf_b (bt ((r.2.1 j).toNatClampNeg)))), (0, .ref (a 0)), (1, .int (nI j)), (2, .ref hq)]) hx hb dX1_lookAtCell_15 hl (by decide) rfl (fun ls hl => ?_)
  refine lv_aload_n hx hb dX1_lookAtCell_17 rfl (lv_at hl 2 rfl) ?_
  refine va_get (D := (dC, dI)) (ci := 1) (v := .ref (a 3)) (C := RX1) (T := TX1) (N := 7) hx hb hg in_X1 hown hK hP 0 rfl rfl 2 (by decide) (hg _ mw_49) (fun _ h9 => h9) rfl dX1_lookAtCell_18 ?_
  refine lv_iload_n hx hb dX1_lookAtCell_21 rfl (lv_at hl 3 rfl) ?_
  refine lv_iload_n hx hb dX1_lookAtCell_22 rfl (lv_at hl 1 rfl) ?_
  refine sf_zast hx hb hK hP hD hS 3 1 rfl rfl j rfl (by omega) (by decide) dX1_lookAtCell_23 (fun H locs hP hD hS => ?_)
  have hP : va_P (dC, dI) vwCl [(a 0, .inr (1, [.ref (a 1), .ref (a 2), .ref (a 3), .ref (a 4), .ref (a 5), .ref (a 6), .ref (a 7)])), (a 1, .inl (cI, 12, .inl r.1)), (a 2, .inl (cI, 12, .inl r.2.1)), (a 3, .inl (cZ, 12, .inl (fun i9 => sf_b ((va_up r.2.2.1 j (bt ((r.2.1 j).toNatClampNeg))) i9)))), (a 4, .inl (cZ, 8, .inl (fun i9 => sf_b (r.2.2.2.1 i9)))), (a 5, .inl (cZ, 15, .inl (fun i9 => sf_b (r.2.2.2.2.1 i9)))), (a 6, .inl (cI, 3, .inl r.2.2.2.2.2.1)), (a 7, .inl (cI, 3, .inl r.2.2.2.2.2.2)), (hq, .inl (cZ, 24, .inl (fun i9 => sf_b (bt i9))))] H := hP
  have hD : va_D A [(a 0, .inr (1, [.ref (a 1), .ref (a 2), .ref (a 3), .ref (a 4), .ref (a 5), .ref (a 6), .ref (a 7)])), (a 1, .inl (cI, 12, .inl r.1)), (a 2, .inl (cI, 12, .inl r.2.1)), (a 3, .inl (cZ, 12, .inl (fun i9 => sf_b ((va_up r.2.2.1 j (bt ((r.2.1 j).toNatClampNeg))) i9)))), (a 4, .inl (cZ, 8, .inl (fun i9 => sf_b (r.2.2.2.1 i9)))), (a 5, .inl (cZ, 15, .inl (fun i9 => sf_b (r.2.2.2.2.1 i9)))), (a 6, .inl (cI, 3, .inl r.2.2.2.2.2.1)), (a 7, .inl (cI, 3, .inl r.2.2.2.2.2.2)), (hq, .inl (cZ, 24, .inl (fun i9 => sf_b (bt i9))))] := hD
  refine lv_aload_n hx hb dX1_lookAtCell_24 rfl (lv_at hl 2 rfl) ?_
  refine va_get (D := (dC, dI)) (ci := 1) (v := .ref (a 1)) (C := RX1) (T := TX1) (N := 7) hx hb hg in_X1 hown hK hP 0 rfl rfl 0 (by decide) (hg _ mw_47) (fun _ h9 => h9) rfl dX1_lookAtCell_25 ?_
  refine lv_iload_n hx hb dX1_lookAtCell_28 rfl (lv_at hl 3 rfl) ?_
  refine sf_iald hx hb hK hP 1 0 rfl rfl j rfl (by omega) (by decide) dX1_lookAtCell_29 ?_
  by_cases c_1 : (r.1 j) = 1
  · refine lv_tableIn (off := 34) (tgt := 64) hx hb dX1_lookAtCell_30 (by rw [c_1]; decide) (by rw [c_1]; decide) (by rw [c_1]; decide) (by decide) ?_
    refine lv_iconst (v := sf_b true) hx hb dX1_lookAtCell_64 (by decide) ?_
    refine sf_topi (y := sf_b (fr_cond r bt j)) (by first | rfl | (simp [fr_seen, fr_on, fr_cond, fr_con, c_1]; done)) ?_
    have hP9 : va_P (dC, dI) vwCl (wp_R cI cZ a (fr_seen r bt j) ++ [wp_Z hq cZ 24 bt]) H := by
      rw [show fr_seen r bt j = (r.1, r.2.1, va_up r.2.2.1 j (bt ((r.2.1 j).toNatClampNeg)), r.2.2.2.1, r.2.2.2.2.1, r.2.2.2.2.2.1, r.2.2.2.2.2.2) from by first | rfl | (simp [fr_seen, fr_on, fr_cond, fr_con, c_1]; done)]
      exact hP
    have hD9 : va_D A (wp_R cI cZ a (fr_seen r bt j) ++ [wp_Z hq cZ 24 bt]) := by
      rw [show fr_seen r bt j = (r.1, r.2.1, va_up r.2.2.1 j (bt ((r.2.1 j).toNatClampNeg)), r.2.2.2.1, r.2.2.2.2.1, r.2.2.2.2.2.1, r.2.2.2.2.2.2) from by first | rfl | (simp [fr_seen, fr_on, fr_cond, fr_con, c_1]; done)]
      exact hD
    exact W.zret hx hb hr (sf_b_nb _) (fun t ht _ => ⟨rfl, by rw [ht]; exact hP9, hAe ▸ hD9, hAe ▸ hS.F ht⟩) (fun q hq => by rw [← hAe]; exact hS.2.2 q hq) dX1_lookAtCell_65
  · skip
    by_cases c_2 : (r.1 j) = 2
    · refine lv_tableIn (off := 36) (tgt := 66) hx hb dX1_lookAtCell_30 (by rw [c_2]; decide) (by rw [c_2]; decide) (by rw [c_2]; decide) (by decide) ?_
      refine lv_iload_n hx hb dX1_lookAtCell_66 rfl (lv_at hl 1 rfl) ?_
      refine sf_topi (y := sf_b (fr_cond r bt j)) (by first | rfl | (simp [fr_seen, fr_on, fr_cond, fr_con, c_1, c_2]; done)) ?_
      have hP9 : va_P (dC, dI) vwCl (wp_R cI cZ a (fr_seen r bt j) ++ [wp_Z hq cZ 24 bt]) H := by
        rw [show fr_seen r bt j = (r.1, r.2.1, va_up r.2.2.1 j (bt ((r.2.1 j).toNatClampNeg)), r.2.2.2.1, r.2.2.2.2.1, r.2.2.2.2.2.1, r.2.2.2.2.2.2) from by first | rfl | (simp [fr_seen, fr_on, fr_cond, fr_con, c_1, c_2]; done)]
        exact hP
      have hD9 : va_D A (wp_R cI cZ a (fr_seen r bt j) ++ [wp_Z hq cZ 24 bt]) := by
        rw [show fr_seen r bt j = (r.1, r.2.1, va_up r.2.2.1 j (bt ((r.2.1 j).toNatClampNeg)), r.2.2.2.1, r.2.2.2.2.1, r.2.2.2.2.2.1, r.2.2.2.2.2.2) from by first | rfl | (simp [fr_seen, fr_on, fr_cond, fr_con, c_1, c_2]; done)]
        exact hD
      exact W.zret hx hb hr (sf_b_nb _) (fun t ht _ => ⟨rfl, by rw [ht]; exact hP9, hAe ▸ hD9, hAe ▸ hS.F ht⟩) (fun q hq => by rw [← hAe]; exact hS.2.2 q hq) dX1_lookAtCell_67
    · skip
      by_cases c_3 : (r.1 j) = 3
      · refine lv_tableIn (off := 38) (tgt := 68) hx hb dX1_lookAtCell_30 (by rw [c_3]; decide) (by rw [c_3]; decide) (by rw [c_3]; decide) (by decide) ?_
        refine lv_iload_n hx hb dX1_lookAtCell_68 rfl (lv_at hl 1 rfl) ?_
        refine sf_ifne (tgt := 76) hx hb dX1_lookAtCell_69 (by decide) (fun c_4 => ?_) (fun c_4 => ?_)
        · refine lv_iconst (v := sf_b false) hx hb dX1_lookAtCell_76 (by decide) ?_
          refine sf_topi (y := sf_b (fr_cond r bt j)) (by first | rfl | (simp [fr_seen, fr_on, fr_cond, fr_con, c_1, c_2, c_3, c_4]; done)) ?_
          have hP9 : va_P (dC, dI) vwCl (wp_R cI cZ a (fr_seen r bt j) ++ [wp_Z hq cZ 24 bt]) H := by
            rw [show fr_seen r bt j = (r.1, r.2.1, va_up r.2.2.1 j (bt ((r.2.1 j).toNatClampNeg)), r.2.2.2.1, r.2.2.2.2.1, r.2.2.2.2.2.1, r.2.2.2.2.2.2) from by first | rfl | (simp [fr_seen, fr_on, fr_cond, fr_con, c_1, c_2, c_3, c_4]; done)]
            exact hP
          have hD9 : va_D A (wp_R cI cZ a (fr_seen r bt j) ++ [wp_Z hq cZ 24 bt]) := by
            rw [show fr_seen r bt j = (r.1, r.2.1, va_up r.2.2.1 j (bt ((r.2.1 j).toNatClampNeg)), r.2.2.2.1, r.2.2.2.2.1, r.2.2.2.2.2.1, r.2.2.2.2.2.2) from by first | rfl | (simp [fr_seen, fr_on, fr_cond, fr_con, c_1, c_2, c_3, c_4]; done)]
            exact hD
          exact W.zret hx hb hr (sf_b_nb _) (fun t ht _ => ⟨rfl, by rw [ht]; exact hP9, hAe ▸ hD9, hAe ▸ hS.F ht⟩) (fun q hq => by rw [← hAe]; exact hS.2.2 q hq) dX1_lookAtCell_77
        · refine lv_iconst (v := sf_b true) hx hb dX1_lookAtCell_72 (by decide) ?_
          refine lv_goto (tgt := 77) hx hb dX1_lookAtCell_73 (by decide) ?_
          refine sf_topi (y := sf_b (fr_cond r bt j)) (by first | rfl | (simp [fr_seen, fr_on, fr_cond, fr_con, c_1, c_2, c_3, c_4]; done)) ?_
          have hP9 : va_P (dC, dI) vwCl (wp_R cI cZ a (fr_seen r bt j) ++ [wp_Z hq cZ 24 bt]) H := by
            rw [show fr_seen r bt j = (r.1, r.2.1, va_up r.2.2.1 j (bt ((r.2.1 j).toNatClampNeg)), r.2.2.2.1, r.2.2.2.2.1, r.2.2.2.2.2.1, r.2.2.2.2.2.2) from by first | rfl | (simp [fr_seen, fr_on, fr_cond, fr_con, c_1, c_2, c_3, c_4]; done)]
            exact hP
          have hD9 : va_D A (wp_R cI cZ a (fr_seen r bt j) ++ [wp_Z hq cZ 24 bt]) := by
            rw [show fr_seen r bt j = (r.1, r.2.1, va_up r.2.2.1 j (bt ((r.2.1 j).toNatClampNeg)), r.2.2.2.1, r.2.2.2.2.1, r.2.2.2.2.2.1, r.2.2.2.2.2.2) from by first | rfl | (simp [fr_seen, fr_on, fr_cond, fr_con, c_1, c_2, c_3, c_4]; done)]
            exact hD
          exact W.zret hx hb hr (sf_b_nb _) (fun t ht _ => ⟨rfl, by rw [ht]; exact hP9, hAe ▸ hD9, hAe ▸ hS.F ht⟩) (fun q hq => by rw [← hAe]; exact hS.2.2 q hq) dX1_lookAtCell_77
      · skip
        by_cases c_5 : (r.1 j) = 4
        · refine lv_tableIn (off := 48) (tgt := 78) hx hb dX1_lookAtCell_30 (by rw [c_5]; decide) (by rw [c_5]; decide) (by rw [c_5]; decide) (by decide) ?_
          refine lv_iload_n hx hb dX1_lookAtCell_78 rfl (lv_at hl 1 rfl) ?_
          refine sf_ifeq (tgt := 91) hx hb dX1_lookAtCell_79 (by decide) (fun c_6 => ?_) (fun c_6 => ?_)
          · refine lv_iconst (v := sf_b false) hx hb dX1_lookAtCell_91 (by decide) ?_
            refine sf_topi (y := sf_b (fr_cond r bt j)) (by first | rfl | (simp [fr_seen, fr_on, fr_cond, fr_con, c_1, c_2, c_3, c_5, c_6]; done)) ?_
            have hP9 : va_P (dC, dI) vwCl (wp_R cI cZ a (fr_seen r bt j) ++ [wp_Z hq cZ 24 bt]) H := by
              rw [show fr_seen r bt j = (r.1, r.2.1, va_up r.2.2.1 j (bt ((r.2.1 j).toNatClampNeg)), r.2.2.2.1, r.2.2.2.2.1, r.2.2.2.2.2.1, r.2.2.2.2.2.2) from by first | rfl | (simp [fr_seen, fr_on, fr_cond, fr_con, c_1, c_2, c_3, c_5, c_6]; done)]
              exact hP
            have hD9 : va_D A (wp_R cI cZ a (fr_seen r bt j) ++ [wp_Z hq cZ 24 bt]) := by
              rw [show fr_seen r bt j = (r.1, r.2.1, va_up r.2.2.1 j (bt ((r.2.1 j).toNatClampNeg)), r.2.2.2.1, r.2.2.2.2.1, r.2.2.2.2.2.1, r.2.2.2.2.2.2) from by first | rfl | (simp [fr_seen, fr_on, fr_cond, fr_con, c_1, c_2, c_3, c_5, c_6]; done)]
              exact hD
            exact W.zret hx hb hr (sf_b_nb _) (fun t ht _ => ⟨rfl, by rw [ht]; exact hP9, hAe ▸ hD9, hAe ▸ hS.F ht⟩) (fun q hq => by rw [← hAe]; exact hS.2.2 q hq) dX1_lookAtCell_92
          · refine lv_iload hx hb dX1_lookAtCell_82 (lv_at hl 0 rfl) ?_
            refine sf_ifne (tgt := 91) hx hb dX1_lookAtCell_84 (by decide) (fun c_7 => ?_) (fun c_7 => ?_)
            · refine lv_iconst (v := sf_b false) hx hb dX1_lookAtCell_91 (by decide) ?_
              refine sf_topi (y := sf_b (fr_cond r bt j)) (by first | rfl | (simp [fr_seen, fr_on, fr_cond, fr_con, c_1, c_2, c_3, c_5, c_6, c_7]; done)) ?_
              have hP9 : va_P (dC, dI) vwCl (wp_R cI cZ a (fr_seen r bt j) ++ [wp_Z hq cZ 24 bt]) H := by
                rw [show fr_seen r bt j = (r.1, r.2.1, va_up r.2.2.1 j (bt ((r.2.1 j).toNatClampNeg)), r.2.2.2.1, r.2.2.2.2.1, r.2.2.2.2.2.1, r.2.2.2.2.2.2) from by first | rfl | (simp [fr_seen, fr_on, fr_cond, fr_con, c_1, c_2, c_3, c_5, c_6, c_7]; done)]
                exact hP
              have hD9 : va_D A (wp_R cI cZ a (fr_seen r bt j) ++ [wp_Z hq cZ 24 bt]) := by
                rw [show fr_seen r bt j = (r.1, r.2.1, va_up r.2.2.1 j (bt ((r.2.1 j).toNatClampNeg)), r.2.2.2.1, r.2.2.2.2.1, r.2.2.2.2.2.1, r.2.2.2.2.2.2) from by first | rfl | (simp [fr_seen, fr_on, fr_cond, fr_con, c_1, c_2, c_3, c_5, c_6, c_7]; done)]
                exact hD
              exact W.zret hx hb hr (sf_b_nb _) (fun t ht _ => ⟨rfl, by rw [ht]; exact hP9, hAe ▸ hD9, hAe ▸ hS.F ht⟩) (fun q hq => by rw [← hAe]; exact hS.2.2 q hq) dX1_lookAtCell_92
            · refine lv_iconst (v := sf_b true) hx hb dX1_lookAtCell_87 (by decide) ?_
              refine lv_goto (tgt := 92) hx hb dX1_lookAtCell_88 (by decide) ?_
              refine sf_topi (y := sf_b (fr_cond r bt j)) (by first | rfl | (simp [fr_seen, fr_on, fr_cond, fr_con, c_1, c_2, c_3, c_5, c_6, c_7]; done)) ?_
              have hP9 : va_P (dC, dI) vwCl (wp_R cI cZ a (fr_seen r bt j) ++ [wp_Z hq cZ 24 bt]) H := by
                rw [show fr_seen r bt j = (r.1, r.2.1, va_up r.2.2.1 j (bt ((r.2.1 j).toNatClampNeg)), r.2.2.2.1, r.2.2.2.2.1, r.2.2.2.2.2.1, r.2.2.2.2.2.2) from by first | rfl | (simp [fr_seen, fr_on, fr_cond, fr_con, c_1, c_2, c_3, c_5, c_6, c_7]; done)]
                exact hP
              have hD9 : va_D A (wp_R cI cZ a (fr_seen r bt j) ++ [wp_Z hq cZ 24 bt]) := by
                rw [show fr_seen r bt j = (r.1, r.2.1, va_up r.2.2.1 j (bt ((r.2.1 j).toNatClampNeg)), r.2.2.2.1, r.2.2.2.2.1, r.2.2.2.2.2.1, r.2.2.2.2.2.2) from by first | rfl | (simp [fr_seen, fr_on, fr_cond, fr_con, c_1, c_2, c_3, c_5, c_6, c_7]; done)]
                exact hD
              exact W.zret hx hb hr (sf_b_nb _) (fun t ht _ => ⟨rfl, by rw [ht]; exact hP9, hAe ▸ hD9, hAe ▸ hS.F ht⟩) (fun q hq => by rw [← hAe]; exact hS.2.2 q hq) dX1_lookAtCell_92
        · skip
          by_cases c_8 : (r.1 j) = 5
          · refine lv_tableIn (off := 63) (tgt := 93) hx hb dX1_lookAtCell_30 (by rw [c_8]; decide) (by rw [c_8]; decide) (by rw [c_8]; decide) (by decide) ?_
            refine lv_iload_n hx hb dX1_lookAtCell_93 rfl (lv_at hl 1 rfl) ?_
            refine sf_ifne (tgt := 106) hx hb dX1_lookAtCell_94 (by decide) (fun c_9 => ?_) (fun c_9 => ?_)
            · refine lv_iconst (v := sf_b false) hx hb dX1_lookAtCell_106 (by decide) ?_
              refine sf_topi (y := sf_b (fr_cond r bt j)) (by first | rfl | (simp [fr_seen, fr_on, fr_cond, fr_con, c_1, c_2, c_3, c_5, c_8, c_9]; done)) ?_
              have hP9 : va_P (dC, dI) vwCl (wp_R cI cZ a (fr_seen r bt j) ++ [wp_Z hq cZ 24 bt]) H := by
                rw [show fr_seen r bt j = (r.1, r.2.1, va_up r.2.2.1 j (bt ((r.2.1 j).toNatClampNeg)), r.2.2.2.1, r.2.2.2.2.1, r.2.2.2.2.2.1, r.2.2.2.2.2.2) from by first | rfl | (simp [fr_seen, fr_on, fr_cond, fr_con, c_1, c_2, c_3, c_5, c_8, c_9]; done)]
                exact hP
              have hD9 : va_D A (wp_R cI cZ a (fr_seen r bt j) ++ [wp_Z hq cZ 24 bt]) := by
                rw [show fr_seen r bt j = (r.1, r.2.1, va_up r.2.2.1 j (bt ((r.2.1 j).toNatClampNeg)), r.2.2.2.1, r.2.2.2.2.1, r.2.2.2.2.2.1, r.2.2.2.2.2.2) from by first | rfl | (simp [fr_seen, fr_on, fr_cond, fr_con, c_1, c_2, c_3, c_5, c_8, c_9]; done)]
                exact hD
              exact W.zret hx hb hr (sf_b_nb _) (fun t ht _ => ⟨rfl, by rw [ht]; exact hP9, hAe ▸ hD9, hAe ▸ hS.F ht⟩) (fun q hq => by rw [← hAe]; exact hS.2.2 q hq) dX1_lookAtCell_107
            · refine lv_iload hx hb dX1_lookAtCell_97 (lv_at hl 0 rfl) ?_
              refine sf_ifeq (tgt := 106) hx hb dX1_lookAtCell_99 (by decide) (fun c_10 => ?_) (fun c_10 => ?_)
              · refine lv_iconst (v := sf_b false) hx hb dX1_lookAtCell_106 (by decide) ?_
                refine sf_topi (y := sf_b (fr_cond r bt j)) (by first | rfl | (simp [fr_seen, fr_on, fr_cond, fr_con, c_1, c_2, c_3, c_5, c_8, c_9, c_10]; done)) ?_
                have hP9 : va_P (dC, dI) vwCl (wp_R cI cZ a (fr_seen r bt j) ++ [wp_Z hq cZ 24 bt]) H := by
                  rw [show fr_seen r bt j = (r.1, r.2.1, va_up r.2.2.1 j (bt ((r.2.1 j).toNatClampNeg)), r.2.2.2.1, r.2.2.2.2.1, r.2.2.2.2.2.1, r.2.2.2.2.2.2) from by first | rfl | (simp [fr_seen, fr_on, fr_cond, fr_con, c_1, c_2, c_3, c_5, c_8, c_9, c_10]; done)]
                  exact hP
                have hD9 : va_D A (wp_R cI cZ a (fr_seen r bt j) ++ [wp_Z hq cZ 24 bt]) := by
                  rw [show fr_seen r bt j = (r.1, r.2.1, va_up r.2.2.1 j (bt ((r.2.1 j).toNatClampNeg)), r.2.2.2.1, r.2.2.2.2.1, r.2.2.2.2.2.1, r.2.2.2.2.2.2) from by first | rfl | (simp [fr_seen, fr_on, fr_cond, fr_con, c_1, c_2, c_3, c_5, c_8, c_9, c_10]; done)]
                  exact hD
                exact W.zret hx hb hr (sf_b_nb _) (fun t ht _ => ⟨rfl, by rw [ht]; exact hP9, hAe ▸ hD9, hAe ▸ hS.F ht⟩) (fun q hq => by rw [← hAe]; exact hS.2.2 q hq) dX1_lookAtCell_107
              · refine lv_iconst (v := sf_b true) hx hb dX1_lookAtCell_102 (by decide) ?_
                refine lv_goto (tgt := 107) hx hb dX1_lookAtCell_103 (by decide) ?_
                refine sf_topi (y := sf_b (fr_cond r bt j)) (by first | rfl | (simp [fr_seen, fr_on, fr_cond, fr_con, c_1, c_2, c_3, c_5, c_8, c_9, c_10]; done)) ?_
                have hP9 : va_P (dC, dI) vwCl (wp_R cI cZ a (fr_seen r bt j) ++ [wp_Z hq cZ 24 bt]) H := by
                  rw [show fr_seen r bt j = (r.1, r.2.1, va_up r.2.2.1 j (bt ((r.2.1 j).toNatClampNeg)), r.2.2.2.1, r.2.2.2.2.1, r.2.2.2.2.2.1, r.2.2.2.2.2.2) from by first | rfl | (simp [fr_seen, fr_on, fr_cond, fr_con, c_1, c_2, c_3, c_5, c_8, c_9, c_10]; done)]
                  exact hP
                have hD9 : va_D A (wp_R cI cZ a (fr_seen r bt j) ++ [wp_Z hq cZ 24 bt]) := by
                  rw [show fr_seen r bt j = (r.1, r.2.1, va_up r.2.2.1 j (bt ((r.2.1 j).toNatClampNeg)), r.2.2.2.1, r.2.2.2.2.1, r.2.2.2.2.2.1, r.2.2.2.2.2.2) from by first | rfl | (simp [fr_seen, fr_on, fr_cond, fr_con, c_1, c_2, c_3, c_5, c_8, c_9, c_10]; done)]
                  exact hD
                exact W.zret hx hb hr (sf_b_nb _) (fun t ht _ => ⟨rfl, by rw [ht]; exact hP9, hAe ▸ hD9, hAe ▸ hS.F ht⟩) (fun q hq => by rw [← hAe]; exact hS.2.2 q hq) dX1_lookAtCell_107
          · skip
            have h_11 : (r.1 j).toInt < 1 ∨ 5 < (r.1 j).toInt := by
              have q0 : ¬ (r.1 j).toInt = 1 := lv_neT c_1 (by decide)
              have q1 : ¬ (r.1 j).toInt = 2 := lv_neT c_2 (by decide)
              have q2 : ¬ (r.1 j).toInt = 3 := lv_neT c_3 (by decide)
              have q3 : ¬ (r.1 j).toInt = 4 := lv_neT c_5 (by decide)
              have q4 : ¬ (r.1 j).toInt = 5 := lv_neT c_8 (by decide)
              omega
            refine lv_tableOut (tgt := 108) hx hb dX1_lookAtCell_30 h_11 (by decide) ?_
            refine lv_iconst (v := sf_b false) hx hb dX1_lookAtCell_108 (by decide) ?_
            refine sf_topi (y := sf_b (fr_cond r bt j)) (by first | rfl | (simp [fr_seen, fr_on, fr_cond, fr_con, c_1, c_2, c_3, c_5, c_8]; done)) ?_
            have hP9 : va_P (dC, dI) vwCl (wp_R cI cZ a (fr_seen r bt j) ++ [wp_Z hq cZ 24 bt]) H := by
              rw [show fr_seen r bt j = (r.1, r.2.1, va_up r.2.2.1 j (bt ((r.2.1 j).toNatClampNeg)), r.2.2.2.1, r.2.2.2.2.1, r.2.2.2.2.2.1, r.2.2.2.2.2.2) from by first | rfl | (simp [fr_seen, fr_on, fr_cond, fr_con, c_1, c_2, c_3, c_5, c_8]; done)]
              exact hP
            have hD9 : va_D A (wp_R cI cZ a (fr_seen r bt j) ++ [wp_Z hq cZ 24 bt]) := by
              rw [show fr_seen r bt j = (r.1, r.2.1, va_up r.2.2.1 j (bt ((r.2.1 j).toNatClampNeg)), r.2.2.2.1, r.2.2.2.2.1, r.2.2.2.2.2.1, r.2.2.2.2.2.2) from by first | rfl | (simp [fr_seen, fr_on, fr_cond, fr_con, c_1, c_2, c_3, c_5, c_8]; done)]
              exact hD
            exact W.zret hx hb hr (sf_b_nb _) (fun t ht _ => ⟨rfl, by rw [ht]; exact hP9, hAe ▸ hD9, hAe ▸ hS.F ht⟩) (fun q hq => by rw [← hAe]; exact hS.2.2 q hq) dX1_lookAtCell_109
set_option maxHeartbeats 4000000 in
set_option maxRecDepth 100000 in
theorem c_X1_join (l : Launch) (dC : Nat → ClassId) (dI : Nat → Nat → Nat) (cI cZ : ClassId) (a : Nat → Nat) (r : st_R) (row col : Nat) (sz : Nat) (hrow : row < 2) (hcol : col < 4) : Met l yX1_join wX1_join ({ frames := 0, cells := 0, slots := 0, locals := 0 }) (sf_PV (dC, dI) vwCl [(cI, .int), (cZ, .boolean)] (wp_R cI cZ a r) sz [.ref (a 0), .int (nI row), .int (nI col)]) (sf_V (dC, dI) vwCl none (wp_R cI cZ a r) (wp_R cI cZ a (fr_join r row col))) 0 0 (va_A (wp_R cI cZ a r) sz) := by
  refine Met.ofW (cc := cX1_join) (maxL := 6) (ret := none) (by decide) rfl ?_
  intro p e s m args below meth c s₁ B hml hv
  have hx := B.exec
  have hb := B.bytes
  have hr := B.returns
  have hts := atoms_spec (ws := wX1_join) B.pre
  have hg : ∀ w ∈ gw_all, w.before args s = true := fun w h => hts w (List.mem_cons_of_mem _ h)
  have hown : s.vm.findClass RX1 = some m.cls := findClass_of_methodNamed B.named
  have hlocks := B.notSynchronized
  obtain ⟨rfl, hsz, hP, hD0, hK, hZ⟩ := hv
  subst hsz
  have hl := lv_entry ([.ref (a 0), .int (nI row), .int (nI col)]) (n := 6) (Nat.le_of_ble_eq_true rfl)
  rw [lg_entry_eq]
  generalize (lg_sl ([.ref (a 0), .int (nI row), .int (nI col)]) ++ List.replicate (6 - (lg_sl ([.ref (a 0), .int (nI row), .int (nI col)])).length) Slot.unset).toArray = ls at hl ⊢
  have hl : lv_has ls 6 [(0, .ref (a 0)), (1, .int (nI row)), (2, .int (nI col))] := hl
  obtain ⟨A, hAe⟩ : ∃ A : Nat → Prop, A = va_A (wp_R cI cZ a r) s.heap.size := ⟨_, rfl⟩
  have hD := hD0.self (sz := s.heap.size)
  rw [← hAe] at hD
  have hA : ∀ q : Nat, s.heap.size ≤ q → A q := fun q h => by rw [hAe]; exact Or.inr h
  have hS : va_S A s.heap s.heap [] := va_S.rf
  have hP : va_P (dC, dI) vwCl [(a 0, .inr (1, [.ref (a 1), .ref (a 2), .ref (a 3), .ref (a 4), .ref (a 5), .ref (a 6), .ref (a 7)])), (a 1, .inl (cI, 12, .inl r.1)), (a 2, .inl (cI, 12, .inl r.2.1)), (a 3, .inl (cZ, 12, .inl (fun i9 => sf_b (r.2.2.1 i9)))), (a 4, .inl (cZ, 8, .inl (fun i9 => sf_b (r.2.2.2.1 i9)))), (a 5, .inl (cZ, 15, .inl (fun i9 => sf_b (r.2.2.2.2.1 i9)))), (a 6, .inl (cI, 3, .inl r.2.2.2.2.2.1)), (a 7, .inl (cI, 3, .inl r.2.2.2.2.2.2))] s.heap := hP
  have hD : va_D A [(a 0, .inr (1, [.ref (a 1), .ref (a 2), .ref (a 3), .ref (a 4), .ref (a 5), .ref (a 6), .ref (a 7)])), (a 1, .inl (cI, 12, .inl r.1)), (a 2, .inl (cI, 12, .inl r.2.1)), (a 3, .inl (cZ, 12, .inl (fun i9 => sf_b (r.2.2.1 i9)))), (a 4, .inl (cZ, 8, .inl (fun i9 => sf_b (r.2.2.2.1 i9)))), (a 5, .inl (cZ, 15, .inl (fun i9 => sf_b (r.2.2.2.2.1 i9)))), (a 6, .inl (cI, 3, .inl r.2.2.2.2.2.1)), (a 7, .inl (cI, 3, .inl r.2.2.2.2.2.2))] := hD
  refine lv_aload_n hx hb dX1_join_0 rfl (lv_at hl 0 rfl) ?_
  refine va_get (D := (dC, dI)) (ci := 1) (v := .ref (a 4)) (C := RX1) (T := TX1) (N := 7) hx hb hg in_X1 hown hK hP 0 rfl rfl 3 (by decide) (hg _ mw_50) (fun _ h9 => h9) rfl dX1_join_1 ?_
  refine lv_iload_n hx hb dX1_join_4 rfl (lv_at hl 1 rfl) ?_
  refine lv_iconst (v := 4) hx hb dX1_join_5 (by decide) ?_
  refine lv_imul hx hb dX1_join_6 ?_
  refine sf_topi (y := nI (row * 4)) (pk_mul row 4) ?_
  refine lv_iload_n hx hb dX1_join_7 rfl (lv_at hl 2 rfl) ?_
  refine lv_iadd hx hb dX1_join_8 ?_
  refine sf_topi (y := nI (row * 4 + col)) (nI_add (row * 4) col) ?_
  refine sf_zald hx hb hK hP 4 1 rfl rfl (row * 4 + col) rfl (by omega) (by decide) dX1_join_9 ?_
  refine sf_ifne (tgt := 14) hx hb dX1_join_10 (by decide) (fun c_1 => ?_) (fun c_1 => ?_)
  · refine lv_iload_n hx hb dX1_join_14 rfl (lv_at hl 1 rfl) ?_
    refine lv_iconst (v := 5) hx hb dX1_join_15 (by decide) ?_
    refine lv_imul hx hb dX1_join_16 ?_
    refine sf_topi (y := nI (row * 5)) (pk_mul row 5) ?_
    refine lv_iload_n hx hb dX1_join_17 rfl (lv_at hl 2 rfl) ?_
    refine lv_iadd hx hb dX1_join_18 ?_
    refine sf_topi (y := nI (row * 5 + col)) (nI_add (row * 5) col) ?_
    refine lv_iconst (v := 1) hx hb dX1_join_19 (by decide) ?_
    refine lv_iadd hx hb dX1_join_20 ?_
    refine sf_topi (y := nI (row * 5 + col + 1)) (nI_add (row * 5 + col) 1) ?_
    refine lv_istore_n (lv' := [(3, .int (nI (row * 5 + col + 1))), (0, .ref (a 0)), (1, .int (nI row)), (2, .int (nI col))]) hx hb dX1_join_21 rfl hl (by decide) rfl (fun ls hl => ?_)
    refine lv_iload_n hx hb dX1_join_22 rfl (lv_at hl 0 rfl) ?_
    refine lv_iconst (v := 5) hx hb dX1_join_23 (by decide) ?_
    refine lv_iadd hx hb dX1_join_24 ?_
    refine sf_topi (y := nI (row * 5 + col + 1 + 5)) (nI_add (row * 5 + col + 1) 5) ?_
    refine lv_istore (lv' := [(4, .int (nI (row * 5 + col + 1 + 5))), (3, .int (nI (row * 5 + col + 1))), (0, .ref (a 0)), (1, .int (nI row)), (2, .int (nI col))]) hx hb dX1_join_25 hl (by decide) rfl (fun ls hl => ?_)
    refine lv_aload_n hx hb dX1_join_27 rfl (lv_at hl 2 rfl) ?_
    refine va_get (D := (dC, dI)) (ci := 1) (v := .ref (a 5)) (C := RX1) (T := TX1) (N := 7) hx hb hg in_X1 hown hK hP 0 rfl rfl 4 (by decide) (hg _ mw_51) (fun _ h9 => h9) rfl dX1_join_28 ?_
    refine lv_iload_n hx hb dX1_join_31 rfl (lv_at hl 1 rfl) ?_
    refine sf_zald hx hb hK hP 5 1 rfl rfl (row * 5 + col + 1) rfl (by omega) (by decide) dX1_join_32 ?_
    refine sf_ifne (tgt := 46) hx hb dX1_join_33 (by decide) (fun c_2 => ?_) (fun c_2 => ?_)
    · refine lv_iconst (v := sf_b true) hx hb dX1_join_46 (by decide) ?_
      refine lv_goto (tgt := 51) hx hb dX1_join_47 (by decide) ?_
      refine lv_istore (lv' := [(5, .int (sf_b true)), (4, .int (nI (row * 5 + col + 1 + 5))), (3, .int (nI (row * 5 + col + 1))), (0, .ref (a 0)), (1, .int (nI row)), (2, .int (nI col))]) hx hb dX1_join_51 hl (by decide) rfl (fun ls hl => ?_)
      refine lv_aload_n hx hb dX1_join_53 rfl (lv_at hl 3 rfl) ?_
      refine va_get (D := (dC, dI)) (ci := 1) (v := .ref (a 5)) (C := RX1) (T := TX1) (N := 7) hx hb hg in_X1 hown hK hP 0 rfl rfl 4 (by decide) (hg _ mw_51) (fun _ h9 => h9) rfl dX1_join_54 ?_
      refine lv_iload_n hx hb dX1_join_57 rfl (lv_at hl 2 rfl) ?_
      refine lv_iload hx hb dX1_join_58 (lv_at hl 0 rfl) ?_
      refine sf_zast hx hb hK hP hD hS 5 1 rfl rfl (row * 5 + col + 1) rfl (by omega) (by decide) dX1_join_60 (fun H locs hP hD hS => ?_)
      have hP : va_P (dC, dI) vwCl [(a 0, .inr (1, [.ref (a 1), .ref (a 2), .ref (a 3), .ref (a 4), .ref (a 5), .ref (a 6), .ref (a 7)])), (a 1, .inl (cI, 12, .inl r.1)), (a 2, .inl (cI, 12, .inl r.2.1)), (a 3, .inl (cZ, 12, .inl (fun i9 => sf_b (r.2.2.1 i9)))), (a 4, .inl (cZ, 8, .inl (fun i9 => sf_b (r.2.2.2.1 i9)))), (a 5, .inl (cZ, 15, .inl (fun i9 => sf_b ((va_up r.2.2.2.2.1 (row * 5 + col + 1) true) i9)))), (a 6, .inl (cI, 3, .inl r.2.2.2.2.2.1)), (a 7, .inl (cI, 3, .inl r.2.2.2.2.2.2))] H := hP
      have hD : va_D A [(a 0, .inr (1, [.ref (a 1), .ref (a 2), .ref (a 3), .ref (a 4), .ref (a 5), .ref (a 6), .ref (a 7)])), (a 1, .inl (cI, 12, .inl r.1)), (a 2, .inl (cI, 12, .inl r.2.1)), (a 3, .inl (cZ, 12, .inl (fun i9 => sf_b (r.2.2.1 i9)))), (a 4, .inl (cZ, 8, .inl (fun i9 => sf_b (r.2.2.2.1 i9)))), (a 5, .inl (cZ, 15, .inl (fun i9 => sf_b ((va_up r.2.2.2.2.1 (row * 5 + col + 1) true) i9)))), (a 6, .inl (cI, 3, .inl r.2.2.2.2.2.1)), (a 7, .inl (cI, 3, .inl r.2.2.2.2.2.2))] := hD
      refine lv_aload_n hx hb dX1_join_61 rfl (lv_at hl 3 rfl) ?_
      refine va_get (D := (dC, dI)) (ci := 1) (v := .ref (a 5)) (C := RX1) (T := TX1) (N := 7) hx hb hg in_X1 hown hK hP 0 rfl rfl 4 (by decide) (hg _ mw_51) (fun _ h9 => h9) rfl dX1_join_62 ?_
      refine lv_iload hx hb dX1_join_65 (lv_at hl 1 rfl) ?_
      refine lv_iload hx hb dX1_join_67 (lv_at hl 0 rfl) ?_
      refine sf_zast hx hb hK hP hD hS 5 1 rfl rfl (row * 5 + col + 1 + 5) rfl (by omega) (by decide) dX1_join_69 (fun H locs hP hD hS => ?_)
      have hP : va_P (dC, dI) vwCl [(a 0, .inr (1, [.ref (a 1), .ref (a 2), .ref (a 3), .ref (a 4), .ref (a 5), .ref (a 6), .ref (a 7)])), (a 1, .inl (cI, 12, .inl r.1)), (a 2, .inl (cI, 12, .inl r.2.1)), (a 3, .inl (cZ, 12, .inl (fun i9 => sf_b (r.2.2.1 i9)))), (a 4, .inl (cZ, 8, .inl (fun i9 => sf_b (r.2.2.2.1 i9)))), (a 5, .inl (cZ, 15, .inl (fun i9 => sf_b ((va_up (va_up r.2.2.2.2.1 (row * 5 + col + 1) true) (row * 5 + col + 1 + 5) true) i9)))), (a 6, .inl (cI, 3, .inl r.2.2.2.2.2.1)), (a 7, .inl (cI, 3, .inl r.2.2.2.2.2.2))] H := hP
      have hD : va_D A [(a 0, .inr (1, [.ref (a 1), .ref (a 2), .ref (a 3), .ref (a 4), .ref (a 5), .ref (a 6), .ref (a 7)])), (a 1, .inl (cI, 12, .inl r.1)), (a 2, .inl (cI, 12, .inl r.2.1)), (a 3, .inl (cZ, 12, .inl (fun i9 => sf_b (r.2.2.1 i9)))), (a 4, .inl (cZ, 8, .inl (fun i9 => sf_b (r.2.2.2.1 i9)))), (a 5, .inl (cZ, 15, .inl (fun i9 => sf_b ((va_up (va_up r.2.2.2.2.1 (row * 5 + col + 1) true) (row * 5 + col + 1 + 5) true) i9)))), (a 6, .inl (cI, 3, .inl r.2.2.2.2.2.1)), (a 7, .inl (cI, 3, .inl r.2.2.2.2.2.2))] := hD
      have hP9 : va_P (dC, dI) vwCl (wp_R cI cZ a (fr_join r row col)) H := by
        rw [show fr_join r row col = (r.1, r.2.1, r.2.2.1, r.2.2.2.1, va_up (va_up r.2.2.2.2.1 (row * 5 + col + 1) true) (row * 5 + col + 1 + 5) true, r.2.2.2.2.2.1, r.2.2.2.2.2.2) from by first | rfl | (simp [fr_join, fr_pw, fr_either, c_1, c_2]; done)]
        exact hP
      have hD9 : va_D A (wp_R cI cZ a (fr_join r row col)) := by
        rw [show fr_join r row col = (r.1, r.2.1, r.2.2.1, r.2.2.2.1, va_up (va_up r.2.2.2.2.1 (row * 5 + col + 1) true) (row * 5 + col + 1 + 5) true, r.2.2.2.2.2.1, r.2.2.2.2.2.2) from by first | rfl | (simp [fr_join, fr_pw, fr_either, c_1, c_2]; done)]
        exact hD
      exact W.vret hx hb hr (fun t ht _ => ⟨rfl, by rw [ht]; exact hP9, hAe ▸ hD9, hAe ▸ hS.F ht⟩) (fun q hq => by rw [← hAe]; exact hS.2.2 q hq) dX1_join_70
    · refine lv_aload_n hx hb dX1_join_36 rfl (lv_at hl 2 rfl) ?_
      refine va_get (D := (dC, dI)) (ci := 1) (v := .ref (a 5)) (C := RX1) (T := TX1) (N := 7) hx hb hg in_X1 hown hK hP 0 rfl rfl 4 (by decide) (hg _ mw_51) (fun _ h9 => h9) rfl dX1_join_37 ?_
      refine lv_iload hx hb dX1_join_40 (lv_at hl 0 rfl) ?_
      refine sf_zald hx hb hK hP 5 1 rfl rfl (row * 5 + col + 1 + 5) rfl (by omega) (by decide) dX1_join_42 ?_
      refine sf_ifeq (tgt := 50) hx hb dX1_join_43 (by decide) (fun c_3 => ?_) (fun c_3 => ?_)
      · refine lv_iconst (v := sf_b false) hx hb dX1_join_50 (by decide) ?_
        refine lv_istore (lv' := [(5, .int (sf_b false)), (4, .int (nI (row * 5 + col + 1 + 5))), (3, .int (nI (row * 5 + col + 1))), (0, .ref (a 0)), (1, .int (nI row)), (2, .int (nI col))]) hx hb dX1_join_51 hl (by decide) rfl (fun ls hl => ?_)
        refine lv_aload_n hx hb dX1_join_53 rfl (lv_at hl 3 rfl) ?_
        refine va_get (D := (dC, dI)) (ci := 1) (v := .ref (a 5)) (C := RX1) (T := TX1) (N := 7) hx hb hg in_X1 hown hK hP 0 rfl rfl 4 (by decide) (hg _ mw_51) (fun _ h9 => h9) rfl dX1_join_54 ?_
        refine lv_iload_n hx hb dX1_join_57 rfl (lv_at hl 2 rfl) ?_
        refine lv_iload hx hb dX1_join_58 (lv_at hl 0 rfl) ?_
        refine sf_zast hx hb hK hP hD hS 5 1 rfl rfl (row * 5 + col + 1) rfl (by omega) (by decide) dX1_join_60 (fun H locs hP hD hS => ?_)
        have hP : va_P (dC, dI) vwCl [(a 0, .inr (1, [.ref (a 1), .ref (a 2), .ref (a 3), .ref (a 4), .ref (a 5), .ref (a 6), .ref (a 7)])), (a 1, .inl (cI, 12, .inl r.1)), (a 2, .inl (cI, 12, .inl r.2.1)), (a 3, .inl (cZ, 12, .inl (fun i9 => sf_b (r.2.2.1 i9)))), (a 4, .inl (cZ, 8, .inl (fun i9 => sf_b (r.2.2.2.1 i9)))), (a 5, .inl (cZ, 15, .inl (fun i9 => sf_b ((va_up r.2.2.2.2.1 (row * 5 + col + 1) false) i9)))), (a 6, .inl (cI, 3, .inl r.2.2.2.2.2.1)), (a 7, .inl (cI, 3, .inl r.2.2.2.2.2.2))] H := hP
        have hD : va_D A [(a 0, .inr (1, [.ref (a 1), .ref (a 2), .ref (a 3), .ref (a 4), .ref (a 5), .ref (a 6), .ref (a 7)])), (a 1, .inl (cI, 12, .inl r.1)), (a 2, .inl (cI, 12, .inl r.2.1)), (a 3, .inl (cZ, 12, .inl (fun i9 => sf_b (r.2.2.1 i9)))), (a 4, .inl (cZ, 8, .inl (fun i9 => sf_b (r.2.2.2.1 i9)))), (a 5, .inl (cZ, 15, .inl (fun i9 => sf_b ((va_up r.2.2.2.2.1 (row * 5 + col + 1) false) i9)))), (a 6, .inl (cI, 3, .inl r.2.2.2.2.2.1)), (a 7, .inl (cI, 3, .inl r.2.2.2.2.2.2))] := hD
        refine lv_aload_n hx hb dX1_join_61 rfl (lv_at hl 3 rfl) ?_
        refine va_get (D := (dC, dI)) (ci := 1) (v := .ref (a 5)) (C := RX1) (T := TX1) (N := 7) hx hb hg in_X1 hown hK hP 0 rfl rfl 4 (by decide) (hg _ mw_51) (fun _ h9 => h9) rfl dX1_join_62 ?_
        refine lv_iload hx hb dX1_join_65 (lv_at hl 1 rfl) ?_
        refine lv_iload hx hb dX1_join_67 (lv_at hl 0 rfl) ?_
        refine sf_zast hx hb hK hP hD hS 5 1 rfl rfl (row * 5 + col + 1 + 5) rfl (by omega) (by decide) dX1_join_69 (fun H locs hP hD hS => ?_)
        have hP : va_P (dC, dI) vwCl [(a 0, .inr (1, [.ref (a 1), .ref (a 2), .ref (a 3), .ref (a 4), .ref (a 5), .ref (a 6), .ref (a 7)])), (a 1, .inl (cI, 12, .inl r.1)), (a 2, .inl (cI, 12, .inl r.2.1)), (a 3, .inl (cZ, 12, .inl (fun i9 => sf_b (r.2.2.1 i9)))), (a 4, .inl (cZ, 8, .inl (fun i9 => sf_b (r.2.2.2.1 i9)))), (a 5, .inl (cZ, 15, .inl (fun i9 => sf_b ((va_up (va_up r.2.2.2.2.1 (row * 5 + col + 1) false) (row * 5 + col + 1 + 5) false) i9)))), (a 6, .inl (cI, 3, .inl r.2.2.2.2.2.1)), (a 7, .inl (cI, 3, .inl r.2.2.2.2.2.2))] H := hP
        have hD : va_D A [(a 0, .inr (1, [.ref (a 1), .ref (a 2), .ref (a 3), .ref (a 4), .ref (a 5), .ref (a 6), .ref (a 7)])), (a 1, .inl (cI, 12, .inl r.1)), (a 2, .inl (cI, 12, .inl r.2.1)), (a 3, .inl (cZ, 12, .inl (fun i9 => sf_b (r.2.2.1 i9)))), (a 4, .inl (cZ, 8, .inl (fun i9 => sf_b (r.2.2.2.1 i9)))), (a 5, .inl (cZ, 15, .inl (fun i9 => sf_b ((va_up (va_up r.2.2.2.2.1 (row * 5 + col + 1) false) (row * 5 + col + 1 + 5) false) i9)))), (a 6, .inl (cI, 3, .inl r.2.2.2.2.2.1)), (a 7, .inl (cI, 3, .inl r.2.2.2.2.2.2))] := hD
        have hP9 : va_P (dC, dI) vwCl (wp_R cI cZ a (fr_join r row col)) H := by
          rw [show fr_join r row col = (r.1, r.2.1, r.2.2.1, r.2.2.2.1, va_up (va_up r.2.2.2.2.1 (row * 5 + col + 1) false) (row * 5 + col + 1 + 5) false, r.2.2.2.2.2.1, r.2.2.2.2.2.2) from by first | rfl | (simp [fr_join, fr_pw, fr_either, c_1, c_2, c_3]; done)]
          exact hP
        have hD9 : va_D A (wp_R cI cZ a (fr_join r row col)) := by
          rw [show fr_join r row col = (r.1, r.2.1, r.2.2.1, r.2.2.2.1, va_up (va_up r.2.2.2.2.1 (row * 5 + col + 1) false) (row * 5 + col + 1 + 5) false, r.2.2.2.2.2.1, r.2.2.2.2.2.2) from by first | rfl | (simp [fr_join, fr_pw, fr_either, c_1, c_2, c_3]; done)]
          exact hD
        exact W.vret hx hb hr (fun t ht _ => ⟨rfl, by rw [ht]; exact hP9, hAe ▸ hD9, hAe ▸ hS.F ht⟩) (fun q hq => by rw [← hAe]; exact hS.2.2 q hq) dX1_join_70
      · refine lv_iconst (v := sf_b true) hx hb dX1_join_46 (by decide) ?_
        refine lv_goto (tgt := 51) hx hb dX1_join_47 (by decide) ?_
        refine lv_istore (lv' := [(5, .int (sf_b true)), (4, .int (nI (row * 5 + col + 1 + 5))), (3, .int (nI (row * 5 + col + 1))), (0, .ref (a 0)), (1, .int (nI row)), (2, .int (nI col))]) hx hb dX1_join_51 hl (by decide) rfl (fun ls hl => ?_)
        refine lv_aload_n hx hb dX1_join_53 rfl (lv_at hl 3 rfl) ?_
        refine va_get (D := (dC, dI)) (ci := 1) (v := .ref (a 5)) (C := RX1) (T := TX1) (N := 7) hx hb hg in_X1 hown hK hP 0 rfl rfl 4 (by decide) (hg _ mw_51) (fun _ h9 => h9) rfl dX1_join_54 ?_
        refine lv_iload_n hx hb dX1_join_57 rfl (lv_at hl 2 rfl) ?_
        refine lv_iload hx hb dX1_join_58 (lv_at hl 0 rfl) ?_
        refine sf_zast hx hb hK hP hD hS 5 1 rfl rfl (row * 5 + col + 1) rfl (by omega) (by decide) dX1_join_60 (fun H locs hP hD hS => ?_)
        have hP : va_P (dC, dI) vwCl [(a 0, .inr (1, [.ref (a 1), .ref (a 2), .ref (a 3), .ref (a 4), .ref (a 5), .ref (a 6), .ref (a 7)])), (a 1, .inl (cI, 12, .inl r.1)), (a 2, .inl (cI, 12, .inl r.2.1)), (a 3, .inl (cZ, 12, .inl (fun i9 => sf_b (r.2.2.1 i9)))), (a 4, .inl (cZ, 8, .inl (fun i9 => sf_b (r.2.2.2.1 i9)))), (a 5, .inl (cZ, 15, .inl (fun i9 => sf_b ((va_up r.2.2.2.2.1 (row * 5 + col + 1) true) i9)))), (a 6, .inl (cI, 3, .inl r.2.2.2.2.2.1)), (a 7, .inl (cI, 3, .inl r.2.2.2.2.2.2))] H := hP
        have hD : va_D A [(a 0, .inr (1, [.ref (a 1), .ref (a 2), .ref (a 3), .ref (a 4), .ref (a 5), .ref (a 6), .ref (a 7)])), (a 1, .inl (cI, 12, .inl r.1)), (a 2, .inl (cI, 12, .inl r.2.1)), (a 3, .inl (cZ, 12, .inl (fun i9 => sf_b (r.2.2.1 i9)))), (a 4, .inl (cZ, 8, .inl (fun i9 => sf_b (r.2.2.2.1 i9)))), (a 5, .inl (cZ, 15, .inl (fun i9 => sf_b ((va_up r.2.2.2.2.1 (row * 5 + col + 1) true) i9)))), (a 6, .inl (cI, 3, .inl r.2.2.2.2.2.1)), (a 7, .inl (cI, 3, .inl r.2.2.2.2.2.2))] := hD
        refine lv_aload_n hx hb dX1_join_61 rfl (lv_at hl 3 rfl) ?_
        refine va_get (D := (dC, dI)) (ci := 1) (v := .ref (a 5)) (C := RX1) (T := TX1) (N := 7) hx hb hg in_X1 hown hK hP 0 rfl rfl 4 (by decide) (hg _ mw_51) (fun _ h9 => h9) rfl dX1_join_62 ?_
        refine lv_iload hx hb dX1_join_65 (lv_at hl 1 rfl) ?_
        refine lv_iload hx hb dX1_join_67 (lv_at hl 0 rfl) ?_
        refine sf_zast hx hb hK hP hD hS 5 1 rfl rfl (row * 5 + col + 1 + 5) rfl (by omega) (by decide) dX1_join_69 (fun H locs hP hD hS => ?_)
        have hP : va_P (dC, dI) vwCl [(a 0, .inr (1, [.ref (a 1), .ref (a 2), .ref (a 3), .ref (a 4), .ref (a 5), .ref (a 6), .ref (a 7)])), (a 1, .inl (cI, 12, .inl r.1)), (a 2, .inl (cI, 12, .inl r.2.1)), (a 3, .inl (cZ, 12, .inl (fun i9 => sf_b (r.2.2.1 i9)))), (a 4, .inl (cZ, 8, .inl (fun i9 => sf_b (r.2.2.2.1 i9)))), (a 5, .inl (cZ, 15, .inl (fun i9 => sf_b ((va_up (va_up r.2.2.2.2.1 (row * 5 + col + 1) true) (row * 5 + col + 1 + 5) true) i9)))), (a 6, .inl (cI, 3, .inl r.2.2.2.2.2.1)), (a 7, .inl (cI, 3, .inl r.2.2.2.2.2.2))] H := hP
        have hD : va_D A [(a 0, .inr (1, [.ref (a 1), .ref (a 2), .ref (a 3), .ref (a 4), .ref (a 5), .ref (a 6), .ref (a 7)])), (a 1, .inl (cI, 12, .inl r.1)), (a 2, .inl (cI, 12, .inl r.2.1)), (a 3, .inl (cZ, 12, .inl (fun i9 => sf_b (r.2.2.1 i9)))), (a 4, .inl (cZ, 8, .inl (fun i9 => sf_b (r.2.2.2.1 i9)))), (a 5, .inl (cZ, 15, .inl (fun i9 => sf_b ((va_up (va_up r.2.2.2.2.1 (row * 5 + col + 1) true) (row * 5 + col + 1 + 5) true) i9)))), (a 6, .inl (cI, 3, .inl r.2.2.2.2.2.1)), (a 7, .inl (cI, 3, .inl r.2.2.2.2.2.2))] := hD
        have hP9 : va_P (dC, dI) vwCl (wp_R cI cZ a (fr_join r row col)) H := by
          rw [show fr_join r row col = (r.1, r.2.1, r.2.2.1, r.2.2.2.1, va_up (va_up r.2.2.2.2.1 (row * 5 + col + 1) true) (row * 5 + col + 1 + 5) true, r.2.2.2.2.2.1, r.2.2.2.2.2.2) from by first | rfl | (simp [fr_join, fr_pw, fr_either, c_1, c_2, c_3]; done)]
          exact hP
        have hD9 : va_D A (wp_R cI cZ a (fr_join r row col)) := by
          rw [show fr_join r row col = (r.1, r.2.1, r.2.2.1, r.2.2.2.1, va_up (va_up r.2.2.2.2.1 (row * 5 + col + 1) true) (row * 5 + col + 1 + 5) true, r.2.2.2.2.2.1, r.2.2.2.2.2.2) from by first | rfl | (simp [fr_join, fr_pw, fr_either, c_1, c_2, c_3]; done)]
          exact hD
        exact W.vret hx hb hr (fun t ht _ => ⟨rfl, by rw [ht]; exact hP9, hAe ▸ hD9, hAe ▸ hS.F ht⟩) (fun q hq => by rw [← hAe]; exact hS.2.2 q hq) dX1_join_70
  · have hP9 : va_P (dC, dI) vwCl (wp_R cI cZ a (fr_join r row col)) s.heap := by
      rw [show fr_join r row col = (r.1, r.2.1, r.2.2.1, r.2.2.2.1, r.2.2.2.2.1, r.2.2.2.2.2.1, r.2.2.2.2.2.2) from by first | rfl | (simp [fr_join, fr_pw, fr_either, c_1]; done)]
      exact hP
    have hD9 : va_D A (wp_R cI cZ a (fr_join r row col)) := by
      rw [show fr_join r row col = (r.1, r.2.1, r.2.2.1, r.2.2.2.1, r.2.2.2.2.1, r.2.2.2.2.2.1, r.2.2.2.2.2.2) from by first | rfl | (simp [fr_join, fr_pw, fr_either, c_1]; done)]
      exact hD
    exact W.vret hx hb hr (fun t ht _ => ⟨rfl, by rw [ht]; exact hP9, hAe ▸ hD9, hAe ▸ hS.F ht⟩) (fun q hq => by rw [← hAe]; exact hS.2.2 q hq) dX1_join_13
end
section
set_option maxHeartbeats 4000000 in
set_option maxRecDepth 100000 in
/-- a column of look -/
theorem lk_col (l : Launch) (dC : Nat → ClassId) (dI : Nat → Nat → Nat) (cI cZ : ClassId) (a : Nat → Nat) (hq : Nat) (bt : Nat → Bool) {p : Program} {e : Env} {s : State} {m : MethodId} {args : Array Value} {below : List Frame} {meth : Method} {c : Code} {Q : State → Prop} (hx : p.tables.exec = Jvm.exec) (hb : c.code = cX1_look) (hml : c.maxLocals = 5) (hown : s.vm.findClass RX1 = some m.cls) (hg : ∀ w ∈ gw_all, w.before args s = true) (hZ : nw_ok s) (hK : va_K (dC, dI) vwCl [(cI, .int), (cZ, .boolean)] s) {A : Nat → Prop} (hA : ∀ q : Nat, s.heap.size ≤ q → A q) (n : Nat) (hn : n < 4) (r : st_R) (hcb : ∀ j, j < 12 → fc_ix (r.2.1 j) 24 = true) {H : Heap} {locs : List Loc} {ls : Array Slot} (hP : va_P (dC, dI) vwCl (wp_R cI cZ a r ++ [wp_Z hq cZ 24 bt]) H) (hD : va_D A (wp_R cI cZ a r ++ [wp_Z hq cZ 24 bt])) (hS : va_S A s.heap H locs) (hl : lv_has ls 5 [(0, .ref (a 0)), (1, .ref hq), (2, .int (nI n))])
    (kk : ∀ (H : Heap) (locs : List Loc) (ls : Array Slot), va_P (dC, dI) vwCl (wp_R cI cZ a (fr_col r bt n) ++ [wp_Z hq cZ 24 bt]) H → va_D A (wp_R cI cZ a (fr_col r bt n) ++ [wp_Z hq cZ 24 bt]) → va_S A s.heap H locs → lv_has ls 5 [(0, .ref (a 0)), (1, .ref hq), (2, .int (nI (n + 1)))] → W p l e (headSpec wX1_look ({ frames := 1, cells := 0, slots := 0, locals := 25 })).room s m args below meth c H locs 0 0 Q (F0 m 24 ls [])) : W p l e (headSpec wX1_look ({ frames := 1, cells := 0, slots := 0, locals := 25 })).room s m args below meth c H locs 0 0 Q (F0 m 29 ls []) := by
  have hP : va_P (dC, dI) vwCl [(a 0, .inr (1, [.ref (a 1), .ref (a 2), .ref (a 3), .ref (a 4), .ref (a 5), .ref (a 6), .ref (a 7)])), (a 1, .inl (cI, 12, .inl r.1)), (a 2, .inl (cI, 12, .inl r.2.1)), (a 3, .inl (cZ, 12, .inl (fun i9 => sf_b (r.2.2.1 i9)))), (a 4, .inl (cZ, 8, .inl (fun i9 => sf_b (r.2.2.2.1 i9)))), (a 5, .inl (cZ, 15, .inl (fun i9 => sf_b (r.2.2.2.2.1 i9)))), (a 6, .inl (cI, 3, .inl r.2.2.2.2.2.1)), (a 7, .inl (cI, 3, .inl r.2.2.2.2.2.2)), (hq, .inl (cZ, 24, .inl (fun i9 => sf_b (bt i9))))] H := hP
  have hD : va_D A [(a 0, .inr (1, [.ref (a 1), .ref (a 2), .ref (a 3), .ref (a 4), .ref (a 5), .ref (a 6), .ref (a 7)])), (a 1, .inl (cI, 12, .inl r.1)), (a 2, .inl (cI, 12, .inl r.2.1)), (a 3, .inl (cZ, 12, .inl (fun i9 => sf_b (r.2.2.1 i9)))), (a 4, .inl (cZ, 8, .inl (fun i9 => sf_b (r.2.2.2.1 i9)))), (a 5, .inl (cZ, 15, .inl (fun i9 => sf_b (r.2.2.2.2.1 i9)))), (a 6, .inl (cI, 3, .inl r.2.2.2.2.2.1)), (a 7, .inl (cI, 3, .inl r.2.2.2.2.2.2)), (hq, .inl (cZ, 24, .inl (fun i9 => sf_b (bt i9))))] := hD
  refine lv_iconst (v := 0) hx hb dX1_look_29 (by decide) ?_
  refine lv_istore_n (lv' := [(3, .int 0), (0, .ref (a 0)), (1, .ref hq), (2, .int (nI n))]) hx hb dX1_look_30 rfl hl (by decide) rfl (fun ls hl => ?_)
  refine lv_iload_n hx hb dX1_look_31 rfl (lv_at hl 0 rfl) ?_
  refine lv_iconst (v := 3) hx hb dX1_look_32 (by decide) ?_
  refine lv_icmp_ge (tgt := 87) hx hb dX1_look_33 (by decide) (fun h => absurd h (by decide)) (fun _ => ?_)
  refine lv_aload_n hx hb dX1_look_36 rfl (lv_at hl 1 rfl) ?_
  refine lv_iload_n hx hb dX1_look_37 rfl (lv_at hl 0 rfl) ?_
  refine lv_iconst (v := 4) hx hb dX1_look_38 (by decide) ?_
  refine lv_imul hx hb dX1_look_39 ?_
  refine sf_topi (y := nI (0 * 4)) (pk_mul 0 4) ?_
  refine lv_iload_n hx hb dX1_look_40 rfl (lv_at hl 3 rfl) ?_
  refine lv_iadd hx hb dX1_look_41 ?_
  refine sf_topi (y := nI (0 * 4 + n)) (nI_add (0 * 4) n) ?_
  refine lv_aload_n hx hb dX1_look_42 rfl (lv_at hl 2 rfl) ?_
  have hPc : va_P (dC, dI) vwCl ((wp_R cI cZ a r ++ [wp_Z hq cZ 24 bt]) ++ []) H := hP.sub [0, 1, 2, 3, 4, 5, 6, 7, 8] rfl
  have hDc : va_D A ((wp_R cI cZ a r ++ [wp_Z hq cZ 24 bt]) ++ []) := hD.sub [0, 1, 2, 3, 4, 5, 6, 7, 8] (by decide) rfl
  refine sf_callVi (va_runV (As := [.int (nI (0 * 4 + n)), .ref hq]) (rest := []) ⟨hx, hb, hml, hown, hg⟩ (c_X1_lookAtCell l dC dI cI cZ a r hq bt (0 * 4 + n) _ (by omega) hcb) (cwV 2 hg (gw_V mw_381 mw_383 mw_3 mw_22 mw_384) rfl rfl rfl (by decide +kernel) ⟨Nat.le_of_ble_eq_true rfl, Nat.le_of_ble_eq_true rfl⟩) (sf_preVV (va_recv hK hP (ci := 1) (q0 := 0) rfl rfl) hK hZ hPc hDc) rfl rfl hl.1 rfl (lv_room (Nat.le_of_ble_eq_true rfl)) dX1_look_43 ⟨Nat.zero_le _, Nat.zero_le _⟩) hS hPc hDc hA (fun H locs hP hD hS => ?_)
  have hP : va_P (dC, dI) vwCl [(a 0, .inr (1, [.ref (a 1), .ref (a 2), .ref (a 3), .ref (a 4), .ref (a 5), .ref (a 6), .ref (a 7)])), (a 1, .inl (cI, 12, .inl ((fr_seen r bt (0 * 4 + n)).1))), (a 2, .inl (cI, 12, .inl ((fr_seen r bt (0 * 4 + n)).2.1))), (a 3, .inl (cZ, 12, .inl (fun i9 => sf_b (((fr_seen r bt (0 * 4 + n)).2.2.1) i9)))), (a 4, .inl (cZ, 8, .inl (fun i9 => sf_b (((fr_seen r bt (0 * 4 + n)).2.2.2.1) i9)))), (a 5, .inl (cZ, 15, .inl (fun i9 => sf_b (((fr_seen r bt (0 * 4 + n)).2.2.2.2.1) i9)))), (a 6, .inl (cI, 3, .inl ((fr_seen r bt (0 * 4 + n)).2.2.2.2.2.1))), (a 7, .inl (cI, 3, .inl ((fr_seen r bt (0 * 4 + n)).2.2.2.2.2.2))), (hq, .inl (cZ, 24, .inl (fun i9 => sf_b (bt i9))))] H := hP
  have hD : va_D A [(a 0, .inr (1, [.ref (a 1), .ref (a 2), .ref (a 3), .ref (a 4), .ref (a 5), .ref (a 6), .ref (a 7)])), (a 1, .inl (cI, 12, .inl ((fr_seen r bt (0 * 4 + n)).1))), (a 2, .inl (cI, 12, .inl ((fr_seen r bt (0 * 4 + n)).2.1))), (a 3, .inl (cZ, 12, .inl (fun i9 => sf_b (((fr_seen r bt (0 * 4 + n)).2.2.1) i9)))), (a 4, .inl (cZ, 8, .inl (fun i9 => sf_b (((fr_seen r bt (0 * 4 + n)).2.2.2.1) i9)))), (a 5, .inl (cZ, 15, .inl (fun i9 => sf_b (((fr_seen r bt (0 * 4 + n)).2.2.2.2.1) i9)))), (a 6, .inl (cI, 3, .inl ((fr_seen r bt (0 * 4 + n)).2.2.2.2.2.1))), (a 7, .inl (cI, 3, .inl ((fr_seen r bt (0 * 4 + n)).2.2.2.2.2.2))), (hq, .inl (cZ, 24, .inl (fun i9 => sf_b (bt i9))))] := hD
  refine lv_istore (lv' := [(4, .int (sf_b (fr_cond r bt (0 * 4 + n)))), (3, .int 0), (0, .ref (a 0)), (1, .ref hq), (2, .int (nI n))]) hx hb dX1_look_46 hl (by decide) rfl (fun ls hl => ?_)
  refine lv_aload_n hx hb dX1_look_48 rfl (lv_at hl 2 rfl) ?_
  refine va_get (D := (dC, dI)) (ci := 1) (v := .ref (a 5)) (C := RX1) (T := TX1) (N := 7) hx hb hg in_X1 hown hK hP 0 rfl rfl 4 (by decide) (hg _ mw_51) (fun _ h9 => h9) rfl dX1_look_49 ?_
  refine lv_iload_n hx hb dX1_look_52 rfl (lv_at hl 1 rfl) ?_
  refine lv_iconst (v := 5) hx hb dX1_look_53 (by decide) ?_
  refine lv_imul hx hb dX1_look_54 ?_
  refine sf_topi (y := nI (0 * 5)) (pk_mul 0 5) ?_
  refine lv_iload_n hx hb dX1_look_55 rfl (lv_at hl 4 rfl) ?_
  refine lv_iadd hx hb dX1_look_56 ?_
  refine sf_topi (y := nI (0 * 5 + n)) (nI_add (0 * 5) n) ?_
  refine lv_iconst (v := 1) hx hb dX1_look_57 (by decide) ?_
  refine lv_iadd hx hb dX1_look_58 ?_
  refine sf_topi (y := nI (0 * 5 + n + 1)) (nI_add (0 * 5 + n) 1) ?_
  refine lv_iload hx hb dX1_look_59 (lv_at hl 0 rfl) ?_
  refine sf_cutb 80 (fr_cond r bt (0 * 4 + n) && r.2.2.2.2.1 (0 * 5 + n)) (fun v => [.int (sf_b v), .int (nI (0 * 5 + n + 1)), .ref (a 5)]) ?_ (fun k_2 => ?_)
  · refine sf_zast hx hb hK hP hD hS 5 1 rfl rfl (0 * 5 + n + 1) rfl (by omega) (by decide) dX1_look_80 (fun H locs hP hD hS => ?_)
    have hP : va_P (dC, dI) vwCl [(a 0, .inr (1, [.ref (a 1), .ref (a 2), .ref (a 3), .ref (a 4), .ref (a 5), .ref (a 6), .ref (a 7)])), (a 1, .inl (cI, 12, .inl ((fr_seen r bt (0 * 4 + n)).1))), (a 2, .inl (cI, 12, .inl ((fr_seen r bt (0 * 4 + n)).2.1))), (a 3, .inl (cZ, 12, .inl (fun i9 => sf_b (((fr_seen r bt (0 * 4 + n)).2.2.1) i9)))), (a 4, .inl (cZ, 8, .inl (fun i9 => sf_b (((fr_seen r bt (0 * 4 + n)).2.2.2.1) i9)))), (a 5, .inl (cZ, 15, .inl (fun i9 => sf_b ((va_up ((fr_seen r bt (0 * 4 + n)).2.2.2.2.1) (0 * 5 + n + 1) (fr_cond r bt (0 * 4 + n) && r.2.2.2.2.1 (0 * 5 + n))) i9)))), (a 6, .inl (cI, 3, .inl ((fr_seen r bt (0 * 4 + n)).2.2.2.2.2.1))), (a 7, .inl (cI, 3, .inl ((fr_seen r bt (0 * 4 + n)).2.2.2.2.2.2))), (hq, .inl (cZ, 24, .inl (fun i9 => sf_b (bt i9))))] H := hP
    have hD : va_D A [(a 0, .inr (1, [.ref (a 1), .ref (a 2), .ref (a 3), .ref (a 4), .ref (a 5), .ref (a 6), .ref (a 7)])), (a 1, .inl (cI, 12, .inl ((fr_seen r bt (0 * 4 + n)).1))), (a 2, .inl (cI, 12, .inl ((fr_seen r bt (0 * 4 + n)).2.1))), (a 3, .inl (cZ, 12, .inl (fun i9 => sf_b (((fr_seen r bt (0 * 4 + n)).2.2.1) i9)))), (a 4, .inl (cZ, 8, .inl (fun i9 => sf_b (((fr_seen r bt (0 * 4 + n)).2.2.2.1) i9)))), (a 5, .inl (cZ, 15, .inl (fun i9 => sf_b ((va_up ((fr_seen r bt (0 * 4 + n)).2.2.2.2.1) (0 * 5 + n + 1) (fr_cond r bt (0 * 4 + n) && r.2.2.2.2.1 (0 * 5 + n))) i9)))), (a 6, .inl (cI, 3, .inl ((fr_seen r bt (0 * 4 + n)).2.2.2.2.2.1))), (a 7, .inl (cI, 3, .inl ((fr_seen r bt (0 * 4 + n)).2.2.2.2.2.2))), (hq, .inl (cZ, 24, .inl (fun i9 => sf_b (bt i9))))] := hD
    have hP : va_P (dC, dI) vwCl [(a 0, .inr (1, [.ref (a 1), .ref (a 2), .ref (a 3), .ref (a 4), .ref (a 5), .ref (a 6), .ref (a 7)])), (a 1, .inl (cI, 12, .inl ((fr_step r bt n 0).1))), (a 2, .inl (cI, 12, .inl ((fr_step r bt n 0).2.1))), (a 3, .inl (cZ, 12, .inl (fun i9 => sf_b (((fr_step r bt n 0).2.2.1) i9)))), (a 4, .inl (cZ, 8, .inl (fun i9 => sf_b (((fr_step r bt n 0).2.2.2.1) i9)))), (a 5, .inl (cZ, 15, .inl (fun i9 => sf_b (((fr_step r bt n 0).2.2.2.2.1) i9)))), (a 6, .inl (cI, 3, .inl ((fr_step r bt n 0).2.2.2.2.2.1))), (a 7, .inl (cI, 3, .inl ((fr_step r bt n 0).2.2.2.2.2.2))), (hq, .inl (cZ, 24, .inl (fun i9 => sf_b (bt i9))))] H := hP
    have hD : va_D A [(a 0, .inr (1, [.ref (a 1), .ref (a 2), .ref (a 3), .ref (a 4), .ref (a 5), .ref (a 6), .ref (a 7)])), (a 1, .inl (cI, 12, .inl ((fr_step r bt n 0).1))), (a 2, .inl (cI, 12, .inl ((fr_step r bt n 0).2.1))), (a 3, .inl (cZ, 12, .inl (fun i9 => sf_b (((fr_step r bt n 0).2.2.1) i9)))), (a 4, .inl (cZ, 8, .inl (fun i9 => sf_b (((fr_step r bt n 0).2.2.2.1) i9)))), (a 5, .inl (cZ, 15, .inl (fun i9 => sf_b (((fr_step r bt n 0).2.2.2.2.1) i9)))), (a 6, .inl (cI, 3, .inl ((fr_step r bt n 0).2.2.2.2.2.1))), (a 7, .inl (cI, 3, .inl ((fr_step r bt n 0).2.2.2.2.2.2))), (hq, .inl (cZ, 24, .inl (fun i9 => sf_b (bt i9))))] := hD
    refine lv_iinc (v := 1) (lv' := [(3, .int 1), (4, .int (sf_b (fr_cond r bt (0 * 4 + n)))), (0, .ref (a 0)), (1, .ref hq), (2, .int (nI n))]) hx hb dX1_look_81 hl (k := 1) rfl (by decide) (by decide) rfl (fun ls hl => ?_)
    refine lv_goto (tgt := 31) hx hb dX1_look_84 (by decide) ?_
    refine lv_iload_n hx hb dX1_look_31 rfl (lv_at hl 0 rfl) ?_
    refine lv_iconst (v := 3) hx hb dX1_look_32 (by decide) ?_
    refine lv_icmp_ge (tgt := 87) hx hb dX1_look_33 (by decide) (fun h => absurd h (by decide)) (fun _ => ?_)
    refine lv_aload_n hx hb dX1_look_36 rfl (lv_at hl 2 rfl) ?_
    refine lv_iload_n hx hb dX1_look_37 rfl (lv_at hl 0 rfl) ?_
    refine lv_iconst (v := 4) hx hb dX1_look_38 (by decide) ?_
    refine lv_imul hx hb dX1_look_39 ?_
    refine sf_topi (y := nI (1 * 4)) (pk_mul 1 4) ?_
    refine lv_iload_n hx hb dX1_look_40 rfl (lv_at hl 4 rfl) ?_
    refine lv_iadd hx hb dX1_look_41 ?_
    refine sf_topi (y := nI (1 * 4 + n)) (nI_add (1 * 4) n) ?_
    refine lv_aload_n hx hb dX1_look_42 rfl (lv_at hl 3 rfl) ?_
    have hPc : va_P (dC, dI) vwCl ((wp_R cI cZ a (fr_step r bt n 0) ++ [wp_Z hq cZ 24 bt]) ++ []) H := hP.sub [0, 1, 2, 3, 4, 5, 6, 7, 8] rfl
    have hDc : va_D A ((wp_R cI cZ a (fr_step r bt n 0) ++ [wp_Z hq cZ 24 bt]) ++ []) := hD.sub [0, 1, 2, 3, 4, 5, 6, 7, 8] (by decide) rfl
    refine sf_callVi (va_runV (As := [.int (nI (1 * 4 + n)), .ref hq]) (rest := []) ⟨hx, hb, hml, hown, hg⟩ (c_X1_lookAtCell l dC dI cI cZ a (fr_step r bt n 0) hq bt (1 * 4 + n) _ (by omega) hcb) (cwV 2 hg (gw_V mw_381 mw_383 mw_3 mw_22 mw_384) rfl rfl rfl (by decide +kernel) ⟨Nat.le_of_ble_eq_true rfl, Nat.le_of_ble_eq_true rfl⟩) (sf_preVV (va_recv hK hP (ci := 1) (q0 := 0) rfl rfl) hK hZ hPc hDc) rfl rfl hl.1 rfl (lv_room (Nat.le_of_ble_eq_true rfl)) dX1_look_43 ⟨Nat.zero_le _, Nat.zero_le _⟩) hS hPc hDc hA (fun H locs hP hD hS => ?_)
    have hP : va_P (dC, dI) vwCl [(a 0, .inr (1, [.ref (a 1), .ref (a 2), .ref (a 3), .ref (a 4), .ref (a 5), .ref (a 6), .ref (a 7)])), (a 1, .inl (cI, 12, .inl ((fr_seen (fr_step r bt n 0) bt (1 * 4 + n)).1))), (a 2, .inl (cI, 12, .inl ((fr_seen (fr_step r bt n 0) bt (1 * 4 + n)).2.1))), (a 3, .inl (cZ, 12, .inl (fun i9 => sf_b (((fr_seen (fr_step r bt n 0) bt (1 * 4 + n)).2.2.1) i9)))), (a 4, .inl (cZ, 8, .inl (fun i9 => sf_b (((fr_seen (fr_step r bt n 0) bt (1 * 4 + n)).2.2.2.1) i9)))), (a 5, .inl (cZ, 15, .inl (fun i9 => sf_b (((fr_seen (fr_step r bt n 0) bt (1 * 4 + n)).2.2.2.2.1) i9)))), (a 6, .inl (cI, 3, .inl ((fr_seen (fr_step r bt n 0) bt (1 * 4 + n)).2.2.2.2.2.1))), (a 7, .inl (cI, 3, .inl ((fr_seen (fr_step r bt n 0) bt (1 * 4 + n)).2.2.2.2.2.2))), (hq, .inl (cZ, 24, .inl (fun i9 => sf_b (bt i9))))] H := hP
    have hD : va_D A [(a 0, .inr (1, [.ref (a 1), .ref (a 2), .ref (a 3), .ref (a 4), .ref (a 5), .ref (a 6), .ref (a 7)])), (a 1, .inl (cI, 12, .inl ((fr_seen (fr_step r bt n 0) bt (1 * 4 + n)).1))), (a 2, .inl (cI, 12, .inl ((fr_seen (fr_step r bt n 0) bt (1 * 4 + n)).2.1))), (a 3, .inl (cZ, 12, .inl (fun i9 => sf_b (((fr_seen (fr_step r bt n 0) bt (1 * 4 + n)).2.2.1) i9)))), (a 4, .inl (cZ, 8, .inl (fun i9 => sf_b (((fr_seen (fr_step r bt n 0) bt (1 * 4 + n)).2.2.2.1) i9)))), (a 5, .inl (cZ, 15, .inl (fun i9 => sf_b (((fr_seen (fr_step r bt n 0) bt (1 * 4 + n)).2.2.2.2.1) i9)))), (a 6, .inl (cI, 3, .inl ((fr_seen (fr_step r bt n 0) bt (1 * 4 + n)).2.2.2.2.2.1))), (a 7, .inl (cI, 3, .inl ((fr_seen (fr_step r bt n 0) bt (1 * 4 + n)).2.2.2.2.2.2))), (hq, .inl (cZ, 24, .inl (fun i9 => sf_b (bt i9))))] := hD
    refine lv_istore (lv' := [(4, .int (sf_b (fr_cond (fr_step r bt n 0) bt (1 * 4 + n)))), (3, .int 1), (0, .ref (a 0)), (1, .ref hq), (2, .int (nI n))]) hx hb dX1_look_46 hl (by decide) rfl (fun ls hl => ?_)
    refine lv_aload_n hx hb dX1_look_48 rfl (lv_at hl 2 rfl) ?_
    refine va_get (D := (dC, dI)) (ci := 1) (v := .ref (a 5)) (C := RX1) (T := TX1) (N := 7) hx hb hg in_X1 hown hK hP 0 rfl rfl 4 (by decide) (hg _ mw_51) (fun _ h9 => h9) rfl dX1_look_49 ?_
    refine lv_iload_n hx hb dX1_look_52 rfl (lv_at hl 1 rfl) ?_
    refine lv_iconst (v := 5) hx hb dX1_look_53 (by decide) ?_
    refine lv_imul hx hb dX1_look_54 ?_
    refine sf_topi (y := nI (1 * 5)) (pk_mul 1 5) ?_
    refine lv_iload_n hx hb dX1_look_55 rfl (lv_at hl 4 rfl) ?_
    refine lv_iadd hx hb dX1_look_56 ?_
    refine sf_topi (y := nI (1 * 5 + n)) (nI_add (1 * 5) n) ?_
    refine lv_iconst (v := 1) hx hb dX1_look_57 (by decide) ?_
    refine lv_iadd hx hb dX1_look_58 ?_
    refine sf_topi (y := nI (1 * 5 + n + 1)) (nI_add (1 * 5 + n) 1) ?_
    refine lv_iload hx hb dX1_look_59 (lv_at hl 0 rfl) ?_
    refine sf_cutb 80 (fr_cond (fr_step r bt n 0) bt (1 * 4 + n) && (fr_step r bt n 0).2.2.2.2.1 (1 * 5 + n)) (fun v => [.int (sf_b v), .int (nI (1 * 5 + n + 1)), .ref (a 5)]) ?_ (fun k_4 => ?_)
    · refine sf_zast hx hb hK hP hD hS 5 1 rfl rfl (1 * 5 + n + 1) rfl (by omega) (by decide) dX1_look_80 (fun H locs hP hD hS => ?_)
      have hP : va_P (dC, dI) vwCl [(a 0, .inr (1, [.ref (a 1), .ref (a 2), .ref (a 3), .ref (a 4), .ref (a 5), .ref (a 6), .ref (a 7)])), (a 1, .inl (cI, 12, .inl ((fr_seen (fr_step r bt n 0) bt (1 * 4 + n)).1))), (a 2, .inl (cI, 12, .inl ((fr_seen (fr_step r bt n 0) bt (1 * 4 + n)).2.1))), (a 3, .inl (cZ, 12, .inl (fun i9 => sf_b (((fr_seen (fr_step r bt n 0) bt (1 * 4 + n)).2.2.1) i9)))), (a 4, .inl (cZ, 8, .inl (fun i9 => sf_b (((fr_seen (fr_step r bt n 0) bt (1 * 4 + n)).2.2.2.1) i9)))), (a 5, .inl (cZ, 15, .inl (fun i9 => sf_b ((va_up ((fr_seen (fr_step r bt n 0) bt (1 * 4 + n)).2.2.2.2.1) (1 * 5 + n + 1) (fr_cond (fr_step r bt n 0) bt (1 * 4 + n) && (fr_step r bt n 0).2.2.2.2.1 (1 * 5 + n))) i9)))), (a 6, .inl (cI, 3, .inl ((fr_seen (fr_step r bt n 0) bt (1 * 4 + n)).2.2.2.2.2.1))), (a 7, .inl (cI, 3, .inl ((fr_seen (fr_step r bt n 0) bt (1 * 4 + n)).2.2.2.2.2.2))), (hq, .inl (cZ, 24, .inl (fun i9 => sf_b (bt i9))))] H := hP
      have hD : va_D A [(a 0, .inr (1, [.ref (a 1), .ref (a 2), .ref (a 3), .ref (a 4), .ref (a 5), .ref (a 6), .ref (a 7)])), (a 1, .inl (cI, 12, .inl ((fr_seen (fr_step r bt n 0) bt (1 * 4 + n)).1))), (a 2, .inl (cI, 12, .inl ((fr_seen (fr_step r bt n 0) bt (1 * 4 + n)).2.1))), (a 3, .inl (cZ, 12, .inl (fun i9 => sf_b (((fr_seen (fr_step r bt n 0) bt (1 * 4 + n)).2.2.1) i9)))), (a 4, .inl (cZ, 8, .inl (fun i9 => sf_b (((fr_seen (fr_step r bt n 0) bt (1 * 4 + n)).2.2.2.1) i9)))), (a 5, .inl (cZ, 15, .inl (fun i9 => sf_b ((va_up ((fr_seen (fr_step r bt n 0) bt (1 * 4 + n)).2.2.2.2.1) (1 * 5 + n + 1) (fr_cond (fr_step r bt n 0) bt (1 * 4 + n) && (fr_step r bt n 0).2.2.2.2.1 (1 * 5 + n))) i9)))), (a 6, .inl (cI, 3, .inl ((fr_seen (fr_step r bt n 0) bt (1 * 4 + n)).2.2.2.2.2.1))), (a 7, .inl (cI, 3, .inl ((fr_seen (fr_step r bt n 0) bt (1 * 4 + n)).2.2.2.2.2.2))), (hq, .inl (cZ, 24, .inl (fun i9 => sf_b (bt i9))))] := hD
      have hP : va_P (dC, dI) vwCl [(a 0, .inr (1, [.ref (a 1), .ref (a 2), .ref (a 3), .ref (a 4), .ref (a 5), .ref (a 6), .ref (a 7)])), (a 1, .inl (cI, 12, .inl ((fr_step (fr_step r bt n 0) bt n 1).1))), (a 2, .inl (cI, 12, .inl ((fr_step (fr_step r bt n 0) bt n 1).2.1))), (a 3, .inl (cZ, 12, .inl (fun i9 => sf_b (((fr_step (fr_step r bt n 0) bt n 1).2.2.1) i9)))), (a 4, .inl (cZ, 8, .inl (fun i9 => sf_b (((fr_step (fr_step r bt n 0) bt n 1).2.2.2.1) i9)))), (a 5, .inl (cZ, 15, .inl (fun i9 => sf_b (((fr_step (fr_step r bt n 0) bt n 1).2.2.2.2.1) i9)))), (a 6, .inl (cI, 3, .inl ((fr_step (fr_step r bt n 0) bt n 1).2.2.2.2.2.1))), (a 7, .inl (cI, 3, .inl ((fr_step (fr_step r bt n 0) bt n 1).2.2.2.2.2.2))), (hq, .inl (cZ, 24, .inl (fun i9 => sf_b (bt i9))))] H := hP
      have hD : va_D A [(a 0, .inr (1, [.ref (a 1), .ref (a 2), .ref (a 3), .ref (a 4), .ref (a 5), .ref (a 6), .ref (a 7)])), (a 1, .inl (cI, 12, .inl ((fr_step (fr_step r bt n 0) bt n 1).1))), (a 2, .inl (cI, 12, .inl ((fr_step (fr_step r bt n 0) bt n 1).2.1))), (a 3, .inl (cZ, 12, .inl (fun i9 => sf_b (((fr_step (fr_step r bt n 0) bt n 1).2.2.1) i9)))), (a 4, .inl (cZ, 8, .inl (fun i9 => sf_b (((fr_step (fr_step r bt n 0) bt n 1).2.2.2.1) i9)))), (a 5, .inl (cZ, 15, .inl (fun i9 => sf_b (((fr_step (fr_step r bt n 0) bt n 1).2.2.2.2.1) i9)))), (a 6, .inl (cI, 3, .inl ((fr_step (fr_step r bt n 0) bt n 1).2.2.2.2.2.1))), (a 7, .inl (cI, 3, .inl ((fr_step (fr_step r bt n 0) bt n 1).2.2.2.2.2.2))), (hq, .inl (cZ, 24, .inl (fun i9 => sf_b (bt i9))))] := hD
      refine lv_iinc (v := 2) (lv' := [(3, .int 2), (4, .int (sf_b (fr_cond (fr_step r bt n 0) bt (1 * 4 + n)))), (0, .ref (a 0)), (1, .ref hq), (2, .int (nI n))]) hx hb dX1_look_81 hl (k := 1) rfl (by decide) (by decide) rfl (fun ls hl => ?_)
      refine lv_goto (tgt := 31) hx hb dX1_look_84 (by decide) ?_
      refine lv_iload_n hx hb dX1_look_31 rfl (lv_at hl 0 rfl) ?_
      refine lv_iconst (v := 3) hx hb dX1_look_32 (by decide) ?_
      refine lv_icmp_ge (tgt := 87) hx hb dX1_look_33 (by decide) (fun h => absurd h (by decide)) (fun _ => ?_)
      refine lv_aload_n hx hb dX1_look_36 rfl (lv_at hl 2 rfl) ?_
      refine lv_iload_n hx hb dX1_look_37 rfl (lv_at hl 0 rfl) ?_
      refine lv_iconst (v := 4) hx hb dX1_look_38 (by decide) ?_
      refine lv_imul hx hb dX1_look_39 ?_
      refine sf_topi (y := nI (2 * 4)) (pk_mul 2 4) ?_
      refine lv_iload_n hx hb dX1_look_40 rfl (lv_at hl 4 rfl) ?_
      refine lv_iadd hx hb dX1_look_41 ?_
      refine sf_topi (y := nI (2 * 4 + n)) (nI_add (2 * 4) n) ?_
      refine lv_aload_n hx hb dX1_look_42 rfl (lv_at hl 3 rfl) ?_
      have hPc : va_P (dC, dI) vwCl ((wp_R cI cZ a (fr_step (fr_step r bt n 0) bt n 1) ++ [wp_Z hq cZ 24 bt]) ++ []) H := hP.sub [0, 1, 2, 3, 4, 5, 6, 7, 8] rfl
      have hDc : va_D A ((wp_R cI cZ a (fr_step (fr_step r bt n 0) bt n 1) ++ [wp_Z hq cZ 24 bt]) ++ []) := hD.sub [0, 1, 2, 3, 4, 5, 6, 7, 8] (by decide) rfl
      refine sf_callVi (va_runV (As := [.int (nI (2 * 4 + n)), .ref hq]) (rest := []) ⟨hx, hb, hml, hown, hg⟩ (c_X1_lookAtCell l dC dI cI cZ a (fr_step (fr_step r bt n 0) bt n 1) hq bt (2 * 4 + n) _ (by omega) hcb) (cwV 2 hg (gw_V mw_381 mw_383 mw_3 mw_22 mw_384) rfl rfl rfl (by decide +kernel) ⟨Nat.le_of_ble_eq_true rfl, Nat.le_of_ble_eq_true rfl⟩) (sf_preVV (va_recv hK hP (ci := 1) (q0 := 0) rfl rfl) hK hZ hPc hDc) rfl rfl hl.1 rfl (lv_room (Nat.le_of_ble_eq_true rfl)) dX1_look_43 ⟨Nat.zero_le _, Nat.zero_le _⟩) hS hPc hDc hA (fun H locs hP hD hS => ?_)
      have hP : va_P (dC, dI) vwCl [(a 0, .inr (1, [.ref (a 1), .ref (a 2), .ref (a 3), .ref (a 4), .ref (a 5), .ref (a 6), .ref (a 7)])), (a 1, .inl (cI, 12, .inl ((fr_seen (fr_step (fr_step r bt n 0) bt n 1) bt (2 * 4 + n)).1))), (a 2, .inl (cI, 12, .inl ((fr_seen (fr_step (fr_step r bt n 0) bt n 1) bt (2 * 4 + n)).2.1))), (a 3, .inl (cZ, 12, .inl (fun i9 => sf_b (((fr_seen (fr_step (fr_step r bt n 0) bt n 1) bt (2 * 4 + n)).2.2.1) i9)))), (a 4, .inl (cZ, 8, .inl (fun i9 => sf_b (((fr_seen (fr_step (fr_step r bt n 0) bt n 1) bt (2 * 4 + n)).2.2.2.1) i9)))), (a 5, .inl (cZ, 15, .inl (fun i9 => sf_b (((fr_seen (fr_step (fr_step r bt n 0) bt n 1) bt (2 * 4 + n)).2.2.2.2.1) i9)))), (a 6, .inl (cI, 3, .inl ((fr_seen (fr_step (fr_step r bt n 0) bt n 1) bt (2 * 4 + n)).2.2.2.2.2.1))), (a 7, .inl (cI, 3, .inl ((fr_seen (fr_step (fr_step r bt n 0) bt n 1) bt (2 * 4 + n)).2.2.2.2.2.2))), (hq, .inl (cZ, 24, .inl (fun i9 => sf_b (bt i9))))] H := hP
      have hD : va_D A [(a 0, .inr (1, [.ref (a 1), .ref (a 2), .ref (a 3), .ref (a 4), .ref (a 5), .ref (a 6), .ref (a 7)])), (a 1, .inl (cI, 12, .inl ((fr_seen (fr_step (fr_step r bt n 0) bt n 1) bt (2 * 4 + n)).1))), (a 2, .inl (cI, 12, .inl ((fr_seen (fr_step (fr_step r bt n 0) bt n 1) bt (2 * 4 + n)).2.1))), (a 3, .inl (cZ, 12, .inl (fun i9 => sf_b (((fr_seen (fr_step (fr_step r bt n 0) bt n 1) bt (2 * 4 + n)).2.2.1) i9)))), (a 4, .inl (cZ, 8, .inl (fun i9 => sf_b (((fr_seen (fr_step (fr_step r bt n 0) bt n 1) bt (2 * 4 + n)).2.2.2.1) i9)))), (a 5, .inl (cZ, 15, .inl (fun i9 => sf_b (((fr_seen (fr_step (fr_step r bt n 0) bt n 1) bt (2 * 4 + n)).2.2.2.2.1) i9)))), (a 6, .inl (cI, 3, .inl ((fr_seen (fr_step (fr_step r bt n 0) bt n 1) bt (2 * 4 + n)).2.2.2.2.2.1))), (a 7, .inl (cI, 3, .inl ((fr_seen (fr_step (fr_step r bt n 0) bt n 1) bt (2 * 4 + n)).2.2.2.2.2.2))), (hq, .inl (cZ, 24, .inl (fun i9 => sf_b (bt i9))))] := hD
      refine lv_istore (lv' := [(4, .int (sf_b (fr_cond (fr_step (fr_step r bt n 0) bt n 1) bt (2 * 4 + n)))), (3, .int 2), (0, .ref (a 0)), (1, .ref hq), (2, .int (nI n))]) hx hb dX1_look_46 hl (by decide) rfl (fun ls hl => ?_)
      refine lv_aload_n hx hb dX1_look_48 rfl (lv_at hl 2 rfl) ?_
      refine va_get (D := (dC, dI)) (ci := 1) (v := .ref (a 5)) (C := RX1) (T := TX1) (N := 7) hx hb hg in_X1 hown hK hP 0 rfl rfl 4 (by decide) (hg _ mw_51) (fun _ h9 => h9) rfl dX1_look_49 ?_
      refine lv_iload_n hx hb dX1_look_52 rfl (lv_at hl 1 rfl) ?_
      refine lv_iconst (v := 5) hx hb dX1_look_53 (by decide) ?_
      refine lv_imul hx hb dX1_look_54 ?_
      refine sf_topi (y := nI (2 * 5)) (pk_mul 2 5) ?_
      refine lv_iload_n hx hb dX1_look_55 rfl (lv_at hl 4 rfl) ?_
      refine lv_iadd hx hb dX1_look_56 ?_
      refine sf_topi (y := nI (2 * 5 + n)) (nI_add (2 * 5) n) ?_
      refine lv_iconst (v := 1) hx hb dX1_look_57 (by decide) ?_
      refine lv_iadd hx hb dX1_look_58 ?_
      refine sf_topi (y := nI (2 * 5 + n + 1)) (nI_add (2 * 5 + n) 1) ?_
      refine lv_iload hx hb dX1_look_59 (lv_at hl 0 rfl) ?_
      refine sf_cutb 80 (fr_cond (fr_step (fr_step r bt n 0) bt n 1) bt (2 * 4 + n) && (fr_step (fr_step r bt n 0) bt n 1).2.2.2.2.1 (2 * 5 + n)) (fun v => [.int (sf_b v), .int (nI (2 * 5 + n + 1)), .ref (a 5)]) ?_ (fun k_6 => ?_)
      · refine sf_zast hx hb hK hP hD hS 5 1 rfl rfl (2 * 5 + n + 1) rfl (by omega) (by decide) dX1_look_80 (fun H locs hP hD hS => ?_)
        have hP : va_P (dC, dI) vwCl [(a 0, .inr (1, [.ref (a 1), .ref (a 2), .ref (a 3), .ref (a 4), .ref (a 5), .ref (a 6), .ref (a 7)])), (a 1, .inl (cI, 12, .inl ((fr_seen (fr_step (fr_step r bt n 0) bt n 1) bt (2 * 4 + n)).1))), (a 2, .inl (cI, 12, .inl ((fr_seen (fr_step (fr_step r bt n 0) bt n 1) bt (2 * 4 + n)).2.1))), (a 3, .inl (cZ, 12, .inl (fun i9 => sf_b (((fr_seen (fr_step (fr_step r bt n 0) bt n 1) bt (2 * 4 + n)).2.2.1) i9)))), (a 4, .inl (cZ, 8, .inl (fun i9 => sf_b (((fr_seen (fr_step (fr_step r bt n 0) bt n 1) bt (2 * 4 + n)).2.2.2.1) i9)))), (a 5, .inl (cZ, 15, .inl (fun i9 => sf_b ((va_up ((fr_seen (fr_step (fr_step r bt n 0) bt n 1) bt (2 * 4 + n)).2.2.2.2.1) (2 * 5 + n + 1) (fr_cond (fr_step (fr_step r bt n 0) bt n 1) bt (2 * 4 + n) && (fr_step (fr_step r bt n 0) bt n 1).2.2.2.2.1 (2 * 5 + n))) i9)))), (a 6, .inl (cI, 3, .inl ((fr_seen (fr_step (fr_step r bt n 0) bt n 1) bt (2 * 4 + n)).2.2.2.2.2.1))), (a 7, .inl (cI, 3, .inl ((fr_seen (fr_step (fr_step r bt n 0) bt n 1) bt (2 * 4 + n)).2.2.2.2.2.2))), (hq, .inl (cZ, 24, .inl (fun i9 => sf_b (bt i9))))] H := hP
        have hD : va_D A [(a 0, .inr (1, [.ref (a 1), .ref (a 2), .ref (a 3), .ref (a 4), .ref (a 5), .ref (a 6), .ref (a 7)])), (a 1, .inl (cI, 12, .inl ((fr_seen (fr_step (fr_step r bt n 0) bt n 1) bt (2 * 4 + n)).1))), (a 2, .inl (cI, 12, .inl ((fr_seen (fr_step (fr_step r bt n 0) bt n 1) bt (2 * 4 + n)).2.1))), (a 3, .inl (cZ, 12, .inl (fun i9 => sf_b (((fr_seen (fr_step (fr_step r bt n 0) bt n 1) bt (2 * 4 + n)).2.2.1) i9)))), (a 4, .inl (cZ, 8, .inl (fun i9 => sf_b (((fr_seen (fr_step (fr_step r bt n 0) bt n 1) bt (2 * 4 + n)).2.2.2.1) i9)))), (a 5, .inl (cZ, 15, .inl (fun i9 => sf_b ((va_up ((fr_seen (fr_step (fr_step r bt n 0) bt n 1) bt (2 * 4 + n)).2.2.2.2.1) (2 * 5 + n + 1) (fr_cond (fr_step (fr_step r bt n 0) bt n 1) bt (2 * 4 + n) && (fr_step (fr_step r bt n 0) bt n 1).2.2.2.2.1 (2 * 5 + n))) i9)))), (a 6, .inl (cI, 3, .inl ((fr_seen (fr_step (fr_step r bt n 0) bt n 1) bt (2 * 4 + n)).2.2.2.2.2.1))), (a 7, .inl (cI, 3, .inl ((fr_seen (fr_step (fr_step r bt n 0) bt n 1) bt (2 * 4 + n)).2.2.2.2.2.2))), (hq, .inl (cZ, 24, .inl (fun i9 => sf_b (bt i9))))] := hD
        have hP : va_P (dC, dI) vwCl [(a 0, .inr (1, [.ref (a 1), .ref (a 2), .ref (a 3), .ref (a 4), .ref (a 5), .ref (a 6), .ref (a 7)])), (a 1, .inl (cI, 12, .inl ((fr_step (fr_step (fr_step r bt n 0) bt n 1) bt n 2).1))), (a 2, .inl (cI, 12, .inl ((fr_step (fr_step (fr_step r bt n 0) bt n 1) bt n 2).2.1))), (a 3, .inl (cZ, 12, .inl (fun i9 => sf_b (((fr_step (fr_step (fr_step r bt n 0) bt n 1) bt n 2).2.2.1) i9)))), (a 4, .inl (cZ, 8, .inl (fun i9 => sf_b (((fr_step (fr_step (fr_step r bt n 0) bt n 1) bt n 2).2.2.2.1) i9)))), (a 5, .inl (cZ, 15, .inl (fun i9 => sf_b (((fr_step (fr_step (fr_step r bt n 0) bt n 1) bt n 2).2.2.2.2.1) i9)))), (a 6, .inl (cI, 3, .inl ((fr_step (fr_step (fr_step r bt n 0) bt n 1) bt n 2).2.2.2.2.2.1))), (a 7, .inl (cI, 3, .inl ((fr_step (fr_step (fr_step r bt n 0) bt n 1) bt n 2).2.2.2.2.2.2))), (hq, .inl (cZ, 24, .inl (fun i9 => sf_b (bt i9))))] H := hP
        have hD : va_D A [(a 0, .inr (1, [.ref (a 1), .ref (a 2), .ref (a 3), .ref (a 4), .ref (a 5), .ref (a 6), .ref (a 7)])), (a 1, .inl (cI, 12, .inl ((fr_step (fr_step (fr_step r bt n 0) bt n 1) bt n 2).1))), (a 2, .inl (cI, 12, .inl ((fr_step (fr_step (fr_step r bt n 0) bt n 1) bt n 2).2.1))), (a 3, .inl (cZ, 12, .inl (fun i9 => sf_b (((fr_step (fr_step (fr_step r bt n 0) bt n 1) bt n 2).2.2.1) i9)))), (a 4, .inl (cZ, 8, .inl (fun i9 => sf_b (((fr_step (fr_step (fr_step r bt n 0) bt n 1) bt n 2).2.2.2.1) i9)))), (a 5, .inl (cZ, 15, .inl (fun i9 => sf_b (((fr_step (fr_step (fr_step r bt n 0) bt n 1) bt n 2).2.2.2.2.1) i9)))), (a 6, .inl (cI, 3, .inl ((fr_step (fr_step (fr_step r bt n 0) bt n 1) bt n 2).2.2.2.2.2.1))), (a 7, .inl (cI, 3, .inl ((fr_step (fr_step (fr_step r bt n 0) bt n 1) bt n 2).2.2.2.2.2.2))), (hq, .inl (cZ, 24, .inl (fun i9 => sf_b (bt i9))))] := hD
        refine lv_iinc (v := 3) (lv' := [(3, .int 3), (4, .int (sf_b (fr_cond (fr_step (fr_step r bt n 0) bt n 1) bt (2 * 4 + n)))), (0, .ref (a 0)), (1, .ref hq), (2, .int (nI n))]) hx hb dX1_look_81 hl (k := 1) rfl (by decide) (by decide) rfl (fun ls hl => ?_)
        refine lv_goto (tgt := 31) hx hb dX1_look_84 (by decide) ?_
        refine lv_iload_n hx hb dX1_look_31 rfl (lv_at hl 0 rfl) ?_
        refine lv_iconst (v := 3) hx hb dX1_look_32 (by decide) ?_
        refine lv_icmp_ge (tgt := 87) hx hb dX1_look_33 (by decide) (fun _ => ?_) (fun h => absurd (by decide) h)
        refine lv_aload_n hx hb dX1_look_87 rfl (lv_at hl 2 rfl) ?_
        refine lv_iconst (v := 0) hx hb dX1_look_88 (by decide) ?_
        refine lv_iload_n hx hb dX1_look_89 rfl (lv_at hl 4 rfl) ?_
        have hPc : va_P (dC, dI) vwCl ((wp_R cI cZ a (fr_step (fr_step (fr_step r bt n 0) bt n 1) bt n 2)) ++ [(hq, .inl (cZ, 24, .inl (fun i9 => sf_b (bt i9))))]) H := hP.sub [0, 1, 2, 3, 4, 5, 6, 7, 8] rfl
        have hDc : va_D A ((wp_R cI cZ a (fr_step (fr_step (fr_step r bt n 0) bt n 1) bt n 2)) ++ [(hq, .inl (cZ, 24, .inl (fun i9 => sf_b (bt i9))))]) := hD.sub [0, 1, 2, 3, 4, 5, 6, 7, 8] (by decide) rfl
        refine sf_callVv (va_runV (As := [.int 0, .int (nI n)]) (rest := []) ⟨hx, hb, hml, hown, hg⟩ (c_X1_join l dC dI cI cZ a (fr_step (fr_step (fr_step r bt n 0) bt n 1) bt n 2) (0) (n) _ (by omega) (by omega)) (cwV 2 hg (gw_V mw_389 mw_391 mw_4 mw_22 mw_392) rfl rfl rfl (by decide +kernel) ⟨Nat.le_of_ble_eq_true rfl, Nat.le_of_ble_eq_true rfl⟩) (sf_preVV (va_recv hK hP (ci := 1) (q0 := 0) rfl rfl) hK hZ hPc hDc) rfl rfl hl.1 rfl (lv_room (Nat.le_of_ble_eq_true rfl)) dX1_look_90 ⟨Nat.zero_le _, Nat.zero_le _⟩) hS hPc hDc hA (fun H locs hP hD hS => ?_)
        have hP : va_P (dC, dI) vwCl [(a 0, .inr (1, [.ref (a 1), .ref (a 2), .ref (a 3), .ref (a 4), .ref (a 5), .ref (a 6), .ref (a 7)])), (a 1, .inl (cI, 12, .inl ((fr_join (fr_step (fr_step (fr_step r bt n 0) bt n 1) bt n 2) 0 n).1))), (a 2, .inl (cI, 12, .inl ((fr_join (fr_step (fr_step (fr_step r bt n 0) bt n 1) bt n 2) 0 n).2.1))), (a 3, .inl (cZ, 12, .inl (fun i9 => sf_b (((fr_join (fr_step (fr_step (fr_step r bt n 0) bt n 1) bt n 2) 0 n).2.2.1) i9)))), (a 4, .inl (cZ, 8, .inl (fun i9 => sf_b (((fr_join (fr_step (fr_step (fr_step r bt n 0) bt n 1) bt n 2) 0 n).2.2.2.1) i9)))), (a 5, .inl (cZ, 15, .inl (fun i9 => sf_b (((fr_join (fr_step (fr_step (fr_step r bt n 0) bt n 1) bt n 2) 0 n).2.2.2.2.1) i9)))), (a 6, .inl (cI, 3, .inl ((fr_join (fr_step (fr_step (fr_step r bt n 0) bt n 1) bt n 2) 0 n).2.2.2.2.2.1))), (a 7, .inl (cI, 3, .inl ((fr_join (fr_step (fr_step (fr_step r bt n 0) bt n 1) bt n 2) 0 n).2.2.2.2.2.2))), (hq, .inl (cZ, 24, .inl (fun i9 => sf_b (bt i9))))] H := hP
        have hD : va_D A [(a 0, .inr (1, [.ref (a 1), .ref (a 2), .ref (a 3), .ref (a 4), .ref (a 5), .ref (a 6), .ref (a 7)])), (a 1, .inl (cI, 12, .inl ((fr_join (fr_step (fr_step (fr_step r bt n 0) bt n 1) bt n 2) 0 n).1))), (a 2, .inl (cI, 12, .inl ((fr_join (fr_step (fr_step (fr_step r bt n 0) bt n 1) bt n 2) 0 n).2.1))), (a 3, .inl (cZ, 12, .inl (fun i9 => sf_b (((fr_join (fr_step (fr_step (fr_step r bt n 0) bt n 1) bt n 2) 0 n).2.2.1) i9)))), (a 4, .inl (cZ, 8, .inl (fun i9 => sf_b (((fr_join (fr_step (fr_step (fr_step r bt n 0) bt n 1) bt n 2) 0 n).2.2.2.1) i9)))), (a 5, .inl (cZ, 15, .inl (fun i9 => sf_b (((fr_join (fr_step (fr_step (fr_step r bt n 0) bt n 1) bt n 2) 0 n).2.2.2.2.1) i9)))), (a 6, .inl (cI, 3, .inl ((fr_join (fr_step (fr_step (fr_step r bt n 0) bt n 1) bt n 2) 0 n).2.2.2.2.2.1))), (a 7, .inl (cI, 3, .inl ((fr_join (fr_step (fr_step (fr_step r bt n 0) bt n 1) bt n 2) 0 n).2.2.2.2.2.2))), (hq, .inl (cZ, 24, .inl (fun i9 => sf_b (bt i9))))] := hD
        refine lv_aload_n hx hb dX1_look_93 rfl (lv_at hl 2 rfl) ?_
        refine lv_iconst (v := 1) hx hb dX1_look_94 (by decide) ?_
        refine lv_iload_n hx hb dX1_look_95 rfl (lv_at hl 4 rfl) ?_
        have hPc : va_P (dC, dI) vwCl ((wp_R cI cZ a (fr_join (fr_step (fr_step (fr_step r bt n 0) bt n 1) bt n 2) 0 n)) ++ [(hq, .inl (cZ, 24, .inl (fun i9 => sf_b (bt i9))))]) H := hP.sub [0, 1, 2, 3, 4, 5, 6, 7, 8] rfl
        have hDc : va_D A ((wp_R cI cZ a (fr_join (fr_step (fr_step (fr_step r bt n 0) bt n 1) bt n 2) 0 n)) ++ [(hq, .inl (cZ, 24, .inl (fun i9 => sf_b (bt i9))))]) := hD.sub [0, 1, 2, 3, 4, 5, 6, 7, 8] (by decide) rfl
        refine sf_callVv (va_runV (As := [.int 1, .int (nI n)]) (rest := []) ⟨hx, hb, hml, hown, hg⟩ (c_X1_join l dC dI cI cZ a (fr_join (fr_step (fr_step (fr_step r bt n 0) bt n 1) bt n 2) 0 n) (1) (n) _ (by omega) (by omega)) (cwV 2 hg (gw_V mw_389 mw_391 mw_4 mw_22 mw_392) rfl rfl rfl (by decide +kernel) ⟨Nat.le_of_ble_eq_true rfl, Nat.le_of_ble_eq_true rfl⟩) (sf_preVV (va_recv hK hP (ci := 1) (q0 := 0) rfl rfl) hK hZ hPc hDc) rfl rfl hl.1 rfl (lv_room (Nat.le_of_ble_eq_true rfl)) dX1_look_96 ⟨Nat.zero_le _, Nat.zero_le _⟩) hS hPc hDc hA (fun H locs hP hD hS => ?_)
        have hP : va_P (dC, dI) vwCl [(a 0, .inr (1, [.ref (a 1), .ref (a 2), .ref (a 3), .ref (a 4), .ref (a 5), .ref (a 6), .ref (a 7)])), (a 1, .inl (cI, 12, .inl ((fr_join (fr_join (fr_step (fr_step (fr_step r bt n 0) bt n 1) bt n 2) 0 n) 1 n).1))), (a 2, .inl (cI, 12, .inl ((fr_join (fr_join (fr_step (fr_step (fr_step r bt n 0) bt n 1) bt n 2) 0 n) 1 n).2.1))), (a 3, .inl (cZ, 12, .inl (fun i9 => sf_b (((fr_join (fr_join (fr_step (fr_step (fr_step r bt n 0) bt n 1) bt n 2) 0 n) 1 n).2.2.1) i9)))), (a 4, .inl (cZ, 8, .inl (fun i9 => sf_b (((fr_join (fr_join (fr_step (fr_step (fr_step r bt n 0) bt n 1) bt n 2) 0 n) 1 n).2.2.2.1) i9)))), (a 5, .inl (cZ, 15, .inl (fun i9 => sf_b (((fr_join (fr_join (fr_step (fr_step (fr_step r bt n 0) bt n 1) bt n 2) 0 n) 1 n).2.2.2.2.1) i9)))), (a 6, .inl (cI, 3, .inl ((fr_join (fr_join (fr_step (fr_step (fr_step r bt n 0) bt n 1) bt n 2) 0 n) 1 n).2.2.2.2.2.1))), (a 7, .inl (cI, 3, .inl ((fr_join (fr_join (fr_step (fr_step (fr_step r bt n 0) bt n 1) bt n 2) 0 n) 1 n).2.2.2.2.2.2))), (hq, .inl (cZ, 24, .inl (fun i9 => sf_b (bt i9))))] H := hP
        have hD : va_D A [(a 0, .inr (1, [.ref (a 1), .ref (a 2), .ref (a 3), .ref (a 4), .ref (a 5), .ref (a 6), .ref (a 7)])), (a 1, .inl (cI, 12, .inl ((fr_join (fr_join (fr_step (fr_step (fr_step r bt n 0) bt n 1) bt n 2) 0 n) 1 n).1))), (a 2, .inl (cI, 12, .inl ((fr_join (fr_join (fr_step (fr_step (fr_step r bt n 0) bt n 1) bt n 2) 0 n) 1 n).2.1))), (a 3, .inl (cZ, 12, .inl (fun i9 => sf_b (((fr_join (fr_join (fr_step (fr_step (fr_step r bt n 0) bt n 1) bt n 2) 0 n) 1 n).2.2.1) i9)))), (a 4, .inl (cZ, 8, .inl (fun i9 => sf_b (((fr_join (fr_join (fr_step (fr_step (fr_step r bt n 0) bt n 1) bt n 2) 0 n) 1 n).2.2.2.1) i9)))), (a 5, .inl (cZ, 15, .inl (fun i9 => sf_b (((fr_join (fr_join (fr_step (fr_step (fr_step r bt n 0) bt n 1) bt n 2) 0 n) 1 n).2.2.2.2.1) i9)))), (a 6, .inl (cI, 3, .inl ((fr_join (fr_join (fr_step (fr_step (fr_step r bt n 0) bt n 1) bt n 2) 0 n) 1 n).2.2.2.2.2.1))), (a 7, .inl (cI, 3, .inl ((fr_join (fr_join (fr_step (fr_step (fr_step r bt n 0) bt n 1) bt n 2) 0 n) 1 n).2.2.2.2.2.2))), (hq, .inl (cZ, 24, .inl (fun i9 => sf_b (bt i9))))] := hD
        refine lv_aload_n hx hb dX1_look_99 rfl (lv_at hl 2 rfl) ?_
        refine lv_iconst (v := 0) hx hb dX1_look_100 (by decide) ?_
        refine lv_iload_n hx hb dX1_look_101 rfl (lv_at hl 4 rfl) ?_
        have hPc : va_P (dC, dI) vwCl ((wp_R cI cZ a (fr_join (fr_join (fr_step (fr_step (fr_step r bt n 0) bt n 1) bt n 2) 0 n) 1 n)) ++ [(hq, .inl (cZ, 24, .inl (fun i9 => sf_b (bt i9))))]) H := hP.sub [0, 1, 2, 3, 4, 5, 6, 7, 8] rfl
        have hDc : va_D A ((wp_R cI cZ a (fr_join (fr_join (fr_step (fr_step (fr_step r bt n 0) bt n 1) bt n 2) 0 n) 1 n)) ++ [(hq, .inl (cZ, 24, .inl (fun i9 => sf_b (bt i9))))]) := hD.sub [0, 1, 2, 3, 4, 5, 6, 7, 8] (by decide) rfl
        refine sf_callVv (va_runV (As := [.int 0, .int (nI n)]) (rest := []) ⟨hx, hb, hml, hown, hg⟩ (c_X1_join l dC dI cI cZ a (fr_join (fr_join (fr_step (fr_step (fr_step r bt n 0) bt n 1) bt n 2) 0 n) 1 n) (0) (n) _ (by omega) (by omega)) (cwV 2 hg (gw_V mw_389 mw_391 mw_4 mw_22 mw_392) rfl rfl rfl (by decide +kernel) ⟨Nat.le_of_ble_eq_true rfl, Nat.le_of_ble_eq_true rfl⟩) (sf_preVV (va_recv hK hP (ci := 1) (q0 := 0) rfl rfl) hK hZ hPc hDc) rfl rfl hl.1 rfl (lv_room (Nat.le_of_ble_eq_true rfl)) dX1_look_102 ⟨Nat.zero_le _, Nat.zero_le _⟩) hS hPc hDc hA (fun H locs hP hD hS => ?_)
        have hP : va_P (dC, dI) vwCl [(a 0, .inr (1, [.ref (a 1), .ref (a 2), .ref (a 3), .ref (a 4), .ref (a 5), .ref (a 6), .ref (a 7)])), (a 1, .inl (cI, 12, .inl ((fr_join (fr_join (fr_join (fr_step (fr_step (fr_step r bt n 0) bt n 1) bt n 2) 0 n) 1 n) 0 n).1))), (a 2, .inl (cI, 12, .inl ((fr_join (fr_join (fr_join (fr_step (fr_step (fr_step r bt n 0) bt n 1) bt n 2) 0 n) 1 n) 0 n).2.1))), (a 3, .inl (cZ, 12, .inl (fun i9 => sf_b (((fr_join (fr_join (fr_join (fr_step (fr_step (fr_step r bt n 0) bt n 1) bt n 2) 0 n) 1 n) 0 n).2.2.1) i9)))), (a 4, .inl (cZ, 8, .inl (fun i9 => sf_b (((fr_join (fr_join (fr_join (fr_step (fr_step (fr_step r bt n 0) bt n 1) bt n 2) 0 n) 1 n) 0 n).2.2.2.1) i9)))), (a 5, .inl (cZ, 15, .inl (fun i9 => sf_b (((fr_join (fr_join (fr_join (fr_step (fr_step (fr_step r bt n 0) bt n 1) bt n 2) 0 n) 1 n) 0 n).2.2.2.2.1) i9)))), (a 6, .inl (cI, 3, .inl ((fr_join (fr_join (fr_join (fr_step (fr_step (fr_step r bt n 0) bt n 1) bt n 2) 0 n) 1 n) 0 n).2.2.2.2.2.1))), (a 7, .inl (cI, 3, .inl ((fr_join (fr_join (fr_join (fr_step (fr_step (fr_step r bt n 0) bt n 1) bt n 2) 0 n) 1 n) 0 n).2.2.2.2.2.2))), (hq, .inl (cZ, 24, .inl (fun i9 => sf_b (bt i9))))] H := hP
        have hD : va_D A [(a 0, .inr (1, [.ref (a 1), .ref (a 2), .ref (a 3), .ref (a 4), .ref (a 5), .ref (a 6), .ref (a 7)])), (a 1, .inl (cI, 12, .inl ((fr_join (fr_join (fr_join (fr_step (fr_step (fr_step r bt n 0) bt n 1) bt n 2) 0 n) 1 n) 0 n).1))), (a 2, .inl (cI, 12, .inl ((fr_join (fr_join (fr_join (fr_step (fr_step (fr_step r bt n 0) bt n 1) bt n 2) 0 n) 1 n) 0 n).2.1))), (a 3, .inl (cZ, 12, .inl (fun i9 => sf_b (((fr_join (fr_join (fr_join (fr_step (fr_step (fr_step r bt n 0) bt n 1) bt n 2) 0 n) 1 n) 0 n).2.2.1) i9)))), (a 4, .inl (cZ, 8, .inl (fun i9 => sf_b (((fr_join (fr_join (fr_join (fr_step (fr_step (fr_step r bt n 0) bt n 1) bt n 2) 0 n) 1 n) 0 n).2.2.2.1) i9)))), (a 5, .inl (cZ, 15, .inl (fun i9 => sf_b (((fr_join (fr_join (fr_join (fr_step (fr_step (fr_step r bt n 0) bt n 1) bt n 2) 0 n) 1 n) 0 n).2.2.2.2.1) i9)))), (a 6, .inl (cI, 3, .inl ((fr_join (fr_join (fr_join (fr_step (fr_step (fr_step r bt n 0) bt n 1) bt n 2) 0 n) 1 n) 0 n).2.2.2.2.2.1))), (a 7, .inl (cI, 3, .inl ((fr_join (fr_join (fr_join (fr_step (fr_step (fr_step r bt n 0) bt n 1) bt n 2) 0 n) 1 n) 0 n).2.2.2.2.2.2))), (hq, .inl (cZ, 24, .inl (fun i9 => sf_b (bt i9))))] := hD
        refine lv_iinc (v := nI (n + 1)) (lv' := [(2, .int (nI (n + 1))), (3, .int 3), (4, .int (sf_b (fr_cond (fr_step (fr_step r bt n 0) bt n 1) bt (2 * 4 + n)))), (0, .ref (a 0)), (1, .ref hq)]) hx hb dX1_look_105 hl (k := 4) rfl (nI_1 n) (by decide) rfl (fun ls hl => ?_)
        refine lv_goto (tgt := 24) hx hb dX1_look_108 (by decide) ?_
        exact kk _ _ _ hP hD hS (lv_sub hl [3, 4, 0] rfl)
      · refine sf_ifeq (tgt := 79) hx hb dX1_look_61 (by decide) (fun c_8 => ?_) (fun c_8 => ?_)
        · refine lv_iconst (v := sf_b false) hx hb dX1_look_79 (by decide) ?_
          exact k_6 false (by first | rfl | (simp [fr_seen, c_8]; done) | (simp [fr_seen] at *; simp [*]; done))
        · refine lv_aload_n hx hb dX1_look_64 rfl (lv_at hl 2 rfl) ?_
          refine lv_iload_n hx hb dX1_look_65 rfl (lv_at hl 1 rfl) ?_
          refine lv_iload_n hx hb dX1_look_66 rfl (lv_at hl 4 rfl) ?_
          refine lv_iconst (v := 1) hx hb dX1_look_67 (by decide) ?_
          refine lv_isub hx hb dX1_look_68 ?_
          have hPr : va_P (dC, dI) vwCl (wp_R cI cZ a (fr_seen (fr_step (fr_step r bt n 0) bt n 1) bt (2 * 4 + n))) H := hP.sub [0, 1, 2, 3, 4, 5, 6, 7] rfl
          refine sf_callRi (va_runV (As := [.int 2, .int ((nI n) - 1)]) (rest := [.int (nI (2 * 5 + n + 1)), .ref (a 5)]) ⟨hx, hb, hml, hown, hg⟩ (c_X1_hadPower l dC dI cI cZ a (fr_seen (fr_step (fr_step r bt n 0) bt n 1) bt (2 * 4 + n)) (2) (n) _ (by omega) (by omega) (Int32.sub_add_cancel _ _)) (cwV 2 hg (gw_V mw_385 mw_386 mw_387 mw_22 mw_388) rfl rfl rfl (by decide +kernel) ⟨Nat.le_of_ble_eq_true rfl, Nat.le_of_ble_eq_true rfl⟩) (sf_preVR (va_recv hK hP (ci := 1) (q0 := 0) rfl rfl) hK hZ hPr) rfl rfl hl.1 rfl (lv_room (Nat.le_of_ble_eq_true rfl)) dX1_look_69 ⟨Nat.zero_le _, Nat.zero_le _⟩) ?_
          refine sf_ifeq (tgt := 79) hx hb dX1_look_72 (by decide) (fun c_9 => ?_) (fun c_9 => ?_)
          · refine lv_iconst (v := sf_b false) hx hb dX1_look_79 (by decide) ?_
            exact k_6 false (by first | rfl | (simp [fr_seen, c_8, c_9]; done) | (simp [fr_seen] at *; simp [*]; done))
          · refine lv_iconst (v := sf_b true) hx hb dX1_look_75 (by decide) ?_
            refine lv_goto (tgt := 80) hx hb dX1_look_76 (by decide) ?_
            exact k_6 true (by first | rfl | (simp [fr_seen, c_8, c_9]; done) | (simp [fr_seen] at *; simp [*]; done))
    · refine sf_ifeq (tgt := 79) hx hb dX1_look_61 (by decide) (fun c_10 => ?_) (fun c_10 => ?_)
      · refine lv_iconst (v := sf_b false) hx hb dX1_look_79 (by decide) ?_
        exact k_4 false (by first | rfl | (simp [fr_seen, c_10]; done) | (simp [fr_seen] at *; simp [*]; done))
      · refine lv_aload_n hx hb dX1_look_64 rfl (lv_at hl 2 rfl) ?_
        refine lv_iload_n hx hb dX1_look_65 rfl (lv_at hl 1 rfl) ?_
        refine lv_iload_n hx hb dX1_look_66 rfl (lv_at hl 4 rfl) ?_
        refine lv_iconst (v := 1) hx hb dX1_look_67 (by decide) ?_
        refine lv_isub hx hb dX1_look_68 ?_
        have hPr : va_P (dC, dI) vwCl (wp_R cI cZ a (fr_seen (fr_step r bt n 0) bt (1 * 4 + n))) H := hP.sub [0, 1, 2, 3, 4, 5, 6, 7] rfl
        refine sf_callRi (va_runV (As := [.int 1, .int ((nI n) - 1)]) (rest := [.int (nI (1 * 5 + n + 1)), .ref (a 5)]) ⟨hx, hb, hml, hown, hg⟩ (c_X1_hadPower l dC dI cI cZ a (fr_seen (fr_step r bt n 0) bt (1 * 4 + n)) (1) (n) _ (by omega) (by omega) (Int32.sub_add_cancel _ _)) (cwV 2 hg (gw_V mw_385 mw_386 mw_387 mw_22 mw_388) rfl rfl rfl (by decide +kernel) ⟨Nat.le_of_ble_eq_true rfl, Nat.le_of_ble_eq_true rfl⟩) (sf_preVR (va_recv hK hP (ci := 1) (q0 := 0) rfl rfl) hK hZ hPr) rfl rfl hl.1 rfl (lv_room (Nat.le_of_ble_eq_true rfl)) dX1_look_69 ⟨Nat.zero_le _, Nat.zero_le _⟩) ?_
        refine sf_ifeq (tgt := 79) hx hb dX1_look_72 (by decide) (fun c_11 => ?_) (fun c_11 => ?_)
        · refine lv_iconst (v := sf_b false) hx hb dX1_look_79 (by decide) ?_
          exact k_4 false (by first | rfl | (simp [fr_seen, c_10, c_11]; done) | (simp [fr_seen] at *; simp [*]; done))
        · refine lv_iconst (v := sf_b true) hx hb dX1_look_75 (by decide) ?_
          refine lv_goto (tgt := 80) hx hb dX1_look_76 (by decide) ?_
          exact k_4 true (by first | rfl | (simp [fr_seen, c_10, c_11]; done) | (simp [fr_seen] at *; simp [*]; done))
  · refine sf_ifeq (tgt := 79) hx hb dX1_look_61 (by decide) (fun c_12 => ?_) (fun c_12 => ?_)
    · refine lv_iconst (v := sf_b false) hx hb dX1_look_79 (by decide) ?_
      exact k_2 false (by first | rfl | (simp [fr_seen, c_12]; done) | (simp [fr_seen] at *; simp [*]; done))
    · refine lv_aload_n hx hb dX1_look_64 rfl (lv_at hl 2 rfl) ?_
      refine lv_iload_n hx hb dX1_look_65 rfl (lv_at hl 1 rfl) ?_
      refine lv_iload_n hx hb dX1_look_66 rfl (lv_at hl 4 rfl) ?_
      refine lv_iconst (v := 1) hx hb dX1_look_67 (by decide) ?_
      refine lv_isub hx hb dX1_look_68 ?_
      have hPr : va_P (dC, dI) vwCl (wp_R cI cZ a (fr_seen r bt (0 * 4 + n))) H := hP.sub [0, 1, 2, 3, 4, 5, 6, 7] rfl
      refine sf_callRi (va_runV (As := [.int 0, .int ((nI n) - 1)]) (rest := [.int (nI (0 * 5 + n + 1)), .ref (a 5)]) ⟨hx, hb, hml, hown, hg⟩ (c_X1_hadPower l dC dI cI cZ a (fr_seen r bt (0 * 4 + n)) (0) (n) _ (by omega) (by omega) (Int32.sub_add_cancel _ _)) (cwV 2 hg (gw_V mw_385 mw_386 mw_387 mw_22 mw_388) rfl rfl rfl (by decide +kernel) ⟨Nat.le_of_ble_eq_true rfl, Nat.le_of_ble_eq_true rfl⟩) (sf_preVR (va_recv hK hP (ci := 1) (q0 := 0) rfl rfl) hK hZ hPr) rfl rfl hl.1 rfl (lv_room (Nat.le_of_ble_eq_true rfl)) dX1_look_69 ⟨Nat.zero_le _, Nat.zero_le _⟩) ?_
      refine sf_ifeq (tgt := 79) hx hb dX1_look_72 (by decide) (fun c_13 => ?_) (fun c_13 => ?_)
      · refine lv_iconst (v := sf_b false) hx hb dX1_look_79 (by decide) ?_
        exact k_2 false (by first | rfl | (simp [fr_seen, c_12, c_13]; done) | (simp [fr_seen] at *; simp [*]; done))
      · refine lv_iconst (v := sf_b true) hx hb dX1_look_75 (by decide) ?_
        refine lv_goto (tgt := 80) hx hb dX1_look_76 (by decide) ?_
        exact k_2 true (by first | rfl | (simp [fr_seen, c_12, c_13]; done) | (simp [fr_seen] at *; simp [*]; done))
set_option maxHeartbeats 4000000 in
set_option maxRecDepth 100000 in
theorem c_X1_look (l : Launch) (dC : Nat → ClassId) (dI : Nat → Nat → Nat) (cI cZ : ClassId) (a : Nat → Nat) (hq : Nat) (bt : Nat → Bool) (r : st_R) (sz : Nat) (hcb : ∀ j, j < 12 → fc_ix (r.2.1 j) 24 = true) : Met l yX1_look wX1_look ({ frames := 1, cells := 0, slots := 0, locals := 25 }) (sf_PV (dC, dI) vwCl [(cI, .int), (cZ, .boolean)] (wp_R cI cZ a r ++ [wp_Z hq cZ 24 bt]) sz [.ref (a 0), .ref hq]) (sf_V (dC, dI) vwCl none (wp_R cI cZ a r ++ [wp_Z hq cZ 24 bt]) (wp_R cI cZ a (fr_look r bt) ++ [wp_Z hq cZ 24 bt])) 0 0 (va_A (wp_R cI cZ a r ++ [wp_Z hq cZ 24 bt]) sz) := by
  refine Met.ofW (cc := cX1_look) (maxL := 5) (ret := none) (by decide) rfl ?_
  intro p e s m args below meth c s₁ B hml hv
  have hx := B.exec
  have hb := B.bytes
  have hr := B.returns
  have hts := atoms_spec (ws := wX1_look) B.pre
  have hg : ∀ w ∈ gw_all, w.before args s = true := fun w h => hts w (List.mem_cons_of_mem _ h)
  have hown : s.vm.findClass RX1 = some m.cls := findClass_of_methodNamed B.named
  have hlocks := B.notSynchronized
  obtain ⟨rfl, hsz, hP, hD0, hK, hZ⟩ := hv
  subst hsz
  have hl := lv_entry ([.ref (a 0), .ref hq]) (n := 5) (Nat.le_of_ble_eq_true rfl)
  rw [lg_entry_eq]
  generalize (lg_sl ([.ref (a 0), .ref hq]) ++ List.replicate (5 - (lg_sl ([.ref (a 0), .ref hq])).length) Slot.unset).toArray = ls at hl ⊢
  have hl : lv_has ls 5 [(0, .ref (a 0)), (1, .ref hq)] := hl
  obtain ⟨A, hAe⟩ : ∃ A : Nat → Prop, A = va_A (wp_R cI cZ a r ++ [wp_Z hq cZ 24 bt]) s.heap.size := ⟨_, rfl⟩
  have hD := hD0.self (sz := s.heap.size)
  rw [← hAe] at hD
  have hA : ∀ q : Nat, s.heap.size ≤ q → A q := fun q h => by rw [hAe]; exact Or.inr h
  have hS : va_S A s.heap s.heap [] := va_S.rf
  have hP : va_P (dC, dI) vwCl [(a 0, .inr (1, [.ref (a 1), .ref (a 2), .ref (a 3), .ref (a 4), .ref (a 5), .ref (a 6), .ref (a 7)])), (a 1, .inl (cI, 12, .inl r.1)), (a 2, .inl (cI, 12, .inl r.2.1)), (a 3, .inl (cZ, 12, .inl (fun i9 => sf_b (r.2.2.1 i9)))), (a 4, .inl (cZ, 8, .inl (fun i9 => sf_b (r.2.2.2.1 i9)))), (a 5, .inl (cZ, 15, .inl (fun i9 => sf_b (r.2.2.2.2.1 i9)))), (a 6, .inl (cI, 3, .inl r.2.2.2.2.2.1)), (a 7, .inl (cI, 3, .inl r.2.2.2.2.2.2)), (hq, .inl (cZ, 24, .inl (fun i9 => sf_b (bt i9))))] s.heap := hP
  have hD : va_D A [(a 0, .inr (1, [.ref (a 1), .ref (a 2), .ref (a 3), .ref (a 4), .ref (a 5), .ref (a 6), .ref (a 7)])), (a 1, .inl (cI, 12, .inl r.1)), (a 2, .inl (cI, 12, .inl r.2.1)), (a 3, .inl (cZ, 12, .inl (fun i9 => sf_b (r.2.2.1 i9)))), (a 4, .inl (cZ, 8, .inl (fun i9 => sf_b (r.2.2.2.1 i9)))), (a 5, .inl (cZ, 15, .inl (fun i9 => sf_b (r.2.2.2.2.1 i9)))), (a 6, .inl (cI, 3, .inl r.2.2.2.2.2.1)), (a 7, .inl (cI, 3, .inl r.2.2.2.2.2.2)), (hq, .inl (cZ, 24, .inl (fun i9 => sf_b (bt i9))))] := hD
  refine lv_iconst (v := 0) hx hb dX1_look_0 (by decide) ?_
  refine lv_istore_n (lv' := [(2, .int 0), (0, .ref (a 0)), (1, .ref hq)]) hx hb dX1_look_1 rfl hl (by decide) rfl (fun ls hl => ?_)
  refine lv_iload_n hx hb dX1_look_2 rfl (lv_at hl 0 rfl) ?_
  refine lv_iconst (v := 3) hx hb dX1_look_3 (by decide) ?_
  refine lv_icmp_ge (tgt := 22) hx hb dX1_look_4 (by decide) (fun h => absurd h (by decide)) (fun _ => ?_)
  refine lv_aload_n hx hb dX1_look_7 rfl (lv_at hl 1 rfl) ?_
  refine va_get (D := (dC, dI)) (ci := 1) (v := .ref (a 5)) (C := RX1) (T := TX1) (N := 7) hx hb hg in_X1 hown hK hP 0 rfl rfl 4 (by decide) (hg _ mw_51) (fun _ h9 => h9) rfl dX1_look_8 ?_
  refine lv_iload_n hx hb dX1_look_11 rfl (lv_at hl 0 rfl) ?_
  refine lv_iconst (v := 5) hx hb dX1_look_12 (by decide) ?_
  refine lv_imul hx hb dX1_look_13 ?_
  refine sf_topi (y := nI (0 * 5)) (pk_mul 0 5) ?_
  refine lv_iconst (v := 1) hx hb dX1_look_14 (by decide) ?_
  refine sf_topi (y := sf_b true) rfl ?_
  refine sf_zast hx hb hK hP hD hS 5 1 rfl rfl (0 * 5) rfl (by omega) (by decide) dX1_look_15 (fun H locs hP hD hS => ?_)
  have hP : va_P (dC, dI) vwCl [(a 0, .inr (1, [.ref (a 1), .ref (a 2), .ref (a 3), .ref (a 4), .ref (a 5), .ref (a 6), .ref (a 7)])), (a 1, .inl (cI, 12, .inl r.1)), (a 2, .inl (cI, 12, .inl r.2.1)), (a 3, .inl (cZ, 12, .inl (fun i9 => sf_b (r.2.2.1 i9)))), (a 4, .inl (cZ, 8, .inl (fun i9 => sf_b (r.2.2.2.1 i9)))), (a 5, .inl (cZ, 15, .inl (fun i9 => sf_b ((va_up r.2.2.2.2.1 (0 * 5) true) i9)))), (a 6, .inl (cI, 3, .inl r.2.2.2.2.2.1)), (a 7, .inl (cI, 3, .inl r.2.2.2.2.2.2)), (hq, .inl (cZ, 24, .inl (fun i9 => sf_b (bt i9))))] H := hP
  have hD : va_D A [(a 0, .inr (1, [.ref (a 1), .ref (a 2), .ref (a 3), .ref (a 4), .ref (a 5), .ref (a 6), .ref (a 7)])), (a 1, .inl (cI, 12, .inl r.1)), (a 2, .inl (cI, 12, .inl r.2.1)), (a 3, .inl (cZ, 12, .inl (fun i9 => sf_b (r.2.2.1 i9)))), (a 4, .inl (cZ, 8, .inl (fun i9 => sf_b (r.2.2.2.1 i9)))), (a 5, .inl (cZ, 15, .inl (fun i9 => sf_b ((va_up r.2.2.2.2.1 (0 * 5) true) i9)))), (a 6, .inl (cI, 3, .inl r.2.2.2.2.2.1)), (a 7, .inl (cI, 3, .inl r.2.2.2.2.2.2)), (hq, .inl (cZ, 24, .inl (fun i9 => sf_b (bt i9))))] := hD
  refine lv_iinc (v := 1) (lv' := [(2, .int 1), (0, .ref (a 0)), (1, .ref hq)]) hx hb dX1_look_16 hl (k := 0) rfl (by decide) (by decide) rfl (fun ls hl => ?_)
  refine lv_goto (tgt := 2) hx hb dX1_look_19 (by decide) ?_
  refine lv_iload_n hx hb dX1_look_2 rfl (lv_at hl 0 rfl) ?_
  refine lv_iconst (v := 3) hx hb dX1_look_3 (by decide) ?_
  refine lv_icmp_ge (tgt := 22) hx hb dX1_look_4 (by decide) (fun h => absurd h (by decide)) (fun _ => ?_)
  refine lv_aload_n hx hb dX1_look_7 rfl (lv_at hl 1 rfl) ?_
  refine va_get (D := (dC, dI)) (ci := 1) (v := .ref (a 5)) (C := RX1) (T := TX1) (N := 7) hx hb hg in_X1 hown hK hP 0 rfl rfl 4 (by decide) (hg _ mw_51) (fun _ h9 => h9) rfl dX1_look_8 ?_
  refine lv_iload_n hx hb dX1_look_11 rfl (lv_at hl 0 rfl) ?_
  refine lv_iconst (v := 5) hx hb dX1_look_12 (by decide) ?_
  refine lv_imul hx hb dX1_look_13 ?_
  refine sf_topi (y := nI (1 * 5)) (pk_mul 1 5) ?_
  refine lv_iconst (v := 1) hx hb dX1_look_14 (by decide) ?_
  refine sf_topi (y := sf_b true) rfl ?_
  refine sf_zast hx hb hK hP hD hS 5 1 rfl rfl (1 * 5) rfl (by omega) (by decide) dX1_look_15 (fun H locs hP hD hS => ?_)
  have hP : va_P (dC, dI) vwCl [(a 0, .inr (1, [.ref (a 1), .ref (a 2), .ref (a 3), .ref (a 4), .ref (a 5), .ref (a 6), .ref (a 7)])), (a 1, .inl (cI, 12, .inl r.1)), (a 2, .inl (cI, 12, .inl r.2.1)), (a 3, .inl (cZ, 12, .inl (fun i9 => sf_b (r.2.2.1 i9)))), (a 4, .inl (cZ, 8, .inl (fun i9 => sf_b (r.2.2.2.1 i9)))), (a 5, .inl (cZ, 15, .inl (fun i9 => sf_b ((va_up (va_up r.2.2.2.2.1 (0 * 5) true) (1 * 5) true) i9)))), (a 6, .inl (cI, 3, .inl r.2.2.2.2.2.1)), (a 7, .inl (cI, 3, .inl r.2.2.2.2.2.2)), (hq, .inl (cZ, 24, .inl (fun i9 => sf_b (bt i9))))] H := hP
  have hD : va_D A [(a 0, .inr (1, [.ref (a 1), .ref (a 2), .ref (a 3), .ref (a 4), .ref (a 5), .ref (a 6), .ref (a 7)])), (a 1, .inl (cI, 12, .inl r.1)), (a 2, .inl (cI, 12, .inl r.2.1)), (a 3, .inl (cZ, 12, .inl (fun i9 => sf_b (r.2.2.1 i9)))), (a 4, .inl (cZ, 8, .inl (fun i9 => sf_b (r.2.2.2.1 i9)))), (a 5, .inl (cZ, 15, .inl (fun i9 => sf_b ((va_up (va_up r.2.2.2.2.1 (0 * 5) true) (1 * 5) true) i9)))), (a 6, .inl (cI, 3, .inl r.2.2.2.2.2.1)), (a 7, .inl (cI, 3, .inl r.2.2.2.2.2.2)), (hq, .inl (cZ, 24, .inl (fun i9 => sf_b (bt i9))))] := hD
  refine lv_iinc (v := 2) (lv' := [(2, .int 2), (0, .ref (a 0)), (1, .ref hq)]) hx hb dX1_look_16 hl (k := 0) rfl (by decide) (by decide) rfl (fun ls hl => ?_)
  refine lv_goto (tgt := 2) hx hb dX1_look_19 (by decide) ?_
  refine lv_iload_n hx hb dX1_look_2 rfl (lv_at hl 0 rfl) ?_
  refine lv_iconst (v := 3) hx hb dX1_look_3 (by decide) ?_
  refine lv_icmp_ge (tgt := 22) hx hb dX1_look_4 (by decide) (fun h => absurd h (by decide)) (fun _ => ?_)
  refine lv_aload_n hx hb dX1_look_7 rfl (lv_at hl 1 rfl) ?_
  refine va_get (D := (dC, dI)) (ci := 1) (v := .ref (a 5)) (C := RX1) (T := TX1) (N := 7) hx hb hg in_X1 hown hK hP 0 rfl rfl 4 (by decide) (hg _ mw_51) (fun _ h9 => h9) rfl dX1_look_8 ?_
  refine lv_iload_n hx hb dX1_look_11 rfl (lv_at hl 0 rfl) ?_
  refine lv_iconst (v := 5) hx hb dX1_look_12 (by decide) ?_
  refine lv_imul hx hb dX1_look_13 ?_
  refine sf_topi (y := nI (2 * 5)) (pk_mul 2 5) ?_
  refine lv_iconst (v := 1) hx hb dX1_look_14 (by decide) ?_
  refine sf_topi (y := sf_b true) rfl ?_
  refine sf_zast hx hb hK hP hD hS 5 1 rfl rfl (2 * 5) rfl (by omega) (by decide) dX1_look_15 (fun H locs hP hD hS => ?_)
  have hP : va_P (dC, dI) vwCl [(a 0, .inr (1, [.ref (a 1), .ref (a 2), .ref (a 3), .ref (a 4), .ref (a 5), .ref (a 6), .ref (a 7)])), (a 1, .inl (cI, 12, .inl r.1)), (a 2, .inl (cI, 12, .inl r.2.1)), (a 3, .inl (cZ, 12, .inl (fun i9 => sf_b (r.2.2.1 i9)))), (a 4, .inl (cZ, 8, .inl (fun i9 => sf_b (r.2.2.2.1 i9)))), (a 5, .inl (cZ, 15, .inl (fun i9 => sf_b ((va_up (va_up (va_up r.2.2.2.2.1 (0 * 5) true) (1 * 5) true) (2 * 5) true) i9)))), (a 6, .inl (cI, 3, .inl r.2.2.2.2.2.1)), (a 7, .inl (cI, 3, .inl r.2.2.2.2.2.2)), (hq, .inl (cZ, 24, .inl (fun i9 => sf_b (bt i9))))] H := hP
  have hD : va_D A [(a 0, .inr (1, [.ref (a 1), .ref (a 2), .ref (a 3), .ref (a 4), .ref (a 5), .ref (a 6), .ref (a 7)])), (a 1, .inl (cI, 12, .inl r.1)), (a 2, .inl (cI, 12, .inl r.2.1)), (a 3, .inl (cZ, 12, .inl (fun i9 => sf_b (r.2.2.1 i9)))), (a 4, .inl (cZ, 8, .inl (fun i9 => sf_b (r.2.2.2.1 i9)))), (a 5, .inl (cZ, 15, .inl (fun i9 => sf_b ((va_up (va_up (va_up r.2.2.2.2.1 (0 * 5) true) (1 * 5) true) (2 * 5) true) i9)))), (a 6, .inl (cI, 3, .inl r.2.2.2.2.2.1)), (a 7, .inl (cI, 3, .inl r.2.2.2.2.2.2)), (hq, .inl (cZ, 24, .inl (fun i9 => sf_b (bt i9))))] := hD
  refine lv_iinc (v := 3) (lv' := [(2, .int 3), (0, .ref (a 0)), (1, .ref hq)]) hx hb dX1_look_16 hl (k := 0) rfl (by decide) (by decide) rfl (fun ls hl => ?_)
  refine lv_goto (tgt := 2) hx hb dX1_look_19 (by decide) ?_
  refine lv_iload_n hx hb dX1_look_2 rfl (lv_at hl 0 rfl) ?_
  refine lv_iconst (v := 3) hx hb dX1_look_3 (by decide) ?_
  refine lv_icmp_ge (tgt := 22) hx hb dX1_look_4 (by decide) (fun _ => ?_) (fun h => absurd (by decide) h)
  refine lv_iconst (v := 0) hx hb dX1_look_22 (by decide) ?_
  refine lv_istore_n (lv' := [(2, .int 0), (0, .ref (a 0)), (1, .ref hq)]) hx hb dX1_look_23 rfl hl (by decide) rfl (fun ls hl => ?_)
  have hP : va_P (dC, dI) vwCl [(a 0, .inr (1, [.ref (a 1), .ref (a 2), .ref (a 3), .ref (a 4), .ref (a 5), .ref (a 6), .ref (a 7)])), (a 1, .inl (cI, 12, .inl ((fr_start r).1))), (a 2, .inl (cI, 12, .inl ((fr_start r).2.1))), (a 3, .inl (cZ, 12, .inl (fun i9 => sf_b (((fr_start r).2.2.1) i9)))), (a 4, .inl (cZ, 8, .inl (fun i9 => sf_b (((fr_start r).2.2.2.1) i9)))), (a 5, .inl (cZ, 15, .inl (fun i9 => sf_b (((fr_start r).2.2.2.2.1) i9)))), (a 6, .inl (cI, 3, .inl ((fr_start r).2.2.2.2.2.1))), (a 7, .inl (cI, 3, .inl ((fr_start r).2.2.2.2.2.2))), (hq, .inl (cZ, 24, .inl (fun i9 => sf_b (bt i9))))] H := hP
  have hD : va_D A [(a 0, .inr (1, [.ref (a 1), .ref (a 2), .ref (a 3), .ref (a 4), .ref (a 5), .ref (a 6), .ref (a 7)])), (a 1, .inl (cI, 12, .inl ((fr_start r).1))), (a 2, .inl (cI, 12, .inl ((fr_start r).2.1))), (a 3, .inl (cZ, 12, .inl (fun i9 => sf_b (((fr_start r).2.2.1) i9)))), (a 4, .inl (cZ, 8, .inl (fun i9 => sf_b (((fr_start r).2.2.2.1) i9)))), (a 5, .inl (cZ, 15, .inl (fun i9 => sf_b (((fr_start r).2.2.2.2.1) i9)))), (a 6, .inl (cI, 3, .inl ((fr_start r).2.2.2.2.2.1))), (a 7, .inl (cI, 3, .inl ((fr_start r).2.2.2.2.2.2))), (hq, .inl (cZ, 24, .inl (fun i9 => sf_b (bt i9))))] := hD
  have hl : lv_has ls 5 [(0, .ref (a 0)), (1, .ref hq), (2, .int (nI 0))] := lv_sub hl [1, 2, 0] rfl
  refine lv_iload_n hx hb dX1_look_24 rfl (lv_at hl 2 rfl) ?_
  refine lv_iconst (v := 4) hx hb dX1_look_25 (by decide) ?_
  refine lv_icmp_ge (tgt := 111) hx hb dX1_look_26 (by decide) (fun h => absurd h (by decide)) (fun _ => ?_)
  refine lk_col l dC dI cI cZ a hq bt hx hb hml hown hg hZ hK hA 0 (by decide) (fr_start r) (by simpa only [fr_cols, fr_start_cb] using hcb) hP hD hS hl (fun H locs ls hP hD hS hl => ?_)
  refine lv_iload_n hx hb dX1_look_24 rfl (lv_at hl 2 rfl) ?_
  refine lv_iconst (v := 4) hx hb dX1_look_25 (by decide) ?_
  refine lv_icmp_ge (tgt := 111) hx hb dX1_look_26 (by decide) (fun h => absurd h (by decide)) (fun _ => ?_)
  refine lk_col l dC dI cI cZ a hq bt hx hb hml hown hg hZ hK hA 1 (by decide) (fr_col (fr_start r) bt 0) (by simpa only [fr_cols, fr_start_cb] using hcb) hP hD hS hl (fun H locs ls hP hD hS hl => ?_)
  refine lv_iload_n hx hb dX1_look_24 rfl (lv_at hl 2 rfl) ?_
  refine lv_iconst (v := 4) hx hb dX1_look_25 (by decide) ?_
  refine lv_icmp_ge (tgt := 111) hx hb dX1_look_26 (by decide) (fun h => absurd h (by decide)) (fun _ => ?_)
  refine lk_col l dC dI cI cZ a hq bt hx hb hml hown hg hZ hK hA 2 (by decide) (fr_col (fr_col (fr_start r) bt 0) bt 1) (by simpa only [fr_cols, fr_start_cb] using hcb) hP hD hS hl (fun H locs ls hP hD hS hl => ?_)
  refine lv_iload_n hx hb dX1_look_24 rfl (lv_at hl 2 rfl) ?_
  refine lv_iconst (v := 4) hx hb dX1_look_25 (by decide) ?_
  refine lv_icmp_ge (tgt := 111) hx hb dX1_look_26 (by decide) (fun h => absurd h (by decide)) (fun _ => ?_)
  refine lk_col l dC dI cI cZ a hq bt hx hb hml hown hg hZ hK hA 3 (by decide) (fr_col (fr_col (fr_col (fr_start r) bt 0) bt 1) bt 2) (by simpa only [fr_cols, fr_start_cb] using hcb) hP hD hS hl (fun H locs ls hP hD hS hl => ?_)
  refine lv_iload_n hx hb dX1_look_24 rfl (lv_at hl 2 rfl) ?_
  refine lv_iconst (v := 4) hx hb dX1_look_25 (by decide) ?_
  refine lv_icmp_ge (tgt := 111) hx hb dX1_look_26 (by decide) (fun _ => ?_) (fun h => absurd (by decide) h)
  exact W.vret hx hb hr (fun t ht _ => ⟨rfl, by rw [ht]; exact hP, hAe ▸ hD, hAe ▸ hS.F ht⟩) (fun q hq => by rw [← hAe]; exact hS.2.2 q hq) dX1_look_111
end
section
/-! BLOCK: what its methods compute -/
def fb_tell (x : st_B) (w : Int32) : Int32 := if w = 0 then x.1 else if w = 1 then x.2.2.2.2.2.2.1 else if w = 2 then sf_b x.2.2.2.2.2.1 else if w = 3 then x.2.2.2.2.2.2.2.2.2.2.1 else x.2.2.2.2.2.2.2.2.2.2.2
def fb_become (x : st_B) (k a b c : Int32) (n : UInt64) : st_B := (k, a, b, c, n, x.2.2.2.2.2.1, 0, false, FP.dconst0, FP.dconst0, 0, 0)
def fb_cnt (x : st_B) (v : Int32) : st_B := (x.1, x.2.1, x.2.2.1, x.2.2.2.1, x.2.2.2.2.1, x.2.2.2.2.2.1, v, x.2.2.2.2.2.2.2)
def fb_had (x : st_B) (v : Bool) : st_B := (x.1, x.2.1, x.2.2.1, x.2.2.2.1, x.2.2.2.2.1, x.2.2.2.2.2.1, x.2.2.2.2.2.2.1, v, x.2.2.2.2.2.2.2.2)
def fb_sums (x : st_B) (v w : UInt64) : st_B := (x.1, x.2.1, x.2.2.1, x.2.2.2.1, x.2.2.2.2.1, x.2.2.2.2.2.1, x.2.2.2.2.2.2.1, x.2.2.2.2.2.2.2.1, v, w, x.2.2.2.2.2.2.2.2.2.2)
def fb_runs (x : st_B) : st_B := (x.1, x.2.1, x.2.2.1, x.2.2.2.1, x.2.2.2.2.1, x.2.2.2.2.2.1, x.2.2.2.2.2.2.1, x.2.2.2.2.2.2.2.1, x.2.2.2.2.2.2.2.2.1, x.2.2.2.2.2.2.2.2.2.1, x.2.2.2.2.2.2.2.2.2.2.1 + 1, x.2.2.2.2.2.2.2.2.2.2.2)
def fb_flts (x : st_B) : st_B := (x.1, x.2.1, x.2.2.1, x.2.2.2.1, x.2.2.2.2.1, x.2.2.2.2.2.1, x.2.2.2.2.2.2.1, x.2.2.2.2.2.2.2.1, x.2.2.2.2.2.2.2.2.1, x.2.2.2.2.2.2.2.2.2.1, x.2.2.2.2.2.2.2.2.2.2.1, x.2.2.2.2.2.2.2.2.2.2.2 + 1)
def fb_grd (x : st_B) (v : Bool) : st_B := (x.1, x.2.1, x.2.2.1, x.2.2.2.1, x.2.2.2.2.1, v, x.2.2.2.2.2.2)
def fb_c (x : st_B) : Nat := x.2.2.2.1.toNatClampNeg
def fb_dcnt (x : st_B) (pw : Bool) : Int32 := if pw = false then 0 else if sd_lt (FP.i2d x.2.2.2.2.2.2.1) x.2.2.2.2.1 = true then x.2.2.2.2.2.2.1 + 1 else x.2.2.2.2.2.2.1
def fb_delay (x : st_B) (pw : Bool) : st_B := fb_cnt x (fb_dcnt x pw)
def fb_dbit (x : st_B) (pw : Bool) (bt : Nat → Bool) : Nat → Bool := va_up bt (fb_c x) (sd_ge (FP.i2d (fb_dcnt x pw)) x.2.2.2.2.1)
def fb_ccnt (x : st_B) (pw : Bool) (bt : Nat → Bool) : Int32 := if bt 22 = true then 0 else if pw = false then x.2.2.2.2.2.2.1 else if x.2.2.2.2.2.2.2.1 = true then x.2.2.2.2.2.2.1 else if sd_lt (FP.i2d x.2.2.2.2.2.2.1) x.2.2.2.2.1 = true then x.2.2.2.2.2.2.1 + 1 else x.2.2.2.2.2.2.1
def fb_count (x : st_B) (pw : Bool) (bt : Nat → Bool) : st_B := fb_had (fb_cnt x (fb_ccnt x pw bt)) pw
def fb_cbit (x : st_B) (pw : Bool) (bt : Nat → Bool) : Nat → Bool := va_up bt (fb_c x) (sd_ge (FP.i2d (fb_ccnt x pw bt)) x.2.2.2.2.1)
def fb_keepr (x : st_B) (v : UInt64) (rg : Nat → UInt64) : Nat → UInt64 := if fc_val v = true then va_up rg (fb_c x) v else rg
def fb_x (x : st_B) (rg : Nat → UInt64) : UInt64 := rg x.2.1.toNatClampNeg
def fb_y (x : st_B) (rg : Nat → UInt64) : UInt64 := rg x.2.2.1.toNatClampNeg
def fb_calcb (x : st_B) (rg : Nat → UInt64) : Bool :=
  if x.1 = 4 then fc_val (FP.dadd (fb_x x rg) (fb_y x rg)) else if x.1 = 5 then fc_val (FP.dsub (fb_x x rg) (fb_y x rg)) else if x.1 = 6 then fc_val (FP.dmul (fb_x x rg) (fb_y x rg))
  else if x.1 = 7 then !sd_eq (fb_y x rg) FP.dconst0 && fc_val (FP.ddiv (fb_x x rg) (fb_y x rg)) else sd_le (fb_y x rg) x.2.2.2.2.1 && fc_val (fc_lim (fb_x x rg) (fb_y x rg) x.2.2.2.2.1)
def fb_calcr (x : st_B) (rg : Nat → UInt64) : Nat → UInt64 :=
  if x.1 = 4 then fb_keepr x (FP.dadd (fb_x x rg) (fb_y x rg)) rg else if x.1 = 5 then fb_keepr x (FP.dsub (fb_x x rg) (fb_y x rg)) rg else if x.1 = 6 then fb_keepr x (FP.dmul (fb_x x rg) (fb_y x rg)) rg
  else if x.1 = 7 then (if sd_eq (fb_y x rg) FP.dconst0 = true then rg else fb_keepr x (FP.ddiv (fb_x x rg) (fb_y x rg)) rg) else if sd_le (fb_y x rg) x.2.2.2.2.1 = true then fb_keepr x (fc_lim (fb_x x rg) (fb_y x rg) x.2.2.2.2.1) rg else rg
def fb_e (x : st_B) (rg : Nat → UInt64) : UInt64 := FP.dsub (fb_y x rg) (fb_x x rg)
def fb_sum (x : st_B) (rg : Nat → UInt64) : UInt64 := fc_lim (FP.dadd x.2.2.2.2.2.2.2.2.1 (FP.dmul (fb_e x rg) 4593671619917905920)) 13875379345695965184 4652007308841189376
def fb_v (x : st_B) (rg : Nat → UInt64) : UInt64 := FP.dmul x.2.2.2.2.1 (FP.dadd (FP.dadd (fb_e x rg) (fb_sum x rg)) (FP.dmul (FP.dsub (fb_e x rg) x.2.2.2.2.2.2.2.2.2.1) 4602678819172646912))
def fb_reg (x : st_B) (pw : Bool) (rg : Nat → UInt64) : st_B := if pw = false then fb_sums x FP.dconst0 FP.dconst0 else fb_sums x (fb_sum x rg) (fb_e x rg)
def fb_regb (x : st_B) (pw : Bool) (rg : Nat → UInt64) : Bool := if pw = false then true else fc_val (fb_v x rg)
def fb_regr (x : st_B) (pw : Bool) (rg : Nat → UInt64) : Nat → UInt64 := if pw = false then rg else fb_keepr x (fb_v x rg) rg
-- RUN
def fb_runb (x : st_B) (pw : Bool) (rg : Nat → UInt64) : Bool := if x.1 = 0 then true else if x.1 = 1 then true else if x.1 = 2 then true else if x.1 = 3 then true else if x.1 = 9 then fb_regb x pw rg else !pw || fb_calcb x rg
def fb_run1 (x : st_B) (pw : Bool) (bt : Nat → Bool) (rg : Nat → UInt64) : st_B := if x.1 = 1 then fb_delay x pw else if x.1 = 2 then fb_count x pw bt else if x.1 = 9 then fb_reg x pw rg else x
def fb_run (x : st_B) (pw : Bool) (bt : Nat → Bool) (rg : Nat → UInt64) : st_B := if fb_runb x pw rg = true then fb_run1 (fb_runs x) pw bt rg else fb_flts (fb_run1 (fb_runs x) pw bt rg)
def fb_runz (x : st_B) (pw : Bool) (bt : Nat → Bool) (rg : Nat → UInt64) : Nat → Bool := if x.1 = 1 then fb_dbit x pw bt else if x.1 = 2 then fb_cbit x pw bt else if x.1 = 3 then va_up bt (fb_c x) (if pw = true then sd_lt (fb_x x rg) (fb_y x rg) else bt (fb_c x)) else bt
def fb_rund (x : st_B) (pw : Bool) (rg : Nat → UInt64) : Nat → UInt64 := if x.1 = 0 then rg else if x.1 = 1 then rg else if x.1 = 2 then rg else if x.1 = 3 then rg else if x.1 = 9 then fb_regr x pw rg else if pw = true then fb_calcr x rg else rg
/-- what a BLOCK needs to run: numbers as said, sums and registers in their bounds -/
def fb_ok (x : st_B) : Prop := fc_isBlock x.1 x.2.1 x.2.2.1 x.2.2.2.1 x.2.2.2.2.1 = true ∧ sd_K 1033 x.2.2.2.2.2.2.2.2.1 ∧ sd_K 1065 x.2.2.2.2.2.2.2.2.2.1
def rg_ok (rg : Nat → UInt64) : Prop := ∀ j, j < 8 → fc_val (rg j) = true
theorem ix_bbit {x : Int32} (h : fc_bbit x = true) : fc_ix x 24 = true := by
  unfold fc_bbit fc_btw at h
  rw [Bool.and_eq_true, decide_eq_true_eq, decide_eq_true_eq] at h
  unfold fc_ix
  rw [Bool.and_eq_true, decide_eq_true_eq, decide_eq_true_eq]
  have h1 := h.1
  have h2 := h.2
  rw [Int32.lt_iff_toInt_lt] at h1 h2
  constructor
  · rw [Int32.lt_iff_toInt_lt]
    have e1 : (8 : Int32).toInt = 8 := by decide
    have e0 : (0 : Int32).toInt = 0 := by decide
    omega
  · rw [Int32.le_iff_toInt_le]
    have e1 : (21 : Int32).toInt = 21 := by decide
    have e0 : (24 : Int32).toInt = 24 := by decide
    omega
theorem val_K {v : UInt64} (h : fc_val v = true) : sd_K 1063 v := by
  unfold fc_val at h
  rw [Bool.and_eq_true] at h
  exact sd_btw (lo := 14009883241494872064) (hi := 4786511204640096256) (by decide) (by decide) (by decide) h.1 h.2
theorem setg_K {v : UInt64} (h : fc_setg v = true) : sd_K 1033 v := by
  unfold fc_setg at h
  rw [Bool.and_eq_true] at h
  exact sd_btw (lo := 13875379345695965184) (hi := 4652007308841189376) (by decide) (by decide) (by decide) h.1 h.2
theorem sd_nlt_ge {x y : UInt64} (hx : FP.Core.val64 x ≠ .nan) (hy : FP.Core.val64 y ≠ .nan) (h : sd_lt x y = false) : sd_ge x y = true := by
  unfold sd_lt at h
  unfold sd_ge
  rw [decide_eq_false_iff_not] at h
  rw [decide_eq_true_iff]
  rcases q : FP.dcmp x y with _ | o
  · exact absurd ((FP.Core.dcmp_none x y).mp q) (by rintro (h | h) <;> contradiction)
  · cases o
    · exact absurd q h
    · exact Or.inr rfl
    · exact Or.inl rfl
theorem sd_ngt_le {x y : UInt64} (hx : FP.Core.val64 x ≠ .nan) (hy : FP.Core.val64 y ≠ .nan) (h : sd_gt x y = false) : sd_le x y = true := by
  unfold sd_gt at h
  unfold sd_le
  rw [decide_eq_false_iff_not] at h
  rw [decide_eq_true_iff]
  rcases q : FP.dcmp x y with _ | o
  · exact absurd ((FP.Core.dcmp_none x y).mp q) (by rintro (h | h) <;> contradiction)
  · cases o
    · exact Or.inl rfl
    · exact Or.inr rfl
    · exact absurd q h
theorem lim_K {v : UInt64} (hv : FP.Core.val64 v ≠ .nan) : sd_K 1033 (fc_lim v 13875379345695965184 4652007308841189376) := by
  have n1 : FP.Core.val64 13875379345695965184 ≠ .nan := by decide
  have n2 : FP.Core.val64 4652007308841189376 ≠ .nan := by decide
  unfold fc_lim
  by_cases h1 : sd_lt v 13875379345695965184 = true
  · rw [if_pos h1]
    unfold sd_K
    decide
  · rw [if_neg h1]
    by_cases h2 : sd_gt v 4652007308841189376 = true
    · rw [if_pos h2]
      unfold sd_K
      decide
    · rw [if_neg h2]
      exact sd_btw (lo := 13875379345695965184) (hi := 4652007308841189376) (by decide) (by decide) (by decide) (sd_nlt_ge hv n1 (Bool.eq_false_iff.mpr h1)) (sd_ngt_le hv n2 (Bool.eq_false_iff.mpr h2))
theorem kk_125 : sd_K 1021 4593671619917905920 := by unfold sd_K; decide
theorem kk_5 : sd_K 1023 4602678819172646912 := by unfold sd_K; decide
section SDE
variable {x y z w n : UInt64}
theorem ke_e (hx : sd_K 1063 x) (hy : sd_K 1063 y) : sd_K 1065 (FP.dsub x y) := sd_sub hx hy (by decide)
theorem ke_m (hx : sd_K 1065 x) : sd_K 1064 (FP.dmul x 4593671619917905920) := (sd_mul hx kk_125 (by decide) (by decide)).mono (by decide)
theorem ke_s (hx : sd_K 1033 x) (hy : sd_K 1065 y) : sd_K 1066 (FP.dadd x (FP.dmul y 4593671619917905920)) := sd_add (hx.mono (by decide)) (ke_m hy) (by decide)
theorem ke_c (hx : sd_K 1065 x) (hy : sd_K 1065 y) : sd_K 1067 (FP.dsub x y) := sd_sub hx hy (by decide)
theorem ke_a (hx : sd_K 1065 x) (hy : sd_K 1033 y) : sd_K 1067 (FP.dadd x y) := sd_add hx (hy.mono (by decide)) (by decide)
theorem ke_h (hx : sd_K 1067 x) : sd_K 1068 (FP.dmul x 4602678819172646912) := (sd_mul hx kk_5 (by decide) (by decide)).mono (by decide)
theorem ke_t (hx : sd_K 1067 x) (hy : sd_K 1068 y) : sd_K 1070 (FP.dadd x y) := sd_add (hx.mono (by decide)) hy (by decide)
theorem ke_v (hx : sd_K 1033 x) (hy : sd_K 1070 y) : sd_K 1081 (FP.dmul x y) := (sd_mul hx hy (by decide) (by decide)).mono (by decide)
end SDE
end
section
set_option maxHeartbeats 4000000 in
set_option maxRecDepth 100000 in
theorem c_X0_become (l : Launch) (dC : Nat → ClassId) (dI : Nat → Nat → Nat) (ha : Nat) (x : st_B) (k a0 b0 c0 : Int32) (n : UInt64) (sz : Nat)  : Met l yX0_become wX0_become ({ frames := 0, cells := 0, slots := 0, locals := 0 }) (sf_PV (dC, dI) vwCl [] ([wp_B ha x]) sz [.ref ha, .int k, .int a0, .int b0, .int c0, .double n]) (sf_V (dC, dI) vwCl (some (.int x.1)) ([wp_B ha x]) ([wp_B ha (fb_become x k a0 b0 c0 n)])) 0 0 (va_A ([wp_B ha x]) sz) := by
  refine Met.ofW (cc := cX0_become) (maxL := 8) (ret := (some .int)) (by decide) rfl ?_
  intro p e s m args below meth c s₁ B hml hv
  have hx := B.exec
  have hb := B.bytes
  have hr := B.returns
  have hts := atoms_spec (ws := wX0_become) B.pre
  have hg : ∀ w ∈ gw_all, w.before args s = true := fun w h => hts w (List.mem_cons_of_mem _ h)
  have hown : s.vm.findClass RX0 = some m.cls := findClass_of_methodNamed B.named
  have hlocks := B.notSynchronized
  obtain ⟨rfl, hsz, hP, hD0, hK, hZ⟩ := hv
  subst hsz
  have hl := lv_entry ([.ref ha, .int k, .int a0, .int b0, .int c0, .double n]) (n := 8) (Nat.le_of_ble_eq_true rfl)
  rw [lg_entry_eq]
  generalize (lg_sl ([.ref ha, .int k, .int a0, .int b0, .int c0, .double n]) ++ List.replicate (8 - (lg_sl ([.ref ha, .int k, .int a0, .int b0, .int c0, .double n])).length) Slot.unset).toArray = ls at hl ⊢
  have hl : lv_has ls 8 [(0, .ref ha), (1, .int k), (2, .int a0), (3, .int b0), (4, .int c0), (5, .double n)] := hl
  obtain ⟨A, hAe⟩ : ∃ A : Nat → Prop, A = va_A ([wp_B ha x]) s.heap.size := ⟨_, rfl⟩
  have hD := hD0.self (sz := s.heap.size)
  rw [← hAe] at hD
  have hA : ∀ q : Nat, s.heap.size ≤ q → A q := fun q h => by rw [hAe]; exact Or.inr h
  have hS : va_S A s.heap s.heap [] := va_S.rf
  have hP : va_P (dC, dI) vwCl [(ha, .inr (0, [.int x.1, .int x.2.1, .int x.2.2.1, .int x.2.2.2.1, .double x.2.2.2.2.1, .int (sf_b x.2.2.2.2.2.1), .int x.2.2.2.2.2.2.1, .int (sf_b x.2.2.2.2.2.2.2.1), .double x.2.2.2.2.2.2.2.2.1, .double x.2.2.2.2.2.2.2.2.2.1, .int x.2.2.2.2.2.2.2.2.2.2.1, .int x.2.2.2.2.2.2.2.2.2.2.2]))] s.heap := hP
  have hD : va_D A [(ha, .inr (0, [.int x.1, .int x.2.1, .int x.2.2.1, .int x.2.2.2.1, .double x.2.2.2.2.1, .int (sf_b x.2.2.2.2.2.1), .int x.2.2.2.2.2.2.1, .int (sf_b x.2.2.2.2.2.2.2.1), .double x.2.2.2.2.2.2.2.2.1, .double x.2.2.2.2.2.2.2.2.2.1, .int x.2.2.2.2.2.2.2.2.2.2.1, .int x.2.2.2.2.2.2.2.2.2.2.2]))] := hD
  refine lv_aload_n hx hb dX0_become_0 rfl (lv_at hl 0 rfl) ?_
  refine va_get (D := (dC, dI)) (ci := 0) (v := .int x.1) (C := RX0) (T := TX0) (N := 12) hx hb hg in_X0 hown hK hP 0 rfl rfl 0 (by decide) (hg _ mw_81) (fun _ h9 => h9) rfl dX0_become_1 ?_
  refine lv_istore (lv' := [(7, .int x.1), (0, .ref ha), (1, .int k), (2, .int a0), (3, .int b0), (4, .int c0), (5, .double n)]) hx hb dX0_become_4 hl (by decide) rfl (fun ls hl => ?_)
  refine lv_aload_n hx hb dX0_become_6 rfl (lv_at hl 1 rfl) ?_
  refine lv_iload_n hx hb dX0_become_7 rfl (lv_at hl 2 rfl) ?_
  refine va_put (D := (dC, dI)) (ci := 0) (v := .int k) (ty := .int) (C := RX0) (T := TX0) (N := 12) hx hb hg in_X0 tyX0 tyX0_ok nmX0 hown hK hP hD hS 0 rfl rfl 0 (by decide) (hg _ mw_81) (fun _ h9 => h9) rfl (by decide +kernel) rfl rfl (Nat.le_of_ble_eq_true rfl) dX0_become_8 (fun H locs hP hD hS => ?_)
  have hP : va_P (dC, dI) vwCl [(ha, .inr (0, [.int k, .int x.2.1, .int x.2.2.1, .int x.2.2.2.1, .double x.2.2.2.2.1, .int (sf_b x.2.2.2.2.2.1), .int x.2.2.2.2.2.2.1, .int (sf_b x.2.2.2.2.2.2.2.1), .double x.2.2.2.2.2.2.2.2.1, .double x.2.2.2.2.2.2.2.2.2.1, .int x.2.2.2.2.2.2.2.2.2.2.1, .int x.2.2.2.2.2.2.2.2.2.2.2]))] H := hP
  have hD : va_D A [(ha, .inr (0, [.int k, .int x.2.1, .int x.2.2.1, .int x.2.2.2.1, .double x.2.2.2.2.1, .int (sf_b x.2.2.2.2.2.1), .int x.2.2.2.2.2.2.1, .int (sf_b x.2.2.2.2.2.2.2.1), .double x.2.2.2.2.2.2.2.2.1, .double x.2.2.2.2.2.2.2.2.2.1, .int x.2.2.2.2.2.2.2.2.2.2.1, .int x.2.2.2.2.2.2.2.2.2.2.2]))] := hD
  refine lv_aload_n hx hb dX0_become_11 rfl (lv_at hl 1 rfl) ?_
  refine lv_iload_n hx hb dX0_become_12 rfl (lv_at hl 3 rfl) ?_
  refine va_put (D := (dC, dI)) (ci := 0) (v := .int a0) (ty := .int) (C := RX0) (T := TX0) (N := 12) hx hb hg in_X0 tyX0 tyX0_ok nmX0 hown hK hP hD hS 0 rfl rfl 1 (by decide) (hg _ mw_82) (fun _ h9 => h9) rfl (by decide +kernel) rfl rfl (Nat.le_of_ble_eq_true rfl) dX0_become_13 (fun H locs hP hD hS => ?_)
  have hP : va_P (dC, dI) vwCl [(ha, .inr (0, [.int k, .int a0, .int x.2.2.1, .int x.2.2.2.1, .double x.2.2.2.2.1, .int (sf_b x.2.2.2.2.2.1), .int x.2.2.2.2.2.2.1, .int (sf_b x.2.2.2.2.2.2.2.1), .double x.2.2.2.2.2.2.2.2.1, .double x.2.2.2.2.2.2.2.2.2.1, .int x.2.2.2.2.2.2.2.2.2.2.1, .int x.2.2.2.2.2.2.2.2.2.2.2]))] H := hP
  have hD : va_D A [(ha, .inr (0, [.int k, .int a0, .int x.2.2.1, .int x.2.2.2.1, .double x.2.2.2.2.1, .int (sf_b x.2.2.2.2.2.1), .int x.2.2.2.2.2.2.1, .int (sf_b x.2.2.2.2.2.2.2.1), .double x.2.2.2.2.2.2.2.2.1, .double x.2.2.2.2.2.2.2.2.2.1, .int x.2.2.2.2.2.2.2.2.2.2.1, .int x.2.2.2.2.2.2.2.2.2.2.2]))] := hD
  refine lv_aload_n hx hb dX0_become_16 rfl (lv_at hl 1 rfl) ?_
  refine lv_iload_n hx hb dX0_become_17 rfl (lv_at hl 4 rfl) ?_
  refine va_put (D := (dC, dI)) (ci := 0) (v := .int b0) (ty := .int) (C := RX0) (T := TX0) (N := 12) hx hb hg in_X0 tyX0 tyX0_ok nmX0 hown hK hP hD hS 0 rfl rfl 2 (by decide) (hg _ mw_83) (fun _ h9 => h9) rfl (by decide +kernel) rfl rfl (Nat.le_of_ble_eq_true rfl) dX0_become_18 (fun H locs hP hD hS => ?_)
  have hP : va_P (dC, dI) vwCl [(ha, .inr (0, [.int k, .int a0, .int b0, .int x.2.2.2.1, .double x.2.2.2.2.1, .int (sf_b x.2.2.2.2.2.1), .int x.2.2.2.2.2.2.1, .int (sf_b x.2.2.2.2.2.2.2.1), .double x.2.2.2.2.2.2.2.2.1, .double x.2.2.2.2.2.2.2.2.2.1, .int x.2.2.2.2.2.2.2.2.2.2.1, .int x.2.2.2.2.2.2.2.2.2.2.2]))] H := hP
  have hD : va_D A [(ha, .inr (0, [.int k, .int a0, .int b0, .int x.2.2.2.1, .double x.2.2.2.2.1, .int (sf_b x.2.2.2.2.2.1), .int x.2.2.2.2.2.2.1, .int (sf_b x.2.2.2.2.2.2.2.1), .double x.2.2.2.2.2.2.2.2.1, .double x.2.2.2.2.2.2.2.2.2.1, .int x.2.2.2.2.2.2.2.2.2.2.1, .int x.2.2.2.2.2.2.2.2.2.2.2]))] := hD
  refine lv_aload_n hx hb dX0_become_21 rfl (lv_at hl 1 rfl) ?_
  refine lv_iload hx hb dX0_become_22 (lv_at hl 5 rfl) ?_
  refine va_put (D := (dC, dI)) (ci := 0) (v := .int c0) (ty := .int) (C := RX0) (T := TX0) (N := 12) hx hb hg in_X0 tyX0 tyX0_ok nmX0 hown hK hP hD hS 0 rfl rfl 3 (by decide) (hg _ mw_84) (fun _ h9 => h9) rfl (by decide +kernel) rfl rfl (Nat.le_of_ble_eq_true rfl) dX0_become_24 (fun H locs hP hD hS => ?_)
  have hP : va_P (dC, dI) vwCl [(ha, .inr (0, [.int k, .int a0, .int b0, .int c0, .double x.2.2.2.2.1, .int (sf_b x.2.2.2.2.2.1), .int x.2.2.2.2.2.2.1, .int (sf_b x.2.2.2.2.2.2.2.1), .double x.2.2.2.2.2.2.2.2.1, .double x.2.2.2.2.2.2.2.2.2.1, .int x.2.2.2.2.2.2.2.2.2.2.1, .int x.2.2.2.2.2.2.2.2.2.2.2]))] H := hP
  have hD : va_D A [(ha, .inr (0, [.int k, .int a0, .int b0, .int c0, .double x.2.2.2.2.1, .int (sf_b x.2.2.2.2.2.1), .int x.2.2.2.2.2.2.1, .int (sf_b x.2.2.2.2.2.2.2.1), .double x.2.2.2.2.2.2.2.2.1, .double x.2.2.2.2.2.2.2.2.2.1, .int x.2.2.2.2.2.2.2.2.2.2.1, .int x.2.2.2.2.2.2.2.2.2.2.2]))] := hD
  refine lv_aload_n hx hb dX0_become_27 rfl (lv_at hl 1 rfl) ?_
  refine lv_dload hx hb dX0_become_28 (lv_at hl 6 rfl) ?_
  refine va_put (D := (dC, dI)) (ci := 0) (v := .double n) (ty := .double) (C := RX0) (T := TX0) (N := 12) hx hb hg in_X0 tyX0 tyX0_ok nmX0 hown hK hP hD hS 0 rfl rfl 4 (by decide) (hg _ mw_85) (fun _ h9 => h9) rfl (by decide +kernel) rfl rfl (Nat.le_of_ble_eq_true rfl) dX0_become_30 (fun H locs hP hD hS => ?_)
  have hP : va_P (dC, dI) vwCl [(ha, .inr (0, [.int k, .int a0, .int b0, .int c0, .double n, .int (sf_b x.2.2.2.2.2.1), .int x.2.2.2.2.2.2.1, .int (sf_b x.2.2.2.2.2.2.2.1), .double x.2.2.2.2.2.2.2.2.1, .double x.2.2.2.2.2.2.2.2.2.1, .int x.2.2.2.2.2.2.2.2.2.2.1, .int x.2.2.2.2.2.2.2.2.2.2.2]))] H := hP
  have hD : va_D A [(ha, .inr (0, [.int k, .int a0, .int b0, .int c0, .double n, .int (sf_b x.2.2.2.2.2.1), .int x.2.2.2.2.2.2.1, .int (sf_b x.2.2.2.2.2.2.2.1), .double x.2.2.2.2.2.2.2.2.1, .double x.2.2.2.2.2.2.2.2.2.1, .int x.2.2.2.2.2.2.2.2.2.2.1, .int x.2.2.2.2.2.2.2.2.2.2.2]))] := hD
  refine lv_aload_n hx hb dX0_become_33 rfl (lv_at hl 1 rfl) ?_
  refine lv_iconst (v := 0) hx hb dX0_become_34 (by decide) ?_
  refine va_put (D := (dC, dI)) (ci := 0) (v := .int 0) (ty := .int) (C := RX0) (T := TX0) (N := 12) hx hb hg in_X0 tyX0 tyX0_ok nmX0 hown hK hP hD hS 0 rfl rfl 6 (by decide) (hg _ mw_88) (fun _ h9 => h9) rfl (by decide +kernel) rfl rfl (Nat.le_of_ble_eq_true rfl) dX0_become_35 (fun H locs hP hD hS => ?_)
  have hP : va_P (dC, dI) vwCl [(ha, .inr (0, [.int k, .int a0, .int b0, .int c0, .double n, .int (sf_b x.2.2.2.2.2.1), .int 0, .int (sf_b x.2.2.2.2.2.2.2.1), .double x.2.2.2.2.2.2.2.2.1, .double x.2.2.2.2.2.2.2.2.2.1, .int x.2.2.2.2.2.2.2.2.2.2.1, .int x.2.2.2.2.2.2.2.2.2.2.2]))] H := hP
  have hD : va_D A [(ha, .inr (0, [.int k, .int a0, .int b0, .int c0, .double n, .int (sf_b x.2.2.2.2.2.1), .int 0, .int (sf_b x.2.2.2.2.2.2.2.1), .double x.2.2.2.2.2.2.2.2.1, .double x.2.2.2.2.2.2.2.2.2.1, .int x.2.2.2.2.2.2.2.2.2.2.1, .int x.2.2.2.2.2.2.2.2.2.2.2]))] := hD
  refine lv_aload_n hx hb dX0_become_38 rfl (lv_at hl 1 rfl) ?_
  refine lv_iconst (v := 0) hx hb dX0_become_39 (by decide) ?_
  refine sf_topi (y := sf_b false) rfl ?_
  refine va_put (D := (dC, dI)) (ci := 0) (v := .int (sf_b false)) (ty := .boolean) (C := RX0) (T := TX0) (N := 12) hx hb hg in_X0 tyX0 tyX0_ok nmX0 hown hK hP hD hS 0 rfl rfl 7 (by decide) (hg _ mw_89) (fun _ h9 => h9) rfl (by decide +kernel) (sf_b_nb _) (sf_b_fit _) (Nat.le_of_ble_eq_true rfl) dX0_become_40 (fun H locs hP hD hS => ?_)
  have hP : va_P (dC, dI) vwCl [(ha, .inr (0, [.int k, .int a0, .int b0, .int c0, .double n, .int (sf_b x.2.2.2.2.2.1), .int 0, .int (sf_b false), .double x.2.2.2.2.2.2.2.2.1, .double x.2.2.2.2.2.2.2.2.2.1, .int x.2.2.2.2.2.2.2.2.2.2.1, .int x.2.2.2.2.2.2.2.2.2.2.2]))] H := hP
  have hD : va_D A [(ha, .inr (0, [.int k, .int a0, .int b0, .int c0, .double n, .int (sf_b x.2.2.2.2.2.1), .int 0, .int (sf_b false), .double x.2.2.2.2.2.2.2.2.1, .double x.2.2.2.2.2.2.2.2.2.1, .int x.2.2.2.2.2.2.2.2.2.2.1, .int x.2.2.2.2.2.2.2.2.2.2.2]))] := hD
  refine lv_aload_n hx hb dX0_become_43 rfl (lv_at hl 1 rfl) ?_
  refine lv_dconst0 hx hb dX0_become_44 ?_
  refine va_put (D := (dC, dI)) (ci := 0) (v := .double FP.dconst0) (ty := .double) (C := RX0) (T := TX0) (N := 12) hx hb hg in_X0 tyX0 tyX0_ok nmX0 hown hK hP hD hS 0 rfl rfl 8 (by decide) (hg _ mw_90) (fun _ h9 => h9) rfl (by decide +kernel) rfl rfl (Nat.le_of_ble_eq_true rfl) dX0_become_45 (fun H locs hP hD hS => ?_)
  have hP : va_P (dC, dI) vwCl [(ha, .inr (0, [.int k, .int a0, .int b0, .int c0, .double n, .int (sf_b x.2.2.2.2.2.1), .int 0, .int (sf_b false), .double FP.dconst0, .double x.2.2.2.2.2.2.2.2.2.1, .int x.2.2.2.2.2.2.2.2.2.2.1, .int x.2.2.2.2.2.2.2.2.2.2.2]))] H := hP
  have hD : va_D A [(ha, .inr (0, [.int k, .int a0, .int b0, .int c0, .double n, .int (sf_b x.2.2.2.2.2.1), .int 0, .int (sf_b false), .double FP.dconst0, .double x.2.2.2.2.2.2.2.2.2.1, .int x.2.2.2.2.2.2.2.2.2.2.1, .int x.2.2.2.2.2.2.2.2.2.2.2]))] := hD
  refine lv_aload_n hx hb dX0_become_48 rfl (lv_at hl 1 rfl) ?_
  refine lv_dconst0 hx hb dX0_become_49 ?_
  refine va_put (D := (dC, dI)) (ci := 0) (v := .double FP.dconst0) (ty := .double) (C := RX0) (T := TX0) (N := 12) hx hb hg in_X0 tyX0 tyX0_ok nmX0 hown hK hP hD hS 0 rfl rfl 9 (by decide) (hg _ mw_91) (fun _ h9 => h9) rfl (by decide +kernel) rfl rfl (Nat.le_of_ble_eq_true rfl) dX0_become_50 (fun H locs hP hD hS => ?_)
  have hP : va_P (dC, dI) vwCl [(ha, .inr (0, [.int k, .int a0, .int b0, .int c0, .double n, .int (sf_b x.2.2.2.2.2.1), .int 0, .int (sf_b false), .double FP.dconst0, .double FP.dconst0, .int x.2.2.2.2.2.2.2.2.2.2.1, .int x.2.2.2.2.2.2.2.2.2.2.2]))] H := hP
  have hD : va_D A [(ha, .inr (0, [.int k, .int a0, .int b0, .int c0, .double n, .int (sf_b x.2.2.2.2.2.1), .int 0, .int (sf_b false), .double FP.dconst0, .double FP.dconst0, .int x.2.2.2.2.2.2.2.2.2.2.1, .int x.2.2.2.2.2.2.2.2.2.2.2]))] := hD
  refine lv_aload_n hx hb dX0_become_53 rfl (lv_at hl 1 rfl) ?_
  refine lv_iconst (v := 0) hx hb dX0_become_54 (by decide) ?_
  refine va_put (D := (dC, dI)) (ci := 0) (v := .int 0) (ty := .int) (C := RX0) (T := TX0) (N := 12) hx hb hg in_X0 tyX0 tyX0_ok nmX0 hown hK hP hD hS 0 rfl rfl 10 (by decide) (hg _ mw_92) (fun _ h9 => h9) rfl (by decide +kernel) rfl rfl (Nat.le_of_ble_eq_true rfl) dX0_become_55 (fun H locs hP hD hS => ?_)
  have hP : va_P (dC, dI) vwCl [(ha, .inr (0, [.int k, .int a0, .int b0, .int c0, .double n, .int (sf_b x.2.2.2.2.2.1), .int 0, .int (sf_b false), .double FP.dconst0, .double FP.dconst0, .int 0, .int x.2.2.2.2.2.2.2.2.2.2.2]))] H := hP
  have hD : va_D A [(ha, .inr (0, [.int k, .int a0, .int b0, .int c0, .double n, .int (sf_b x.2.2.2.2.2.1), .int 0, .int (sf_b false), .double FP.dconst0, .double FP.dconst0, .int 0, .int x.2.2.2.2.2.2.2.2.2.2.2]))] := hD
  refine lv_aload_n hx hb dX0_become_58 rfl (lv_at hl 1 rfl) ?_
  refine lv_iconst (v := 0) hx hb dX0_become_59 (by decide) ?_
  refine va_put (D := (dC, dI)) (ci := 0) (v := .int 0) (ty := .int) (C := RX0) (T := TX0) (N := 12) hx hb hg in_X0 tyX0 tyX0_ok nmX0 hown hK hP hD hS 0 rfl rfl 11 (by decide) (hg _ mw_93) (fun _ h9 => h9) rfl (by decide +kernel) rfl rfl (Nat.le_of_ble_eq_true rfl) dX0_become_60 (fun H locs hP hD hS => ?_)
  have hP : va_P (dC, dI) vwCl [(ha, .inr (0, [.int k, .int a0, .int b0, .int c0, .double n, .int (sf_b x.2.2.2.2.2.1), .int 0, .int (sf_b false), .double FP.dconst0, .double FP.dconst0, .int 0, .int 0]))] H := hP
  have hD : va_D A [(ha, .inr (0, [.int k, .int a0, .int b0, .int c0, .double n, .int (sf_b x.2.2.2.2.2.1), .int 0, .int (sf_b false), .double FP.dconst0, .double FP.dconst0, .int 0, .int 0]))] := hD
  refine lv_iload hx hb dX0_become_63 (lv_at hl 0 rfl) ?_
  have hP9 : va_P (dC, dI) vwCl ([wp_B ha (fb_become x k a0 b0 c0 n)]) H := by
    rw [show fb_become x k a0 b0 c0 n = (k, a0, b0, c0, n, x.2.2.2.2.2.1, 0, false, FP.dconst0, FP.dconst0, 0, 0) from by first | rfl | (simp [fb_become]; done)]
    exact hP
  have hD9 : va_D A ([wp_B ha (fb_become x k a0 b0 c0 n)]) := by
    rw [show fb_become x k a0 b0 c0 n = (k, a0, b0, c0, n, x.2.2.2.2.2.1, 0, false, FP.dconst0, FP.dconst0, 0, 0) from by first | rfl | (simp [fb_become]; done)]
    exact hD
  exact W.iret hx hb hr (fun t ht _ => ⟨rfl, by rw [ht]; exact hP9, hAe ▸ hD9, hAe ▸ hS.F ht⟩) (fun q hq => by rw [← hAe]; exact hS.2.2 q hq) dX0_become_65
set_option maxHeartbeats 4000000 in
set_option maxRecDepth 100000 in
theorem c_X0_tell (l : Launch) (dC : Nat → ClassId) (dI : Nat → Nat → Nat) (ha : Nat) (x : st_B) (wh : Int32)  : Met l yX0_tell wX0_tell ({ frames := 0, cells := 0, slots := 0, locals := 0 }) (sf_PR (dC, dI) vwCl [] ([wp_B ha x]) [.ref ha, .int wh]) (sf_R (some (.int (fb_tell x wh)))) 0 0 (fun _ => False) := by
  refine Met.ofW (cc := cX0_tell) (maxL := 2) (ret := (some .int)) (by decide) rfl ?_
  intro p e s m args below meth c s₁ B hml hv
  have hx := B.exec
  have hb := B.bytes
  have hr := B.returns
  have hts := atoms_spec (ws := wX0_tell) B.pre
  have hg : ∀ w ∈ gw_all, w.before args s = true := fun w h => hts w (List.mem_cons_of_mem _ h)
  have hown : s.vm.findClass RX0 = some m.cls := findClass_of_methodNamed B.named
  have hlocks := B.notSynchronized
  obtain ⟨rfl, hP, hK, hZ⟩ := hv
  have hl := lv_entry ([.ref ha, .int wh]) (n := 2) (Nat.le_of_ble_eq_true rfl)
  rw [lg_entry_eq]
  generalize (lg_sl ([.ref ha, .int wh]) ++ List.replicate (2 - (lg_sl ([.ref ha, .int wh])).length) Slot.unset).toArray = ls at hl ⊢
  have hl : lv_has ls 2 [(0, .ref ha), (1, .int wh)] := hl
  have hP : va_P (dC, dI) vwCl [(ha, .inr (0, [.int x.1, .int x.2.1, .int x.2.2.1, .int x.2.2.2.1, .double x.2.2.2.2.1, .int (sf_b x.2.2.2.2.2.1), .int x.2.2.2.2.2.2.1, .int (sf_b x.2.2.2.2.2.2.2.1), .double x.2.2.2.2.2.2.2.2.1, .double x.2.2.2.2.2.2.2.2.2.1, .int x.2.2.2.2.2.2.2.2.2.2.1, .int x.2.2.2.2.2.2.2.2.2.2.2]))] s.heap := hP
  refine lv_iload_n hx hb dX0_tell_0 rfl (lv_at hl 1 rfl) ?_
  by_cases c_1 : wh = 0
  · refine lv_tableIn (off := 31) (tgt := 32) hx hb dX0_tell_1 (by rw [c_1]; decide) (by rw [c_1]; decide) (by rw [c_1]; decide) (by decide) ?_
    refine lv_aload_n hx hb dX0_tell_32 rfl (lv_at hl 0 rfl) ?_
    refine va_get (D := (dC, dI)) (ci := 0) (v := .int x.1) (C := RX0) (T := TX0) (N := 12) hx hb hg in_X0 hown hK hP 0 rfl rfl 0 (by decide) (hg _ mw_81) (fun _ h9 => h9) rfl dX0_tell_33 ?_
    refine sf_topi (y := fb_tell x wh) (by first | rfl | (simp [fb_tell, c_1]; done)) ?_
    exact W.iret hx hb hr (fun t ht _ => ⟨rfl, ht⟩) (fun _ h => nomatch h) dX0_tell_36
  · skip
    by_cases c_2 : wh = 1
    · refine lv_tableIn (off := 36) (tgt := 37) hx hb dX0_tell_1 (by rw [c_2]; decide) (by rw [c_2]; decide) (by rw [c_2]; decide) (by decide) ?_
      refine lv_aload_n hx hb dX0_tell_37 rfl (lv_at hl 0 rfl) ?_
      refine va_get (D := (dC, dI)) (ci := 0) (v := .int x.2.2.2.2.2.2.1) (C := RX0) (T := TX0) (N := 12) hx hb hg in_X0 hown hK hP 0 rfl rfl 6 (by decide) (hg _ mw_88) (fun _ h9 => h9) rfl dX0_tell_38 ?_
      refine sf_topi (y := fb_tell x wh) (by first | rfl | (simp [fb_tell, c_1, c_2]; done)) ?_
      exact W.iret hx hb hr (fun t ht _ => ⟨rfl, ht⟩) (fun _ h => nomatch h) dX0_tell_41
    · skip
      by_cases c_3 : wh = 2
      · refine lv_tableIn (off := 41) (tgt := 42) hx hb dX0_tell_1 (by rw [c_3]; decide) (by rw [c_3]; decide) (by rw [c_3]; decide) (by decide) ?_
        refine lv_aload_n hx hb dX0_tell_42 rfl (lv_at hl 0 rfl) ?_
        refine va_get (D := (dC, dI)) (ci := 0) (v := .int (sf_b x.2.2.2.2.2.1)) (C := RX0) (T := TX0) (N := 12) hx hb hg in_X0 hown hK hP 0 rfl rfl 5 (by decide) (hg _ mw_86) (fun _ h9 => h9) rfl dX0_tell_43 ?_
        refine sf_ifeq (tgt := 53) hx hb dX0_tell_46 (by decide) (fun c_4 => ?_) (fun c_4 => ?_)
        · refine lv_iconst (v := sf_b false) hx hb dX0_tell_53 (by decide) ?_
          refine sf_topi (y := fb_tell x wh) (by first | rfl | (simp [fb_tell, c_1, c_2, c_3, c_4]; done)) ?_
          exact W.iret hx hb hr (fun t ht _ => ⟨rfl, ht⟩) (fun _ h => nomatch h) dX0_tell_54
        · refine lv_iconst (v := sf_b true) hx hb dX0_tell_49 (by decide) ?_
          refine lv_goto (tgt := 54) hx hb dX0_tell_50 (by decide) ?_
          refine sf_topi (y := fb_tell x wh) (by first | rfl | (simp [fb_tell, c_1, c_2, c_3, c_4]; done)) ?_
          exact W.iret hx hb hr (fun t ht _ => ⟨rfl, ht⟩) (fun _ h => nomatch h) dX0_tell_54
      · skip
        by_cases c_5 : wh = 3
        · refine lv_tableIn (off := 54) (tgt := 55) hx hb dX0_tell_1 (by rw [c_5]; decide) (by rw [c_5]; decide) (by rw [c_5]; decide) (by decide) ?_
          refine lv_aload_n hx hb dX0_tell_55 rfl (lv_at hl 0 rfl) ?_
          refine va_get (D := (dC, dI)) (ci := 0) (v := .int x.2.2.2.2.2.2.2.2.2.2.1) (C := RX0) (T := TX0) (N := 12) hx hb hg in_X0 hown hK hP 0 rfl rfl 10 (by decide) (hg _ mw_92) (fun _ h9 => h9) rfl dX0_tell_56 ?_
          refine sf_topi (y := fb_tell x wh) (by first | rfl | (simp [fb_tell, c_1, c_2, c_3, c_5]; done)) ?_
          exact W.iret hx hb hr (fun t ht _ => ⟨rfl, ht⟩) (fun _ h => nomatch h) dX0_tell_59
        · skip
          have h_6 : wh.toInt < 0 ∨ 3 < wh.toInt := by
            have q0 : ¬ wh.toInt = 0 := lv_neT c_1 (by decide)
            have q1 : ¬ wh.toInt = 1 := lv_neT c_2 (by decide)
            have q2 : ¬ wh.toInt = 2 := lv_neT c_3 (by decide)
            have q3 : ¬ wh.toInt = 3 := lv_neT c_5 (by decide)
            omega
          refine lv_tableOut (tgt := 60) hx hb dX0_tell_1 h_6 (by decide) ?_
          refine lv_aload_n hx hb dX0_tell_60 rfl (lv_at hl 0 rfl) ?_
          refine va_get (D := (dC, dI)) (ci := 0) (v := .int x.2.2.2.2.2.2.2.2.2.2.2) (C := RX0) (T := TX0) (N := 12) hx hb hg in_X0 hown hK hP 0 rfl rfl 11 (by decide) (hg _ mw_93) (fun _ h9 => h9) rfl dX0_tell_61 ?_
          refine sf_topi (y := fb_tell x wh) (by first | rfl | (simp [fb_tell, c_1, c_2, c_3, c_5]; done)) ?_
          exact W.iret hx hb hr (fun t ht _ => ⟨rfl, ht⟩) (fun _ h => nomatch h) dX0_tell_64
set_option maxHeartbeats 4000000 in
set_option maxRecDepth 100000 in
theorem c_X0_delay (l : Launch) (dC : Nat → ClassId) (dI : Nat → Nat → Nat) (cZ : ClassId) (ha hq : Nat) (x : st_B) (bt : Nat → Bool) (pw : Bool) (sz : Nat) (hc : fc_ix x.2.2.2.1 24 = true) : Met l yX0_delay wX0_delay ({ frames := 0, cells := 0, slots := 0, locals := 0 }) (sf_PV (dC, dI) vwCl [(cZ, .boolean)] ([wp_B ha x, wp_Z hq cZ 24 bt]) sz [.ref ha, .int (sf_b pw), .ref hq]) (sf_V (dC, dI) vwCl none ([wp_B ha x, wp_Z hq cZ 24 bt]) ([wp_B ha (fb_delay x pw), wp_Z hq cZ 24 (fb_dbit x pw bt)])) 0 0 (va_A ([wp_B ha x, wp_Z hq cZ 24 bt]) sz) := by
  refine Met.ofW (cc := cX0_delay) (maxL := 3) (ret := none) (by decide) rfl ?_
  intro p e s m args below meth c s₁ B hml hv
  have hx := B.exec
  have hb := B.bytes
  have hr := B.returns
  have hts := atoms_spec (ws := wX0_delay) B.pre
  have hg : ∀ w ∈ gw_all, w.before args s = true := fun w h => hts w (List.mem_cons_of_mem _ h)
  have hown : s.vm.findClass RX0 = some m.cls := findClass_of_methodNamed B.named
  have hlocks := B.notSynchronized
  obtain ⟨rfl, hsz, hP, hD0, hK, hZ⟩ := hv
  subst hsz
  have hl := lv_entry ([.ref ha, .int (sf_b pw), .ref hq]) (n := 3) (Nat.le_of_ble_eq_true rfl)
  rw [lg_entry_eq]
  generalize (lg_sl ([.ref ha, .int (sf_b pw), .ref hq]) ++ List.replicate (3 - (lg_sl ([.ref ha, .int (sf_b pw), .ref hq])).length) Slot.unset).toArray = ls at hl ⊢
  have hl : lv_has ls 3 [(0, .ref ha), (1, .int (sf_b pw)), (2, .ref hq)] := hl
  obtain ⟨A, hAe⟩ : ∃ A : Nat → Prop, A = va_A ([wp_B ha x, wp_Z hq cZ 24 bt]) s.heap.size := ⟨_, rfl⟩
  have hD := hD0.self (sz := s.heap.size)
  rw [← hAe] at hD
  have hA : ∀ q : Nat, s.heap.size ≤ q → A q := fun q h => by rw [hAe]; exact Or.inr h
  have hS : va_S A s.heap s.heap [] := va_S.rf
  have hP : va_P (dC, dI) vwCl [(ha, .inr (0, [.int x.1, .int x.2.1, .int x.2.2.1, .int x.2.2.2.1, .double x.2.2.2.2.1, .int (sf_b x.2.2.2.2.2.1), .int x.2.2.2.2.2.2.1, .int (sf_b x.2.2.2.2.2.2.2.1), .double x.2.2.2.2.2.2.2.2.1, .double x.2.2.2.2.2.2.2.2.2.1, .int x.2.2.2.2.2.2.2.2.2.2.1, .int x.2.2.2.2.2.2.2.2.2.2.2])), (hq, .inl (cZ, 24, .inl (fun i9 => sf_b (bt i9))))] s.heap := hP
  have hD : va_D A [(ha, .inr (0, [.int x.1, .int x.2.1, .int x.2.2.1, .int x.2.2.2.1, .double x.2.2.2.2.1, .int (sf_b x.2.2.2.2.2.1), .int x.2.2.2.2.2.2.1, .int (sf_b x.2.2.2.2.2.2.2.1), .double x.2.2.2.2.2.2.2.2.1, .double x.2.2.2.2.2.2.2.2.2.1, .int x.2.2.2.2.2.2.2.2.2.2.1, .int x.2.2.2.2.2.2.2.2.2.2.2])), (hq, .inl (cZ, 24, .inl (fun i9 => sf_b (bt i9))))] := hD
  have hc9 := ix_nat (n := 24) rfl (by decide) hc
  refine lv_iload_n hx hb dX0_delay_0 rfl (lv_at hl 1 rfl) ?_
  refine sf_ifne (tgt := 12) hx hb dX0_delay_1 (by decide) (fun c_1 => ?_) (fun c_1 => ?_)
  · refine lv_aload_n hx hb dX0_delay_12 rfl (lv_at hl 0 rfl) ?_
    refine va_get (D := (dC, dI)) (ci := 0) (v := .int x.2.2.2.2.2.2.1) (C := RX0) (T := TX0) (N := 12) hx hb hg in_X0 hown hK hP 0 rfl rfl 6 (by decide) (hg _ mw_88) (fun _ h9 => h9) rfl dX0_delay_13 ?_
    refine lv_i2d hx hb dX0_delay_16 ?_
    refine lv_aload_n hx hb dX0_delay_17 rfl (lv_at hl 0 rfl) ?_
    refine va_get (D := (dC, dI)) (ci := 0) (v := .double x.2.2.2.2.1) (C := RX0) (T := TX0) (N := 12) hx hb hg in_X0 hown hK hP 0 rfl rfl 4 (by decide) (hg _ mw_85) (fun _ h9 => h9) rfl dX0_delay_18 ?_
    refine lv_dcmp hx hb dX0_delay_21 ?_
    refine lv_if_ge (tgt := 35) hx hb dX0_delay_22 (by decide) (fun c_2 => ?_) (fun c_2 => ?_)
    · have c_2 := sd_g_ge.mp c_2
      refine lv_aload_n hx hb dX0_delay_35 rfl (lv_at hl 2 rfl) ?_
      refine lv_aload_n hx hb dX0_delay_36 rfl (lv_at hl 0 rfl) ?_
      refine va_get (D := (dC, dI)) (ci := 0) (v := .int x.2.2.2.1) (C := RX0) (T := TX0) (N := 12) hx hb hg in_X0 hown hK hP 0 rfl rfl 3 (by decide) (hg _ mw_84) (fun _ h9 => h9) rfl dX0_delay_37 ?_
      refine lv_aload_n hx hb dX0_delay_40 rfl (lv_at hl 0 rfl) ?_
      refine va_get (D := (dC, dI)) (ci := 0) (v := .int x.2.2.2.2.2.2.1) (C := RX0) (T := TX0) (N := 12) hx hb hg in_X0 hown hK hP 0 rfl rfl 6 (by decide) (hg _ mw_88) (fun _ h9 => h9) rfl dX0_delay_41 ?_
      refine lv_i2d hx hb dX0_delay_44 ?_
      refine lv_aload_n hx hb dX0_delay_45 rfl (lv_at hl 0 rfl) ?_
      refine va_get (D := (dC, dI)) (ci := 0) (v := .double x.2.2.2.2.1) (C := RX0) (T := TX0) (N := 12) hx hb hg in_X0 hown hK hP 0 rfl rfl 4 (by decide) (hg _ mw_85) (fun _ h9 => h9) rfl dX0_delay_46 ?_
      refine lv_dcmp hx hb dX0_delay_49 ?_
      refine lv_if_lt (tgt := 57) hx hb dX0_delay_50 (by decide) (fun c_3 => ?_) (fun c_3 => ?_)
      · have c_3 := sd_l_lt.mp c_3
        refine lv_iconst (v := sf_b false) hx hb dX0_delay_57 (by decide) ?_
        refine sf_zast hx hb hK hP hD hS 1 0 rfl rfl (fb_c x) hc9.1 hc9.2 (by decide) dX0_delay_58 (fun H locs hP hD hS => ?_)
        have hP : va_P (dC, dI) vwCl [(ha, .inr (0, [.int x.1, .int x.2.1, .int x.2.2.1, .int x.2.2.2.1, .double x.2.2.2.2.1, .int (sf_b x.2.2.2.2.2.1), .int x.2.2.2.2.2.2.1, .int (sf_b x.2.2.2.2.2.2.2.1), .double x.2.2.2.2.2.2.2.2.1, .double x.2.2.2.2.2.2.2.2.2.1, .int x.2.2.2.2.2.2.2.2.2.2.1, .int x.2.2.2.2.2.2.2.2.2.2.2])), (hq, .inl (cZ, 24, .inl (fun i9 => sf_b ((va_up bt (fb_c x) false) i9))))] H := hP
        have hD : va_D A [(ha, .inr (0, [.int x.1, .int x.2.1, .int x.2.2.1, .int x.2.2.2.1, .double x.2.2.2.2.1, .int (sf_b x.2.2.2.2.2.1), .int x.2.2.2.2.2.2.1, .int (sf_b x.2.2.2.2.2.2.2.1), .double x.2.2.2.2.2.2.2.2.1, .double x.2.2.2.2.2.2.2.2.2.1, .int x.2.2.2.2.2.2.2.2.2.2.1, .int x.2.2.2.2.2.2.2.2.2.2.2])), (hq, .inl (cZ, 24, .inl (fun i9 => sf_b ((va_up bt (fb_c x) false) i9))))] := hD
        have hP9 : va_P (dC, dI) vwCl ([wp_B ha (fb_delay x pw), wp_Z hq cZ 24 (fb_dbit x pw bt)]) H := by
          rw [show fb_delay x pw = (x.1, x.2.1, x.2.2.1, x.2.2.2.1, x.2.2.2.2.1, x.2.2.2.2.2.1, x.2.2.2.2.2.2.1, x.2.2.2.2.2.2.2.1, x.2.2.2.2.2.2.2.2.1, x.2.2.2.2.2.2.2.2.2.1, x.2.2.2.2.2.2.2.2.2.2.1, x.2.2.2.2.2.2.2.2.2.2.2) from by first | rfl | (simp [fb_delay, fb_dbit, fb_dcnt, fb_cnt, c_1, c_2, c_3]; done)]
          rw [show fb_dbit x pw bt = va_up bt (fb_c x) false from by first | rfl | (simp [fb_delay, fb_dbit, fb_dcnt, fb_cnt, c_1, c_2, c_3]; done)]
          exact hP
        have hD9 : va_D A ([wp_B ha (fb_delay x pw), wp_Z hq cZ 24 (fb_dbit x pw bt)]) := by
          rw [show fb_delay x pw = (x.1, x.2.1, x.2.2.1, x.2.2.2.1, x.2.2.2.2.1, x.2.2.2.2.2.1, x.2.2.2.2.2.2.1, x.2.2.2.2.2.2.2.1, x.2.2.2.2.2.2.2.2.1, x.2.2.2.2.2.2.2.2.2.1, x.2.2.2.2.2.2.2.2.2.2.1, x.2.2.2.2.2.2.2.2.2.2.2) from by first | rfl | (simp [fb_delay, fb_dbit, fb_dcnt, fb_cnt, c_1, c_2, c_3]; done)]
          rw [show fb_dbit x pw bt = va_up bt (fb_c x) false from by first | rfl | (simp [fb_delay, fb_dbit, fb_dcnt, fb_cnt, c_1, c_2, c_3]; done)]
          exact hD
        exact W.vret hx hb hr (fun t ht _ => ⟨rfl, by rw [ht]; exact hP9, hAe ▸ hD9, hAe ▸ hS.F ht⟩) (fun q hq => by rw [← hAe]; exact hS.2.2 q hq) dX0_delay_59
      · have c_3 := sd_nl_lt c_3
        refine lv_iconst (v := sf_b true) hx hb dX0_delay_53 (by decide) ?_
        refine lv_goto (tgt := 58) hx hb dX0_delay_54 (by decide) ?_
        refine sf_zast hx hb hK hP hD hS 1 0 rfl rfl (fb_c x) hc9.1 hc9.2 (by decide) dX0_delay_58 (fun H locs hP hD hS => ?_)
        have hP : va_P (dC, dI) vwCl [(ha, .inr (0, [.int x.1, .int x.2.1, .int x.2.2.1, .int x.2.2.2.1, .double x.2.2.2.2.1, .int (sf_b x.2.2.2.2.2.1), .int x.2.2.2.2.2.2.1, .int (sf_b x.2.2.2.2.2.2.2.1), .double x.2.2.2.2.2.2.2.2.1, .double x.2.2.2.2.2.2.2.2.2.1, .int x.2.2.2.2.2.2.2.2.2.2.1, .int x.2.2.2.2.2.2.2.2.2.2.2])), (hq, .inl (cZ, 24, .inl (fun i9 => sf_b ((va_up bt (fb_c x) true) i9))))] H := hP
        have hD : va_D A [(ha, .inr (0, [.int x.1, .int x.2.1, .int x.2.2.1, .int x.2.2.2.1, .double x.2.2.2.2.1, .int (sf_b x.2.2.2.2.2.1), .int x.2.2.2.2.2.2.1, .int (sf_b x.2.2.2.2.2.2.2.1), .double x.2.2.2.2.2.2.2.2.1, .double x.2.2.2.2.2.2.2.2.2.1, .int x.2.2.2.2.2.2.2.2.2.2.1, .int x.2.2.2.2.2.2.2.2.2.2.2])), (hq, .inl (cZ, 24, .inl (fun i9 => sf_b ((va_up bt (fb_c x) true) i9))))] := hD
        have hP9 : va_P (dC, dI) vwCl ([wp_B ha (fb_delay x pw), wp_Z hq cZ 24 (fb_dbit x pw bt)]) H := by
          rw [show fb_delay x pw = (x.1, x.2.1, x.2.2.1, x.2.2.2.1, x.2.2.2.2.1, x.2.2.2.2.2.1, x.2.2.2.2.2.2.1, x.2.2.2.2.2.2.2.1, x.2.2.2.2.2.2.2.2.1, x.2.2.2.2.2.2.2.2.2.1, x.2.2.2.2.2.2.2.2.2.2.1, x.2.2.2.2.2.2.2.2.2.2.2) from by first | rfl | (simp [fb_delay, fb_dbit, fb_dcnt, fb_cnt, c_1, c_2, c_3]; done)]
          rw [show fb_dbit x pw bt = va_up bt (fb_c x) true from by first | rfl | (simp [fb_delay, fb_dbit, fb_dcnt, fb_cnt, c_1, c_2, c_3]; done)]
          exact hP
        have hD9 : va_D A ([wp_B ha (fb_delay x pw), wp_Z hq cZ 24 (fb_dbit x pw bt)]) := by
          rw [show fb_delay x pw = (x.1, x.2.1, x.2.2.1, x.2.2.2.1, x.2.2.2.2.1, x.2.2.2.2.2.1, x.2.2.2.2.2.2.1, x.2.2.2.2.2.2.2.1, x.2.2.2.2.2.2.2.2.1, x.2.2.2.2.2.2.2.2.2.1, x.2.2.2.2.2.2.2.2.2.2.1, x.2.2.2.2.2.2.2.2.2.2.2) from by first | rfl | (simp [fb_delay, fb_dbit, fb_dcnt, fb_cnt, c_1, c_2, c_3]; done)]
          rw [show fb_dbit x pw bt = va_up bt (fb_c x) true from by first | rfl | (simp [fb_delay, fb_dbit, fb_dcnt, fb_cnt, c_1, c_2, c_3]; done)]
          exact hD
        exact W.vret hx hb hr (fun t ht _ => ⟨rfl, by rw [ht]; exact hP9, hAe ▸ hD9, hAe ▸ hS.F ht⟩) (fun q hq => by rw [← hAe]; exact hS.2.2 q hq) dX0_delay_59
    · have c_2 := sd_ng_ge c_2
      refine lv_aload_n hx hb dX0_delay_25 rfl (lv_at hl 0 rfl) ?_
      refine lv_dup hx hb dX0_delay_26 rfl ?_
      refine va_get (D := (dC, dI)) (ci := 0) (v := .int x.2.2.2.2.2.2.1) (C := RX0) (T := TX0) (N := 12) hx hb hg in_X0 hown hK hP 0 rfl rfl 6 (by decide) (hg _ mw_88) (fun _ h9 => h9) rfl dX0_delay_27 ?_
      refine lv_iconst (v := 1) hx hb dX0_delay_30 (by decide) ?_
      refine lv_iadd hx hb dX0_delay_31 ?_
      refine va_put (D := (dC, dI)) (ci := 0) (v := .int (x.2.2.2.2.2.2.1 + 1)) (ty := .int) (C := RX0) (T := TX0) (N := 12) hx hb hg in_X0 tyX0 tyX0_ok nmX0 hown hK hP hD hS 0 rfl rfl 6 (by decide) (hg _ mw_88) (fun _ h9 => h9) rfl (by decide +kernel) rfl rfl (Nat.le_of_ble_eq_true rfl) dX0_delay_32 (fun H locs hP hD hS => ?_)
      have hP : va_P (dC, dI) vwCl [(ha, .inr (0, [.int x.1, .int x.2.1, .int x.2.2.1, .int x.2.2.2.1, .double x.2.2.2.2.1, .int (sf_b x.2.2.2.2.2.1), .int (x.2.2.2.2.2.2.1 + 1), .int (sf_b x.2.2.2.2.2.2.2.1), .double x.2.2.2.2.2.2.2.2.1, .double x.2.2.2.2.2.2.2.2.2.1, .int x.2.2.2.2.2.2.2.2.2.2.1, .int x.2.2.2.2.2.2.2.2.2.2.2])), (hq, .inl (cZ, 24, .inl (fun i9 => sf_b (bt i9))))] H := hP
      have hD : va_D A [(ha, .inr (0, [.int x.1, .int x.2.1, .int x.2.2.1, .int x.2.2.2.1, .double x.2.2.2.2.1, .int (sf_b x.2.2.2.2.2.1), .int (x.2.2.2.2.2.2.1 + 1), .int (sf_b x.2.2.2.2.2.2.2.1), .double x.2.2.2.2.2.2.2.2.1, .double x.2.2.2.2.2.2.2.2.2.1, .int x.2.2.2.2.2.2.2.2.2.2.1, .int x.2.2.2.2.2.2.2.2.2.2.2])), (hq, .inl (cZ, 24, .inl (fun i9 => sf_b (bt i9))))] := hD
      refine lv_aload_n hx hb dX0_delay_35 rfl (lv_at hl 2 rfl) ?_
      refine lv_aload_n hx hb dX0_delay_36 rfl (lv_at hl 0 rfl) ?_
      refine va_get (D := (dC, dI)) (ci := 0) (v := .int x.2.2.2.1) (C := RX0) (T := TX0) (N := 12) hx hb hg in_X0 hown hK hP 0 rfl rfl 3 (by decide) (hg _ mw_84) (fun _ h9 => h9) rfl dX0_delay_37 ?_
      refine lv_aload_n hx hb dX0_delay_40 rfl (lv_at hl 0 rfl) ?_
      refine va_get (D := (dC, dI)) (ci := 0) (v := .int (x.2.2.2.2.2.2.1 + 1)) (C := RX0) (T := TX0) (N := 12) hx hb hg in_X0 hown hK hP 0 rfl rfl 6 (by decide) (hg _ mw_88) (fun _ h9 => h9) rfl dX0_delay_41 ?_
      refine lv_i2d hx hb dX0_delay_44 ?_
      refine lv_aload_n hx hb dX0_delay_45 rfl (lv_at hl 0 rfl) ?_
      refine va_get (D := (dC, dI)) (ci := 0) (v := .double x.2.2.2.2.1) (C := RX0) (T := TX0) (N := 12) hx hb hg in_X0 hown hK hP 0 rfl rfl 4 (by decide) (hg _ mw_85) (fun _ h9 => h9) rfl dX0_delay_46 ?_
      refine lv_dcmp hx hb dX0_delay_49 ?_
      refine lv_if_lt (tgt := 57) hx hb dX0_delay_50 (by decide) (fun c_4 => ?_) (fun c_4 => ?_)
      · have c_4 := sd_l_lt.mp c_4
        refine lv_iconst (v := sf_b false) hx hb dX0_delay_57 (by decide) ?_
        refine sf_zast hx hb hK hP hD hS 1 0 rfl rfl (fb_c x) hc9.1 hc9.2 (by decide) dX0_delay_58 (fun H locs hP hD hS => ?_)
        have hP : va_P (dC, dI) vwCl [(ha, .inr (0, [.int x.1, .int x.2.1, .int x.2.2.1, .int x.2.2.2.1, .double x.2.2.2.2.1, .int (sf_b x.2.2.2.2.2.1), .int (x.2.2.2.2.2.2.1 + 1), .int (sf_b x.2.2.2.2.2.2.2.1), .double x.2.2.2.2.2.2.2.2.1, .double x.2.2.2.2.2.2.2.2.2.1, .int x.2.2.2.2.2.2.2.2.2.2.1, .int x.2.2.2.2.2.2.2.2.2.2.2])), (hq, .inl (cZ, 24, .inl (fun i9 => sf_b ((va_up bt (fb_c x) false) i9))))] H := hP
        have hD : va_D A [(ha, .inr (0, [.int x.1, .int x.2.1, .int x.2.2.1, .int x.2.2.2.1, .double x.2.2.2.2.1, .int (sf_b x.2.2.2.2.2.1), .int (x.2.2.2.2.2.2.1 + 1), .int (sf_b x.2.2.2.2.2.2.2.1), .double x.2.2.2.2.2.2.2.2.1, .double x.2.2.2.2.2.2.2.2.2.1, .int x.2.2.2.2.2.2.2.2.2.2.1, .int x.2.2.2.2.2.2.2.2.2.2.2])), (hq, .inl (cZ, 24, .inl (fun i9 => sf_b ((va_up bt (fb_c x) false) i9))))] := hD
        have hP9 : va_P (dC, dI) vwCl ([wp_B ha (fb_delay x pw), wp_Z hq cZ 24 (fb_dbit x pw bt)]) H := by
          rw [show fb_delay x pw = (x.1, x.2.1, x.2.2.1, x.2.2.2.1, x.2.2.2.2.1, x.2.2.2.2.2.1, x.2.2.2.2.2.2.1 + 1, x.2.2.2.2.2.2.2.1, x.2.2.2.2.2.2.2.2.1, x.2.2.2.2.2.2.2.2.2.1, x.2.2.2.2.2.2.2.2.2.2.1, x.2.2.2.2.2.2.2.2.2.2.2) from by first | rfl | (simp [fb_delay, fb_dbit, fb_dcnt, fb_cnt, c_1, c_2, c_4]; done)]
          rw [show fb_dbit x pw bt = va_up bt (fb_c x) false from by first | rfl | (simp [fb_delay, fb_dbit, fb_dcnt, fb_cnt, c_1, c_2, c_4]; done)]
          exact hP
        have hD9 : va_D A ([wp_B ha (fb_delay x pw), wp_Z hq cZ 24 (fb_dbit x pw bt)]) := by
          rw [show fb_delay x pw = (x.1, x.2.1, x.2.2.1, x.2.2.2.1, x.2.2.2.2.1, x.2.2.2.2.2.1, x.2.2.2.2.2.2.1 + 1, x.2.2.2.2.2.2.2.1, x.2.2.2.2.2.2.2.2.1, x.2.2.2.2.2.2.2.2.2.1, x.2.2.2.2.2.2.2.2.2.2.1, x.2.2.2.2.2.2.2.2.2.2.2) from by first | rfl | (simp [fb_delay, fb_dbit, fb_dcnt, fb_cnt, c_1, c_2, c_4]; done)]
          rw [show fb_dbit x pw bt = va_up bt (fb_c x) false from by first | rfl | (simp [fb_delay, fb_dbit, fb_dcnt, fb_cnt, c_1, c_2, c_4]; done)]
          exact hD
        exact W.vret hx hb hr (fun t ht _ => ⟨rfl, by rw [ht]; exact hP9, hAe ▸ hD9, hAe ▸ hS.F ht⟩) (fun q hq => by rw [← hAe]; exact hS.2.2 q hq) dX0_delay_59
      · have c_4 := sd_nl_lt c_4
        refine lv_iconst (v := sf_b true) hx hb dX0_delay_53 (by decide) ?_
        refine lv_goto (tgt := 58) hx hb dX0_delay_54 (by decide) ?_
        refine sf_zast hx hb hK hP hD hS 1 0 rfl rfl (fb_c x) hc9.1 hc9.2 (by decide) dX0_delay_58 (fun H locs hP hD hS => ?_)
        have hP : va_P (dC, dI) vwCl [(ha, .inr (0, [.int x.1, .int x.2.1, .int x.2.2.1, .int x.2.2.2.1, .double x.2.2.2.2.1, .int (sf_b x.2.2.2.2.2.1), .int (x.2.2.2.2.2.2.1 + 1), .int (sf_b x.2.2.2.2.2.2.2.1), .double x.2.2.2.2.2.2.2.2.1, .double x.2.2.2.2.2.2.2.2.2.1, .int x.2.2.2.2.2.2.2.2.2.2.1, .int x.2.2.2.2.2.2.2.2.2.2.2])), (hq, .inl (cZ, 24, .inl (fun i9 => sf_b ((va_up bt (fb_c x) true) i9))))] H := hP
        have hD : va_D A [(ha, .inr (0, [.int x.1, .int x.2.1, .int x.2.2.1, .int x.2.2.2.1, .double x.2.2.2.2.1, .int (sf_b x.2.2.2.2.2.1), .int (x.2.2.2.2.2.2.1 + 1), .int (sf_b x.2.2.2.2.2.2.2.1), .double x.2.2.2.2.2.2.2.2.1, .double x.2.2.2.2.2.2.2.2.2.1, .int x.2.2.2.2.2.2.2.2.2.2.1, .int x.2.2.2.2.2.2.2.2.2.2.2])), (hq, .inl (cZ, 24, .inl (fun i9 => sf_b ((va_up bt (fb_c x) true) i9))))] := hD
        have hP9 : va_P (dC, dI) vwCl ([wp_B ha (fb_delay x pw), wp_Z hq cZ 24 (fb_dbit x pw bt)]) H := by
          rw [show fb_delay x pw = (x.1, x.2.1, x.2.2.1, x.2.2.2.1, x.2.2.2.2.1, x.2.2.2.2.2.1, x.2.2.2.2.2.2.1 + 1, x.2.2.2.2.2.2.2.1, x.2.2.2.2.2.2.2.2.1, x.2.2.2.2.2.2.2.2.2.1, x.2.2.2.2.2.2.2.2.2.2.1, x.2.2.2.2.2.2.2.2.2.2.2) from by first | rfl | (simp [fb_delay, fb_dbit, fb_dcnt, fb_cnt, c_1, c_2, c_4]; done)]
          rw [show fb_dbit x pw bt = va_up bt (fb_c x) true from by first | rfl | (simp [fb_delay, fb_dbit, fb_dcnt, fb_cnt, c_1, c_2, c_4]; done)]
          exact hP
        have hD9 : va_D A ([wp_B ha (fb_delay x pw), wp_Z hq cZ 24 (fb_dbit x pw bt)]) := by
          rw [show fb_delay x pw = (x.1, x.2.1, x.2.2.1, x.2.2.2.1, x.2.2.2.2.1, x.2.2.2.2.2.1, x.2.2.2.2.2.2.1 + 1, x.2.2.2.2.2.2.2.1, x.2.2.2.2.2.2.2.2.1, x.2.2.2.2.2.2.2.2.2.1, x.2.2.2.2.2.2.2.2.2.2.1, x.2.2.2.2.2.2.2.2.2.2.2) from by first | rfl | (simp [fb_delay, fb_dbit, fb_dcnt, fb_cnt, c_1, c_2, c_4]; done)]
          rw [show fb_dbit x pw bt = va_up bt (fb_c x) true from by first | rfl | (simp [fb_delay, fb_dbit, fb_dcnt, fb_cnt, c_1, c_2, c_4]; done)]
          exact hD
        exact W.vret hx hb hr (fun t ht _ => ⟨rfl, by rw [ht]; exact hP9, hAe ▸ hD9, hAe ▸ hS.F ht⟩) (fun q hq => by rw [← hAe]; exact hS.2.2 q hq) dX0_delay_59
  · refine lv_aload_n hx hb dX0_delay_4 rfl (lv_at hl 0 rfl) ?_
    refine lv_iconst (v := 0) hx hb dX0_delay_5 (by decide) ?_
    refine va_put (D := (dC, dI)) (ci := 0) (v := .int 0) (ty := .int) (C := RX0) (T := TX0) (N := 12) hx hb hg in_X0 tyX0 tyX0_ok nmX0 hown hK hP hD hS 0 rfl rfl 6 (by decide) (hg _ mw_88) (fun _ h9 => h9) rfl (by decide +kernel) rfl rfl (Nat.le_of_ble_eq_true rfl) dX0_delay_6 (fun H locs hP hD hS => ?_)
    have hP : va_P (dC, dI) vwCl [(ha, .inr (0, [.int x.1, .int x.2.1, .int x.2.2.1, .int x.2.2.2.1, .double x.2.2.2.2.1, .int (sf_b x.2.2.2.2.2.1), .int 0, .int (sf_b x.2.2.2.2.2.2.2.1), .double x.2.2.2.2.2.2.2.2.1, .double x.2.2.2.2.2.2.2.2.2.1, .int x.2.2.2.2.2.2.2.2.2.2.1, .int x.2.2.2.2.2.2.2.2.2.2.2])), (hq, .inl (cZ, 24, .inl (fun i9 => sf_b (bt i9))))] H := hP
    have hD : va_D A [(ha, .inr (0, [.int x.1, .int x.2.1, .int x.2.2.1, .int x.2.2.2.1, .double x.2.2.2.2.1, .int (sf_b x.2.2.2.2.2.1), .int 0, .int (sf_b x.2.2.2.2.2.2.2.1), .double x.2.2.2.2.2.2.2.2.1, .double x.2.2.2.2.2.2.2.2.2.1, .int x.2.2.2.2.2.2.2.2.2.2.1, .int x.2.2.2.2.2.2.2.2.2.2.2])), (hq, .inl (cZ, 24, .inl (fun i9 => sf_b (bt i9))))] := hD
    refine lv_goto (tgt := 35) hx hb dX0_delay_9 (by decide) ?_
    refine lv_aload_n hx hb dX0_delay_35 rfl (lv_at hl 2 rfl) ?_
    refine lv_aload_n hx hb dX0_delay_36 rfl (lv_at hl 0 rfl) ?_
    refine va_get (D := (dC, dI)) (ci := 0) (v := .int x.2.2.2.1) (C := RX0) (T := TX0) (N := 12) hx hb hg in_X0 hown hK hP 0 rfl rfl 3 (by decide) (hg _ mw_84) (fun _ h9 => h9) rfl dX0_delay_37 ?_
    refine lv_aload_n hx hb dX0_delay_40 rfl (lv_at hl 0 rfl) ?_
    refine va_get (D := (dC, dI)) (ci := 0) (v := .int 0) (C := RX0) (T := TX0) (N := 12) hx hb hg in_X0 hown hK hP 0 rfl rfl 6 (by decide) (hg _ mw_88) (fun _ h9 => h9) rfl dX0_delay_41 ?_
    refine lv_i2d hx hb dX0_delay_44 ?_
    refine lv_aload_n hx hb dX0_delay_45 rfl (lv_at hl 0 rfl) ?_
    refine va_get (D := (dC, dI)) (ci := 0) (v := .double x.2.2.2.2.1) (C := RX0) (T := TX0) (N := 12) hx hb hg in_X0 hown hK hP 0 rfl rfl 4 (by decide) (hg _ mw_85) (fun _ h9 => h9) rfl dX0_delay_46 ?_
    refine lv_dcmp hx hb dX0_delay_49 ?_
    refine lv_if_lt (tgt := 57) hx hb dX0_delay_50 (by decide) (fun c_5 => ?_) (fun c_5 => ?_)
    · have c_5 := sd_l_lt.mp c_5
      refine lv_iconst (v := sf_b false) hx hb dX0_delay_57 (by decide) ?_
      refine sf_zast hx hb hK hP hD hS 1 0 rfl rfl (fb_c x) hc9.1 hc9.2 (by decide) dX0_delay_58 (fun H locs hP hD hS => ?_)
      have hP : va_P (dC, dI) vwCl [(ha, .inr (0, [.int x.1, .int x.2.1, .int x.2.2.1, .int x.2.2.2.1, .double x.2.2.2.2.1, .int (sf_b x.2.2.2.2.2.1), .int 0, .int (sf_b x.2.2.2.2.2.2.2.1), .double x.2.2.2.2.2.2.2.2.1, .double x.2.2.2.2.2.2.2.2.2.1, .int x.2.2.2.2.2.2.2.2.2.2.1, .int x.2.2.2.2.2.2.2.2.2.2.2])), (hq, .inl (cZ, 24, .inl (fun i9 => sf_b ((va_up bt (fb_c x) false) i9))))] H := hP
      have hD : va_D A [(ha, .inr (0, [.int x.1, .int x.2.1, .int x.2.2.1, .int x.2.2.2.1, .double x.2.2.2.2.1, .int (sf_b x.2.2.2.2.2.1), .int 0, .int (sf_b x.2.2.2.2.2.2.2.1), .double x.2.2.2.2.2.2.2.2.1, .double x.2.2.2.2.2.2.2.2.2.1, .int x.2.2.2.2.2.2.2.2.2.2.1, .int x.2.2.2.2.2.2.2.2.2.2.2])), (hq, .inl (cZ, 24, .inl (fun i9 => sf_b ((va_up bt (fb_c x) false) i9))))] := hD
      have hP9 : va_P (dC, dI) vwCl ([wp_B ha (fb_delay x pw), wp_Z hq cZ 24 (fb_dbit x pw bt)]) H := by
        rw [show fb_delay x pw = (x.1, x.2.1, x.2.2.1, x.2.2.2.1, x.2.2.2.2.1, x.2.2.2.2.2.1, 0, x.2.2.2.2.2.2.2.1, x.2.2.2.2.2.2.2.2.1, x.2.2.2.2.2.2.2.2.2.1, x.2.2.2.2.2.2.2.2.2.2.1, x.2.2.2.2.2.2.2.2.2.2.2) from by first | rfl | (simp [fb_delay, fb_dbit, fb_dcnt, fb_cnt, c_1, c_5]; done)]
        rw [show fb_dbit x pw bt = va_up bt (fb_c x) false from by first | rfl | (simp [fb_delay, fb_dbit, fb_dcnt, fb_cnt, c_1, c_5]; done)]
        exact hP
      have hD9 : va_D A ([wp_B ha (fb_delay x pw), wp_Z hq cZ 24 (fb_dbit x pw bt)]) := by
        rw [show fb_delay x pw = (x.1, x.2.1, x.2.2.1, x.2.2.2.1, x.2.2.2.2.1, x.2.2.2.2.2.1, 0, x.2.2.2.2.2.2.2.1, x.2.2.2.2.2.2.2.2.1, x.2.2.2.2.2.2.2.2.2.1, x.2.2.2.2.2.2.2.2.2.2.1, x.2.2.2.2.2.2.2.2.2.2.2) from by first | rfl | (simp [fb_delay, fb_dbit, fb_dcnt, fb_cnt, c_1, c_5]; done)]
        rw [show fb_dbit x pw bt = va_up bt (fb_c x) false from by first | rfl | (simp [fb_delay, fb_dbit, fb_dcnt, fb_cnt, c_1, c_5]; done)]
        exact hD
      exact W.vret hx hb hr (fun t ht _ => ⟨rfl, by rw [ht]; exact hP9, hAe ▸ hD9, hAe ▸ hS.F ht⟩) (fun q hq => by rw [← hAe]; exact hS.2.2 q hq) dX0_delay_59
    · have c_5 := sd_nl_lt c_5
      refine lv_iconst (v := sf_b true) hx hb dX0_delay_53 (by decide) ?_
      refine lv_goto (tgt := 58) hx hb dX0_delay_54 (by decide) ?_
      refine sf_zast hx hb hK hP hD hS 1 0 rfl rfl (fb_c x) hc9.1 hc9.2 (by decide) dX0_delay_58 (fun H locs hP hD hS => ?_)
      have hP : va_P (dC, dI) vwCl [(ha, .inr (0, [.int x.1, .int x.2.1, .int x.2.2.1, .int x.2.2.2.1, .double x.2.2.2.2.1, .int (sf_b x.2.2.2.2.2.1), .int 0, .int (sf_b x.2.2.2.2.2.2.2.1), .double x.2.2.2.2.2.2.2.2.1, .double x.2.2.2.2.2.2.2.2.2.1, .int x.2.2.2.2.2.2.2.2.2.2.1, .int x.2.2.2.2.2.2.2.2.2.2.2])), (hq, .inl (cZ, 24, .inl (fun i9 => sf_b ((va_up bt (fb_c x) true) i9))))] H := hP
      have hD : va_D A [(ha, .inr (0, [.int x.1, .int x.2.1, .int x.2.2.1, .int x.2.2.2.1, .double x.2.2.2.2.1, .int (sf_b x.2.2.2.2.2.1), .int 0, .int (sf_b x.2.2.2.2.2.2.2.1), .double x.2.2.2.2.2.2.2.2.1, .double x.2.2.2.2.2.2.2.2.2.1, .int x.2.2.2.2.2.2.2.2.2.2.1, .int x.2.2.2.2.2.2.2.2.2.2.2])), (hq, .inl (cZ, 24, .inl (fun i9 => sf_b ((va_up bt (fb_c x) true) i9))))] := hD
      have hP9 : va_P (dC, dI) vwCl ([wp_B ha (fb_delay x pw), wp_Z hq cZ 24 (fb_dbit x pw bt)]) H := by
        rw [show fb_delay x pw = (x.1, x.2.1, x.2.2.1, x.2.2.2.1, x.2.2.2.2.1, x.2.2.2.2.2.1, 0, x.2.2.2.2.2.2.2.1, x.2.2.2.2.2.2.2.2.1, x.2.2.2.2.2.2.2.2.2.1, x.2.2.2.2.2.2.2.2.2.2.1, x.2.2.2.2.2.2.2.2.2.2.2) from by first | rfl | (simp [fb_delay, fb_dbit, fb_dcnt, fb_cnt, c_1, c_5]; done)]
        rw [show fb_dbit x pw bt = va_up bt (fb_c x) true from by first | rfl | (simp [fb_delay, fb_dbit, fb_dcnt, fb_cnt, c_1, c_5]; done)]
        exact hP
      have hD9 : va_D A ([wp_B ha (fb_delay x pw), wp_Z hq cZ 24 (fb_dbit x pw bt)]) := by
        rw [show fb_delay x pw = (x.1, x.2.1, x.2.2.1, x.2.2.2.1, x.2.2.2.2.1, x.2.2.2.2.2.1, 0, x.2.2.2.2.2.2.2.1, x.2.2.2.2.2.2.2.2.1, x.2.2.2.2.2.2.2.2.2.1, x.2.2.2.2.2.2.2.2.2.2.1, x.2.2.2.2.2.2.2.2.2.2.2) from by first | rfl | (simp [fb_delay, fb_dbit, fb_dcnt, fb_cnt, c_1, c_5]; done)]
        rw [show fb_dbit x pw bt = va_up bt (fb_c x) true from by first | rfl | (simp [fb_delay, fb_dbit, fb_dcnt, fb_cnt, c_1, c_5]; done)]
        exact hD
      exact W.vret hx hb hr (fun t ht _ => ⟨rfl, by rw [ht]; exact hP9, hAe ▸ hD9, hAe ▸ hS.F ht⟩) (fun q hq => by rw [← hAe]; exact hS.2.2 q hq) dX0_delay_59
set_option maxHeartbeats 4000000 in
set_option maxRecDepth 100000 in
theorem c_X0_countRuns (l : Launch) (dC : Nat → ClassId) (dI : Nat → Nat → Nat) (cZ : ClassId) (ha hq : Nat) (x : st_B) (bt : Nat → Bool) (pw : Bool) (sz : Nat) (hc : fc_ix x.2.2.2.1 24 = true) : Met l yX0_countRuns wX0_countRuns ({ frames := 0, cells := 0, slots := 0, locals := 0 }) (sf_PV (dC, dI) vwCl [(cZ, .boolean)] ([wp_B ha x, wp_Z hq cZ 24 bt]) sz [.ref ha, .int (sf_b pw), .ref hq]) (sf_V (dC, dI) vwCl none ([wp_B ha x, wp_Z hq cZ 24 bt]) ([wp_B ha (fb_count x pw bt), wp_Z hq cZ 24 (fb_cbit x pw bt)])) 0 0 (va_A ([wp_B ha x, wp_Z hq cZ 24 bt]) sz) := by
  refine Met.ofW (cc := cX0_countRuns) (maxL := 3) (ret := none) (by decide) rfl ?_
  intro p e s m args below meth c s₁ B hml hv
  have hx := B.exec
  have hb := B.bytes
  have hr := B.returns
  have hts := atoms_spec (ws := wX0_countRuns) B.pre
  have hg : ∀ w ∈ gw_all, w.before args s = true := fun w h => hts w (List.mem_cons_of_mem _ h)
  have hown : s.vm.findClass RX0 = some m.cls := findClass_of_methodNamed B.named
  have hlocks := B.notSynchronized
  obtain ⟨rfl, hsz, hP, hD0, hK, hZ⟩ := hv
  subst hsz
  have hl := lv_entry ([.ref ha, .int (sf_b pw), .ref hq]) (n := 3) (Nat.le_of_ble_eq_true rfl)
  rw [lg_entry_eq]
  generalize (lg_sl ([.ref ha, .int (sf_b pw), .ref hq]) ++ List.replicate (3 - (lg_sl ([.ref ha, .int (sf_b pw), .ref hq])).length) Slot.unset).toArray = ls at hl ⊢
  have hl : lv_has ls 3 [(0, .ref ha), (1, .int (sf_b pw)), (2, .ref hq)] := hl
  obtain ⟨A, hAe⟩ : ∃ A : Nat → Prop, A = va_A ([wp_B ha x, wp_Z hq cZ 24 bt]) s.heap.size := ⟨_, rfl⟩
  have hD := hD0.self (sz := s.heap.size)
  rw [← hAe] at hD
  have hA : ∀ q : Nat, s.heap.size ≤ q → A q := fun q h => by rw [hAe]; exact Or.inr h
  have hS : va_S A s.heap s.heap [] := va_S.rf
  have hP : va_P (dC, dI) vwCl [(ha, .inr (0, [.int x.1, .int x.2.1, .int x.2.2.1, .int x.2.2.2.1, .double x.2.2.2.2.1, .int (sf_b x.2.2.2.2.2.1), .int x.2.2.2.2.2.2.1, .int (sf_b x.2.2.2.2.2.2.2.1), .double x.2.2.2.2.2.2.2.2.1, .double x.2.2.2.2.2.2.2.2.2.1, .int x.2.2.2.2.2.2.2.2.2.2.1, .int x.2.2.2.2.2.2.2.2.2.2.2])), (hq, .inl (cZ, 24, .inl (fun i9 => sf_b (bt i9))))] s.heap := hP
  have hD : va_D A [(ha, .inr (0, [.int x.1, .int x.2.1, .int x.2.2.1, .int x.2.2.2.1, .double x.2.2.2.2.1, .int (sf_b x.2.2.2.2.2.1), .int x.2.2.2.2.2.2.1, .int (sf_b x.2.2.2.2.2.2.2.1), .double x.2.2.2.2.2.2.2.2.1, .double x.2.2.2.2.2.2.2.2.2.1, .int x.2.2.2.2.2.2.2.2.2.2.1, .int x.2.2.2.2.2.2.2.2.2.2.2])), (hq, .inl (cZ, 24, .inl (fun i9 => sf_b (bt i9))))] := hD
  have hc9 := ix_nat (n := 24) rfl (by decide) hc
  refine lv_aload_n hx hb dX0_countRuns_0 rfl (lv_at hl 2 rfl) ?_
  refine lv_bipush (v := 22) hx hb dX0_countRuns_1 (by decide) ?_
  refine sf_zald hx hb hK hP 1 0 rfl rfl 22 rfl (by decide) (by decide) dX0_countRuns_3 ?_
  refine sf_ifeq (tgt := 15) hx hb dX0_countRuns_4 (by decide) (fun c_1 => ?_) (fun c_1 => ?_)
  · refine lv_iload_n hx hb dX0_countRuns_15 rfl (lv_at hl 1 rfl) ?_
    refine sf_ifeq (tgt := 49) hx hb dX0_countRuns_16 (by decide) (fun c_2 => ?_) (fun c_2 => ?_)
    · refine lv_aload_n hx hb dX0_countRuns_49 rfl (lv_at hl 0 rfl) ?_
      refine lv_iload_n hx hb dX0_countRuns_50 rfl (lv_at hl 1 rfl) ?_
      refine va_put (D := (dC, dI)) (ci := 0) (v := .int (sf_b pw)) (ty := .boolean) (C := RX0) (T := TX0) (N := 12) hx hb hg in_X0 tyX0 tyX0_ok nmX0 hown hK hP hD hS 0 rfl rfl 7 (by decide) (hg _ mw_89) (fun _ h9 => h9) rfl (by decide +kernel) (sf_b_nb _) (sf_b_fit _) (Nat.le_of_ble_eq_true rfl) dX0_countRuns_51 (fun H locs hP hD hS => ?_)
      have hP : va_P (dC, dI) vwCl [(ha, .inr (0, [.int x.1, .int x.2.1, .int x.2.2.1, .int x.2.2.2.1, .double x.2.2.2.2.1, .int (sf_b x.2.2.2.2.2.1), .int x.2.2.2.2.2.2.1, .int (sf_b pw), .double x.2.2.2.2.2.2.2.2.1, .double x.2.2.2.2.2.2.2.2.2.1, .int x.2.2.2.2.2.2.2.2.2.2.1, .int x.2.2.2.2.2.2.2.2.2.2.2])), (hq, .inl (cZ, 24, .inl (fun i9 => sf_b (bt i9))))] H := hP
      have hD : va_D A [(ha, .inr (0, [.int x.1, .int x.2.1, .int x.2.2.1, .int x.2.2.2.1, .double x.2.2.2.2.1, .int (sf_b x.2.2.2.2.2.1), .int x.2.2.2.2.2.2.1, .int (sf_b pw), .double x.2.2.2.2.2.2.2.2.1, .double x.2.2.2.2.2.2.2.2.2.1, .int x.2.2.2.2.2.2.2.2.2.2.1, .int x.2.2.2.2.2.2.2.2.2.2.2])), (hq, .inl (cZ, 24, .inl (fun i9 => sf_b (bt i9))))] := hD
      refine lv_aload_n hx hb dX0_countRuns_54 rfl (lv_at hl 2 rfl) ?_
      refine lv_aload_n hx hb dX0_countRuns_55 rfl (lv_at hl 0 rfl) ?_
      refine va_get (D := (dC, dI)) (ci := 0) (v := .int x.2.2.2.1) (C := RX0) (T := TX0) (N := 12) hx hb hg in_X0 hown hK hP 0 rfl rfl 3 (by decide) (hg _ mw_84) (fun _ h9 => h9) rfl dX0_countRuns_56 ?_
      refine lv_aload_n hx hb dX0_countRuns_59 rfl (lv_at hl 0 rfl) ?_
      refine va_get (D := (dC, dI)) (ci := 0) (v := .int x.2.2.2.2.2.2.1) (C := RX0) (T := TX0) (N := 12) hx hb hg in_X0 hown hK hP 0 rfl rfl 6 (by decide) (hg _ mw_88) (fun _ h9 => h9) rfl dX0_countRuns_60 ?_
      refine lv_i2d hx hb dX0_countRuns_63 ?_
      refine lv_aload_n hx hb dX0_countRuns_64 rfl (lv_at hl 0 rfl) ?_
      refine va_get (D := (dC, dI)) (ci := 0) (v := .double x.2.2.2.2.1) (C := RX0) (T := TX0) (N := 12) hx hb hg in_X0 hown hK hP 0 rfl rfl 4 (by decide) (hg _ mw_85) (fun _ h9 => h9) rfl dX0_countRuns_65 ?_
      refine lv_dcmp hx hb dX0_countRuns_68 ?_
      refine lv_if_lt (tgt := 76) hx hb dX0_countRuns_69 (by decide) (fun c_3 => ?_) (fun c_3 => ?_)
      · have c_3 := sd_l_lt.mp c_3
        refine lv_iconst (v := sf_b false) hx hb dX0_countRuns_76 (by decide) ?_
        refine sf_zast hx hb hK hP hD hS 1 0 rfl rfl (fb_c x) hc9.1 hc9.2 (by decide) dX0_countRuns_77 (fun H locs hP hD hS => ?_)
        have hP : va_P (dC, dI) vwCl [(ha, .inr (0, [.int x.1, .int x.2.1, .int x.2.2.1, .int x.2.2.2.1, .double x.2.2.2.2.1, .int (sf_b x.2.2.2.2.2.1), .int x.2.2.2.2.2.2.1, .int (sf_b pw), .double x.2.2.2.2.2.2.2.2.1, .double x.2.2.2.2.2.2.2.2.2.1, .int x.2.2.2.2.2.2.2.2.2.2.1, .int x.2.2.2.2.2.2.2.2.2.2.2])), (hq, .inl (cZ, 24, .inl (fun i9 => sf_b ((va_up bt (fb_c x) false) i9))))] H := hP
        have hD : va_D A [(ha, .inr (0, [.int x.1, .int x.2.1, .int x.2.2.1, .int x.2.2.2.1, .double x.2.2.2.2.1, .int (sf_b x.2.2.2.2.2.1), .int x.2.2.2.2.2.2.1, .int (sf_b pw), .double x.2.2.2.2.2.2.2.2.1, .double x.2.2.2.2.2.2.2.2.2.1, .int x.2.2.2.2.2.2.2.2.2.2.1, .int x.2.2.2.2.2.2.2.2.2.2.2])), (hq, .inl (cZ, 24, .inl (fun i9 => sf_b ((va_up bt (fb_c x) false) i9))))] := hD
        have hP9 : va_P (dC, dI) vwCl ([wp_B ha (fb_count x pw bt), wp_Z hq cZ 24 (fb_cbit x pw bt)]) H := by
          rw [show fb_count x pw bt = (x.1, x.2.1, x.2.2.1, x.2.2.2.1, x.2.2.2.2.1, x.2.2.2.2.2.1, x.2.2.2.2.2.2.1, pw, x.2.2.2.2.2.2.2.2.1, x.2.2.2.2.2.2.2.2.2.1, x.2.2.2.2.2.2.2.2.2.2.1, x.2.2.2.2.2.2.2.2.2.2.2) from by first | rfl | (simp [fb_count, fb_cbit, fb_ccnt, fb_cnt, fb_had, c_1, c_2, c_3]; done)]
          rw [show fb_cbit x pw bt = va_up bt (fb_c x) false from by first | rfl | (simp [fb_count, fb_cbit, fb_ccnt, fb_cnt, fb_had, c_1, c_2, c_3]; done)]
          exact hP
        have hD9 : va_D A ([wp_B ha (fb_count x pw bt), wp_Z hq cZ 24 (fb_cbit x pw bt)]) := by
          rw [show fb_count x pw bt = (x.1, x.2.1, x.2.2.1, x.2.2.2.1, x.2.2.2.2.1, x.2.2.2.2.2.1, x.2.2.2.2.2.2.1, pw, x.2.2.2.2.2.2.2.2.1, x.2.2.2.2.2.2.2.2.2.1, x.2.2.2.2.2.2.2.2.2.2.1, x.2.2.2.2.2.2.2.2.2.2.2) from by first | rfl | (simp [fb_count, fb_cbit, fb_ccnt, fb_cnt, fb_had, c_1, c_2, c_3]; done)]
          rw [show fb_cbit x pw bt = va_up bt (fb_c x) false from by first | rfl | (simp [fb_count, fb_cbit, fb_ccnt, fb_cnt, fb_had, c_1, c_2, c_3]; done)]
          exact hD
        exact W.vret hx hb hr (fun t ht _ => ⟨rfl, by rw [ht]; exact hP9, hAe ▸ hD9, hAe ▸ hS.F ht⟩) (fun q hq => by rw [← hAe]; exact hS.2.2 q hq) dX0_countRuns_78
      · have c_3 := sd_nl_lt c_3
        refine lv_iconst (v := sf_b true) hx hb dX0_countRuns_72 (by decide) ?_
        refine lv_goto (tgt := 77) hx hb dX0_countRuns_73 (by decide) ?_
        refine sf_zast hx hb hK hP hD hS 1 0 rfl rfl (fb_c x) hc9.1 hc9.2 (by decide) dX0_countRuns_77 (fun H locs hP hD hS => ?_)
        have hP : va_P (dC, dI) vwCl [(ha, .inr (0, [.int x.1, .int x.2.1, .int x.2.2.1, .int x.2.2.2.1, .double x.2.2.2.2.1, .int (sf_b x.2.2.2.2.2.1), .int x.2.2.2.2.2.2.1, .int (sf_b pw), .double x.2.2.2.2.2.2.2.2.1, .double x.2.2.2.2.2.2.2.2.2.1, .int x.2.2.2.2.2.2.2.2.2.2.1, .int x.2.2.2.2.2.2.2.2.2.2.2])), (hq, .inl (cZ, 24, .inl (fun i9 => sf_b ((va_up bt (fb_c x) true) i9))))] H := hP
        have hD : va_D A [(ha, .inr (0, [.int x.1, .int x.2.1, .int x.2.2.1, .int x.2.2.2.1, .double x.2.2.2.2.1, .int (sf_b x.2.2.2.2.2.1), .int x.2.2.2.2.2.2.1, .int (sf_b pw), .double x.2.2.2.2.2.2.2.2.1, .double x.2.2.2.2.2.2.2.2.2.1, .int x.2.2.2.2.2.2.2.2.2.2.1, .int x.2.2.2.2.2.2.2.2.2.2.2])), (hq, .inl (cZ, 24, .inl (fun i9 => sf_b ((va_up bt (fb_c x) true) i9))))] := hD
        have hP9 : va_P (dC, dI) vwCl ([wp_B ha (fb_count x pw bt), wp_Z hq cZ 24 (fb_cbit x pw bt)]) H := by
          rw [show fb_count x pw bt = (x.1, x.2.1, x.2.2.1, x.2.2.2.1, x.2.2.2.2.1, x.2.2.2.2.2.1, x.2.2.2.2.2.2.1, pw, x.2.2.2.2.2.2.2.2.1, x.2.2.2.2.2.2.2.2.2.1, x.2.2.2.2.2.2.2.2.2.2.1, x.2.2.2.2.2.2.2.2.2.2.2) from by first | rfl | (simp [fb_count, fb_cbit, fb_ccnt, fb_cnt, fb_had, c_1, c_2, c_3]; done)]
          rw [show fb_cbit x pw bt = va_up bt (fb_c x) true from by first | rfl | (simp [fb_count, fb_cbit, fb_ccnt, fb_cnt, fb_had, c_1, c_2, c_3]; done)]
          exact hP
        have hD9 : va_D A ([wp_B ha (fb_count x pw bt), wp_Z hq cZ 24 (fb_cbit x pw bt)]) := by
          rw [show fb_count x pw bt = (x.1, x.2.1, x.2.2.1, x.2.2.2.1, x.2.2.2.2.1, x.2.2.2.2.2.1, x.2.2.2.2.2.2.1, pw, x.2.2.2.2.2.2.2.2.1, x.2.2.2.2.2.2.2.2.2.1, x.2.2.2.2.2.2.2.2.2.2.1, x.2.2.2.2.2.2.2.2.2.2.2) from by first | rfl | (simp [fb_count, fb_cbit, fb_ccnt, fb_cnt, fb_had, c_1, c_2, c_3]; done)]
          rw [show fb_cbit x pw bt = va_up bt (fb_c x) true from by first | rfl | (simp [fb_count, fb_cbit, fb_ccnt, fb_cnt, fb_had, c_1, c_2, c_3]; done)]
          exact hD
        exact W.vret hx hb hr (fun t ht _ => ⟨rfl, by rw [ht]; exact hP9, hAe ▸ hD9, hAe ▸ hS.F ht⟩) (fun q hq => by rw [← hAe]; exact hS.2.2 q hq) dX0_countRuns_78
    · refine lv_aload_n hx hb dX0_countRuns_19 rfl (lv_at hl 0 rfl) ?_
      refine va_get (D := (dC, dI)) (ci := 0) (v := .int (sf_b x.2.2.2.2.2.2.2.1)) (C := RX0) (T := TX0) (N := 12) hx hb hg in_X0 hown hK hP 0 rfl rfl 7 (by decide) (hg _ mw_89) (fun _ h9 => h9) rfl dX0_countRuns_20 ?_
      refine sf_ifne (tgt := 49) hx hb dX0_countRuns_23 (by decide) (fun c_4 => ?_) (fun c_4 => ?_)
      · refine lv_aload_n hx hb dX0_countRuns_49 rfl (lv_at hl 0 rfl) ?_
        refine lv_iload_n hx hb dX0_countRuns_50 rfl (lv_at hl 1 rfl) ?_
        refine va_put (D := (dC, dI)) (ci := 0) (v := .int (sf_b pw)) (ty := .boolean) (C := RX0) (T := TX0) (N := 12) hx hb hg in_X0 tyX0 tyX0_ok nmX0 hown hK hP hD hS 0 rfl rfl 7 (by decide) (hg _ mw_89) (fun _ h9 => h9) rfl (by decide +kernel) (sf_b_nb _) (sf_b_fit _) (Nat.le_of_ble_eq_true rfl) dX0_countRuns_51 (fun H locs hP hD hS => ?_)
        have hP : va_P (dC, dI) vwCl [(ha, .inr (0, [.int x.1, .int x.2.1, .int x.2.2.1, .int x.2.2.2.1, .double x.2.2.2.2.1, .int (sf_b x.2.2.2.2.2.1), .int x.2.2.2.2.2.2.1, .int (sf_b pw), .double x.2.2.2.2.2.2.2.2.1, .double x.2.2.2.2.2.2.2.2.2.1, .int x.2.2.2.2.2.2.2.2.2.2.1, .int x.2.2.2.2.2.2.2.2.2.2.2])), (hq, .inl (cZ, 24, .inl (fun i9 => sf_b (bt i9))))] H := hP
        have hD : va_D A [(ha, .inr (0, [.int x.1, .int x.2.1, .int x.2.2.1, .int x.2.2.2.1, .double x.2.2.2.2.1, .int (sf_b x.2.2.2.2.2.1), .int x.2.2.2.2.2.2.1, .int (sf_b pw), .double x.2.2.2.2.2.2.2.2.1, .double x.2.2.2.2.2.2.2.2.2.1, .int x.2.2.2.2.2.2.2.2.2.2.1, .int x.2.2.2.2.2.2.2.2.2.2.2])), (hq, .inl (cZ, 24, .inl (fun i9 => sf_b (bt i9))))] := hD
        refine lv_aload_n hx hb dX0_countRuns_54 rfl (lv_at hl 2 rfl) ?_
        refine lv_aload_n hx hb dX0_countRuns_55 rfl (lv_at hl 0 rfl) ?_
        refine va_get (D := (dC, dI)) (ci := 0) (v := .int x.2.2.2.1) (C := RX0) (T := TX0) (N := 12) hx hb hg in_X0 hown hK hP 0 rfl rfl 3 (by decide) (hg _ mw_84) (fun _ h9 => h9) rfl dX0_countRuns_56 ?_
        refine lv_aload_n hx hb dX0_countRuns_59 rfl (lv_at hl 0 rfl) ?_
        refine va_get (D := (dC, dI)) (ci := 0) (v := .int x.2.2.2.2.2.2.1) (C := RX0) (T := TX0) (N := 12) hx hb hg in_X0 hown hK hP 0 rfl rfl 6 (by decide) (hg _ mw_88) (fun _ h9 => h9) rfl dX0_countRuns_60 ?_
        refine lv_i2d hx hb dX0_countRuns_63 ?_
        refine lv_aload_n hx hb dX0_countRuns_64 rfl (lv_at hl 0 rfl) ?_
        refine va_get (D := (dC, dI)) (ci := 0) (v := .double x.2.2.2.2.1) (C := RX0) (T := TX0) (N := 12) hx hb hg in_X0 hown hK hP 0 rfl rfl 4 (by decide) (hg _ mw_85) (fun _ h9 => h9) rfl dX0_countRuns_65 ?_
        refine lv_dcmp hx hb dX0_countRuns_68 ?_
        refine lv_if_lt (tgt := 76) hx hb dX0_countRuns_69 (by decide) (fun c_5 => ?_) (fun c_5 => ?_)
        · have c_5 := sd_l_lt.mp c_5
          refine lv_iconst (v := sf_b false) hx hb dX0_countRuns_76 (by decide) ?_
          refine sf_zast hx hb hK hP hD hS 1 0 rfl rfl (fb_c x) hc9.1 hc9.2 (by decide) dX0_countRuns_77 (fun H locs hP hD hS => ?_)
          have hP : va_P (dC, dI) vwCl [(ha, .inr (0, [.int x.1, .int x.2.1, .int x.2.2.1, .int x.2.2.2.1, .double x.2.2.2.2.1, .int (sf_b x.2.2.2.2.2.1), .int x.2.2.2.2.2.2.1, .int (sf_b pw), .double x.2.2.2.2.2.2.2.2.1, .double x.2.2.2.2.2.2.2.2.2.1, .int x.2.2.2.2.2.2.2.2.2.2.1, .int x.2.2.2.2.2.2.2.2.2.2.2])), (hq, .inl (cZ, 24, .inl (fun i9 => sf_b ((va_up bt (fb_c x) false) i9))))] H := hP
          have hD : va_D A [(ha, .inr (0, [.int x.1, .int x.2.1, .int x.2.2.1, .int x.2.2.2.1, .double x.2.2.2.2.1, .int (sf_b x.2.2.2.2.2.1), .int x.2.2.2.2.2.2.1, .int (sf_b pw), .double x.2.2.2.2.2.2.2.2.1, .double x.2.2.2.2.2.2.2.2.2.1, .int x.2.2.2.2.2.2.2.2.2.2.1, .int x.2.2.2.2.2.2.2.2.2.2.2])), (hq, .inl (cZ, 24, .inl (fun i9 => sf_b ((va_up bt (fb_c x) false) i9))))] := hD
          have hP9 : va_P (dC, dI) vwCl ([wp_B ha (fb_count x pw bt), wp_Z hq cZ 24 (fb_cbit x pw bt)]) H := by
            rw [show fb_count x pw bt = (x.1, x.2.1, x.2.2.1, x.2.2.2.1, x.2.2.2.2.1, x.2.2.2.2.2.1, x.2.2.2.2.2.2.1, pw, x.2.2.2.2.2.2.2.2.1, x.2.2.2.2.2.2.2.2.2.1, x.2.2.2.2.2.2.2.2.2.2.1, x.2.2.2.2.2.2.2.2.2.2.2) from by first | rfl | (simp [fb_count, fb_cbit, fb_ccnt, fb_cnt, fb_had, c_1, c_2, c_4, c_5]; done)]
            rw [show fb_cbit x pw bt = va_up bt (fb_c x) false from by first | rfl | (simp [fb_count, fb_cbit, fb_ccnt, fb_cnt, fb_had, c_1, c_2, c_4, c_5]; done)]
            exact hP
          have hD9 : va_D A ([wp_B ha (fb_count x pw bt), wp_Z hq cZ 24 (fb_cbit x pw bt)]) := by
            rw [show fb_count x pw bt = (x.1, x.2.1, x.2.2.1, x.2.2.2.1, x.2.2.2.2.1, x.2.2.2.2.2.1, x.2.2.2.2.2.2.1, pw, x.2.2.2.2.2.2.2.2.1, x.2.2.2.2.2.2.2.2.2.1, x.2.2.2.2.2.2.2.2.2.2.1, x.2.2.2.2.2.2.2.2.2.2.2) from by first | rfl | (simp [fb_count, fb_cbit, fb_ccnt, fb_cnt, fb_had, c_1, c_2, c_4, c_5]; done)]
            rw [show fb_cbit x pw bt = va_up bt (fb_c x) false from by first | rfl | (simp [fb_count, fb_cbit, fb_ccnt, fb_cnt, fb_had, c_1, c_2, c_4, c_5]; done)]
            exact hD
          exact W.vret hx hb hr (fun t ht _ => ⟨rfl, by rw [ht]; exact hP9, hAe ▸ hD9, hAe ▸ hS.F ht⟩) (fun q hq => by rw [← hAe]; exact hS.2.2 q hq) dX0_countRuns_78
        · have c_5 := sd_nl_lt c_5
          refine lv_iconst (v := sf_b true) hx hb dX0_countRuns_72 (by decide) ?_
          refine lv_goto (tgt := 77) hx hb dX0_countRuns_73 (by decide) ?_
          refine sf_zast hx hb hK hP hD hS 1 0 rfl rfl (fb_c x) hc9.1 hc9.2 (by decide) dX0_countRuns_77 (fun H locs hP hD hS => ?_)
          have hP : va_P (dC, dI) vwCl [(ha, .inr (0, [.int x.1, .int x.2.1, .int x.2.2.1, .int x.2.2.2.1, .double x.2.2.2.2.1, .int (sf_b x.2.2.2.2.2.1), .int x.2.2.2.2.2.2.1, .int (sf_b pw), .double x.2.2.2.2.2.2.2.2.1, .double x.2.2.2.2.2.2.2.2.2.1, .int x.2.2.2.2.2.2.2.2.2.2.1, .int x.2.2.2.2.2.2.2.2.2.2.2])), (hq, .inl (cZ, 24, .inl (fun i9 => sf_b ((va_up bt (fb_c x) true) i9))))] H := hP
          have hD : va_D A [(ha, .inr (0, [.int x.1, .int x.2.1, .int x.2.2.1, .int x.2.2.2.1, .double x.2.2.2.2.1, .int (sf_b x.2.2.2.2.2.1), .int x.2.2.2.2.2.2.1, .int (sf_b pw), .double x.2.2.2.2.2.2.2.2.1, .double x.2.2.2.2.2.2.2.2.2.1, .int x.2.2.2.2.2.2.2.2.2.2.1, .int x.2.2.2.2.2.2.2.2.2.2.2])), (hq, .inl (cZ, 24, .inl (fun i9 => sf_b ((va_up bt (fb_c x) true) i9))))] := hD
          have hP9 : va_P (dC, dI) vwCl ([wp_B ha (fb_count x pw bt), wp_Z hq cZ 24 (fb_cbit x pw bt)]) H := by
            rw [show fb_count x pw bt = (x.1, x.2.1, x.2.2.1, x.2.2.2.1, x.2.2.2.2.1, x.2.2.2.2.2.1, x.2.2.2.2.2.2.1, pw, x.2.2.2.2.2.2.2.2.1, x.2.2.2.2.2.2.2.2.2.1, x.2.2.2.2.2.2.2.2.2.2.1, x.2.2.2.2.2.2.2.2.2.2.2) from by first | rfl | (simp [fb_count, fb_cbit, fb_ccnt, fb_cnt, fb_had, c_1, c_2, c_4, c_5]; done)]
            rw [show fb_cbit x pw bt = va_up bt (fb_c x) true from by first | rfl | (simp [fb_count, fb_cbit, fb_ccnt, fb_cnt, fb_had, c_1, c_2, c_4, c_5]; done)]
            exact hP
          have hD9 : va_D A ([wp_B ha (fb_count x pw bt), wp_Z hq cZ 24 (fb_cbit x pw bt)]) := by
            rw [show fb_count x pw bt = (x.1, x.2.1, x.2.2.1, x.2.2.2.1, x.2.2.2.2.1, x.2.2.2.2.2.1, x.2.2.2.2.2.2.1, pw, x.2.2.2.2.2.2.2.2.1, x.2.2.2.2.2.2.2.2.2.1, x.2.2.2.2.2.2.2.2.2.2.1, x.2.2.2.2.2.2.2.2.2.2.2) from by first | rfl | (simp [fb_count, fb_cbit, fb_ccnt, fb_cnt, fb_had, c_1, c_2, c_4, c_5]; done)]
            rw [show fb_cbit x pw bt = va_up bt (fb_c x) true from by first | rfl | (simp [fb_count, fb_cbit, fb_ccnt, fb_cnt, fb_had, c_1, c_2, c_4, c_5]; done)]
            exact hD
          exact W.vret hx hb hr (fun t ht _ => ⟨rfl, by rw [ht]; exact hP9, hAe ▸ hD9, hAe ▸ hS.F ht⟩) (fun q hq => by rw [← hAe]; exact hS.2.2 q hq) dX0_countRuns_78
      · refine lv_aload_n hx hb dX0_countRuns_26 rfl (lv_at hl 0 rfl) ?_
        refine va_get (D := (dC, dI)) (ci := 0) (v := .int x.2.2.2.2.2.2.1) (C := RX0) (T := TX0) (N := 12) hx hb hg in_X0 hown hK hP 0 rfl rfl 6 (by decide) (hg _ mw_88) (fun _ h9 => h9) rfl dX0_countRuns_27 ?_
        refine lv_i2d hx hb dX0_countRuns_30 ?_
        refine lv_aload_n hx hb dX0_countRuns_31 rfl (lv_at hl 0 rfl) ?_
        refine va_get (D := (dC, dI)) (ci := 0) (v := .double x.2.2.2.2.1) (C := RX0) (T := TX0) (N := 12) hx hb hg in_X0 hown hK hP 0 rfl rfl 4 (by decide) (hg _ mw_85) (fun _ h9 => h9) rfl dX0_countRuns_32 ?_
        refine lv_dcmp hx hb dX0_countRuns_35 ?_
        refine lv_if_ge (tgt := 49) hx hb dX0_countRuns_36 (by decide) (fun c_6 => ?_) (fun c_6 => ?_)
        · have c_6 := sd_g_ge.mp c_6
          refine lv_aload_n hx hb dX0_countRuns_49 rfl (lv_at hl 0 rfl) ?_
          refine lv_iload_n hx hb dX0_countRuns_50 rfl (lv_at hl 1 rfl) ?_
          refine va_put (D := (dC, dI)) (ci := 0) (v := .int (sf_b pw)) (ty := .boolean) (C := RX0) (T := TX0) (N := 12) hx hb hg in_X0 tyX0 tyX0_ok nmX0 hown hK hP hD hS 0 rfl rfl 7 (by decide) (hg _ mw_89) (fun _ h9 => h9) rfl (by decide +kernel) (sf_b_nb _) (sf_b_fit _) (Nat.le_of_ble_eq_true rfl) dX0_countRuns_51 (fun H locs hP hD hS => ?_)
          have hP : va_P (dC, dI) vwCl [(ha, .inr (0, [.int x.1, .int x.2.1, .int x.2.2.1, .int x.2.2.2.1, .double x.2.2.2.2.1, .int (sf_b x.2.2.2.2.2.1), .int x.2.2.2.2.2.2.1, .int (sf_b pw), .double x.2.2.2.2.2.2.2.2.1, .double x.2.2.2.2.2.2.2.2.2.1, .int x.2.2.2.2.2.2.2.2.2.2.1, .int x.2.2.2.2.2.2.2.2.2.2.2])), (hq, .inl (cZ, 24, .inl (fun i9 => sf_b (bt i9))))] H := hP
          have hD : va_D A [(ha, .inr (0, [.int x.1, .int x.2.1, .int x.2.2.1, .int x.2.2.2.1, .double x.2.2.2.2.1, .int (sf_b x.2.2.2.2.2.1), .int x.2.2.2.2.2.2.1, .int (sf_b pw), .double x.2.2.2.2.2.2.2.2.1, .double x.2.2.2.2.2.2.2.2.2.1, .int x.2.2.2.2.2.2.2.2.2.2.1, .int x.2.2.2.2.2.2.2.2.2.2.2])), (hq, .inl (cZ, 24, .inl (fun i9 => sf_b (bt i9))))] := hD
          refine lv_aload_n hx hb dX0_countRuns_54 rfl (lv_at hl 2 rfl) ?_
          refine lv_aload_n hx hb dX0_countRuns_55 rfl (lv_at hl 0 rfl) ?_
          refine va_get (D := (dC, dI)) (ci := 0) (v := .int x.2.2.2.1) (C := RX0) (T := TX0) (N := 12) hx hb hg in_X0 hown hK hP 0 rfl rfl 3 (by decide) (hg _ mw_84) (fun _ h9 => h9) rfl dX0_countRuns_56 ?_
          refine lv_aload_n hx hb dX0_countRuns_59 rfl (lv_at hl 0 rfl) ?_
          refine va_get (D := (dC, dI)) (ci := 0) (v := .int x.2.2.2.2.2.2.1) (C := RX0) (T := TX0) (N := 12) hx hb hg in_X0 hown hK hP 0 rfl rfl 6 (by decide) (hg _ mw_88) (fun _ h9 => h9) rfl dX0_countRuns_60 ?_
          refine lv_i2d hx hb dX0_countRuns_63 ?_
          refine lv_aload_n hx hb dX0_countRuns_64 rfl (lv_at hl 0 rfl) ?_
          refine va_get (D := (dC, dI)) (ci := 0) (v := .double x.2.2.2.2.1) (C := RX0) (T := TX0) (N := 12) hx hb hg in_X0 hown hK hP 0 rfl rfl 4 (by decide) (hg _ mw_85) (fun _ h9 => h9) rfl dX0_countRuns_65 ?_
          refine lv_dcmp hx hb dX0_countRuns_68 ?_
          refine lv_if_lt (tgt := 76) hx hb dX0_countRuns_69 (by decide) (fun c_7 => ?_) (fun c_7 => ?_)
          · have c_7 := sd_l_lt.mp c_7
            refine lv_iconst (v := sf_b false) hx hb dX0_countRuns_76 (by decide) ?_
            refine sf_zast hx hb hK hP hD hS 1 0 rfl rfl (fb_c x) hc9.1 hc9.2 (by decide) dX0_countRuns_77 (fun H locs hP hD hS => ?_)
            have hP : va_P (dC, dI) vwCl [(ha, .inr (0, [.int x.1, .int x.2.1, .int x.2.2.1, .int x.2.2.2.1, .double x.2.2.2.2.1, .int (sf_b x.2.2.2.2.2.1), .int x.2.2.2.2.2.2.1, .int (sf_b pw), .double x.2.2.2.2.2.2.2.2.1, .double x.2.2.2.2.2.2.2.2.2.1, .int x.2.2.2.2.2.2.2.2.2.2.1, .int x.2.2.2.2.2.2.2.2.2.2.2])), (hq, .inl (cZ, 24, .inl (fun i9 => sf_b ((va_up bt (fb_c x) false) i9))))] H := hP
            have hD : va_D A [(ha, .inr (0, [.int x.1, .int x.2.1, .int x.2.2.1, .int x.2.2.2.1, .double x.2.2.2.2.1, .int (sf_b x.2.2.2.2.2.1), .int x.2.2.2.2.2.2.1, .int (sf_b pw), .double x.2.2.2.2.2.2.2.2.1, .double x.2.2.2.2.2.2.2.2.2.1, .int x.2.2.2.2.2.2.2.2.2.2.1, .int x.2.2.2.2.2.2.2.2.2.2.2])), (hq, .inl (cZ, 24, .inl (fun i9 => sf_b ((va_up bt (fb_c x) false) i9))))] := hD
            have hP9 : va_P (dC, dI) vwCl ([wp_B ha (fb_count x pw bt), wp_Z hq cZ 24 (fb_cbit x pw bt)]) H := by
              rw [show fb_count x pw bt = (x.1, x.2.1, x.2.2.1, x.2.2.2.1, x.2.2.2.2.1, x.2.2.2.2.2.1, x.2.2.2.2.2.2.1, pw, x.2.2.2.2.2.2.2.2.1, x.2.2.2.2.2.2.2.2.2.1, x.2.2.2.2.2.2.2.2.2.2.1, x.2.2.2.2.2.2.2.2.2.2.2) from by first | rfl | (simp [fb_count, fb_cbit, fb_ccnt, fb_cnt, fb_had, c_1, c_2, c_4, c_6, c_7]; done)]
              rw [show fb_cbit x pw bt = va_up bt (fb_c x) false from by first | rfl | (simp [fb_count, fb_cbit, fb_ccnt, fb_cnt, fb_had, c_1, c_2, c_4, c_6, c_7]; done)]
              exact hP
            have hD9 : va_D A ([wp_B ha (fb_count x pw bt), wp_Z hq cZ 24 (fb_cbit x pw bt)]) := by
              rw [show fb_count x pw bt = (x.1, x.2.1, x.2.2.1, x.2.2.2.1, x.2.2.2.2.1, x.2.2.2.2.2.1, x.2.2.2.2.2.2.1, pw, x.2.2.2.2.2.2.2.2.1, x.2.2.2.2.2.2.2.2.2.1, x.2.2.2.2.2.2.2.2.2.2.1, x.2.2.2.2.2.2.2.2.2.2.2) from by first | rfl | (simp [fb_count, fb_cbit, fb_ccnt, fb_cnt, fb_had, c_1, c_2, c_4, c_6, c_7]; done)]
              rw [show fb_cbit x pw bt = va_up bt (fb_c x) false from by first | rfl | (simp [fb_count, fb_cbit, fb_ccnt, fb_cnt, fb_had, c_1, c_2, c_4, c_6, c_7]; done)]
              exact hD
            exact W.vret hx hb hr (fun t ht _ => ⟨rfl, by rw [ht]; exact hP9, hAe ▸ hD9, hAe ▸ hS.F ht⟩) (fun q hq => by rw [← hAe]; exact hS.2.2 q hq) dX0_countRuns_78
          · have c_7 := sd_nl_lt c_7
            refine lv_iconst (v := sf_b true) hx hb dX0_countRuns_72 (by decide) ?_
            refine lv_goto (tgt := 77) hx hb dX0_countRuns_73 (by decide) ?_
            refine sf_zast hx hb hK hP hD hS 1 0 rfl rfl (fb_c x) hc9.1 hc9.2 (by decide) dX0_countRuns_77 (fun H locs hP hD hS => ?_)
            have hP : va_P (dC, dI) vwCl [(ha, .inr (0, [.int x.1, .int x.2.1, .int x.2.2.1, .int x.2.2.2.1, .double x.2.2.2.2.1, .int (sf_b x.2.2.2.2.2.1), .int x.2.2.2.2.2.2.1, .int (sf_b pw), .double x.2.2.2.2.2.2.2.2.1, .double x.2.2.2.2.2.2.2.2.2.1, .int x.2.2.2.2.2.2.2.2.2.2.1, .int x.2.2.2.2.2.2.2.2.2.2.2])), (hq, .inl (cZ, 24, .inl (fun i9 => sf_b ((va_up bt (fb_c x) true) i9))))] H := hP
            have hD : va_D A [(ha, .inr (0, [.int x.1, .int x.2.1, .int x.2.2.1, .int x.2.2.2.1, .double x.2.2.2.2.1, .int (sf_b x.2.2.2.2.2.1), .int x.2.2.2.2.2.2.1, .int (sf_b pw), .double x.2.2.2.2.2.2.2.2.1, .double x.2.2.2.2.2.2.2.2.2.1, .int x.2.2.2.2.2.2.2.2.2.2.1, .int x.2.2.2.2.2.2.2.2.2.2.2])), (hq, .inl (cZ, 24, .inl (fun i9 => sf_b ((va_up bt (fb_c x) true) i9))))] := hD
            have hP9 : va_P (dC, dI) vwCl ([wp_B ha (fb_count x pw bt), wp_Z hq cZ 24 (fb_cbit x pw bt)]) H := by
              rw [show fb_count x pw bt = (x.1, x.2.1, x.2.2.1, x.2.2.2.1, x.2.2.2.2.1, x.2.2.2.2.2.1, x.2.2.2.2.2.2.1, pw, x.2.2.2.2.2.2.2.2.1, x.2.2.2.2.2.2.2.2.2.1, x.2.2.2.2.2.2.2.2.2.2.1, x.2.2.2.2.2.2.2.2.2.2.2) from by first | rfl | (simp [fb_count, fb_cbit, fb_ccnt, fb_cnt, fb_had, c_1, c_2, c_4, c_6, c_7]; done)]
              rw [show fb_cbit x pw bt = va_up bt (fb_c x) true from by first | rfl | (simp [fb_count, fb_cbit, fb_ccnt, fb_cnt, fb_had, c_1, c_2, c_4, c_6, c_7]; done)]
              exact hP
            have hD9 : va_D A ([wp_B ha (fb_count x pw bt), wp_Z hq cZ 24 (fb_cbit x pw bt)]) := by
              rw [show fb_count x pw bt = (x.1, x.2.1, x.2.2.1, x.2.2.2.1, x.2.2.2.2.1, x.2.2.2.2.2.1, x.2.2.2.2.2.2.1, pw, x.2.2.2.2.2.2.2.2.1, x.2.2.2.2.2.2.2.2.2.1, x.2.2.2.2.2.2.2.2.2.2.1, x.2.2.2.2.2.2.2.2.2.2.2) from by first | rfl | (simp [fb_count, fb_cbit, fb_ccnt, fb_cnt, fb_had, c_1, c_2, c_4, c_6, c_7]; done)]
              rw [show fb_cbit x pw bt = va_up bt (fb_c x) true from by first | rfl | (simp [fb_count, fb_cbit, fb_ccnt, fb_cnt, fb_had, c_1, c_2, c_4, c_6, c_7]; done)]
              exact hD
            exact W.vret hx hb hr (fun t ht _ => ⟨rfl, by rw [ht]; exact hP9, hAe ▸ hD9, hAe ▸ hS.F ht⟩) (fun q hq => by rw [← hAe]; exact hS.2.2 q hq) dX0_countRuns_78
        · have c_6 := sd_ng_ge c_6
          refine lv_aload_n hx hb dX0_countRuns_39 rfl (lv_at hl 0 rfl) ?_
          refine lv_dup hx hb dX0_countRuns_40 rfl ?_
          refine va_get (D := (dC, dI)) (ci := 0) (v := .int x.2.2.2.2.2.2.1) (C := RX0) (T := TX0) (N := 12) hx hb hg in_X0 hown hK hP 0 rfl rfl 6 (by decide) (hg _ mw_88) (fun _ h9 => h9) rfl dX0_countRuns_41 ?_
          refine lv_iconst (v := 1) hx hb dX0_countRuns_44 (by decide) ?_
          refine lv_iadd hx hb dX0_countRuns_45 ?_
          refine va_put (D := (dC, dI)) (ci := 0) (v := .int (x.2.2.2.2.2.2.1 + 1)) (ty := .int) (C := RX0) (T := TX0) (N := 12) hx hb hg in_X0 tyX0 tyX0_ok nmX0 hown hK hP hD hS 0 rfl rfl 6 (by decide) (hg _ mw_88) (fun _ h9 => h9) rfl (by decide +kernel) rfl rfl (Nat.le_of_ble_eq_true rfl) dX0_countRuns_46 (fun H locs hP hD hS => ?_)
          have hP : va_P (dC, dI) vwCl [(ha, .inr (0, [.int x.1, .int x.2.1, .int x.2.2.1, .int x.2.2.2.1, .double x.2.2.2.2.1, .int (sf_b x.2.2.2.2.2.1), .int (x.2.2.2.2.2.2.1 + 1), .int (sf_b x.2.2.2.2.2.2.2.1), .double x.2.2.2.2.2.2.2.2.1, .double x.2.2.2.2.2.2.2.2.2.1, .int x.2.2.2.2.2.2.2.2.2.2.1, .int x.2.2.2.2.2.2.2.2.2.2.2])), (hq, .inl (cZ, 24, .inl (fun i9 => sf_b (bt i9))))] H := hP
          have hD : va_D A [(ha, .inr (0, [.int x.1, .int x.2.1, .int x.2.2.1, .int x.2.2.2.1, .double x.2.2.2.2.1, .int (sf_b x.2.2.2.2.2.1), .int (x.2.2.2.2.2.2.1 + 1), .int (sf_b x.2.2.2.2.2.2.2.1), .double x.2.2.2.2.2.2.2.2.1, .double x.2.2.2.2.2.2.2.2.2.1, .int x.2.2.2.2.2.2.2.2.2.2.1, .int x.2.2.2.2.2.2.2.2.2.2.2])), (hq, .inl (cZ, 24, .inl (fun i9 => sf_b (bt i9))))] := hD
          refine lv_aload_n hx hb dX0_countRuns_49 rfl (lv_at hl 0 rfl) ?_
          refine lv_iload_n hx hb dX0_countRuns_50 rfl (lv_at hl 1 rfl) ?_
          refine va_put (D := (dC, dI)) (ci := 0) (v := .int (sf_b pw)) (ty := .boolean) (C := RX0) (T := TX0) (N := 12) hx hb hg in_X0 tyX0 tyX0_ok nmX0 hown hK hP hD hS 0 rfl rfl 7 (by decide) (hg _ mw_89) (fun _ h9 => h9) rfl (by decide +kernel) (sf_b_nb _) (sf_b_fit _) (Nat.le_of_ble_eq_true rfl) dX0_countRuns_51 (fun H locs hP hD hS => ?_)
          have hP : va_P (dC, dI) vwCl [(ha, .inr (0, [.int x.1, .int x.2.1, .int x.2.2.1, .int x.2.2.2.1, .double x.2.2.2.2.1, .int (sf_b x.2.2.2.2.2.1), .int (x.2.2.2.2.2.2.1 + 1), .int (sf_b pw), .double x.2.2.2.2.2.2.2.2.1, .double x.2.2.2.2.2.2.2.2.2.1, .int x.2.2.2.2.2.2.2.2.2.2.1, .int x.2.2.2.2.2.2.2.2.2.2.2])), (hq, .inl (cZ, 24, .inl (fun i9 => sf_b (bt i9))))] H := hP
          have hD : va_D A [(ha, .inr (0, [.int x.1, .int x.2.1, .int x.2.2.1, .int x.2.2.2.1, .double x.2.2.2.2.1, .int (sf_b x.2.2.2.2.2.1), .int (x.2.2.2.2.2.2.1 + 1), .int (sf_b pw), .double x.2.2.2.2.2.2.2.2.1, .double x.2.2.2.2.2.2.2.2.2.1, .int x.2.2.2.2.2.2.2.2.2.2.1, .int x.2.2.2.2.2.2.2.2.2.2.2])), (hq, .inl (cZ, 24, .inl (fun i9 => sf_b (bt i9))))] := hD
          refine lv_aload_n hx hb dX0_countRuns_54 rfl (lv_at hl 2 rfl) ?_
          refine lv_aload_n hx hb dX0_countRuns_55 rfl (lv_at hl 0 rfl) ?_
          refine va_get (D := (dC, dI)) (ci := 0) (v := .int x.2.2.2.1) (C := RX0) (T := TX0) (N := 12) hx hb hg in_X0 hown hK hP 0 rfl rfl 3 (by decide) (hg _ mw_84) (fun _ h9 => h9) rfl dX0_countRuns_56 ?_
          refine lv_aload_n hx hb dX0_countRuns_59 rfl (lv_at hl 0 rfl) ?_
          refine va_get (D := (dC, dI)) (ci := 0) (v := .int (x.2.2.2.2.2.2.1 + 1)) (C := RX0) (T := TX0) (N := 12) hx hb hg in_X0 hown hK hP 0 rfl rfl 6 (by decide) (hg _ mw_88) (fun _ h9 => h9) rfl dX0_countRuns_60 ?_
          refine lv_i2d hx hb dX0_countRuns_63 ?_
          refine lv_aload_n hx hb dX0_countRuns_64 rfl (lv_at hl 0 rfl) ?_
          refine va_get (D := (dC, dI)) (ci := 0) (v := .double x.2.2.2.2.1) (C := RX0) (T := TX0) (N := 12) hx hb hg in_X0 hown hK hP 0 rfl rfl 4 (by decide) (hg _ mw_85) (fun _ h9 => h9) rfl dX0_countRuns_65 ?_
          refine lv_dcmp hx hb dX0_countRuns_68 ?_
          refine lv_if_lt (tgt := 76) hx hb dX0_countRuns_69 (by decide) (fun c_8 => ?_) (fun c_8 => ?_)
          · have c_8 := sd_l_lt.mp c_8
            refine lv_iconst (v := sf_b false) hx hb dX0_countRuns_76 (by decide) ?_
            refine sf_zast hx hb hK hP hD hS 1 0 rfl rfl (fb_c x) hc9.1 hc9.2 (by decide) dX0_countRuns_77 (fun H locs hP hD hS => ?_)
            have hP : va_P (dC, dI) vwCl [(ha, .inr (0, [.int x.1, .int x.2.1, .int x.2.2.1, .int x.2.2.2.1, .double x.2.2.2.2.1, .int (sf_b x.2.2.2.2.2.1), .int (x.2.2.2.2.2.2.1 + 1), .int (sf_b pw), .double x.2.2.2.2.2.2.2.2.1, .double x.2.2.2.2.2.2.2.2.2.1, .int x.2.2.2.2.2.2.2.2.2.2.1, .int x.2.2.2.2.2.2.2.2.2.2.2])), (hq, .inl (cZ, 24, .inl (fun i9 => sf_b ((va_up bt (fb_c x) false) i9))))] H := hP
            have hD : va_D A [(ha, .inr (0, [.int x.1, .int x.2.1, .int x.2.2.1, .int x.2.2.2.1, .double x.2.2.2.2.1, .int (sf_b x.2.2.2.2.2.1), .int (x.2.2.2.2.2.2.1 + 1), .int (sf_b pw), .double x.2.2.2.2.2.2.2.2.1, .double x.2.2.2.2.2.2.2.2.2.1, .int x.2.2.2.2.2.2.2.2.2.2.1, .int x.2.2.2.2.2.2.2.2.2.2.2])), (hq, .inl (cZ, 24, .inl (fun i9 => sf_b ((va_up bt (fb_c x) false) i9))))] := hD
            have hP9 : va_P (dC, dI) vwCl ([wp_B ha (fb_count x pw bt), wp_Z hq cZ 24 (fb_cbit x pw bt)]) H := by
              rw [show fb_count x pw bt = (x.1, x.2.1, x.2.2.1, x.2.2.2.1, x.2.2.2.2.1, x.2.2.2.2.2.1, x.2.2.2.2.2.2.1 + 1, pw, x.2.2.2.2.2.2.2.2.1, x.2.2.2.2.2.2.2.2.2.1, x.2.2.2.2.2.2.2.2.2.2.1, x.2.2.2.2.2.2.2.2.2.2.2) from by first | rfl | (simp [fb_count, fb_cbit, fb_ccnt, fb_cnt, fb_had, c_1, c_2, c_4, c_6, c_8]; done)]
              rw [show fb_cbit x pw bt = va_up bt (fb_c x) false from by first | rfl | (simp [fb_count, fb_cbit, fb_ccnt, fb_cnt, fb_had, c_1, c_2, c_4, c_6, c_8]; done)]
              exact hP
            have hD9 : va_D A ([wp_B ha (fb_count x pw bt), wp_Z hq cZ 24 (fb_cbit x pw bt)]) := by
              rw [show fb_count x pw bt = (x.1, x.2.1, x.2.2.1, x.2.2.2.1, x.2.2.2.2.1, x.2.2.2.2.2.1, x.2.2.2.2.2.2.1 + 1, pw, x.2.2.2.2.2.2.2.2.1, x.2.2.2.2.2.2.2.2.2.1, x.2.2.2.2.2.2.2.2.2.2.1, x.2.2.2.2.2.2.2.2.2.2.2) from by first | rfl | (simp [fb_count, fb_cbit, fb_ccnt, fb_cnt, fb_had, c_1, c_2, c_4, c_6, c_8]; done)]
              rw [show fb_cbit x pw bt = va_up bt (fb_c x) false from by first | rfl | (simp [fb_count, fb_cbit, fb_ccnt, fb_cnt, fb_had, c_1, c_2, c_4, c_6, c_8]; done)]
              exact hD
            exact W.vret hx hb hr (fun t ht _ => ⟨rfl, by rw [ht]; exact hP9, hAe ▸ hD9, hAe ▸ hS.F ht⟩) (fun q hq => by rw [← hAe]; exact hS.2.2 q hq) dX0_countRuns_78
          · have c_8 := sd_nl_lt c_8
            refine lv_iconst (v := sf_b true) hx hb dX0_countRuns_72 (by decide) ?_
            refine lv_goto (tgt := 77) hx hb dX0_countRuns_73 (by decide) ?_
            refine sf_zast hx hb hK hP hD hS 1 0 rfl rfl (fb_c x) hc9.1 hc9.2 (by decide) dX0_countRuns_77 (fun H locs hP hD hS => ?_)
            have hP : va_P (dC, dI) vwCl [(ha, .inr (0, [.int x.1, .int x.2.1, .int x.2.2.1, .int x.2.2.2.1, .double x.2.2.2.2.1, .int (sf_b x.2.2.2.2.2.1), .int (x.2.2.2.2.2.2.1 + 1), .int (sf_b pw), .double x.2.2.2.2.2.2.2.2.1, .double x.2.2.2.2.2.2.2.2.2.1, .int x.2.2.2.2.2.2.2.2.2.2.1, .int x.2.2.2.2.2.2.2.2.2.2.2])), (hq, .inl (cZ, 24, .inl (fun i9 => sf_b ((va_up bt (fb_c x) true) i9))))] H := hP
            have hD : va_D A [(ha, .inr (0, [.int x.1, .int x.2.1, .int x.2.2.1, .int x.2.2.2.1, .double x.2.2.2.2.1, .int (sf_b x.2.2.2.2.2.1), .int (x.2.2.2.2.2.2.1 + 1), .int (sf_b pw), .double x.2.2.2.2.2.2.2.2.1, .double x.2.2.2.2.2.2.2.2.2.1, .int x.2.2.2.2.2.2.2.2.2.2.1, .int x.2.2.2.2.2.2.2.2.2.2.2])), (hq, .inl (cZ, 24, .inl (fun i9 => sf_b ((va_up bt (fb_c x) true) i9))))] := hD
            have hP9 : va_P (dC, dI) vwCl ([wp_B ha (fb_count x pw bt), wp_Z hq cZ 24 (fb_cbit x pw bt)]) H := by
              rw [show fb_count x pw bt = (x.1, x.2.1, x.2.2.1, x.2.2.2.1, x.2.2.2.2.1, x.2.2.2.2.2.1, x.2.2.2.2.2.2.1 + 1, pw, x.2.2.2.2.2.2.2.2.1, x.2.2.2.2.2.2.2.2.2.1, x.2.2.2.2.2.2.2.2.2.2.1, x.2.2.2.2.2.2.2.2.2.2.2) from by first | rfl | (simp [fb_count, fb_cbit, fb_ccnt, fb_cnt, fb_had, c_1, c_2, c_4, c_6, c_8]; done)]
              rw [show fb_cbit x pw bt = va_up bt (fb_c x) true from by first | rfl | (simp [fb_count, fb_cbit, fb_ccnt, fb_cnt, fb_had, c_1, c_2, c_4, c_6, c_8]; done)]
              exact hP
            have hD9 : va_D A ([wp_B ha (fb_count x pw bt), wp_Z hq cZ 24 (fb_cbit x pw bt)]) := by
              rw [show fb_count x pw bt = (x.1, x.2.1, x.2.2.1, x.2.2.2.1, x.2.2.2.2.1, x.2.2.2.2.2.1, x.2.2.2.2.2.2.1 + 1, pw, x.2.2.2.2.2.2.2.2.1, x.2.2.2.2.2.2.2.2.2.1, x.2.2.2.2.2.2.2.2.2.2.1, x.2.2.2.2.2.2.2.2.2.2.2) from by first | rfl | (simp [fb_count, fb_cbit, fb_ccnt, fb_cnt, fb_had, c_1, c_2, c_4, c_6, c_8]; done)]
              rw [show fb_cbit x pw bt = va_up bt (fb_c x) true from by first | rfl | (simp [fb_count, fb_cbit, fb_ccnt, fb_cnt, fb_had, c_1, c_2, c_4, c_6, c_8]; done)]
              exact hD
            exact W.vret hx hb hr (fun t ht _ => ⟨rfl, by rw [ht]; exact hP9, hAe ▸ hD9, hAe ▸ hS.F ht⟩) (fun q hq => by rw [← hAe]; exact hS.2.2 q hq) dX0_countRuns_78
  · refine lv_aload_n hx hb dX0_countRuns_7 rfl (lv_at hl 0 rfl) ?_
    refine lv_iconst (v := 0) hx hb dX0_countRuns_8 (by decide) ?_
    refine va_put (D := (dC, dI)) (ci := 0) (v := .int 0) (ty := .int) (C := RX0) (T := TX0) (N := 12) hx hb hg in_X0 tyX0 tyX0_ok nmX0 hown hK hP hD hS 0 rfl rfl 6 (by decide) (hg _ mw_88) (fun _ h9 => h9) rfl (by decide +kernel) rfl rfl (Nat.le_of_ble_eq_true rfl) dX0_countRuns_9 (fun H locs hP hD hS => ?_)
    have hP : va_P (dC, dI) vwCl [(ha, .inr (0, [.int x.1, .int x.2.1, .int x.2.2.1, .int x.2.2.2.1, .double x.2.2.2.2.1, .int (sf_b x.2.2.2.2.2.1), .int 0, .int (sf_b x.2.2.2.2.2.2.2.1), .double x.2.2.2.2.2.2.2.2.1, .double x.2.2.2.2.2.2.2.2.2.1, .int x.2.2.2.2.2.2.2.2.2.2.1, .int x.2.2.2.2.2.2.2.2.2.2.2])), (hq, .inl (cZ, 24, .inl (fun i9 => sf_b (bt i9))))] H := hP
    have hD : va_D A [(ha, .inr (0, [.int x.1, .int x.2.1, .int x.2.2.1, .int x.2.2.2.1, .double x.2.2.2.2.1, .int (sf_b x.2.2.2.2.2.1), .int 0, .int (sf_b x.2.2.2.2.2.2.2.1), .double x.2.2.2.2.2.2.2.2.1, .double x.2.2.2.2.2.2.2.2.2.1, .int x.2.2.2.2.2.2.2.2.2.2.1, .int x.2.2.2.2.2.2.2.2.2.2.2])), (hq, .inl (cZ, 24, .inl (fun i9 => sf_b (bt i9))))] := hD
    refine lv_goto (tgt := 49) hx hb dX0_countRuns_12 (by decide) ?_
    refine lv_aload_n hx hb dX0_countRuns_49 rfl (lv_at hl 0 rfl) ?_
    refine lv_iload_n hx hb dX0_countRuns_50 rfl (lv_at hl 1 rfl) ?_
    refine va_put (D := (dC, dI)) (ci := 0) (v := .int (sf_b pw)) (ty := .boolean) (C := RX0) (T := TX0) (N := 12) hx hb hg in_X0 tyX0 tyX0_ok nmX0 hown hK hP hD hS 0 rfl rfl 7 (by decide) (hg _ mw_89) (fun _ h9 => h9) rfl (by decide +kernel) (sf_b_nb _) (sf_b_fit _) (Nat.le_of_ble_eq_true rfl) dX0_countRuns_51 (fun H locs hP hD hS => ?_)
    have hP : va_P (dC, dI) vwCl [(ha, .inr (0, [.int x.1, .int x.2.1, .int x.2.2.1, .int x.2.2.2.1, .double x.2.2.2.2.1, .int (sf_b x.2.2.2.2.2.1), .int 0, .int (sf_b pw), .double x.2.2.2.2.2.2.2.2.1, .double x.2.2.2.2.2.2.2.2.2.1, .int x.2.2.2.2.2.2.2.2.2.2.1, .int x.2.2.2.2.2.2.2.2.2.2.2])), (hq, .inl (cZ, 24, .inl (fun i9 => sf_b (bt i9))))] H := hP
    have hD : va_D A [(ha, .inr (0, [.int x.1, .int x.2.1, .int x.2.2.1, .int x.2.2.2.1, .double x.2.2.2.2.1, .int (sf_b x.2.2.2.2.2.1), .int 0, .int (sf_b pw), .double x.2.2.2.2.2.2.2.2.1, .double x.2.2.2.2.2.2.2.2.2.1, .int x.2.2.2.2.2.2.2.2.2.2.1, .int x.2.2.2.2.2.2.2.2.2.2.2])), (hq, .inl (cZ, 24, .inl (fun i9 => sf_b (bt i9))))] := hD
    refine lv_aload_n hx hb dX0_countRuns_54 rfl (lv_at hl 2 rfl) ?_
    refine lv_aload_n hx hb dX0_countRuns_55 rfl (lv_at hl 0 rfl) ?_
    refine va_get (D := (dC, dI)) (ci := 0) (v := .int x.2.2.2.1) (C := RX0) (T := TX0) (N := 12) hx hb hg in_X0 hown hK hP 0 rfl rfl 3 (by decide) (hg _ mw_84) (fun _ h9 => h9) rfl dX0_countRuns_56 ?_
    refine lv_aload_n hx hb dX0_countRuns_59 rfl (lv_at hl 0 rfl) ?_
    refine va_get (D := (dC, dI)) (ci := 0) (v := .int 0) (C := RX0) (T := TX0) (N := 12) hx hb hg in_X0 hown hK hP 0 rfl rfl 6 (by decide) (hg _ mw_88) (fun _ h9 => h9) rfl dX0_countRuns_60 ?_
    refine lv_i2d hx hb dX0_countRuns_63 ?_
    refine lv_aload_n hx hb dX0_countRuns_64 rfl (lv_at hl 0 rfl) ?_
    refine va_get (D := (dC, dI)) (ci := 0) (v := .double x.2.2.2.2.1) (C := RX0) (T := TX0) (N := 12) hx hb hg in_X0 hown hK hP 0 rfl rfl 4 (by decide) (hg _ mw_85) (fun _ h9 => h9) rfl dX0_countRuns_65 ?_
    refine lv_dcmp hx hb dX0_countRuns_68 ?_
    refine lv_if_lt (tgt := 76) hx hb dX0_countRuns_69 (by decide) (fun c_9 => ?_) (fun c_9 => ?_)
    · have c_9 := sd_l_lt.mp c_9
      refine lv_iconst (v := sf_b false) hx hb dX0_countRuns_76 (by decide) ?_
      refine sf_zast hx hb hK hP hD hS 1 0 rfl rfl (fb_c x) hc9.1 hc9.2 (by decide) dX0_countRuns_77 (fun H locs hP hD hS => ?_)
      have hP : va_P (dC, dI) vwCl [(ha, .inr (0, [.int x.1, .int x.2.1, .int x.2.2.1, .int x.2.2.2.1, .double x.2.2.2.2.1, .int (sf_b x.2.2.2.2.2.1), .int 0, .int (sf_b pw), .double x.2.2.2.2.2.2.2.2.1, .double x.2.2.2.2.2.2.2.2.2.1, .int x.2.2.2.2.2.2.2.2.2.2.1, .int x.2.2.2.2.2.2.2.2.2.2.2])), (hq, .inl (cZ, 24, .inl (fun i9 => sf_b ((va_up bt (fb_c x) false) i9))))] H := hP
      have hD : va_D A [(ha, .inr (0, [.int x.1, .int x.2.1, .int x.2.2.1, .int x.2.2.2.1, .double x.2.2.2.2.1, .int (sf_b x.2.2.2.2.2.1), .int 0, .int (sf_b pw), .double x.2.2.2.2.2.2.2.2.1, .double x.2.2.2.2.2.2.2.2.2.1, .int x.2.2.2.2.2.2.2.2.2.2.1, .int x.2.2.2.2.2.2.2.2.2.2.2])), (hq, .inl (cZ, 24, .inl (fun i9 => sf_b ((va_up bt (fb_c x) false) i9))))] := hD
      have hP9 : va_P (dC, dI) vwCl ([wp_B ha (fb_count x pw bt), wp_Z hq cZ 24 (fb_cbit x pw bt)]) H := by
        rw [show fb_count x pw bt = (x.1, x.2.1, x.2.2.1, x.2.2.2.1, x.2.2.2.2.1, x.2.2.2.2.2.1, 0, pw, x.2.2.2.2.2.2.2.2.1, x.2.2.2.2.2.2.2.2.2.1, x.2.2.2.2.2.2.2.2.2.2.1, x.2.2.2.2.2.2.2.2.2.2.2) from by first | rfl | (simp [fb_count, fb_cbit, fb_ccnt, fb_cnt, fb_had, c_1, c_9]; done)]
        rw [show fb_cbit x pw bt = va_up bt (fb_c x) false from by first | rfl | (simp [fb_count, fb_cbit, fb_ccnt, fb_cnt, fb_had, c_1, c_9]; done)]
        exact hP
      have hD9 : va_D A ([wp_B ha (fb_count x pw bt), wp_Z hq cZ 24 (fb_cbit x pw bt)]) := by
        rw [show fb_count x pw bt = (x.1, x.2.1, x.2.2.1, x.2.2.2.1, x.2.2.2.2.1, x.2.2.2.2.2.1, 0, pw, x.2.2.2.2.2.2.2.2.1, x.2.2.2.2.2.2.2.2.2.1, x.2.2.2.2.2.2.2.2.2.2.1, x.2.2.2.2.2.2.2.2.2.2.2) from by first | rfl | (simp [fb_count, fb_cbit, fb_ccnt, fb_cnt, fb_had, c_1, c_9]; done)]
        rw [show fb_cbit x pw bt = va_up bt (fb_c x) false from by first | rfl | (simp [fb_count, fb_cbit, fb_ccnt, fb_cnt, fb_had, c_1, c_9]; done)]
        exact hD
      exact W.vret hx hb hr (fun t ht _ => ⟨rfl, by rw [ht]; exact hP9, hAe ▸ hD9, hAe ▸ hS.F ht⟩) (fun q hq => by rw [← hAe]; exact hS.2.2 q hq) dX0_countRuns_78
    · have c_9 := sd_nl_lt c_9
      refine lv_iconst (v := sf_b true) hx hb dX0_countRuns_72 (by decide) ?_
      refine lv_goto (tgt := 77) hx hb dX0_countRuns_73 (by decide) ?_
      refine sf_zast hx hb hK hP hD hS 1 0 rfl rfl (fb_c x) hc9.1 hc9.2 (by decide) dX0_countRuns_77 (fun H locs hP hD hS => ?_)
      have hP : va_P (dC, dI) vwCl [(ha, .inr (0, [.int x.1, .int x.2.1, .int x.2.2.1, .int x.2.2.2.1, .double x.2.2.2.2.1, .int (sf_b x.2.2.2.2.2.1), .int 0, .int (sf_b pw), .double x.2.2.2.2.2.2.2.2.1, .double x.2.2.2.2.2.2.2.2.2.1, .int x.2.2.2.2.2.2.2.2.2.2.1, .int x.2.2.2.2.2.2.2.2.2.2.2])), (hq, .inl (cZ, 24, .inl (fun i9 => sf_b ((va_up bt (fb_c x) true) i9))))] H := hP
      have hD : va_D A [(ha, .inr (0, [.int x.1, .int x.2.1, .int x.2.2.1, .int x.2.2.2.1, .double x.2.2.2.2.1, .int (sf_b x.2.2.2.2.2.1), .int 0, .int (sf_b pw), .double x.2.2.2.2.2.2.2.2.1, .double x.2.2.2.2.2.2.2.2.2.1, .int x.2.2.2.2.2.2.2.2.2.2.1, .int x.2.2.2.2.2.2.2.2.2.2.2])), (hq, .inl (cZ, 24, .inl (fun i9 => sf_b ((va_up bt (fb_c x) true) i9))))] := hD
      have hP9 : va_P (dC, dI) vwCl ([wp_B ha (fb_count x pw bt), wp_Z hq cZ 24 (fb_cbit x pw bt)]) H := by
        rw [show fb_count x pw bt = (x.1, x.2.1, x.2.2.1, x.2.2.2.1, x.2.2.2.2.1, x.2.2.2.2.2.1, 0, pw, x.2.2.2.2.2.2.2.2.1, x.2.2.2.2.2.2.2.2.2.1, x.2.2.2.2.2.2.2.2.2.2.1, x.2.2.2.2.2.2.2.2.2.2.2) from by first | rfl | (simp [fb_count, fb_cbit, fb_ccnt, fb_cnt, fb_had, c_1, c_9]; done)]
        rw [show fb_cbit x pw bt = va_up bt (fb_c x) true from by first | rfl | (simp [fb_count, fb_cbit, fb_ccnt, fb_cnt, fb_had, c_1, c_9]; done)]
        exact hP
      have hD9 : va_D A ([wp_B ha (fb_count x pw bt), wp_Z hq cZ 24 (fb_cbit x pw bt)]) := by
        rw [show fb_count x pw bt = (x.1, x.2.1, x.2.2.1, x.2.2.2.1, x.2.2.2.2.1, x.2.2.2.2.2.1, 0, pw, x.2.2.2.2.2.2.2.2.1, x.2.2.2.2.2.2.2.2.2.1, x.2.2.2.2.2.2.2.2.2.2.1, x.2.2.2.2.2.2.2.2.2.2.2) from by first | rfl | (simp [fb_count, fb_cbit, fb_ccnt, fb_cnt, fb_had, c_1, c_9]; done)]
        rw [show fb_cbit x pw bt = va_up bt (fb_c x) true from by first | rfl | (simp [fb_count, fb_cbit, fb_ccnt, fb_cnt, fb_had, c_1, c_9]; done)]
        exact hD
      exact W.vret hx hb hr (fun t ht _ => ⟨rfl, by rw [ht]; exact hP9, hAe ▸ hD9, hAe ▸ hS.F ht⟩) (fun q hq => by rw [← hAe]; exact hS.2.2 q hq) dX0_countRuns_78
set_option maxHeartbeats 4000000 in
set_option maxRecDepth 100000 in
theorem c_X0_keep (l : Launch) (dC : Nat → ClassId) (dI : Nat → Nat → Nat) (cD : ClassId) (ha hd : Nat) (x : st_B) (rg : Nat → UInt64) (v : UInt64) (sz : Nat) (hc : fc_ix x.2.2.2.1 8 = true) : Met l yX0_keep wX0_keep ({ frames := 1, cells := 0, slots := 0, locals := 21 }) (sf_PV (dC, dI) vwCl [(cD, .double)] ([wp_B ha x, wp_D hd cD 8 rg]) sz [.ref ha, .double v, .ref hd]) (sf_V (dC, dI) vwCl (some (.int (sf_b (fc_val v)))) ([wp_B ha x, wp_D hd cD 8 rg]) ([wp_B ha x, wp_D hd cD 8 (fb_keepr x v rg)])) 0 0 (va_A ([wp_B ha x, wp_D hd cD 8 rg]) sz) := by
  refine Met.ofW (cc := cX0_keep) (maxL := 4) (ret := (some .boolean)) (by decide) rfl ?_
  intro p e s m args below meth c s₁ B hml hv
  have hx := B.exec
  have hb := B.bytes
  have hr := B.returns
  have hts := atoms_spec (ws := wX0_keep) B.pre
  have hg : ∀ w ∈ gw_all, w.before args s = true := fun w h => hts w (List.mem_cons_of_mem _ h)
  have hown : s.vm.findClass RX0 = some m.cls := findClass_of_methodNamed B.named
  have hlocks := B.notSynchronized
  obtain ⟨rfl, hsz, hP, hD0, hK, hZ⟩ := hv
  subst hsz
  have hl := lv_entry ([.ref ha, .double v, .ref hd]) (n := 4) (Nat.le_of_ble_eq_true rfl)
  rw [lg_entry_eq]
  generalize (lg_sl ([.ref ha, .double v, .ref hd]) ++ List.replicate (4 - (lg_sl ([.ref ha, .double v, .ref hd])).length) Slot.unset).toArray = ls at hl ⊢
  have hl : lv_has ls 4 [(0, .ref ha), (1, .double v), (3, .ref hd)] := hl
  obtain ⟨A, hAe⟩ : ∃ A : Nat → Prop, A = va_A ([wp_B ha x, wp_D hd cD 8 rg]) s.heap.size := ⟨_, rfl⟩
  have hD := hD0.self (sz := s.heap.size)
  rw [← hAe] at hD
  have hA : ∀ q : Nat, s.heap.size ≤ q → A q := fun q h => by rw [hAe]; exact Or.inr h
  have hS : va_S A s.heap s.heap [] := va_S.rf
  have hP : va_P (dC, dI) vwCl [(ha, .inr (0, [.int x.1, .int x.2.1, .int x.2.2.1, .int x.2.2.2.1, .double x.2.2.2.2.1, .int (sf_b x.2.2.2.2.2.1), .int x.2.2.2.2.2.2.1, .int (sf_b x.2.2.2.2.2.2.2.1), .double x.2.2.2.2.2.2.2.2.1, .double x.2.2.2.2.2.2.2.2.2.1, .int x.2.2.2.2.2.2.2.2.2.2.1, .int x.2.2.2.2.2.2.2.2.2.2.2])), (hd, .inl (cD, 8, .inr (.inr (.inr (.inl rg)))))] s.heap := hP
  have hD : va_D A [(ha, .inr (0, [.int x.1, .int x.2.1, .int x.2.2.1, .int x.2.2.2.1, .double x.2.2.2.2.1, .int (sf_b x.2.2.2.2.2.1), .int x.2.2.2.2.2.2.1, .int (sf_b x.2.2.2.2.2.2.2.1), .double x.2.2.2.2.2.2.2.2.1, .double x.2.2.2.2.2.2.2.2.2.1, .int x.2.2.2.2.2.2.2.2.2.2.1, .int x.2.2.2.2.2.2.2.2.2.2.2])), (hd, .inl (cD, 8, .inr (.inr (.inr (.inl rg)))))] := hD
  have hc9 := ix_nat (n := 8) rfl (by decide) hc
  refine lv_dload_n hx hb dX0_keep_0 rfl (lv_at hl 1 rfl) ?_
  refine sf_callRi (va_runSN (As := [.double v]) (rest := []) ⟨hx, hb, hml, hown, hg⟩ (c_X2_isValue l v) ⟨(va_cnB 1 hg (gw_C mw_341) rfl rfl rfl (hZ (.methodLinkNest RX0 81 yX2_isValue RX2) (by decide +kernel)) (hg _ mw_21) (by decide +kernel) ⟨Nat.le_of_ble_eq_true rfl, Nat.le_of_ble_eq_true rfl⟩), hg _ mw_340, trivial⟩ sf_pre0 rfl rfl hl.1 rfl (lv_room (Nat.le_of_ble_eq_true rfl)) dX0_keep_1 ⟨Nat.zero_le _, Nat.zero_le _⟩) ?_
  refine sf_ifne (tgt := 9) hx hb dX0_keep_4 (by decide) (fun c_1 => ?_) (fun c_1 => ?_)
  · refine lv_aload_n hx hb dX0_keep_9 rfl (lv_at hl 2 rfl) ?_
    refine lv_aload_n hx hb dX0_keep_10 rfl (lv_at hl 0 rfl) ?_
    refine va_get (D := (dC, dI)) (ci := 0) (v := .int x.2.2.2.1) (C := RX0) (T := TX0) (N := 12) hx hb hg in_X0 hown hK hP 0 rfl rfl 3 (by decide) (hg _ mw_84) (fun _ h9 => h9) rfl dX0_keep_11 ?_
    refine lv_dload_n hx hb dX0_keep_14 rfl (lv_at hl 1 rfl) ?_
    refine sf_dast hx hb hK hP hD hS 1 0 rfl rfl (fb_c x) hc9.1 hc9.2 (by decide) dX0_keep_15 (fun H locs hP hD hS => ?_)
    have hP : va_P (dC, dI) vwCl [(ha, .inr (0, [.int x.1, .int x.2.1, .int x.2.2.1, .int x.2.2.2.1, .double x.2.2.2.2.1, .int (sf_b x.2.2.2.2.2.1), .int x.2.2.2.2.2.2.1, .int (sf_b x.2.2.2.2.2.2.2.1), .double x.2.2.2.2.2.2.2.2.1, .double x.2.2.2.2.2.2.2.2.2.1, .int x.2.2.2.2.2.2.2.2.2.2.1, .int x.2.2.2.2.2.2.2.2.2.2.2])), (hd, .inl (cD, 8, .inr (.inr (.inr (.inl (va_up rg (fb_c x) v))))))] H := hP
    have hD : va_D A [(ha, .inr (0, [.int x.1, .int x.2.1, .int x.2.2.1, .int x.2.2.2.1, .double x.2.2.2.2.1, .int (sf_b x.2.2.2.2.2.1), .int x.2.2.2.2.2.2.1, .int (sf_b x.2.2.2.2.2.2.2.1), .double x.2.2.2.2.2.2.2.2.1, .double x.2.2.2.2.2.2.2.2.2.1, .int x.2.2.2.2.2.2.2.2.2.2.1, .int x.2.2.2.2.2.2.2.2.2.2.2])), (hd, .inl (cD, 8, .inr (.inr (.inr (.inl (va_up rg (fb_c x) v))))))] := hD
    refine lv_iconst (v := sf_b true) hx hb dX0_keep_16 (by decide) ?_
    refine sf_topi (y := sf_b (fc_val v)) (by first | rfl | (simp [fb_keepr, c_1]; done)) ?_
    have hP9 : va_P (dC, dI) vwCl ([wp_B ha x, wp_D hd cD 8 (fb_keepr x v rg)]) H := by
      rw [show fb_keepr x v rg = va_up rg (fb_c x) v from by first | rfl | (simp [fb_keepr, c_1]; done)]
      exact hP
    have hD9 : va_D A ([wp_B ha x, wp_D hd cD 8 (fb_keepr x v rg)]) := by
      rw [show fb_keepr x v rg = va_up rg (fb_c x) v from by first | rfl | (simp [fb_keepr, c_1]; done)]
      exact hD
    exact W.zret hx hb hr (sf_b_nb _) (fun t ht _ => ⟨rfl, by rw [ht]; exact hP9, hAe ▸ hD9, hAe ▸ hS.F ht⟩) (fun q hq => by rw [← hAe]; exact hS.2.2 q hq) dX0_keep_17
  · refine lv_iconst (v := sf_b false) hx hb dX0_keep_7 (by decide) ?_
    refine sf_topi (y := sf_b (fc_val v)) (by first | rfl | (simp [fb_keepr, c_1]; done)) ?_
    have hP9 : va_P (dC, dI) vwCl ([wp_B ha x, wp_D hd cD 8 (fb_keepr x v rg)]) s.heap := by
      rw [show fb_keepr x v rg = rg from by first | rfl | (simp [fb_keepr, c_1]; done)]
      exact hP
    have hD9 : va_D A ([wp_B ha x, wp_D hd cD 8 (fb_keepr x v rg)]) := by
      rw [show fb_keepr x v rg = rg from by first | rfl | (simp [fb_keepr, c_1]; done)]
      exact hD
    exact W.zret hx hb hr (sf_b_nb _) (fun t ht _ => ⟨rfl, by rw [ht]; exact hP9, hAe ▸ hD9, hAe ▸ hS.F ht⟩) (fun q hq => by rw [← hAe]; exact hS.2.2 q hq) dX0_keep_8
set_option maxHeartbeats 4000000 in
set_option maxRecDepth 100000 in
theorem c_X0_calculate (l : Launch) (dC : Nat → ClassId) (dI : Nat → Nat → Nat) (cD : ClassId) (ha hd : Nat) (x : st_B) (rg : Nat → UInt64) (sz : Nat) (hai : fc_ix x.2.1 8 = true) (hbi : fc_ix x.2.2.1 8 = true) (hc : fc_ix x.2.2.2.1 8 = true) (hrg : rg_ok rg) : Met l yX0_calculate wX0_calculate ({ frames := 2, cells := 0, slots := 0, locals := 44 }) (sf_PV (dC, dI) vwCl [(cD, .double)] ([wp_B ha x, wp_D hd cD 8 rg]) sz [.ref ha, .ref hd]) (sf_V (dC, dI) vwCl (some (.int (sf_b (fb_calcb x rg)))) ([wp_B ha x, wp_D hd cD 8 rg]) ([wp_B ha x, wp_D hd cD 8 (fb_calcr x rg)])) 0 0 (va_A ([wp_B ha x, wp_D hd cD 8 rg]) sz) := by
  refine Met.ofW (cc := cX0_calculate) (maxL := 6) (ret := (some .boolean)) (by decide) rfl ?_
  intro p e s m args below meth c s₁ B hml hv
  have hx := B.exec
  have hb := B.bytes
  have hr := B.returns
  have hts := atoms_spec (ws := wX0_calculate) B.pre
  have hg : ∀ w ∈ gw_all, w.before args s = true := fun w h => hts w (List.mem_cons_of_mem _ h)
  have hown : s.vm.findClass RX0 = some m.cls := findClass_of_methodNamed B.named
  have hlocks := B.notSynchronized
  obtain ⟨rfl, hsz, hP, hD0, hK, hZ⟩ := hv
  subst hsz
  have hl := lv_entry ([.ref ha, .ref hd]) (n := 6) (Nat.le_of_ble_eq_true rfl)
  rw [lg_entry_eq]
  generalize (lg_sl ([.ref ha, .ref hd]) ++ List.replicate (6 - (lg_sl ([.ref ha, .ref hd])).length) Slot.unset).toArray = ls at hl ⊢
  have hl : lv_has ls 6 [(0, .ref ha), (1, .ref hd)] := hl
  obtain ⟨A, hAe⟩ : ∃ A : Nat → Prop, A = va_A ([wp_B ha x, wp_D hd cD 8 rg]) s.heap.size := ⟨_, rfl⟩
  have hD := hD0.self (sz := s.heap.size)
  rw [← hAe] at hD
  have hA : ∀ q : Nat, s.heap.size ≤ q → A q := fun q h => by rw [hAe]; exact Or.inr h
  have hS : va_S A s.heap s.heap [] := va_S.rf
  have hP : va_P (dC, dI) vwCl [(ha, .inr (0, [.int x.1, .int x.2.1, .int x.2.2.1, .int x.2.2.2.1, .double x.2.2.2.2.1, .int (sf_b x.2.2.2.2.2.1), .int x.2.2.2.2.2.2.1, .int (sf_b x.2.2.2.2.2.2.2.1), .double x.2.2.2.2.2.2.2.2.1, .double x.2.2.2.2.2.2.2.2.2.1, .int x.2.2.2.2.2.2.2.2.2.2.1, .int x.2.2.2.2.2.2.2.2.2.2.2])), (hd, .inl (cD, 8, .inr (.inr (.inr (.inl rg)))))] s.heap := hP
  have hD : va_D A [(ha, .inr (0, [.int x.1, .int x.2.1, .int x.2.2.1, .int x.2.2.2.1, .double x.2.2.2.2.1, .int (sf_b x.2.2.2.2.2.1), .int x.2.2.2.2.2.2.1, .int (sf_b x.2.2.2.2.2.2.2.1), .double x.2.2.2.2.2.2.2.2.1, .double x.2.2.2.2.2.2.2.2.2.1, .int x.2.2.2.2.2.2.2.2.2.2.1, .int x.2.2.2.2.2.2.2.2.2.2.2])), (hd, .inl (cD, 8, .inr (.inr (.inr (.inl rg)))))] := hD
  have ha9 := ix_nat (n := 8) rfl (by decide) hai
  have hb9 := ix_nat (n := 8) rfl (by decide) hbi
  have kx := val_K (hrg _ ha9.2)
  have ky := val_K (hrg _ hb9.2)
  refine lv_aload_n hx hb dX0_calculate_0 rfl (lv_at hl 1 rfl) ?_
  refine lv_aload_n hx hb dX0_calculate_1 rfl (lv_at hl 0 rfl) ?_
  refine va_get (D := (dC, dI)) (ci := 0) (v := .int x.2.1) (C := RX0) (T := TX0) (N := 12) hx hb hg in_X0 hown hK hP 0 rfl rfl 1 (by decide) (hg _ mw_82) (fun _ h9 => h9) rfl dX0_calculate_2 ?_
  refine sf_dald hx hb hK hP 1 0 rfl rfl x.2.1.toNatClampNeg ha9.1 ha9.2 (by decide) dX0_calculate_5 ?_
  refine sf_topd (y := fb_x x rg) rfl ?_
  refine lv_dstore_n (lv' := [(2, .double (fb_x x rg)), (0, .ref ha), (1, .ref hd)]) hx hb dX0_calculate_6 rfl hl (by decide) rfl (fun ls hl => ?_)
  refine lv_aload_n hx hb dX0_calculate_7 rfl (lv_at hl 2 rfl) ?_
  refine lv_aload_n hx hb dX0_calculate_8 rfl (lv_at hl 1 rfl) ?_
  refine va_get (D := (dC, dI)) (ci := 0) (v := .int x.2.2.1) (C := RX0) (T := TX0) (N := 12) hx hb hg in_X0 hown hK hP 0 rfl rfl 2 (by decide) (hg _ mw_83) (fun _ h9 => h9) rfl dX0_calculate_9 ?_
  refine sf_dald hx hb hK hP 1 0 rfl rfl x.2.2.1.toNatClampNeg hb9.1 hb9.2 (by decide) dX0_calculate_12 ?_
  refine sf_topd (y := fb_y x rg) rfl ?_
  refine lv_dstore (lv' := [(4, .double (fb_y x rg)), (2, .double (fb_x x rg)), (0, .ref ha), (1, .ref hd)]) hx hb dX0_calculate_13 hl (by decide) rfl (fun ls hl => ?_)
  refine lv_aload_n hx hb dX0_calculate_15 rfl (lv_at hl 2 rfl) ?_
  refine va_get (D := (dC, dI)) (ci := 0) (v := .int x.1) (C := RX0) (T := TX0) (N := 12) hx hb hg in_X0 hown hK hP 0 rfl rfl 0 (by decide) (hg _ mw_81) (fun _ h9 => h9) rfl dX0_calculate_16 ?_
  by_cases c_1 : x.1 = 4
  · refine lv_tableIn (off := 29) (tgt := 48) hx hb dX0_calculate_19 (by rw [c_1]; decide) (by rw [c_1]; decide) (by rw [c_1]; decide) (by decide) ?_
    refine lv_aload_n hx hb dX0_calculate_48 rfl (lv_at hl 2 rfl) ?_
    refine lv_dload_n hx hb dX0_calculate_49 rfl (lv_at hl 1 rfl) ?_
    refine lv_dload hx hb dX0_calculate_50 (lv_at hl 0 rfl) ?_
    refine lv_dadd hx hb dX0_calculate_52 ((sd_add kx ky (by decide)).nn (by decide)) ?_
    refine lv_aload_n hx hb dX0_calculate_53 rfl (lv_at hl 3 rfl) ?_
    have hPc : va_P (dC, dI) vwCl ([(ha, .inr (0, [.int x.1, .int x.2.1, .int x.2.2.1, .int x.2.2.2.1, .double x.2.2.2.2.1, .int (sf_b x.2.2.2.2.2.1), .int x.2.2.2.2.2.2.1, .int (sf_b x.2.2.2.2.2.2.2.1), .double x.2.2.2.2.2.2.2.2.1, .double x.2.2.2.2.2.2.2.2.2.1, .int x.2.2.2.2.2.2.2.2.2.2.1, .int x.2.2.2.2.2.2.2.2.2.2.2])), (hd, .inl (cD, 8, .inr (.inr (.inr (.inl rg)))))] ++ []) s.heap := hP.sub [0, 1] rfl
    have hDc : va_D A ([(ha, .inr (0, [.int x.1, .int x.2.1, .int x.2.2.1, .int x.2.2.2.1, .double x.2.2.2.2.1, .int (sf_b x.2.2.2.2.2.1), .int x.2.2.2.2.2.2.1, .int (sf_b x.2.2.2.2.2.2.2.1), .double x.2.2.2.2.2.2.2.2.1, .double x.2.2.2.2.2.2.2.2.2.1, .int x.2.2.2.2.2.2.2.2.2.2.1, .int x.2.2.2.2.2.2.2.2.2.2.2])), (hd, .inl (cD, 8, .inr (.inr (.inr (.inl rg)))))] ++ []) := hD.sub [0, 1] (by decide) rfl
    refine sf_callVi (va_runV (As := [.double (FP.dadd (fb_x x rg) (fb_y x rg)), .ref hd]) (rest := []) ⟨hx, hb, hml, hown, hg⟩ (c_X0_keep l dC dI cD ha hd x rg (FP.dadd (fb_x x rg) (fb_y x rg)) _ hc) (cwV 2 hg (gw_V mw_421 mw_423 mw_9 mw_23 mw_424) rfl rfl rfl (by decide +kernel) ⟨Nat.le_of_ble_eq_true rfl, Nat.le_of_ble_eq_true rfl⟩) (sf_preVV (va_recv hK hP (ci := 0) (q0 := 0) rfl rfl) hK hZ hPc hDc) rfl rfl hl.1 rfl (lv_room (Nat.le_of_ble_eq_true rfl)) dX0_calculate_54 ⟨Nat.zero_le _, Nat.zero_le _⟩) hS hPc hDc hA (fun H locs hP hD hS => ?_)
    have hP : va_P (dC, dI) vwCl [(ha, .inr (0, [.int x.1, .int x.2.1, .int x.2.2.1, .int x.2.2.2.1, .double x.2.2.2.2.1, .int (sf_b x.2.2.2.2.2.1), .int x.2.2.2.2.2.2.1, .int (sf_b x.2.2.2.2.2.2.2.1), .double x.2.2.2.2.2.2.2.2.1, .double x.2.2.2.2.2.2.2.2.2.1, .int x.2.2.2.2.2.2.2.2.2.2.1, .int x.2.2.2.2.2.2.2.2.2.2.2])), (hd, .inl (cD, 8, .inr (.inr (.inr (.inl (fb_keepr x (FP.dadd (fb_x x rg) (fb_y x rg)) rg))))))] H := hP
    have hD : va_D A [(ha, .inr (0, [.int x.1, .int x.2.1, .int x.2.2.1, .int x.2.2.2.1, .double x.2.2.2.2.1, .int (sf_b x.2.2.2.2.2.1), .int x.2.2.2.2.2.2.1, .int (sf_b x.2.2.2.2.2.2.2.1), .double x.2.2.2.2.2.2.2.2.1, .double x.2.2.2.2.2.2.2.2.2.1, .int x.2.2.2.2.2.2.2.2.2.2.1, .int x.2.2.2.2.2.2.2.2.2.2.2])), (hd, .inl (cD, 8, .inr (.inr (.inr (.inl (fb_keepr x (FP.dadd (fb_x x rg) (fb_y x rg)) rg))))))] := hD
    refine sf_topi (y := sf_b (fb_calcb x rg)) (by first | rfl | (simp [fb_calcr, fb_calcb, c_1]; done)) ?_
    have hP9 : va_P (dC, dI) vwCl ([wp_B ha x, wp_D hd cD 8 (fb_calcr x rg)]) H := by
      rw [show fb_calcr x rg = fb_keepr x (FP.dadd (fb_x x rg) (fb_y x rg)) rg from by first | rfl | (simp [fb_calcr, fb_calcb, c_1]; done)]
      exact hP
    have hD9 : va_D A ([wp_B ha x, wp_D hd cD 8 (fb_calcr x rg)]) := by
      rw [show fb_calcr x rg = fb_keepr x (FP.dadd (fb_x x rg) (fb_y x rg)) rg from by first | rfl | (simp [fb_calcr, fb_calcb, c_1]; done)]
      exact hD
    exact W.zret hx hb hr (sf_b_nb _) (fun t ht _ => ⟨rfl, by rw [ht]; exact hP9, hAe ▸ hD9, hAe ▸ hS.F ht⟩) (fun q hq => by rw [← hAe]; exact hS.2.2 q hq) dX0_calculate_57
  · skip
    by_cases c_2 : x.1 = 5
    · refine lv_tableIn (off := 39) (tgt := 58) hx hb dX0_calculate_19 (by rw [c_2]; decide) (by rw [c_2]; decide) (by rw [c_2]; decide) (by decide) ?_
      refine lv_aload_n hx hb dX0_calculate_58 rfl (lv_at hl 2 rfl) ?_
      refine lv_dload_n hx hb dX0_calculate_59 rfl (lv_at hl 1 rfl) ?_
      refine lv_dload hx hb dX0_calculate_60 (lv_at hl 0 rfl) ?_
      refine lv_dsub hx hb dX0_calculate_62 ((sd_sub kx ky (by decide)).nn (by decide)) ?_
      refine lv_aload_n hx hb dX0_calculate_63 rfl (lv_at hl 3 rfl) ?_
      have hPc : va_P (dC, dI) vwCl ([(ha, .inr (0, [.int x.1, .int x.2.1, .int x.2.2.1, .int x.2.2.2.1, .double x.2.2.2.2.1, .int (sf_b x.2.2.2.2.2.1), .int x.2.2.2.2.2.2.1, .int (sf_b x.2.2.2.2.2.2.2.1), .double x.2.2.2.2.2.2.2.2.1, .double x.2.2.2.2.2.2.2.2.2.1, .int x.2.2.2.2.2.2.2.2.2.2.1, .int x.2.2.2.2.2.2.2.2.2.2.2])), (hd, .inl (cD, 8, .inr (.inr (.inr (.inl rg)))))] ++ []) s.heap := hP.sub [0, 1] rfl
      have hDc : va_D A ([(ha, .inr (0, [.int x.1, .int x.2.1, .int x.2.2.1, .int x.2.2.2.1, .double x.2.2.2.2.1, .int (sf_b x.2.2.2.2.2.1), .int x.2.2.2.2.2.2.1, .int (sf_b x.2.2.2.2.2.2.2.1), .double x.2.2.2.2.2.2.2.2.1, .double x.2.2.2.2.2.2.2.2.2.1, .int x.2.2.2.2.2.2.2.2.2.2.1, .int x.2.2.2.2.2.2.2.2.2.2.2])), (hd, .inl (cD, 8, .inr (.inr (.inr (.inl rg)))))] ++ []) := hD.sub [0, 1] (by decide) rfl
      refine sf_callVi (va_runV (As := [.double (FP.dsub (fb_x x rg) (fb_y x rg)), .ref hd]) (rest := []) ⟨hx, hb, hml, hown, hg⟩ (c_X0_keep l dC dI cD ha hd x rg (FP.dsub (fb_x x rg) (fb_y x rg)) _ hc) (cwV 2 hg (gw_V mw_421 mw_423 mw_9 mw_23 mw_424) rfl rfl rfl (by decide +kernel) ⟨Nat.le_of_ble_eq_true rfl, Nat.le_of_ble_eq_true rfl⟩) (sf_preVV (va_recv hK hP (ci := 0) (q0 := 0) rfl rfl) hK hZ hPc hDc) rfl rfl hl.1 rfl (lv_room (Nat.le_of_ble_eq_true rfl)) dX0_calculate_64 ⟨Nat.zero_le _, Nat.zero_le _⟩) hS hPc hDc hA (fun H locs hP hD hS => ?_)
      have hP : va_P (dC, dI) vwCl [(ha, .inr (0, [.int x.1, .int x.2.1, .int x.2.2.1, .int x.2.2.2.1, .double x.2.2.2.2.1, .int (sf_b x.2.2.2.2.2.1), .int x.2.2.2.2.2.2.1, .int (sf_b x.2.2.2.2.2.2.2.1), .double x.2.2.2.2.2.2.2.2.1, .double x.2.2.2.2.2.2.2.2.2.1, .int x.2.2.2.2.2.2.2.2.2.2.1, .int x.2.2.2.2.2.2.2.2.2.2.2])), (hd, .inl (cD, 8, .inr (.inr (.inr (.inl (fb_keepr x (FP.dsub (fb_x x rg) (fb_y x rg)) rg))))))] H := hP
      have hD : va_D A [(ha, .inr (0, [.int x.1, .int x.2.1, .int x.2.2.1, .int x.2.2.2.1, .double x.2.2.2.2.1, .int (sf_b x.2.2.2.2.2.1), .int x.2.2.2.2.2.2.1, .int (sf_b x.2.2.2.2.2.2.2.1), .double x.2.2.2.2.2.2.2.2.1, .double x.2.2.2.2.2.2.2.2.2.1, .int x.2.2.2.2.2.2.2.2.2.2.1, .int x.2.2.2.2.2.2.2.2.2.2.2])), (hd, .inl (cD, 8, .inr (.inr (.inr (.inl (fb_keepr x (FP.dsub (fb_x x rg) (fb_y x rg)) rg))))))] := hD
      refine sf_topi (y := sf_b (fb_calcb x rg)) (by first | rfl | (simp [fb_calcr, fb_calcb, c_1, c_2]; done)) ?_
      have hP9 : va_P (dC, dI) vwCl ([wp_B ha x, wp_D hd cD 8 (fb_calcr x rg)]) H := by
        rw [show fb_calcr x rg = fb_keepr x (FP.dsub (fb_x x rg) (fb_y x rg)) rg from by first | rfl | (simp [fb_calcr, fb_calcb, c_1, c_2]; done)]
        exact hP
      have hD9 : va_D A ([wp_B ha x, wp_D hd cD 8 (fb_calcr x rg)]) := by
        rw [show fb_calcr x rg = fb_keepr x (FP.dsub (fb_x x rg) (fb_y x rg)) rg from by first | rfl | (simp [fb_calcr, fb_calcb, c_1, c_2]; done)]
        exact hD
      exact W.zret hx hb hr (sf_b_nb _) (fun t ht _ => ⟨rfl, by rw [ht]; exact hP9, hAe ▸ hD9, hAe ▸ hS.F ht⟩) (fun q hq => by rw [← hAe]; exact hS.2.2 q hq) dX0_calculate_67
    · skip
      by_cases c_3 : x.1 = 6
      · refine lv_tableIn (off := 49) (tgt := 68) hx hb dX0_calculate_19 (by rw [c_3]; decide) (by rw [c_3]; decide) (by rw [c_3]; decide) (by decide) ?_
        refine lv_aload_n hx hb dX0_calculate_68 rfl (lv_at hl 2 rfl) ?_
        refine lv_dload_n hx hb dX0_calculate_69 rfl (lv_at hl 1 rfl) ?_
        refine lv_dload hx hb dX0_calculate_70 (lv_at hl 0 rfl) ?_
        refine lv_dmul hx hb dX0_calculate_72 ((sd_mul kx ky (by decide) (by decide)).nn (by decide)) ?_
        refine lv_aload_n hx hb dX0_calculate_73 rfl (lv_at hl 3 rfl) ?_
        have hPc : va_P (dC, dI) vwCl ([(ha, .inr (0, [.int x.1, .int x.2.1, .int x.2.2.1, .int x.2.2.2.1, .double x.2.2.2.2.1, .int (sf_b x.2.2.2.2.2.1), .int x.2.2.2.2.2.2.1, .int (sf_b x.2.2.2.2.2.2.2.1), .double x.2.2.2.2.2.2.2.2.1, .double x.2.2.2.2.2.2.2.2.2.1, .int x.2.2.2.2.2.2.2.2.2.2.1, .int x.2.2.2.2.2.2.2.2.2.2.2])), (hd, .inl (cD, 8, .inr (.inr (.inr (.inl rg)))))] ++ []) s.heap := hP.sub [0, 1] rfl
        have hDc : va_D A ([(ha, .inr (0, [.int x.1, .int x.2.1, .int x.2.2.1, .int x.2.2.2.1, .double x.2.2.2.2.1, .int (sf_b x.2.2.2.2.2.1), .int x.2.2.2.2.2.2.1, .int (sf_b x.2.2.2.2.2.2.2.1), .double x.2.2.2.2.2.2.2.2.1, .double x.2.2.2.2.2.2.2.2.2.1, .int x.2.2.2.2.2.2.2.2.2.2.1, .int x.2.2.2.2.2.2.2.2.2.2.2])), (hd, .inl (cD, 8, .inr (.inr (.inr (.inl rg)))))] ++ []) := hD.sub [0, 1] (by decide) rfl
        refine sf_callVi (va_runV (As := [.double (FP.dmul (fb_x x rg) (fb_y x rg)), .ref hd]) (rest := []) ⟨hx, hb, hml, hown, hg⟩ (c_X0_keep l dC dI cD ha hd x rg (FP.dmul (fb_x x rg) (fb_y x rg)) _ hc) (cwV 2 hg (gw_V mw_421 mw_423 mw_9 mw_23 mw_424) rfl rfl rfl (by decide +kernel) ⟨Nat.le_of_ble_eq_true rfl, Nat.le_of_ble_eq_true rfl⟩) (sf_preVV (va_recv hK hP (ci := 0) (q0 := 0) rfl rfl) hK hZ hPc hDc) rfl rfl hl.1 rfl (lv_room (Nat.le_of_ble_eq_true rfl)) dX0_calculate_74 ⟨Nat.zero_le _, Nat.zero_le _⟩) hS hPc hDc hA (fun H locs hP hD hS => ?_)
        have hP : va_P (dC, dI) vwCl [(ha, .inr (0, [.int x.1, .int x.2.1, .int x.2.2.1, .int x.2.2.2.1, .double x.2.2.2.2.1, .int (sf_b x.2.2.2.2.2.1), .int x.2.2.2.2.2.2.1, .int (sf_b x.2.2.2.2.2.2.2.1), .double x.2.2.2.2.2.2.2.2.1, .double x.2.2.2.2.2.2.2.2.2.1, .int x.2.2.2.2.2.2.2.2.2.2.1, .int x.2.2.2.2.2.2.2.2.2.2.2])), (hd, .inl (cD, 8, .inr (.inr (.inr (.inl (fb_keepr x (FP.dmul (fb_x x rg) (fb_y x rg)) rg))))))] H := hP
        have hD : va_D A [(ha, .inr (0, [.int x.1, .int x.2.1, .int x.2.2.1, .int x.2.2.2.1, .double x.2.2.2.2.1, .int (sf_b x.2.2.2.2.2.1), .int x.2.2.2.2.2.2.1, .int (sf_b x.2.2.2.2.2.2.2.1), .double x.2.2.2.2.2.2.2.2.1, .double x.2.2.2.2.2.2.2.2.2.1, .int x.2.2.2.2.2.2.2.2.2.2.1, .int x.2.2.2.2.2.2.2.2.2.2.2])), (hd, .inl (cD, 8, .inr (.inr (.inr (.inl (fb_keepr x (FP.dmul (fb_x x rg) (fb_y x rg)) rg))))))] := hD
        refine sf_topi (y := sf_b (fb_calcb x rg)) (by first | rfl | (simp [fb_calcr, fb_calcb, c_1, c_2, c_3]; done)) ?_
        have hP9 : va_P (dC, dI) vwCl ([wp_B ha x, wp_D hd cD 8 (fb_calcr x rg)]) H := by
          rw [show fb_calcr x rg = fb_keepr x (FP.dmul (fb_x x rg) (fb_y x rg)) rg from by first | rfl | (simp [fb_calcr, fb_calcb, c_1, c_2, c_3]; done)]
          exact hP
        have hD9 : va_D A ([wp_B ha x, wp_D hd cD 8 (fb_calcr x rg)]) := by
          rw [show fb_calcr x rg = fb_keepr x (FP.dmul (fb_x x rg) (fb_y x rg)) rg from by first | rfl | (simp [fb_calcr, fb_calcb, c_1, c_2, c_3]; done)]
          exact hD
        exact W.zret hx hb hr (sf_b_nb _) (fun t ht _ => ⟨rfl, by rw [ht]; exact hP9, hAe ▸ hD9, hAe ▸ hS.F ht⟩) (fun q hq => by rw [← hAe]; exact hS.2.2 q hq) dX0_calculate_77
      · skip
        by_cases c_4 : x.1 = 7
        · refine lv_tableIn (off := 59) (tgt := 78) hx hb dX0_calculate_19 (by rw [c_4]; decide) (by rw [c_4]; decide) (by rw [c_4]; decide) (by decide) ?_
          refine lv_dload hx hb dX0_calculate_78 (lv_at hl 0 rfl) ?_
          refine lv_dconst0 hx hb dX0_calculate_80 ?_
          refine lv_dcmp hx hb dX0_calculate_81 ?_
          refine lv_if_eq (tgt := 101) hx hb dX0_calculate_82 (by decide) (fun c_5 => ?_) (fun c_5 => ?_)
          · have c_5 := sd_l_eq.mp c_5
            refine lv_iconst (v := sf_b false) hx hb dX0_calculate_101 (by decide) ?_
            refine sf_topi (y := sf_b (fb_calcb x rg)) (by first | rfl | (simp [fb_calcr, fb_calcb, c_1, c_2, c_3, c_4, c_5]; done)) ?_
            have hP9 : va_P (dC, dI) vwCl ([wp_B ha x, wp_D hd cD 8 (fb_calcr x rg)]) s.heap := by
              rw [show fb_calcr x rg = rg from by first | rfl | (simp [fb_calcr, fb_calcb, c_1, c_2, c_3, c_4, c_5]; done)]
              exact hP
            have hD9 : va_D A ([wp_B ha x, wp_D hd cD 8 (fb_calcr x rg)]) := by
              rw [show fb_calcr x rg = rg from by first | rfl | (simp [fb_calcr, fb_calcb, c_1, c_2, c_3, c_4, c_5]; done)]
              exact hD
            exact W.zret hx hb hr (sf_b_nb _) (fun t ht _ => ⟨rfl, by rw [ht]; exact hP9, hAe ▸ hD9, hAe ▸ hS.F ht⟩) (fun q hq => by rw [← hAe]; exact hS.2.2 q hq) dX0_calculate_102
          · have c_5 := sd_nl_eq c_5
            refine lv_aload_n hx hb dX0_calculate_85 rfl (lv_at hl 2 rfl) ?_
            refine lv_dload_n hx hb dX0_calculate_86 rfl (lv_at hl 1 rfl) ?_
            refine lv_dload hx hb dX0_calculate_87 (lv_at hl 0 rfl) ?_
            refine lv_ddiv hx hb dX0_calculate_89 (sd_div (kx.fin (by decide)) (ky.fin (by decide)) c_5) ?_
            refine lv_aload_n hx hb dX0_calculate_90 rfl (lv_at hl 3 rfl) ?_
            have hPc : va_P (dC, dI) vwCl ([(ha, .inr (0, [.int x.1, .int x.2.1, .int x.2.2.1, .int x.2.2.2.1, .double x.2.2.2.2.1, .int (sf_b x.2.2.2.2.2.1), .int x.2.2.2.2.2.2.1, .int (sf_b x.2.2.2.2.2.2.2.1), .double x.2.2.2.2.2.2.2.2.1, .double x.2.2.2.2.2.2.2.2.2.1, .int x.2.2.2.2.2.2.2.2.2.2.1, .int x.2.2.2.2.2.2.2.2.2.2.2])), (hd, .inl (cD, 8, .inr (.inr (.inr (.inl rg)))))] ++ []) s.heap := hP.sub [0, 1] rfl
            have hDc : va_D A ([(ha, .inr (0, [.int x.1, .int x.2.1, .int x.2.2.1, .int x.2.2.2.1, .double x.2.2.2.2.1, .int (sf_b x.2.2.2.2.2.1), .int x.2.2.2.2.2.2.1, .int (sf_b x.2.2.2.2.2.2.2.1), .double x.2.2.2.2.2.2.2.2.1, .double x.2.2.2.2.2.2.2.2.2.1, .int x.2.2.2.2.2.2.2.2.2.2.1, .int x.2.2.2.2.2.2.2.2.2.2.2])), (hd, .inl (cD, 8, .inr (.inr (.inr (.inl rg)))))] ++ []) := hD.sub [0, 1] (by decide) rfl
            refine sf_callVi (va_runV (As := [.double (FP.ddiv (fb_x x rg) (fb_y x rg)), .ref hd]) (rest := []) ⟨hx, hb, hml, hown, hg⟩ (c_X0_keep l dC dI cD ha hd x rg (FP.ddiv (fb_x x rg) (fb_y x rg)) _ hc) (cwV 2 hg (gw_V mw_421 mw_423 mw_9 mw_23 mw_424) rfl rfl rfl (by decide +kernel) ⟨Nat.le_of_ble_eq_true rfl, Nat.le_of_ble_eq_true rfl⟩) (sf_preVV (va_recv hK hP (ci := 0) (q0 := 0) rfl rfl) hK hZ hPc hDc) rfl rfl hl.1 rfl (lv_room (Nat.le_of_ble_eq_true rfl)) dX0_calculate_91 ⟨Nat.zero_le _, Nat.zero_le _⟩) hS hPc hDc hA (fun H locs hP hD hS => ?_)
            have hP : va_P (dC, dI) vwCl [(ha, .inr (0, [.int x.1, .int x.2.1, .int x.2.2.1, .int x.2.2.2.1, .double x.2.2.2.2.1, .int (sf_b x.2.2.2.2.2.1), .int x.2.2.2.2.2.2.1, .int (sf_b x.2.2.2.2.2.2.2.1), .double x.2.2.2.2.2.2.2.2.1, .double x.2.2.2.2.2.2.2.2.2.1, .int x.2.2.2.2.2.2.2.2.2.2.1, .int x.2.2.2.2.2.2.2.2.2.2.2])), (hd, .inl (cD, 8, .inr (.inr (.inr (.inl (fb_keepr x (FP.ddiv (fb_x x rg) (fb_y x rg)) rg))))))] H := hP
            have hD : va_D A [(ha, .inr (0, [.int x.1, .int x.2.1, .int x.2.2.1, .int x.2.2.2.1, .double x.2.2.2.2.1, .int (sf_b x.2.2.2.2.2.1), .int x.2.2.2.2.2.2.1, .int (sf_b x.2.2.2.2.2.2.2.1), .double x.2.2.2.2.2.2.2.2.1, .double x.2.2.2.2.2.2.2.2.2.1, .int x.2.2.2.2.2.2.2.2.2.2.1, .int x.2.2.2.2.2.2.2.2.2.2.2])), (hd, .inl (cD, 8, .inr (.inr (.inr (.inl (fb_keepr x (FP.ddiv (fb_x x rg) (fb_y x rg)) rg))))))] := hD
            refine sf_ifeq (tgt := 101) hx hb dX0_calculate_94 (by decide) (fun c_6 => ?_) (fun c_6 => ?_)
            · refine lv_iconst (v := sf_b false) hx hb dX0_calculate_101 (by decide) ?_
              refine sf_topi (y := sf_b (fb_calcb x rg)) (by first | rfl | (simp [fb_calcr, fb_calcb, c_1, c_2, c_3, c_4, c_5, c_6]; done)) ?_
              have hP9 : va_P (dC, dI) vwCl ([wp_B ha x, wp_D hd cD 8 (fb_calcr x rg)]) H := by
                rw [show fb_calcr x rg = fb_keepr x (FP.ddiv (fb_x x rg) (fb_y x rg)) rg from by first | rfl | (simp [fb_calcr, fb_calcb, c_1, c_2, c_3, c_4, c_5, c_6]; done)]
                exact hP
              have hD9 : va_D A ([wp_B ha x, wp_D hd cD 8 (fb_calcr x rg)]) := by
                rw [show fb_calcr x rg = fb_keepr x (FP.ddiv (fb_x x rg) (fb_y x rg)) rg from by first | rfl | (simp [fb_calcr, fb_calcb, c_1, c_2, c_3, c_4, c_5, c_6]; done)]
                exact hD
              exact W.zret hx hb hr (sf_b_nb _) (fun t ht _ => ⟨rfl, by rw [ht]; exact hP9, hAe ▸ hD9, hAe ▸ hS.F ht⟩) (fun q hq => by rw [← hAe]; exact hS.2.2 q hq) dX0_calculate_102
            · refine lv_iconst (v := sf_b true) hx hb dX0_calculate_97 (by decide) ?_
              refine lv_goto (tgt := 102) hx hb dX0_calculate_98 (by decide) ?_
              refine sf_topi (y := sf_b (fb_calcb x rg)) (by first | rfl | (simp [fb_calcr, fb_calcb, c_1, c_2, c_3, c_4, c_5, c_6]; done)) ?_
              have hP9 : va_P (dC, dI) vwCl ([wp_B ha x, wp_D hd cD 8 (fb_calcr x rg)]) H := by
                rw [show fb_calcr x rg = fb_keepr x (FP.ddiv (fb_x x rg) (fb_y x rg)) rg from by first | rfl | (simp [fb_calcr, fb_calcb, c_1, c_2, c_3, c_4, c_5, c_6]; done)]
                exact hP
              have hD9 : va_D A ([wp_B ha x, wp_D hd cD 8 (fb_calcr x rg)]) := by
                rw [show fb_calcr x rg = fb_keepr x (FP.ddiv (fb_x x rg) (fb_y x rg)) rg from by first | rfl | (simp [fb_calcr, fb_calcb, c_1, c_2, c_3, c_4, c_5, c_6]; done)]
                exact hD
              exact W.zret hx hb hr (sf_b_nb _) (fun t ht _ => ⟨rfl, by rw [ht]; exact hP9, hAe ▸ hD9, hAe ▸ hS.F ht⟩) (fun q hq => by rw [← hAe]; exact hS.2.2 q hq) dX0_calculate_102
        · skip
          have h_7 : x.1.toInt < 4 ∨ 7 < x.1.toInt := by
            have q0 : ¬ x.1.toInt = 4 := lv_neT c_1 (by decide)
            have q1 : ¬ x.1.toInt = 5 := lv_neT c_2 (by decide)
            have q2 : ¬ x.1.toInt = 6 := lv_neT c_3 (by decide)
            have q3 : ¬ x.1.toInt = 7 := lv_neT c_4 (by decide)
            omega
          refine lv_tableOut (tgt := 103) hx hb dX0_calculate_19 h_7 (by decide) ?_
          refine lv_dload hx hb dX0_calculate_103 (lv_at hl 0 rfl) ?_
          refine lv_aload_n hx hb dX0_calculate_105 rfl (lv_at hl 2 rfl) ?_
          refine va_get (D := (dC, dI)) (ci := 0) (v := .double x.2.2.2.2.1) (C := RX0) (T := TX0) (N := 12) hx hb hg in_X0 hown hK hP 0 rfl rfl 4 (by decide) (hg _ mw_85) (fun _ h9 => h9) rfl dX0_calculate_106 ?_
          refine lv_dcmp hx hb dX0_calculate_109 ?_
          refine lv_if_gt (tgt := 135) hx hb dX0_calculate_110 (by decide) (fun c_8 => ?_) (fun c_8 => ?_)
          · have c_8 := sd_g_gt.mp c_8
            refine lv_iconst (v := sf_b false) hx hb dX0_calculate_135 (by decide) ?_
            refine sf_topi (y := sf_b (fb_calcb x rg)) (by first | rfl | (simp [fb_calcr, fb_calcb, c_1, c_2, c_3, c_4, c_8]; done)) ?_
            have hP9 : va_P (dC, dI) vwCl ([wp_B ha x, wp_D hd cD 8 (fb_calcr x rg)]) s.heap := by
              rw [show fb_calcr x rg = rg from by first | rfl | (simp [fb_calcr, fb_calcb, c_1, c_2, c_3, c_4, c_8]; done)]
              exact hP
            have hD9 : va_D A ([wp_B ha x, wp_D hd cD 8 (fb_calcr x rg)]) := by
              rw [show fb_calcr x rg = rg from by first | rfl | (simp [fb_calcr, fb_calcb, c_1, c_2, c_3, c_4, c_8]; done)]
              exact hD
            exact W.zret hx hb hr (sf_b_nb _) (fun t ht _ => ⟨rfl, by rw [ht]; exact hP9, hAe ▸ hD9, hAe ▸ hS.F ht⟩) (fun q hq => by rw [← hAe]; exact hS.2.2 q hq) dX0_calculate_136
          · have c_8 := sd_ng_gt c_8
            refine lv_aload_n hx hb dX0_calculate_113 rfl (lv_at hl 2 rfl) ?_
            refine lv_dload_n hx hb dX0_calculate_114 rfl (lv_at hl 1 rfl) ?_
            refine lv_dload hx hb dX0_calculate_115 (lv_at hl 0 rfl) ?_
            refine lv_aload_n hx hb dX0_calculate_117 rfl (lv_at hl 2 rfl) ?_
            refine va_get (D := (dC, dI)) (ci := 0) (v := .double x.2.2.2.2.1) (C := RX0) (T := TX0) (N := 12) hx hb hg in_X0 hown hK hP 0 rfl rfl 4 (by decide) (hg _ mw_85) (fun _ h9 => h9) rfl dX0_calculate_118 ?_
            refine sf_callRd (va_runS (As := [.double (fb_x x rg), .double (fb_y x rg), .double x.2.2.2.2.1]) (rest := [.ref ha]) ⟨hx, hb, hml, hown, hg⟩ (c_X0_limited l (fb_x x rg) (fb_y x rg) x.2.2.2.2.1) (cwS 3 hg (gw_S mw_417 mw_418 mw_23 mw_419) rfl rfl rfl (by decide +kernel) ⟨Nat.le_of_ble_eq_true rfl, Nat.le_of_ble_eq_true rfl⟩) sf_pre0 rfl rfl hl.1 rfl (lv_room (Nat.le_of_ble_eq_true rfl)) dX0_calculate_121 ⟨Nat.zero_le _, Nat.zero_le _⟩) ?_
            refine lv_aload_n hx hb dX0_calculate_124 rfl (lv_at hl 3 rfl) ?_
            have hPc : va_P (dC, dI) vwCl ([(ha, .inr (0, [.int x.1, .int x.2.1, .int x.2.2.1, .int x.2.2.2.1, .double x.2.2.2.2.1, .int (sf_b x.2.2.2.2.2.1), .int x.2.2.2.2.2.2.1, .int (sf_b x.2.2.2.2.2.2.2.1), .double x.2.2.2.2.2.2.2.2.1, .double x.2.2.2.2.2.2.2.2.2.1, .int x.2.2.2.2.2.2.2.2.2.2.1, .int x.2.2.2.2.2.2.2.2.2.2.2])), (hd, .inl (cD, 8, .inr (.inr (.inr (.inl rg)))))] ++ []) s.heap := hP.sub [0, 1] rfl
            have hDc : va_D A ([(ha, .inr (0, [.int x.1, .int x.2.1, .int x.2.2.1, .int x.2.2.2.1, .double x.2.2.2.2.1, .int (sf_b x.2.2.2.2.2.1), .int x.2.2.2.2.2.2.1, .int (sf_b x.2.2.2.2.2.2.2.1), .double x.2.2.2.2.2.2.2.2.1, .double x.2.2.2.2.2.2.2.2.2.1, .int x.2.2.2.2.2.2.2.2.2.2.1, .int x.2.2.2.2.2.2.2.2.2.2.2])), (hd, .inl (cD, 8, .inr (.inr (.inr (.inl rg)))))] ++ []) := hD.sub [0, 1] (by decide) rfl
            refine sf_callVi (va_runV (As := [.double (fc_lim (fb_x x rg) (fb_y x rg) x.2.2.2.2.1), .ref hd]) (rest := []) ⟨hx, hb, hml, hown, hg⟩ (c_X0_keep l dC dI cD ha hd x rg (fc_lim (fb_x x rg) (fb_y x rg) x.2.2.2.2.1) _ hc) (cwV 2 hg (gw_V mw_421 mw_423 mw_9 mw_23 mw_424) rfl rfl rfl (by decide +kernel) ⟨Nat.le_of_ble_eq_true rfl, Nat.le_of_ble_eq_true rfl⟩) (sf_preVV (va_recv hK hP (ci := 0) (q0 := 0) rfl rfl) hK hZ hPc hDc) rfl rfl hl.1 rfl (lv_room (Nat.le_of_ble_eq_true rfl)) dX0_calculate_125 ⟨Nat.zero_le _, Nat.zero_le _⟩) hS hPc hDc hA (fun H locs hP hD hS => ?_)
            have hP : va_P (dC, dI) vwCl [(ha, .inr (0, [.int x.1, .int x.2.1, .int x.2.2.1, .int x.2.2.2.1, .double x.2.2.2.2.1, .int (sf_b x.2.2.2.2.2.1), .int x.2.2.2.2.2.2.1, .int (sf_b x.2.2.2.2.2.2.2.1), .double x.2.2.2.2.2.2.2.2.1, .double x.2.2.2.2.2.2.2.2.2.1, .int x.2.2.2.2.2.2.2.2.2.2.1, .int x.2.2.2.2.2.2.2.2.2.2.2])), (hd, .inl (cD, 8, .inr (.inr (.inr (.inl (fb_keepr x (fc_lim (fb_x x rg) (fb_y x rg) x.2.2.2.2.1) rg))))))] H := hP
            have hD : va_D A [(ha, .inr (0, [.int x.1, .int x.2.1, .int x.2.2.1, .int x.2.2.2.1, .double x.2.2.2.2.1, .int (sf_b x.2.2.2.2.2.1), .int x.2.2.2.2.2.2.1, .int (sf_b x.2.2.2.2.2.2.2.1), .double x.2.2.2.2.2.2.2.2.1, .double x.2.2.2.2.2.2.2.2.2.1, .int x.2.2.2.2.2.2.2.2.2.2.1, .int x.2.2.2.2.2.2.2.2.2.2.2])), (hd, .inl (cD, 8, .inr (.inr (.inr (.inl (fb_keepr x (fc_lim (fb_x x rg) (fb_y x rg) x.2.2.2.2.1) rg))))))] := hD
            refine sf_ifeq (tgt := 135) hx hb dX0_calculate_128 (by decide) (fun c_9 => ?_) (fun c_9 => ?_)
            · refine lv_iconst (v := sf_b false) hx hb dX0_calculate_135 (by decide) ?_
              refine sf_topi (y := sf_b (fb_calcb x rg)) (by first | rfl | (simp [fb_calcr, fb_calcb, c_1, c_2, c_3, c_4, c_8, c_9]; done)) ?_
              have hP9 : va_P (dC, dI) vwCl ([wp_B ha x, wp_D hd cD 8 (fb_calcr x rg)]) H := by
                rw [show fb_calcr x rg = fb_keepr x (fc_lim (fb_x x rg) (fb_y x rg) x.2.2.2.2.1) rg from by first | rfl | (simp [fb_calcr, fb_calcb, c_1, c_2, c_3, c_4, c_8, c_9]; done)]
                exact hP
              have hD9 : va_D A ([wp_B ha x, wp_D hd cD 8 (fb_calcr x rg)]) := by
                rw [show fb_calcr x rg = fb_keepr x (fc_lim (fb_x x rg) (fb_y x rg) x.2.2.2.2.1) rg from by first | rfl | (simp [fb_calcr, fb_calcb, c_1, c_2, c_3, c_4, c_8, c_9]; done)]
                exact hD
              exact W.zret hx hb hr (sf_b_nb _) (fun t ht _ => ⟨rfl, by rw [ht]; exact hP9, hAe ▸ hD9, hAe ▸ hS.F ht⟩) (fun q hq => by rw [← hAe]; exact hS.2.2 q hq) dX0_calculate_136
            · refine lv_iconst (v := sf_b true) hx hb dX0_calculate_131 (by decide) ?_
              refine lv_goto (tgt := 136) hx hb dX0_calculate_132 (by decide) ?_
              refine sf_topi (y := sf_b (fb_calcb x rg)) (by first | rfl | (simp [fb_calcr, fb_calcb, c_1, c_2, c_3, c_4, c_8, c_9]; done)) ?_
              have hP9 : va_P (dC, dI) vwCl ([wp_B ha x, wp_D hd cD 8 (fb_calcr x rg)]) H := by
                rw [show fb_calcr x rg = fb_keepr x (fc_lim (fb_x x rg) (fb_y x rg) x.2.2.2.2.1) rg from by first | rfl | (simp [fb_calcr, fb_calcb, c_1, c_2, c_3, c_4, c_8, c_9]; done)]
                exact hP
              have hD9 : va_D A ([wp_B ha x, wp_D hd cD 8 (fb_calcr x rg)]) := by
                rw [show fb_calcr x rg = fb_keepr x (fc_lim (fb_x x rg) (fb_y x rg) x.2.2.2.2.1) rg from by first | rfl | (simp [fb_calcr, fb_calcb, c_1, c_2, c_3, c_4, c_8, c_9]; done)]
                exact hD
              exact W.zret hx hb hr (sf_b_nb _) (fun t ht _ => ⟨rfl, by rw [ht]; exact hP9, hAe ▸ hD9, hAe ▸ hS.F ht⟩) (fun q hq => by rw [← hAe]; exact hS.2.2 q hq) dX0_calculate_136
end
