/-! the class's object: its picture, and its parts in front -/
theorem sf_P_subT {D : va_G} {cl : List vw_C} {E E' T : va_W} {H : Heap} (h : va_P D cl (E ++ T) H) (is : List Nat) (hs : is.filterMap (fun i => E[i]?) = E') : va_P D cl (E' ++ T) H :=
  ((sf_P_left h).sub is hs).app (sf_P_right h)
theorem sf_D_subT {A : Nat → Prop} {E E' T : va_W} (h : va_D A (E ++ T)) (is : List Nat) (hn : va_nd is = true) (hs : is.map (fun i => E[i]?) = E'.map some) : va_D A (E' ++ T) := by
  have h1 := sf_D_iff.mp h
  rw [List.map_append, List.nodup_append] at h1
  have h2 := sf_D_iff.mp ((sf_D_left h).sub is hn hs)
  have hmem : ∀ q ∈ E', q ∈ E := by
    intro q hq
    have : some q ∈ E'.map some := List.mem_map.mpr ⟨q, hq, rfl⟩
    rw [← hs] at this
    obtain ⟨i, -, hi⟩ := List.mem_map.mp this
    exact List.mem_of_getElem? hi
  refine sf_D_iff.mpr ⟨?_, fun q hq => ?_⟩
  · rw [List.map_append, List.nodup_append]
    refine ⟨h2.1, h1.1.2.1, fun a ha b hb => ?_⟩
    obtain ⟨x, hx, rfl⟩ := List.mem_map.mp ha
    exact h1.1.2.2 _ (List.mem_map.mpr ⟨x, hmem x hx, rfl⟩) b hb
  · rcases List.mem_append.mp hq with h9 | h9
    · exact h2.2 q h9
    · exact h1.2 q (List.mem_append_right _ h9)
/-- bits, registers, rungs, blocks, scans, faults, haltedBy -/
abbrev st_S : Type := (Nat → Bool) × (Nat → UInt64) × (Nat → st_R) × (Nat → st_B) × Int32 × Int32 × Int32
abbrev wp_A (a : Nat) (cA : ClassId) (n : Nat) (f : Nat → Option Nat) : Nat × va_E := (a, .inl (cA, n, .inr (.inr (.inr (.inr f)))))
abbrev wp_O (o : Nat → Nat) (sc fl hb : Int32) : Nat × va_E := (o 0, .inr (2, [.ref (o 1), .ref (o 2), .ref (o 3), .ref (o 4), .int sc, .int fl, .int hb]))
/-- the object and its four arrays -/
abbrev wp_H (cZ cD cR cB : ClassId) (o : Nat → Nat) (ra : Nat → Nat → Nat) (ba : Nat → Nat) (bt : Nat → Bool) (rg : Nat → UInt64) (sc fl hb : Int32) : va_W :=
  [wp_O o sc fl hb, wp_Z (o 1) cZ 24 bt, wp_D (o 2) cD 8 rg, wp_A (o 3) cR 5 (fun g => some (ra g 0)), wp_A (o 4) cB 8 (fun k => some (ba k))]
def wp_rs (cI cZ : ClassId) (ra : Nat → Nat → Nat) (rs : Nat → st_R) : va_W := (List.range 5).flatMap (fun g => wp_R cI cZ (ra g) (rs g))
def wp_rx (cI cZ : ClassId) (ra : Nat → Nat → Nat) (rs : Nat → st_R) (g : Nat) : va_W := ((List.range 5).erase g).flatMap (fun g => wp_R cI cZ (ra g) (rs g))
def wp_bs (ba : Nat → Nat) (bs : Nat → st_B) : va_W := (List.range 8).flatMap (fun k => [wp_B (ba k) (bs k)])
def wp_bx (ba : Nat → Nat) (bs : Nat → st_B) (k : Nat) : va_W := ((List.range 8).erase k).flatMap (fun k => [wp_B (ba k) (bs k)])
theorem wp_rx_up {cI cZ : ClassId} {ra : Nat → Nat → Nat} {rs : Nat → st_R} {g : Nat} {r : st_R} : wp_rx cI cZ ra (va_up rs g r) g = wp_rx cI cZ ra rs g := sf_er (fun j hj => by rw [va_up_ne rs r hj])
theorem wp_bx_up {ba : Nat → Nat} {bs : Nat → st_B} {k : Nat} {b : st_B} : wp_bx ba (va_up bs k b) k = wp_bx ba bs k := sf_er (fun j hj => by rw [va_up_ne bs b hj])
/-- rung g in front of X and Y -/
theorem pm_r {cI cZ : ClassId} {ra : Nat → Nat → Nat} {rs : Nat → st_R} {g : Nat} (hg : g < 5) (X Y : va_W) : List.Perm (X ++ (wp_rs cI cZ ra rs ++ Y)) (wp_R cI cZ (ra g) (rs g) ++ (X ++ (wp_rx cI cZ ra rs g ++ Y))) := sf_pick hg _ X Y
theorem pm_b {ba : Nat → Nat} {bs : Nat → st_B} {k : Nat} (hk : k < 8) (X Y : va_W) : List.Perm (X ++ (wp_bs ba bs ++ Y)) ([wp_B (ba k) (bs k)] ++ (X ++ (wp_bx ba bs k ++ Y))) := sf_pick hk _ X Y
/-- back again, the rung being r now -/
theorem pm_r' {cI cZ : ClassId} {ra : Nat → Nat → Nat} {rs : Nat → st_R} {g : Nat} {r : st_R} (hg : g < 5) (X Y : va_W) : List.Perm (wp_R cI cZ (ra g) r ++ (X ++ (wp_rx cI cZ ra rs g ++ Y))) (X ++ (wp_rs cI cZ ra (va_up rs g r) ++ Y)) := by
  have h := (pm_r (cI := cI) (cZ := cZ) (ra := ra) (rs := va_up rs g r) hg X Y).symm
  rw [wp_rx_up, va_up_self] at h
  exact h
theorem pm_b' {ba : Nat → Nat} {bs : Nat → st_B} {k : Nat} {b : st_B} (hk : k < 8) (X Y : va_W) : List.Perm ([wp_B (ba k) b] ++ (X ++ (wp_bx ba bs k ++ Y))) (X ++ (wp_bs ba (va_up bs k b) ++ Y)) := by
  have h := (pm_b (ba := ba) (bs := va_up bs k b) hk X Y).symm
  rw [wp_bx_up, va_up_self] at h
  exact h
-- what the object's methods compute
def fs_hlt (hb : Int32) : Bool := decide (¬ hb = -1)
/-- bits on among the first n -/
def fs_on (bt : Nat → Bool) : Nat → Nat
  | 0 => 0
  | n + 1 => fs_on bt n + (if bt n = true then 1 else 0)
theorem fs_on_le (bt : Nat → Bool) : ∀ n, fs_on bt n ≤ n
  | 0 => Nat.le_refl 0
  | n + 1 => by
    have := fs_on_le bt n
    unfold fs_on
    split <;> omega
def fs_off (bt : Nat → Bool) : Nat → Bool := va_up (va_up (va_up (va_up (va_up (va_up (va_up (va_up bt 8 false) 9 false) 10 false) 11 false) 12 false) 13 false) 14 false) 15 false
/-- bits, registers, blocks, faults, haltedBy -/
abbrev st_T : Type := (Nat → Bool) × (Nat → UInt64) × (Nat → st_B) × Int32 × Int32
abbrev wp_T (cZ cD cR cB : ClassId) (o : Nat → Nat) (ra : Nat → Nat → Nat) (ba : Nat → Nat) (sc : Int32) (x : st_T) : va_W :=
  wp_H cZ cD cR cB o ra ba x.1 x.2.1 sc x.2.2.2.1 x.2.2.2.2 ++ (wp_bs ba x.2.2.1 ++ [])
def fs_fault (x : st_T) (k : Nat) : st_T := if (x.2.2.1 k).2.2.2.2.2.1 = true then (va_up x.1 23 true, x.2.1, x.2.2.1, x.2.2.2.1 + 1, x.2.2.2.2) else (fs_off x.1, x.2.1, x.2.2.1, x.2.2.2.1 + 1, nI k)
def fs_blk (x : st_T) (k : Nat) (pw : Bool) : st_T := (fb_runz (x.2.2.1 k) pw x.1 x.2.1, fb_rund (x.2.2.1 k) pw x.2.1, va_up x.2.2.1 k (fb_run (x.2.2.1 k) pw x.1 x.2.1), x.2.2.2.1, x.2.2.2.2)
def fs_drive (x : st_T) (k n : Int32) (pw : Bool) : st_T :=
  if k = 1 then (va_up x.1 n.toNatClampNeg pw, x.2) else if k = 2 then (va_up x.1 n.toNatClampNeg (x.1 n.toNatClampNeg || pw), x.2) else if k = 3 then (va_up x.1 n.toNatClampNeg (x.1 n.toNatClampNeg && !pw), x.2)
  else if k = 4 then (if fb_runb (x.2.2.1 n.toNatClampNeg) pw x.2.1 = true then fs_blk x n.toNatClampNeg pw else fs_fault (fs_blk x n.toNatClampNeg pw) n.toNatClampNeg) else x
def fs_row (r : st_R) (x : st_T) (row : Nat) : st_T := if fs_hlt x.2.2.2.2 = true then x else fs_drive x (r.2.2.2.2.2.1 row) (r.2.2.2.2.2.2 row) (r.2.2.2.2.1 (row * 5 + 4))
def fs_rows (r : st_R) (x : st_T) : st_T := fs_row r (fs_row r (fs_row r x 0) 1) 2
def fs_rung (y : st_T × (Nat → st_R)) (g : Nat) : st_T × (Nat → st_R) := if fs_hlt y.1.2.2.2.2 = true then y else (fs_rows (fr_look (y.2 g) y.1.1) y.1, va_up y.2 g (fr_look (y.2 g) y.1.1))
def fs_scan (y : st_T × (Nat → st_R)) : st_T × (Nat → st_R) := fs_rung (fs_rung (fs_rung (fs_rung (fs_rung y 0) 1) 2) 3) 4
theorem ix_23 {x : Int32} (h : fc_btw x 8 23 = true) : fc_ix x 24 = true := by
  unfold fc_btw at h
  rw [Bool.and_eq_true, decide_eq_true_eq, decide_eq_true_eq] at h
  unfold fc_ix
  rw [Bool.and_eq_true, decide_eq_true_eq, decide_eq_true_eq]
  have h1 := h.1
  have h2 := h.2
  rw [Int32.lt_iff_toInt_lt] at h1 h2
  have e8 : (8 : Int32).toInt = 8 := by decide
  have e0 : (0 : Int32).toInt = 0 := by decide
  have e1 : (23 : Int32).toInt = 23 := by decide
  have e2 : (24 : Int32).toInt = 24 := by decide
  constructor
  · rw [Int32.lt_iff_toInt_lt]
    omega
  · rw [Int32.le_iff_toInt_le]
    omega
theorem coil_b {k n : Int32} (h : fc_isCoil k n = true) (hk : k = 1 ∨ k = 2 ∨ k = 3) : fc_ix n 24 = true := by
  rcases hk with rfl | rfl | rfl
  · exact ix_23 h
  · exact ix_23 h
  · exact ix_23 h
theorem coil_4 {k n : Int32} (h : fc_isCoil k n = true) (hk : k = 4) : fc_ix n 8 = true := by
  subst hk
  exact h
/-- the rung aside: the object and its blocks in front -/
theorem pm_d {α : Type} (R X T B : List α) : List.Perm (R ++ (X ++ (T ++ B))) ((X ++ B) ++ (R ++ T)) := by
  have h1 : List.Perm (R ++ (X ++ (T ++ B))) (X ++ (R ++ (T ++ B))) := List.perm_append_comm_assoc _ _ _
  have h2 : List.Perm (R ++ (T ++ B)) (B ++ (R ++ T)) := by
    rw [← List.append_assoc]
    exact List.perm_append_comm
  rw [List.append_assoc]
  exact h1.trans (h2.append_left X)
