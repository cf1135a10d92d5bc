/-! rows of the law's body: script reads, compares, orders of cells -/
section SFL2
variable {p : Program} {l : Launch} {e : Env} {R : Room} {s : State} {m : MethodId} {args : Array Value} {below : List Frame} {meth : Method} {c : Code} {cc : ByteArray} {H : Heap} {locs : List Loc} {cells slots : Nat} {Q : State → Prop}
variable {pc : Nat} {ls : Array Slot} {rest : List Value} {A : Nat → Prop} {H0 : Heap}
theorem sf_sld (hexec : p.tables.exec = Jvm.exec) (hb : c.code = cc) {b L : Nat} {xs : Nat → Int32} (hX : va_X b L xs s H0) (hbl : b < H0.size) (hbA : ¬ A b) (hS : va_S A H0 H locs) {i : Int32} (k : Nat) (hi : i = nI k) (hk : k < L) (hL : L ≤ 3584) (hdg : decode cc pc = .ok (.iaload, 1))
    (kk : W p l e R s m args below meth c H locs cells slots Q (F0 m (pc + 1) ls (.int (xs k) :: rest))) : W p l e R s m args below meth c H locs cells slots Q (F0 m pc ls (.int i :: .ref b :: rest)) := by
  subst hi
  refine va_sld hexec hb hX hbl hbA hS (vp_in_nI hk (by omega)) hdg ?_
  rw [nI_clamp (by omega)]
  exact kk
end SFL2
def nz (v : Int32) : Bool := decide (¬ v = 0)
def e8 (v : Int32) : UInt64 := FP.dmul (FP.i2d v) 4593671619917905920
theorem e8_nn (v : Int32) : vf_n64 (FP.dmul (FP.i2d v) 4593671619917905920) := by
  have h : sd_K 1056 (FP.i2d v) := FP.Core.i2d_mag v
  exact (sd_mul h kk_125 (by decide) (by decide)).nn (by decide)
theorem kz2 {C1 C2 : Bool} (h : kc2 C1 C2 = 0) {α : Type} {a b : α} : yn2 C1 C2 a b = a := by
  cases C1 <;> cases C2 <;> first | rfl | exact absurd h (by decide)
theorem kz1 {C1 : Bool} (h : kc1 C1 = 0) {α : Type} {a b : α} : yn1 C1 a b = a := by
  cases C1 <;> first | rfl | exact absurd h (by decide)
theorem kzs {k : Int32} (h : k = 0) {α : Type} {a b : α} : yns k a b = a := if_pos h
theorem pm_j {α : Type} (x y : α) (S M : List α) : List.Perm ([x, y] ++ (S ++ M)) (([x] ++ S) ++ ([y] ++ M)) := ((List.perm_middle (a := y) (l₁ := S) (l₂ := M)).symm).cons x
theorem pm_dd {α : Type} (x y : α) (S M : List α) : List.Perm ([x, y] ++ (S ++ M)) (([y] ++ S) ++ ([x] ++ M)) := (List.Perm.swap y x (S ++ M)).trans (pm_j y x S M)
theorem pm_m {α : Type} (x y : α) (S M : List α) : List.Perm ([x, y] ++ (S ++ M)) (M ++ ([x, y] ++ S)) := List.perm_append_comm (l₁ := [x, y] ++ S) (l₂ := M)
theorem pm_s {α : Type} (x y : α) (S M : List α) : List.Perm ([x, y] ++ (S ++ M)) (S ++ ([x, y] ++ M)) := by
  have h := (List.perm_append_comm (l₁ := [x, y]) (l₂ := S)).append_right M
  rw [List.append_assoc S] at h
  exact h
theorem lp_f {i L : Nat} (hi : i ≤ 3584) (hL : L ≤ 3584) (h : ¬ nI L - 7 < nI i) : i + 7 ≤ L := by
  have h1 : (nI L - 7).toInt = (L : Int) - 7 := by
    rw [Int32.toInt_sub, nI_toInt (by omega), show (7 : Int32).toInt = 7 by decide]
    exact Int.bmod_eq_of_le (by omega) (by omega)
  rw [Int32.lt_iff_toInt_lt, h1, nI_toInt (by omega)] at h
  omega
