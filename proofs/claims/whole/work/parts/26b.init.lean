/-! the object's constructor: families that grow -/
theorem pm_e {α : Type} (R X F : List α) : List.Perm (R ++ (X ++ F)) (X ++ (F ++ R)) := by
  rw [← List.append_assoc X F R]
  exact List.perm_append_comm
theorem sf_D_map {A : Nat → Prop} {ws ws' : va_W} (h : va_D A ws) (e : ws.map Prod.fst = ws'.map Prod.fst) : va_D A ws' := by
  have h1 := sf_D_iff.mp h
  refine sf_D_iff.mpr ⟨e ▸ h1.1, fun q hq => ?_⟩
  have h2 : q.1 ∈ ws'.map Prod.fst := List.mem_map.mpr ⟨q, hq, rfl⟩
  rw [← e] at h2
  obtain ⟨x, hx, hxq⟩ := List.mem_map.mp h2
  exact hxq ▸ h1.2 x hx
theorem sf_P_swap {D : va_G} {cl : List vw_C} {pre post : va_W} {H : Heap} {q n : Nat} {cA : ClassId} {f g : Nat → Option Nat} (h : va_P D cl (pre ++ (q, .inl (cA, n, .inr (.inr (.inr (.inr f))))) :: post) H) (e : ∀ j, j < n → f j = g j) : va_P D cl (pre ++ (q, .inl (cA, n, .inr (.inr (.inr (.inr g))))) :: post) H := by
  have h1 := sf_P_iff.mp h
  refine sf_P_iff.mpr fun x hx => ?_
  rcases List.mem_append.mp hx with hx | hx
  · exact h1 x (List.mem_append_left _ hx)
  · rcases List.mem_cons.mp hx with rfl | hx
    · have h2 := h1 (q, .inl (cA, n, .inr (.inr (.inr (.inr f))))) (List.mem_append_right _ List.mem_cons_self)
      show H[q]? = some (vp_cell cA (n, .inr (.inr (.inr (.inr g)))))
      rw [vp_cell_q, ← sf_arr (f := fun j => va_rf (f j)) (fun j hj => by rw [e j hj]), ← vp_cell_q]
      exact h2
    · exact h1 x (List.mem_append_right _ (List.mem_cons_of_mem _ hx))
def in_f (n : Nat) (ad : Nat → Nat) : Nat → Option Nat := fun g => if g < n then some (ad g) else none
theorem in_f0 (ad : Nat → Nat) : in_f 0 ad = fun _ => none := rfl
theorem in_fs {n : Nat} {ad ad' : Nat → Nat} {v : Nat} (h : ∀ j, j < n → ad' j = ad j) (hv : ad' n = v) : va_up (in_f n ad) n (some v) = in_f (n + 1) ad' := by
  funext g
  unfold va_up in_f
  by_cases q : g = n
  · subst q
    rw [if_pos rfl, if_pos (Nat.lt_succ_self g), hv]
  · rw [if_neg q]
    by_cases k : g < n
    · rw [if_pos k, if_pos (Nat.lt_succ_of_lt k), h g k]
    · rw [if_neg k, if_neg (by omega)]
theorem in_fall {n : Nat} {ad : Nat → Nat} : ∀ j, j < n → in_f n ad j = some (ad j) := fun j hj => if_pos hj
def in_rs (cI cZ : ClassId) (n : Nat) (ra : Nat → Nat → Nat) : va_W := (List.range n).flatMap (fun g => wp_R cI cZ (ra g) st_R0)
def in_bs (n : Nat) (ba : Nat → Nat) : va_W := (List.range n).flatMap (fun k => [wp_B (ba k) st_B0])
theorem in_rs1 {cI cZ : ClassId} {n : Nat} {ra : Nat → Nat → Nat} {a : Nat → Nat} : in_rs cI cZ n ra ++ wp_R cI cZ a st_R0 = in_rs cI cZ (n + 1) (va_up ra n a) := by
  unfold in_rs
  rw [fam_succ, va_up_self]
  exact congrArg (· ++ wp_R cI cZ a st_R0) (fam_up (fun j hj => by rw [va_up_ne ra a (Nat.ne_of_lt hj)]))
theorem in_bs1 {n : Nat} {ba : Nat → Nat} {q : Nat} : in_bs n ba ++ [wp_B q st_B0] = in_bs (n + 1) (va_up ba n q) := by
  unfold in_bs
  rw [fam_succ, va_up_self]
  exact congrArg (· ++ [wp_B q st_B0]) (fam_up (fun j hj => by rw [va_up_ne ba q (Nat.ne_of_lt hj)]))
theorem in_rs5 (cI cZ : ClassId) (ra : Nat → Nat → Nat) : in_rs cI cZ 5 ra = wp_rs cI cZ ra (fun _ => st_R0) := rfl
theorem in_bs8 (ba : Nat → Nat) : in_bs 8 ba = wp_bs ba (fun _ => st_B0) := rfl
