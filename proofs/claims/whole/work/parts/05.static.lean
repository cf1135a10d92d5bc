set_option maxHeartbeats 4000000 in
set_option maxRecDepth 100000 in
theorem c_X2_isBetween (l : Launch) (i : Int32) (lo : Int32) (hi : Int32) : Met l yX2_isBetween wX2_isBetween ({ frames := 0, cells := 0, slots := 0, locals := 0 }) (sf_P0 [.int i, .int lo, .int hi]) (sf_R (some (.int (sf_b (fc_btw i lo hi))))) 0 0 (fun _ => False) := by
  refine Met.ofW (cc := cX2_isBetween) (maxL := 3) (ret := (some .boolean)) (by decide) rfl ?_
  intro p e s m args below meth c s₁ B hml hv
  have hx := B.exec
  have hb := B.bytes
  have hr := B.returns
  have hts := atoms_spec (ws := wX2_isBetween) B.pre
  have hg : ∀ w ∈ gw_all, w.before args s = true := fun w h => hts w (List.mem_cons_of_mem _ h)
  have hown : s.vm.findClass RX2 = some m.cls := findClass_of_methodNamed B.named
  have hlocks := B.notSynchronized
  obtain ⟨rfl, -⟩ := hv
  have hl := lv_entry ([.int i, .int lo, .int hi]) (n := 3) (Nat.le_of_ble_eq_true rfl)
  rw [lg_entry_eq]
  generalize (lg_sl ([.int i, .int lo, .int hi]) ++ List.replicate (3 - (lg_sl ([.int i, .int lo, .int hi])).length) Slot.unset).toArray = ls at hl ⊢
  have hl : lv_has ls 3 [(0, .int i), (1, .int lo), (2, .int hi)] := hl
  refine lv_iload_n hx hb dX2_isBetween_0 rfl (lv_at hl 0 rfl) ?_
  refine lv_iload_n hx hb dX2_isBetween_1 rfl (lv_at hl 1 rfl) ?_
  refine lv_icmp_lt (tgt := 14) hx hb dX2_isBetween_2 (by decide) (fun c_1 => ?_) (fun c_1 => ?_)
  · refine lv_iconst (v := sf_b false) hx hb dX2_isBetween_14 (by decide) ?_
    refine sf_topi (y := sf_b (fc_btw i lo hi)) (congrArg sf_b (by first | (simp [fc_btw, c_1]; done) | (clear hl; simp_all [fc_btw]; done))) ?_
    exact W.zret hx hb hr (sf_b_nb _) (fun t ht _ => ⟨rfl, ht⟩) (fun _ h => nomatch h) dX2_isBetween_15
  · refine lv_iload_n hx hb dX2_isBetween_5 rfl (lv_at hl 0 rfl) ?_
    refine lv_iload_n hx hb dX2_isBetween_6 rfl (lv_at hl 2 rfl) ?_
    refine lv_icmp_gt (tgt := 14) hx hb dX2_isBetween_7 (by decide) (fun c_2 => ?_) (fun c_2 => ?_)
    · refine lv_iconst (v := sf_b false) hx hb dX2_isBetween_14 (by decide) ?_
      refine sf_topi (y := sf_b (fc_btw i lo hi)) (congrArg sf_b (by first | (simp [fc_btw, c_1, c_2]; done) | (clear hl; simp_all [fc_btw]; done))) ?_
      exact W.zret hx hb hr (sf_b_nb _) (fun t ht _ => ⟨rfl, ht⟩) (fun _ h => nomatch h) dX2_isBetween_15
    · refine lv_iconst (v := sf_b true) hx hb dX2_isBetween_10 (by decide) ?_
      refine lv_goto (tgt := 15) hx hb dX2_isBetween_11 (by decide) ?_
      refine sf_topi (y := sf_b (fc_btw i lo hi)) (congrArg sf_b (by first | (simp [fc_btw, c_1, c_2]; done) | (clear hl; simp_all [fc_btw]; done))) ?_
      exact W.zret hx hb hr (sf_b_nb _) (fun t ht _ => ⟨rfl, ht⟩) (fun _ h => nomatch h) dX2_isBetween_15
set_option maxHeartbeats 4000000 in
set_option maxRecDepth 100000 in
theorem c_X2_isIndex (l : Launch) (i : Int32) (n : Int32) : Met l yX2_isIndex wX2_isIndex ({ frames := 0, cells := 0, slots := 0, locals := 0 }) (sf_P0 [.int i, .int n]) (sf_R (some (.int (sf_b (fc_ix i n))))) 0 0 (fun _ => False) := by
  refine Met.ofW (cc := cX2_isIndex) (maxL := 2) (ret := (some .boolean)) (by decide) rfl ?_
  intro p e s m args below meth c s₁ B hml hv
  have hx := B.exec
  have hb := B.bytes
  have hr := B.returns
  have hts := atoms_spec (ws := wX2_isIndex) B.pre
  have hg : ∀ w ∈ gw_all, w.before args s = true := fun w h => hts w (List.mem_cons_of_mem _ h)
  have hown : s.vm.findClass RX2 = some m.cls := findClass_of_methodNamed B.named
  have hlocks := B.notSynchronized
  obtain ⟨rfl, -⟩ := hv
  have hl := lv_entry ([.int i, .int n]) (n := 2) (Nat.le_of_ble_eq_true rfl)
  rw [lg_entry_eq]
  generalize (lg_sl ([.int i, .int n]) ++ List.replicate (2 - (lg_sl ([.int i, .int n])).length) Slot.unset).toArray = ls at hl ⊢
  have hl : lv_has ls 2 [(0, .int i), (1, .int n)] := hl
  refine lv_iload_n hx hb dX2_isIndex_0 rfl (lv_at hl 0 rfl) ?_
  refine lv_if_lt (tgt := 13) hx hb dX2_isIndex_1 (by decide) (fun c_1 => ?_) (fun c_1 => ?_)
  · refine lv_iconst (v := sf_b false) hx hb dX2_isIndex_13 (by decide) ?_
    refine sf_topi (y := sf_b (fc_ix i n)) (congrArg sf_b (by first | (simp [fc_ix, c_1]; done) | (clear hl; simp_all [fc_ix]; done))) ?_
    exact W.zret hx hb hr (sf_b_nb _) (fun t ht _ => ⟨rfl, ht⟩) (fun _ h => nomatch h) dX2_isIndex_14
  · refine lv_iload_n hx hb dX2_isIndex_4 rfl (lv_at hl 0 rfl) ?_
    refine lv_iload_n hx hb dX2_isIndex_5 rfl (lv_at hl 1 rfl) ?_
    refine lv_icmp_ge (tgt := 13) hx hb dX2_isIndex_6 (by decide) (fun c_2 => ?_) (fun c_2 => ?_)
    · refine lv_iconst (v := sf_b false) hx hb dX2_isIndex_13 (by decide) ?_
      refine sf_topi (y := sf_b (fc_ix i n)) (congrArg sf_b (by first | (simp [fc_ix, c_1, c_2]; done) | (clear hl; simp_all [fc_ix]; done))) ?_
      exact W.zret hx hb hr (sf_b_nb _) (fun t ht _ => ⟨rfl, ht⟩) (fun _ h => nomatch h) dX2_isIndex_14
    · refine lv_iconst (v := sf_b true) hx hb dX2_isIndex_9 (by decide) ?_
      refine lv_goto (tgt := 14) hx hb dX2_isIndex_10 (by decide) ?_
      refine sf_topi (y := sf_b (fc_ix i n)) (congrArg sf_b (by first | (simp [fc_ix, c_1, c_2]; done) | (clear hl; simp_all [fc_ix]; done))) ?_
      exact W.zret hx hb hr (sf_b_nb _) (fun t ht _ => ⟨rfl, ht⟩) (fun _ h => nomatch h) dX2_isIndex_14
set_option maxHeartbeats 4000000 in
set_option maxRecDepth 100000 in
theorem c_X2_isRow (l : Launch) (g : Int32) (r : Int32) : Met l yX2_isRow wX2_isRow ({ frames := 1, cells := 0, slots := 0, locals := 21 }) (sf_P0 [.int g, .int r]) (sf_R (some (.int (sf_b (fc_row g r))))) 0 0 (fun _ => False) := by
  refine Met.ofW (cc := cX2_isRow) (maxL := 2) (ret := (some .boolean)) (by decide) rfl ?_
  intro p e s m args below meth c s₁ B hml hv
  have hx := B.exec
  have hb := B.bytes
  have hr := B.returns
  have hts := atoms_spec (ws := wX2_isRow) B.pre
  have hg : ∀ w ∈ gw_all, w.before args s = true := fun w h => hts w (List.mem_cons_of_mem _ h)
  have hown : s.vm.findClass RX2 = some m.cls := findClass_of_methodNamed B.named
  have hlocks := B.notSynchronized
  obtain ⟨rfl, -⟩ := hv
  have hl := lv_entry ([.int g, .int r]) (n := 2) (Nat.le_of_ble_eq_true rfl)
  rw [lg_entry_eq]
  generalize (lg_sl ([.int g, .int r]) ++ List.replicate (2 - (lg_sl ([.int g, .int r])).length) Slot.unset).toArray = ls at hl ⊢
  have hl : lv_has ls 2 [(0, .int g), (1, .int r)] := hl
  refine lv_iload_n hx hb dX2_isRow_0 rfl (lv_at hl 0 rfl) ?_
  refine lv_iconst (v := 5) hx hb dX2_isRow_1 (by decide) ?_
  refine sf_callRi (va_runS (As := [.int g, .int 5]) (rest := []) ⟨hx, hb, hml, hown, hg⟩ (c_X2_isIndex l g 5) (cwS 2 hg (gw_S mw_163 mw_164 mw_21 mw_165) rfl rfl rfl (by decide +kernel) ⟨Nat.le_of_ble_eq_true rfl, Nat.le_of_ble_eq_true rfl⟩) sf_pre0 rfl rfl hl.1 rfl (lv_room (Nat.le_of_ble_eq_true rfl)) dX2_isRow_2 ⟨Nat.zero_le _, Nat.zero_le _⟩) ?_
  refine sf_ifeq (tgt := 20) hx hb dX2_isRow_5 (by decide) (fun c_1 => ?_) (fun c_1 => ?_)
  · refine lv_iconst (v := sf_b false) hx hb dX2_isRow_20 (by decide) ?_
    refine sf_topi (y := sf_b (fc_row g r)) (congrArg sf_b (by first | (simp [fc_row, c_1]; done) | (clear hl; simp_all [fc_row]; done))) ?_
    exact W.zret hx hb hr (sf_b_nb _) (fun t ht _ => ⟨rfl, ht⟩) (fun _ h => nomatch h) dX2_isRow_21
  · refine lv_iload_n hx hb dX2_isRow_8 rfl (lv_at hl 1 rfl) ?_
    refine lv_iconst (v := 3) hx hb dX2_isRow_9 (by decide) ?_
    refine sf_callRi (va_runS (As := [.int r, .int 3]) (rest := []) ⟨hx, hb, hml, hown, hg⟩ (c_X2_isIndex l r 3) (cwS 2 hg (gw_S mw_163 mw_164 mw_21 mw_165) rfl rfl rfl (by decide +kernel) ⟨Nat.le_of_ble_eq_true rfl, Nat.le_of_ble_eq_true rfl⟩) sf_pre0 rfl rfl hl.1 rfl (lv_room (Nat.le_of_ble_eq_true rfl)) dX2_isRow_10 ⟨Nat.zero_le _, Nat.zero_le _⟩) ?_
    refine sf_ifeq (tgt := 20) hx hb dX2_isRow_13 (by decide) (fun c_2 => ?_) (fun c_2 => ?_)
    · refine lv_iconst (v := sf_b false) hx hb dX2_isRow_20 (by decide) ?_
      refine sf_topi (y := sf_b (fc_row g r)) (congrArg sf_b (by first | (simp [fc_row, c_1, c_2]; done) | (clear hl; simp_all [fc_row]; done))) ?_
      exact W.zret hx hb hr (sf_b_nb _) (fun t ht _ => ⟨rfl, ht⟩) (fun _ h => nomatch h) dX2_isRow_21
    · refine lv_iconst (v := sf_b true) hx hb dX2_isRow_16 (by decide) ?_
      refine lv_goto (tgt := 21) hx hb dX2_isRow_17 (by decide) ?_
      refine sf_topi (y := sf_b (fc_row g r)) (congrArg sf_b (by first | (simp [fc_row, c_1, c_2]; done) | (clear hl; simp_all [fc_row]; done))) ?_
      exact W.zret hx hb hr (sf_b_nb _) (fun t ht _ => ⟨rfl, ht⟩) (fun _ h => nomatch h) dX2_isRow_21
set_option maxHeartbeats 4000000 in
set_option maxRecDepth 100000 in
theorem c_X2_looksAtBit (l : Launch) (k : Int32) : Met l yX2_looksAtBit wX2_looksAtBit ({ frames := 1, cells := 0, slots := 0, locals := 22 }) (sf_P0 [.int k]) (sf_R (some (.int (sf_b (fc_looks k))))) 0 0 (fun _ => False) := by
  refine Met.ofW (cc := cX2_looksAtBit) (maxL := 1) (ret := (some .boolean)) (by decide) rfl ?_
  intro p e s m args below meth c s₁ B hml hv
  have hx := B.exec
  have hb := B.bytes
  have hr := B.returns
  have hts := atoms_spec (ws := wX2_looksAtBit) B.pre
  have hg : ∀ w ∈ gw_all, w.before args s = true := fun w h => hts w (List.mem_cons_of_mem _ h)
  have hown : s.vm.findClass RX2 = some m.cls := findClass_of_methodNamed B.named
  have hlocks := B.notSynchronized
  obtain ⟨rfl, -⟩ := hv
  have hl := lv_entry ([.int k]) (n := 1) (Nat.le_of_ble_eq_true rfl)
  rw [lg_entry_eq]
  generalize (lg_sl ([.int k]) ++ List.replicate (1 - (lg_sl ([.int k])).length) Slot.unset).toArray = ls at hl ⊢
  have hl : lv_has ls 1 [(0, .int k)] := hl
  refine lv_iload_n hx hb dX2_looksAtBit_0 rfl (lv_at hl 0 rfl) ?_
  refine lv_iconst (v := 2) hx hb dX2_looksAtBit_1 (by decide) ?_
  refine lv_iconst (v := 5) hx hb dX2_looksAtBit_2 (by decide) ?_
  refine sf_callRi (va_runS (As := [.int k, .int 2, .int 5]) (rest := []) ⟨hx, hb, hml, hown, hg⟩ (c_X2_isBetween l k 2 5) (cwS 3 hg (gw_S mw_157 mw_158 mw_21 mw_159) rfl rfl rfl (by decide +kernel) ⟨Nat.le_of_ble_eq_true rfl, Nat.le_of_ble_eq_true rfl⟩) sf_pre0 rfl rfl hl.1 rfl (lv_room (Nat.le_of_ble_eq_true rfl)) dX2_looksAtBit_3 ⟨Nat.zero_le _, Nat.zero_le _⟩) ?_
  refine sf_topi (y := sf_b (fc_looks k)) (congrArg sf_b (by first | (simp [fc_looks]; done) | (clear hl; simp_all [fc_looks]; done))) ?_
  exact W.zret hx hb hr (sf_b_nb _) (fun t ht _ => ⟨rfl, ht⟩) (fun _ h => nomatch h) dX2_looksAtBit_6
set_option maxHeartbeats 4000000 in
set_option maxRecDepth 100000 in
theorem c_X2_isCell (l : Launch) (k : Int32) (b : Int32) : Met l yX2_isCell wX2_isCell ({ frames := 2, cells := 0, slots := 0, locals := 42 }) (sf_P0 [.int k, .int b]) (sf_R (some (.int (sf_b (fc_isCell k b))))) 0 0 (fun _ => False) := by
  refine Met.ofW (cc := cX2_isCell) (maxL := 2) (ret := (some .boolean)) (by decide) rfl ?_
  intro p e s m args below meth c s₁ B hml hv
  have hx := B.exec
  have hb := B.bytes
  have hr := B.returns
  have hts := atoms_spec (ws := wX2_isCell) B.pre
  have hg : ∀ w ∈ gw_all, w.before args s = true := fun w h => hts w (List.mem_cons_of_mem _ h)
  have hown : s.vm.findClass RX2 = some m.cls := findClass_of_methodNamed B.named
  have hlocks := B.notSynchronized
  obtain ⟨rfl, -⟩ := hv
  have hl := lv_entry ([.int k, .int b]) (n := 2) (Nat.le_of_ble_eq_true rfl)
  rw [lg_entry_eq]
  generalize (lg_sl ([.int k, .int b]) ++ List.replicate (2 - (lg_sl ([.int k, .int b])).length) Slot.unset).toArray = ls at hl ⊢
  have hl : lv_has ls 2 [(0, .int k), (1, .int b)] := hl
  refine lv_iload_n hx hb dX2_isCell_0 rfl (lv_at hl 0 rfl) ?_
  refine lv_iconst (v := 0) hx hb dX2_isCell_1 (by decide) ?_
  refine lv_iconst (v := 5) hx hb dX2_isCell_2 (by decide) ?_
  refine sf_callRi (va_runS (As := [.int k, .int 0, .int 5]) (rest := []) ⟨hx, hb, hml, hown, hg⟩ (c_X2_isBetween l k 0 5) (cwS 3 hg (gw_S mw_157 mw_158 mw_21 mw_159) rfl rfl rfl (by decide +kernel) ⟨Nat.le_of_ble_eq_true rfl, Nat.le_of_ble_eq_true rfl⟩) sf_pre0 rfl rfl hl.1 rfl (lv_room (Nat.le_of_ble_eq_true rfl)) dX2_isCell_3 ⟨Nat.zero_le _, Nat.zero_le _⟩) ?_
  refine sf_ifeq (tgt := 29) hx hb dX2_isCell_6 (by decide) (fun c_1 => ?_) (fun c_1 => ?_)
  · refine lv_iconst (v := sf_b false) hx hb dX2_isCell_29 (by decide) ?_
    refine sf_topi (y := sf_b (fc_isCell k b)) (congrArg sf_b (by first | (simp [fc_isCell, c_1]; done) | (clear hl; simp_all [fc_isCell]; done))) ?_
    exact W.zret hx hb hr (sf_b_nb _) (fun t ht _ => ⟨rfl, ht⟩) (fun _ h => nomatch h) dX2_isCell_30
  · refine lv_iload_n hx hb dX2_isCell_9 rfl (lv_at hl 0 rfl) ?_
    refine sf_callRi (va_runS (As := [.int k]) (rest := []) ⟨hx, hb, hml, hown, hg⟩ (c_X2_looksAtBit l k) (cwS 1 hg (gw_S mw_160 mw_161 mw_21 mw_162) rfl rfl rfl (by decide +kernel) ⟨Nat.le_of_ble_eq_true rfl, Nat.le_of_ble_eq_true rfl⟩) sf_pre0 rfl rfl hl.1 rfl (lv_room (Nat.le_of_ble_eq_true rfl)) dX2_isCell_10 ⟨Nat.zero_le _, Nat.zero_le _⟩) ?_
    refine sf_ifeq (tgt := 25) hx hb dX2_isCell_13 (by decide) (fun c_2 => ?_) (fun c_2 => ?_)
    · refine lv_iconst (v := sf_b true) hx hb dX2_isCell_25 (by decide) ?_
      refine lv_goto (tgt := 30) hx hb dX2_isCell_26 (by decide) ?_
      refine sf_topi (y := sf_b (fc_isCell k b)) (congrArg sf_b (by first | (simp [fc_isCell, c_1, c_2]; done) | (clear hl; simp_all [fc_isCell]; done))) ?_
      exact W.zret hx hb hr (sf_b_nb _) (fun t ht _ => ⟨rfl, ht⟩) (fun _ h => nomatch h) dX2_isCell_30
    · refine lv_iload_n hx hb dX2_isCell_16 rfl (lv_at hl 1 rfl) ?_
      refine lv_bipush (v := 24) hx hb dX2_isCell_17 (by decide) ?_
      refine sf_callRi (va_runS (As := [.int b, .int 24]) (rest := []) ⟨hx, hb, hml, hown, hg⟩ (c_X2_isIndex l b 24) (cwS 2 hg (gw_S mw_163 mw_164 mw_21 mw_165) rfl rfl rfl (by decide +kernel) ⟨Nat.le_of_ble_eq_true rfl, Nat.le_of_ble_eq_true rfl⟩) sf_pre0 rfl rfl hl.1 rfl (lv_room (Nat.le_of_ble_eq_true rfl)) dX2_isCell_19 ⟨Nat.zero_le _, Nat.zero_le _⟩) ?_
      refine sf_ifeq (tgt := 29) hx hb dX2_isCell_22 (by decide) (fun c_3 => ?_) (fun c_3 => ?_)
      · refine lv_iconst (v := sf_b false) hx hb dX2_isCell_29 (by decide) ?_
        refine sf_topi (y := sf_b (fc_isCell k b)) (congrArg sf_b (by first | (simp [fc_isCell, c_1, c_2, c_3]; done) | (clear hl; simp_all [fc_isCell]; done))) ?_
        exact W.zret hx hb hr (sf_b_nb _) (fun t ht _ => ⟨rfl, ht⟩) (fun _ h => nomatch h) dX2_isCell_30
      · refine lv_iconst (v := sf_b true) hx hb dX2_isCell_25 (by decide) ?_
        refine lv_goto (tgt := 30) hx hb dX2_isCell_26 (by decide) ?_
        refine sf_topi (y := sf_b (fc_isCell k b)) (congrArg sf_b (by first | (simp [fc_isCell, c_1, c_2, c_3]; done) | (clear hl; simp_all [fc_isCell]; done))) ?_
        exact W.zret hx hb hr (sf_b_nb _) (fun t ht _ => ⟨rfl, ht⟩) (fun _ h => nomatch h) dX2_isCell_30
set_option maxHeartbeats 4000000 in
set_option maxRecDepth 100000 in
theorem c_X2_isCoil (l : Launch) (k : Int32) (n : Int32) : Met l yX2_isCoil wX2_isCoil ({ frames := 1, cells := 0, slots := 0, locals := 22 }) (sf_P0 [.int k, .int n]) (sf_R (some (.int (sf_b (fc_isCoil k n))))) 0 0 (fun _ => False) := by
  refine Met.ofW (cc := cX2_isCoil) (maxL := 2) (ret := (some .boolean)) (by decide) rfl ?_
  intro p e s m args below meth c s₁ B hml hv
  have hx := B.exec
  have hb := B.bytes
  have hr := B.returns
  have hts := atoms_spec (ws := wX2_isCoil) B.pre
  have hg : ∀ w ∈ gw_all, w.before args s = true := fun w h => hts w (List.mem_cons_of_mem _ h)
  have hown : s.vm.findClass RX2 = some m.cls := findClass_of_methodNamed B.named
  have hlocks := B.notSynchronized
  obtain ⟨rfl, -⟩ := hv
  have hl := lv_entry ([.int k, .int n]) (n := 2) (Nat.le_of_ble_eq_true rfl)
  rw [lg_entry_eq]
  generalize (lg_sl ([.int k, .int n]) ++ List.replicate (2 - (lg_sl ([.int k, .int n])).length) Slot.unset).toArray = ls at hl ⊢
  have hl : lv_has ls 2 [(0, .int k), (1, .int n)] := hl
  refine lv_iload_n hx hb dX2_isCoil_0 rfl (lv_at hl 0 rfl) ?_
  by_cases c_1 : k = 0
  · refine lv_tableIn (off := 35) (tgt := 36) hx hb dX2_isCoil_1 (by rw [c_1]; decide) (by rw [c_1]; decide) (by rw [c_1]; decide) (by decide) ?_
    refine lv_iconst (v := sf_b true) hx hb dX2_isCoil_36 (by decide) ?_
    refine sf_topi (y := sf_b (fc_isCoil k n)) (congrArg sf_b (by first | (simp [fc_isCoil, c_1]; done) | (clear hl; simp_all [fc_isCoil]; done))) ?_
    exact W.zret hx hb hr (sf_b_nb _) (fun t ht _ => ⟨rfl, ht⟩) (fun _ h => nomatch h) dX2_isCoil_37
  · skip
    by_cases c_2 : k = 1
    · refine lv_tableIn (off := 37) (tgt := 38) hx hb dX2_isCoil_1 (by rw [c_2]; decide) (by rw [c_2]; decide) (by rw [c_2]; decide) (by decide) ?_
      refine lv_iload_n hx hb dX2_isCoil_38 rfl (lv_at hl 1 rfl) ?_
      refine lv_bipush (v := 8) hx hb dX2_isCoil_39 (by decide) ?_
      refine lv_bipush (v := 23) hx hb dX2_isCoil_41 (by decide) ?_
      refine sf_callRi (va_runS (As := [.int n, .int 8, .int 23]) (rest := []) ⟨hx, hb, hml, hown, hg⟩ (c_X2_isBetween l n 8 23) (cwS 3 hg (gw_S mw_157 mw_158 mw_21 mw_159) rfl rfl rfl (by decide +kernel) ⟨Nat.le_of_ble_eq_true rfl, Nat.le_of_ble_eq_true rfl⟩) sf_pre0 rfl rfl hl.1 rfl (lv_room (Nat.le_of_ble_eq_true rfl)) dX2_isCoil_43 ⟨Nat.zero_le _, Nat.zero_le _⟩) ?_
      refine sf_topi (y := sf_b (fc_isCoil k n)) (congrArg sf_b (by first | (simp [fc_isCoil, c_1, c_2]; done) | (clear hl; simp_all [fc_isCoil]; done))) ?_
      exact W.zret hx hb hr (sf_b_nb _) (fun t ht _ => ⟨rfl, ht⟩) (fun _ h => nomatch h) dX2_isCoil_46
    · skip
      by_cases c_3 : k = 2
      · refine lv_tableIn (off := 37) (tgt := 38) hx hb dX2_isCoil_1 (by rw [c_3]; decide) (by rw [c_3]; decide) (by rw [c_3]; decide) (by decide) ?_
        refine lv_iload_n hx hb dX2_isCoil_38 rfl (lv_at hl 1 rfl) ?_
        refine lv_bipush (v := 8) hx hb dX2_isCoil_39 (by decide) ?_
        refine lv_bipush (v := 23) hx hb dX2_isCoil_41 (by decide) ?_
        refine sf_callRi (va_runS (As := [.int n, .int 8, .int 23]) (rest := []) ⟨hx, hb, hml, hown, hg⟩ (c_X2_isBetween l n 8 23) (cwS 3 hg (gw_S mw_157 mw_158 mw_21 mw_159) rfl rfl rfl (by decide +kernel) ⟨Nat.le_of_ble_eq_true rfl, Nat.le_of_ble_eq_true rfl⟩) sf_pre0 rfl rfl hl.1 rfl (lv_room (Nat.le_of_ble_eq_true rfl)) dX2_isCoil_43 ⟨Nat.zero_le _, Nat.zero_le _⟩) ?_
        refine sf_topi (y := sf_b (fc_isCoil k n)) (congrArg sf_b (by first | (simp [fc_isCoil, c_1, c_2, c_3]; done) | (clear hl; simp_all [fc_isCoil]; done))) ?_
        exact W.zret hx hb hr (sf_b_nb _) (fun t ht _ => ⟨rfl, ht⟩) (fun _ h => nomatch h) dX2_isCoil_46
      · skip
        by_cases c_4 : k = 3
        · refine lv_tableIn (off := 37) (tgt := 38) hx hb dX2_isCoil_1 (by rw [c_4]; decide) (by rw [c_4]; decide) (by rw [c_4]; decide) (by decide) ?_
          refine lv_iload_n hx hb dX2_isCoil_38 rfl (lv_at hl 1 rfl) ?_
          refine lv_bipush (v := 8) hx hb dX2_isCoil_39 (by decide) ?_
          refine lv_bipush (v := 23) hx hb dX2_isCoil_41 (by decide) ?_
          refine sf_callRi (va_runS (As := [.int n, .int 8, .int 23]) (rest := []) ⟨hx, hb, hml, hown, hg⟩ (c_X2_isBetween l n 8 23) (cwS 3 hg (gw_S mw_157 mw_158 mw_21 mw_159) rfl rfl rfl (by decide +kernel) ⟨Nat.le_of_ble_eq_true rfl, Nat.le_of_ble_eq_true rfl⟩) sf_pre0 rfl rfl hl.1 rfl (lv_room (Nat.le_of_ble_eq_true rfl)) dX2_isCoil_43 ⟨Nat.zero_le _, Nat.zero_le _⟩) ?_
          refine sf_topi (y := sf_b (fc_isCoil k n)) (congrArg sf_b (by first | (simp [fc_isCoil, c_1, c_2, c_3, c_4]; done) | (clear hl; simp_all [fc_isCoil]; done))) ?_
          exact W.zret hx hb hr (sf_b_nb _) (fun t ht _ => ⟨rfl, ht⟩) (fun _ h => nomatch h) dX2_isCoil_46
        · skip
          by_cases c_5 : k = 4
          · refine lv_tableIn (off := 46) (tgt := 47) hx hb dX2_isCoil_1 (by rw [c_5]; decide) (by rw [c_5]; decide) (by rw [c_5]; decide) (by decide) ?_
            refine lv_iload_n hx hb dX2_isCoil_47 rfl (lv_at hl 1 rfl) ?_
            refine lv_bipush (v := 8) hx hb dX2_isCoil_48 (by decide) ?_
            refine sf_callRi (va_runS (As := [.int n, .int 8]) (rest := []) ⟨hx, hb, hml, hown, hg⟩ (c_X2_isIndex l n 8) (cwS 2 hg (gw_S mw_163 mw_164 mw_21 mw_165) rfl rfl rfl (by decide +kernel) ⟨Nat.le_of_ble_eq_true rfl, Nat.le_of_ble_eq_true rfl⟩) sf_pre0 rfl rfl hl.1 rfl (lv_room (Nat.le_of_ble_eq_true rfl)) dX2_isCoil_50 ⟨Nat.zero_le _, Nat.zero_le _⟩) ?_
            refine sf_topi (y := sf_b (fc_isCoil k n)) (congrArg sf_b (by first | (simp [fc_isCoil, c_1, c_2, c_3, c_4, c_5]; done) | (clear hl; simp_all [fc_isCoil]; done))) ?_
            exact W.zret hx hb hr (sf_b_nb _) (fun t ht _ => ⟨rfl, ht⟩) (fun _ h => nomatch h) dX2_isCoil_53
          · skip
            have h_6 : k.toInt < 0 ∨ 4 < k.toInt := by
              have q0 : ¬ k.toInt = 0 := lv_neT c_1 (by decide)
              have q1 : ¬ k.toInt = 1 := lv_neT c_2 (by decide)
              have q2 : ¬ k.toInt = 2 := lv_neT c_3 (by decide)
              have q3 : ¬ k.toInt = 3 := lv_neT c_4 (by decide)
              have q4 : ¬ k.toInt = 4 := lv_neT c_5 (by decide)
              omega
            refine lv_tableOut (tgt := 54) hx hb dX2_isCoil_1 h_6 (by decide) ?_
            refine lv_iconst (v := sf_b false) hx hb dX2_isCoil_54 (by decide) ?_
            refine sf_topi (y := sf_b (fc_isCoil k n)) (congrArg sf_b (by first | (simp [fc_isCoil, c_1, c_2, c_3, c_4, c_5]; done) | (clear hl; simp_all [fc_isCoil]; done))) ?_
            exact W.zret hx hb hr (sf_b_nb _) (fun t ht _ => ⟨rfl, ht⟩) (fun _ h => nomatch h) dX2_isCoil_55
set_option maxHeartbeats 4000000 in
set_option maxRecDepth 100000 in
theorem c_X2_areRegisters (l : Launch) (a : Int32) (b : Int32) : Met l yX2_areRegisters wX2_areRegisters ({ frames := 1, cells := 0, slots := 0, locals := 21 }) (sf_P0 [.int a, .int b]) (sf_R (some (.int (sf_b (fc_regs a b))))) 0 0 (fun _ => False) := by
  refine Met.ofW (cc := cX2_areRegisters) (maxL := 2) (ret := (some .boolean)) (by decide) rfl ?_
  intro p e s m args below meth c s₁ B hml hv
  have hx := B.exec
  have hb := B.bytes
  have hr := B.returns
  have hts := atoms_spec (ws := wX2_areRegisters) B.pre
  have hg : ∀ w ∈ gw_all, w.before args s = true := fun w h => hts w (List.mem_cons_of_mem _ h)
  have hown : s.vm.findClass RX2 = some m.cls := findClass_of_methodNamed B.named
  have hlocks := B.notSynchronized
  obtain ⟨rfl, -⟩ := hv
  have hl := lv_entry ([.int a, .int b]) (n := 2) (Nat.le_of_ble_eq_true rfl)
  rw [lg_entry_eq]
  generalize (lg_sl ([.int a, .int b]) ++ List.replicate (2 - (lg_sl ([.int a, .int b])).length) Slot.unset).toArray = ls at hl ⊢
  have hl : lv_has ls 2 [(0, .int a), (1, .int b)] := hl
  refine lv_iload_n hx hb dX2_areRegisters_0 rfl (lv_at hl 0 rfl) ?_
  refine lv_bipush (v := 8) hx hb dX2_areRegisters_1 (by decide) ?_
  refine sf_callRi (va_runS (As := [.int a, .int 8]) (rest := []) ⟨hx, hb, hml, hown, hg⟩ (c_X2_isIndex l a 8) (cwS 2 hg (gw_S mw_163 mw_164 mw_21 mw_165) rfl rfl rfl (by decide +kernel) ⟨Nat.le_of_ble_eq_true rfl, Nat.le_of_ble_eq_true rfl⟩) sf_pre0 rfl rfl hl.1 rfl (lv_room (Nat.le_of_ble_eq_true rfl)) dX2_areRegisters_3 ⟨Nat.zero_le _, Nat.zero_le _⟩) ?_
  refine sf_ifeq (tgt := 22) hx hb dX2_areRegisters_6 (by decide) (fun c_1 => ?_) (fun c_1 => ?_)
  · refine lv_iconst (v := sf_b false) hx hb dX2_areRegisters_22 (by decide) ?_
    refine sf_topi (y := sf_b (fc_regs a b)) (congrArg sf_b (by first | (simp [fc_regs, c_1]; done) | (clear hl; simp_all [fc_regs]; done))) ?_
    exact W.zret hx hb hr (sf_b_nb _) (fun t ht _ => ⟨rfl, ht⟩) (fun _ h => nomatch h) dX2_areRegisters_23
  · refine lv_iload_n hx hb dX2_areRegisters_9 rfl (lv_at hl 1 rfl) ?_
    refine lv_bipush (v := 8) hx hb dX2_areRegisters_10 (by decide) ?_
    refine sf_callRi (va_runS (As := [.int b, .int 8]) (rest := []) ⟨hx, hb, hml, hown, hg⟩ (c_X2_isIndex l b 8) (cwS 2 hg (gw_S mw_163 mw_164 mw_21 mw_165) rfl rfl rfl (by decide +kernel) ⟨Nat.le_of_ble_eq_true rfl, Nat.le_of_ble_eq_true rfl⟩) sf_pre0 rfl rfl hl.1 rfl (lv_room (Nat.le_of_ble_eq_true rfl)) dX2_areRegisters_12 ⟨Nat.zero_le _, Nat.zero_le _⟩) ?_
    refine sf_ifeq (tgt := 22) hx hb dX2_areRegisters_15 (by decide) (fun c_2 => ?_) (fun c_2 => ?_)
    · refine lv_iconst (v := sf_b false) hx hb dX2_areRegisters_22 (by decide) ?_
      refine sf_topi (y := sf_b (fc_regs a b)) (congrArg sf_b (by first | (simp [fc_regs, c_1, c_2]; done) | (clear hl; simp_all [fc_regs]; done))) ?_
      exact W.zret hx hb hr (sf_b_nb _) (fun t ht _ => ⟨rfl, ht⟩) (fun _ h => nomatch h) dX2_areRegisters_23
    · refine lv_iconst (v := sf_b true) hx hb dX2_areRegisters_18 (by decide) ?_
      refine lv_goto (tgt := 23) hx hb dX2_areRegisters_19 (by decide) ?_
      refine sf_topi (y := sf_b (fc_regs a b)) (congrArg sf_b (by first | (simp [fc_regs, c_1, c_2]; done) | (clear hl; simp_all [fc_regs]; done))) ?_
      exact W.zret hx hb hr (sf_b_nb _) (fun t ht _ => ⟨rfl, ht⟩) (fun _ h => nomatch h) dX2_areRegisters_23
set_option maxHeartbeats 4000000 in
set_option maxRecDepth 100000 in
theorem c_X2_isBlockBit (l : Launch) (i : Int32) : Met l yX2_isBlockBit wX2_isBlockBit ({ frames := 1, cells := 0, slots := 0, locals := 22 }) (sf_P0 [.int i]) (sf_R (some (.int (sf_b (fc_bbit i))))) 0 0 (fun _ => False) := by
  refine Met.ofW (cc := cX2_isBlockBit) (maxL := 1) (ret := (some .boolean)) (by decide) rfl ?_
  intro p e s m args below meth c s₁ B hml hv
  have hx := B.exec
  have hb := B.bytes
  have hr := B.returns
  have hts := atoms_spec (ws := wX2_isBlockBit) B.pre
  have hg : ∀ w ∈ gw_all, w.before args s = true := fun w h => hts w (List.mem_cons_of_mem _ h)
  have hown : s.vm.findClass RX2 = some m.cls := findClass_of_methodNamed B.named
  have hlocks := B.notSynchronized
  obtain ⟨rfl, -⟩ := hv
  have hl := lv_entry ([.int i]) (n := 1) (Nat.le_of_ble_eq_true rfl)
  rw [lg_entry_eq]
  generalize (lg_sl ([.int i]) ++ List.replicate (1 - (lg_sl ([.int i])).length) Slot.unset).toArray = ls at hl ⊢
  have hl : lv_has ls 1 [(0, .int i)] := hl
  refine lv_iload_n hx hb dX2_isBlockBit_0 rfl (lv_at hl 0 rfl) ?_
  refine lv_bipush (v := 8) hx hb dX2_isBlockBit_1 (by decide) ?_
  refine lv_bipush (v := 21) hx hb dX2_isBlockBit_3 (by decide) ?_
  refine sf_callRi (va_runS (As := [.int i, .int 8, .int 21]) (rest := []) ⟨hx, hb, hml, hown, hg⟩ (c_X2_isBetween l i 8 21) (cwS 3 hg (gw_S mw_157 mw_158 mw_21 mw_159) rfl rfl rfl (by decide +kernel) ⟨Nat.le_of_ble_eq_true rfl, Nat.le_of_ble_eq_true rfl⟩) sf_pre0 rfl rfl hl.1 rfl (lv_room (Nat.le_of_ble_eq_true rfl)) dX2_isBlockBit_5 ⟨Nat.zero_le _, Nat.zero_le _⟩) ?_
  refine sf_topi (y := sf_b (fc_bbit i)) (congrArg sf_b (by first | (simp [fc_bbit]; done) | (clear hl; simp_all [fc_bbit]; done))) ?_
  exact W.zret hx hb hr (sf_b_nb _) (fun t ht _ => ⟨rfl, ht⟩) (fun _ h => nomatch h) dX2_isBlockBit_8
set_option maxHeartbeats 4000000 in
set_option maxRecDepth 100000 in
theorem c_X2_isCountable (l : Launch) (n : UInt64) : Met l yX2_isCountable wX2_isCountable ({ frames := 0, cells := 0, slots := 0, locals := 0 }) (sf_P0 [.double n]) (sf_R (some (.int (sf_b (fc_cntb n))))) 0 0 (fun _ => False) := by
  refine Met.ofW (cc := cX2_isCountable) (maxL := 2) (ret := (some .boolean)) (by decide) rfl ?_
  intro p e s m args below meth c s₁ B hml hv
  have hx := B.exec
  have hb := B.bytes
  have hr := B.returns
  have hts := atoms_spec (ws := wX2_isCountable) B.pre
  have hg : ∀ w ∈ gw_all, w.before args s = true := fun w h => hts w (List.mem_cons_of_mem _ h)
  have hown : s.vm.findClass RX2 = some m.cls := findClass_of_methodNamed B.named
  have hlocks := B.notSynchronized
  obtain ⟨rfl, -⟩ := hv
  have hl := lv_entry ([.double n]) (n := 2) (Nat.le_of_ble_eq_true rfl)
  rw [lg_entry_eq]
  generalize (lg_sl ([.double n]) ++ List.replicate (2 - (lg_sl ([.double n])).length) Slot.unset).toArray = ls at hl ⊢
  have hl : lv_has ls 2 [(0, .double n)] := hl
  refine lv_dload_n hx hb dX2_isCountable_0 rfl (lv_at hl 0 rfl) ?_
  refine lv_dconst1 hx hb dX2_isCountable_1 ?_
  refine lv_dcmp hx hb dX2_isCountable_2 ?_
  refine lv_if_lt (tgt := 26) hx hb dX2_isCountable_3 (by decide) (fun c_1 => ?_) (fun c_1 => ?_)
  · have c_1 := sd_l_lt.mp c_1
    refine lv_iconst (v := sf_b false) hx hb dX2_isCountable_26 (by decide) ?_
    refine sf_topi (y := sf_b (fc_cntb n)) (congrArg sf_b (by first | (simp [fc_cntb, c_1]; done) | (clear hl; simp_all [fc_cntb]; done))) ?_
    exact W.zret hx hb hr (sf_b_nb _) (fun t ht _ => ⟨rfl, ht⟩) (fun _ h => nomatch h) dX2_isCountable_27
  · have c_1 := sd_nl_lt c_1
    refine lv_dload_n hx hb dX2_isCountable_6 rfl (lv_at hl 0 rfl) ?_
    refine lv_ldc2d (v := 4652007308841189376) hx hb hown (hg _ mw_306) dX2_isCountable_7 ?_
    refine lv_dcmp hx hb dX2_isCountable_10 ?_
    refine lv_if_gt (tgt := 26) hx hb dX2_isCountable_11 (by decide) (fun c_2 => ?_) (fun c_2 => ?_)
    · have c_2 := sd_g_gt.mp c_2
      refine lv_iconst (v := sf_b false) hx hb dX2_isCountable_26 (by decide) ?_
      refine sf_topi (y := sf_b (fc_cntb n)) (congrArg sf_b (by first | (simp [fc_cntb, c_1, c_2]; done) | (clear hl; simp_all [fc_cntb]; done))) ?_
      exact W.zret hx hb hr (sf_b_nb _) (fun t ht _ => ⟨rfl, ht⟩) (fun _ h => nomatch h) dX2_isCountable_27
    · have c_2 := sd_ng_gt c_2
      refine lv_dload_n hx hb dX2_isCountable_14 rfl (lv_at hl 0 rfl) ?_
      refine lv_dload_n hx hb dX2_isCountable_15 rfl (lv_at hl 0 rfl) ?_
      refine lv_d2i hx hb dX2_isCountable_16 ?_
      refine lv_i2d hx hb dX2_isCountable_17 ?_
      refine lv_dcmp hx hb dX2_isCountable_18 ?_
      refine lv_if_ne (tgt := 26) hx hb dX2_isCountable_19 (by decide) (fun c_3 => ?_) (fun c_3 => ?_)
      · have c_3 := sd_nl_eq c_3
        refine lv_iconst (v := sf_b false) hx hb dX2_isCountable_26 (by decide) ?_
        refine sf_topi (y := sf_b (fc_cntb n)) (congrArg sf_b (by first | (simp [fc_cntb, c_1, c_2, c_3]; done) | (clear hl; simp_all [fc_cntb]; done))) ?_
        exact W.zret hx hb hr (sf_b_nb _) (fun t ht _ => ⟨rfl, ht⟩) (fun _ h => nomatch h) dX2_isCountable_27
      · have c_3 := sd_l_eq.mp c_3
        refine lv_iconst (v := sf_b true) hx hb dX2_isCountable_22 (by decide) ?_
        refine lv_goto (tgt := 27) hx hb dX2_isCountable_23 (by decide) ?_
        refine sf_topi (y := sf_b (fc_cntb n)) (congrArg sf_b (by first | (simp [fc_cntb, c_1, c_2, c_3]; done) | (clear hl; simp_all [fc_cntb]; done))) ?_
        exact W.zret hx hb hr (sf_b_nb _) (fun t ht _ => ⟨rfl, ht⟩) (fun _ h => nomatch h) dX2_isCountable_27
set_option maxHeartbeats 4000000 in
set_option maxRecDepth 100000 in
theorem c_X2_isSetting (l : Launch) (n : UInt64) : Met l yX2_isSetting wX2_isSetting ({ frames := 0, cells := 0, slots := 0, locals := 0 }) (sf_P0 [.double n]) (sf_R (some (.int (sf_b (fc_setg n))))) 0 0 (fun _ => False) := by
  refine Met.ofW (cc := cX2_isSetting) (maxL := 2) (ret := (some .boolean)) (by decide) rfl ?_
  intro p e s m args below meth c s₁ B hml hv
  have hx := B.exec
  have hb := B.bytes
  have hr := B.returns
  have hts := atoms_spec (ws := wX2_isSetting) B.pre
  have hg : ∀ w ∈ gw_all, w.before args s = true := fun w h => hts w (List.mem_cons_of_mem _ h)
  have hown : s.vm.findClass RX2 = some m.cls := findClass_of_methodNamed B.named
  have hlocks := B.notSynchronized
  obtain ⟨rfl, -⟩ := hv
  have hl := lv_entry ([.double n]) (n := 2) (Nat.le_of_ble_eq_true rfl)
  rw [lg_entry_eq]
  generalize (lg_sl ([.double n]) ++ List.replicate (2 - (lg_sl ([.double n])).length) Slot.unset).toArray = ls at hl ⊢
  have hl : lv_has ls 2 [(0, .double n)] := hl
  refine lv_dload_n hx hb dX2_isSetting_0 rfl (lv_at hl 0 rfl) ?_
  refine lv_ldc2d (v := 13875379345695965184) hx hb hown (hg _ mw_313) dX2_isSetting_1 ?_
  refine lv_dcmp hx hb dX2_isSetting_4 ?_
  refine lv_if_lt (tgt := 20) hx hb dX2_isSetting_5 (by decide) (fun c_1 => ?_) (fun c_1 => ?_)
  · have c_1 := sd_l_lt.mp c_1
    refine lv_iconst (v := sf_b false) hx hb dX2_isSetting_20 (by decide) ?_
    refine sf_topi (y := sf_b (fc_setg n)) (congrArg sf_b (by first | (simp [fc_setg, c_1]; done) | (clear hl; simp_all [fc_setg]; done))) ?_
    exact W.zret hx hb hr (sf_b_nb _) (fun t ht _ => ⟨rfl, ht⟩) (fun _ h => nomatch h) dX2_isSetting_21
  · have c_1 := sd_nl_lt c_1
    refine lv_dload_n hx hb dX2_isSetting_8 rfl (lv_at hl 0 rfl) ?_
    refine lv_ldc2d (v := 4652007308841189376) hx hb hown (hg _ mw_306) dX2_isSetting_9 ?_
    refine lv_dcmp hx hb dX2_isSetting_12 ?_
    refine lv_if_gt (tgt := 20) hx hb dX2_isSetting_13 (by decide) (fun c_2 => ?_) (fun c_2 => ?_)
    · have c_2 := sd_g_gt.mp c_2
      refine lv_iconst (v := sf_b false) hx hb dX2_isSetting_20 (by decide) ?_
      refine sf_topi (y := sf_b (fc_setg n)) (congrArg sf_b (by first | (simp [fc_setg, c_1, c_2]; done) | (clear hl; simp_all [fc_setg]; done))) ?_
      exact W.zret hx hb hr (sf_b_nb _) (fun t ht _ => ⟨rfl, ht⟩) (fun _ h => nomatch h) dX2_isSetting_21
    · have c_2 := sd_ng_gt c_2
      refine lv_iconst (v := sf_b true) hx hb dX2_isSetting_16 (by decide) ?_
      refine lv_goto (tgt := 21) hx hb dX2_isSetting_17 (by decide) ?_
      refine sf_topi (y := sf_b (fc_setg n)) (congrArg sf_b (by first | (simp [fc_setg, c_1, c_2]; done) | (clear hl; simp_all [fc_setg]; done))) ?_
      exact W.zret hx hb hr (sf_b_nb _) (fun t ht _ => ⟨rfl, ht⟩) (fun _ h => nomatch h) dX2_isSetting_21
set_option maxHeartbeats 4000000 in
set_option maxRecDepth 100000 in
theorem c_X2_isValue (l : Launch) (n : UInt64) : Met l yX2_isValue wX2_isValue ({ frames := 0, cells := 0, slots := 0, locals := 0 }) (sf_P0 [.double n]) (sf_R (some (.int (sf_b (fc_val n))))) 0 0 (fun _ => False) := by
  refine Met.ofW (cc := cX2_isValue) (maxL := 2) (ret := (some .boolean)) (by decide) rfl ?_
  intro p e s m args below meth c s₁ B hml hv
  have hx := B.exec
  have hb := B.bytes
  have hr := B.returns
  have hts := atoms_spec (ws := wX2_isValue) B.pre
  have hg : ∀ w ∈ gw_all, w.before args s = true := fun w h => hts w (List.mem_cons_of_mem _ h)
  have hown : s.vm.findClass RX2 = some m.cls := findClass_of_methodNamed B.named
  have hlocks := B.notSynchronized
  obtain ⟨rfl, -⟩ := hv
  have hl := lv_entry ([.double n]) (n := 2) (Nat.le_of_ble_eq_true rfl)
  rw [lg_entry_eq]
  generalize (lg_sl ([.double n]) ++ List.replicate (2 - (lg_sl ([.double n])).length) Slot.unset).toArray = ls at hl ⊢
  have hl : lv_has ls 2 [(0, .double n)] := hl
  refine lv_dload_n hx hb dX2_isValue_0 rfl (lv_at hl 0 rfl) ?_
  refine lv_ldc2d (v := 14009883241494872064) hx hb hown (hg _ mw_342) dX2_isValue_1 ?_
  refine lv_dcmp hx hb dX2_isValue_4 ?_
  refine lv_if_lt (tgt := 20) hx hb dX2_isValue_5 (by decide) (fun c_1 => ?_) (fun c_1 => ?_)
  · have c_1 := sd_l_lt.mp c_1
    refine lv_iconst (v := sf_b false) hx hb dX2_isValue_20 (by decide) ?_
    refine sf_topi (y := sf_b (fc_val n)) (congrArg sf_b (by first | (simp [fc_val, c_1]; done) | (clear hl; simp_all [fc_val]; done))) ?_
    exact W.zret hx hb hr (sf_b_nb _) (fun t ht _ => ⟨rfl, ht⟩) (fun _ h => nomatch h) dX2_isValue_21
  · have c_1 := sd_nl_lt c_1
    refine lv_dload_n hx hb dX2_isValue_8 rfl (lv_at hl 0 rfl) ?_
    refine lv_ldc2d (v := 4786511204640096256) hx hb hown (hg _ mw_343) dX2_isValue_9 ?_
    refine lv_dcmp hx hb dX2_isValue_12 ?_
    refine lv_if_gt (tgt := 20) hx hb dX2_isValue_13 (by decide) (fun c_2 => ?_) (fun c_2 => ?_)
    · have c_2 := sd_g_gt.mp c_2
      refine lv_iconst (v := sf_b false) hx hb dX2_isValue_20 (by decide) ?_
      refine sf_topi (y := sf_b (fc_val n)) (congrArg sf_b (by first | (simp [fc_val, c_1, c_2]; done) | (clear hl; simp_all [fc_val]; done))) ?_
      exact W.zret hx hb hr (sf_b_nb _) (fun t ht _ => ⟨rfl, ht⟩) (fun _ h => nomatch h) dX2_isValue_21
    · have c_2 := sd_ng_gt c_2
      refine lv_iconst (v := sf_b true) hx hb dX2_isValue_16 (by decide) ?_
      refine lv_goto (tgt := 21) hx hb dX2_isValue_17 (by decide) ?_
      refine sf_topi (y := sf_b (fc_val n)) (congrArg sf_b (by first | (simp [fc_val, c_1, c_2]; done) | (clear hl; simp_all [fc_val]; done))) ?_
      exact W.zret hx hb hr (sf_b_nb _) (fun t ht _ => ⟨rfl, ht⟩) (fun _ h => nomatch h) dX2_isValue_21
set_option maxHeartbeats 4000000 in
set_option maxRecDepth 100000 in
theorem c_X2_isBlock (l : Launch) (k : Int32) (a0 : Int32) (b0 : Int32) (c0 : Int32) (n : UInt64) : Met l yX2_isBlock wX2_isBlock ({ frames := 2, cells := 0, slots := 0, locals := 42 }) (sf_P0 [.int k, .int a0, .int b0, .int c0, .double n]) (sf_R (some (.int (sf_b (fc_isBlock k a0 b0 c0 n))))) 0 0 (fun _ => False) := by
  refine Met.ofW (cc := cX2_isBlock) (maxL := 6) (ret := (some .boolean)) (by decide) rfl ?_
  intro p e s m args below meth c s₁ B hml hv
  have hx := B.exec
  have hb := B.bytes
  have hr := B.returns
  have hts := atoms_spec (ws := wX2_isBlock) B.pre
  have hg : ∀ w ∈ gw_all, w.before args s = true := fun w h => hts w (List.mem_cons_of_mem _ h)
  have hown : s.vm.findClass RX2 = some m.cls := findClass_of_methodNamed B.named
  have hlocks := B.notSynchronized
  obtain ⟨rfl, -⟩ := hv
  have hl := lv_entry ([.int k, .int a0, .int b0, .int c0, .double n]) (n := 6) (Nat.le_of_ble_eq_true rfl)
  rw [lg_entry_eq]
  generalize (lg_sl ([.int k, .int a0, .int b0, .int c0, .double n]) ++ List.replicate (6 - (lg_sl ([.int k, .int a0, .int b0, .int c0, .double n])).length) Slot.unset).toArray = ls at hl ⊢
  have hl : lv_has ls 6 [(0, .int k), (1, .int a0), (2, .int b0), (3, .int c0), (4, .double n)] := hl
  refine lv_iload_n hx hb dX2_isBlock_0 rfl (lv_at hl 0 rfl) ?_
  by_cases c_1 : k = 0
  · refine lv_tableIn (off := 55) (tgt := 56) hx hb dX2_isBlock_1 (by rw [c_1]; decide) (by rw [c_1]; decide) (by rw [c_1]; decide) (by decide) ?_
    refine lv_iconst (v := sf_b true) hx hb dX2_isBlock_56 (by decide) ?_
    refine sf_topi (y := sf_b (fc_isBlock k a0 b0 c0 n)) (congrArg sf_b (by first | (simp [fc_isBlock, c_1]; done) | (clear hl; simp_all [fc_isBlock]; done))) ?_
    exact W.zret hx hb hr (sf_b_nb _) (fun t ht _ => ⟨rfl, ht⟩) (fun _ h => nomatch h) dX2_isBlock_57
  · skip
    by_cases c_2 : k = 1
    · refine lv_tableIn (off := 57) (tgt := 58) hx hb dX2_isBlock_1 (by rw [c_2]; decide) (by rw [c_2]; decide) (by rw [c_2]; decide) (by decide) ?_
      refine lv_iload_n hx hb dX2_isBlock_58 rfl (lv_at hl 3 rfl) ?_
      refine sf_callRi (va_runS (As := [.int c0]) (rest := []) ⟨hx, hb, hml, hown, hg⟩ (c_X2_isBlockBit l c0) (cwS 1 hg (gw_S mw_300 mw_301 mw_21 mw_302) rfl rfl rfl (by decide +kernel) ⟨Nat.le_of_ble_eq_true rfl, Nat.le_of_ble_eq_true rfl⟩) sf_pre0 rfl rfl hl.1 rfl (lv_room (Nat.le_of_ble_eq_true rfl)) dX2_isBlock_59 ⟨Nat.zero_le _, Nat.zero_le _⟩) ?_
      refine sf_ifeq (tgt := 77) hx hb dX2_isBlock_62 (by decide) (fun c_3 => ?_) (fun c_3 => ?_)
      · refine lv_iconst (v := sf_b false) hx hb dX2_isBlock_77 (by decide) ?_
        refine sf_topi (y := sf_b (fc_isBlock k a0 b0 c0 n)) (congrArg sf_b (by first | (simp [fc_isBlock, c_1, c_2, c_3]; done) | (clear hl; simp_all [fc_isBlock]; done))) ?_
        exact W.zret hx hb hr (sf_b_nb _) (fun t ht _ => ⟨rfl, ht⟩) (fun _ h => nomatch h) dX2_isBlock_78
      · refine lv_dload hx hb dX2_isBlock_65 (lv_at hl 4 rfl) ?_
        refine sf_callRi (va_runS (As := [.double n]) (rest := []) ⟨hx, hb, hml, hown, hg⟩ (c_X2_isCountable l n) (cwS 1 hg (gw_S mw_303 mw_304 mw_21 mw_305) rfl rfl rfl (by decide +kernel) ⟨Nat.le_of_ble_eq_true rfl, Nat.le_of_ble_eq_true rfl⟩) sf_pre0 rfl rfl hl.1 rfl (lv_room (Nat.le_of_ble_eq_true rfl)) dX2_isBlock_67 ⟨Nat.zero_le _, Nat.zero_le _⟩) ?_
        refine sf_ifeq (tgt := 77) hx hb dX2_isBlock_70 (by decide) (fun c_4 => ?_) (fun c_4 => ?_)
        · refine lv_iconst (v := sf_b false) hx hb dX2_isBlock_77 (by decide) ?_
          refine sf_topi (y := sf_b (fc_isBlock k a0 b0 c0 n)) (congrArg sf_b (by first | (simp [fc_isBlock, c_1, c_2, c_3, c_4]; done) | (clear hl; simp_all [fc_isBlock]; done))) ?_
          exact W.zret hx hb hr (sf_b_nb _) (fun t ht _ => ⟨rfl, ht⟩) (fun _ h => nomatch h) dX2_isBlock_78
        · refine lv_iconst (v := sf_b true) hx hb dX2_isBlock_73 (by decide) ?_
          refine lv_goto (tgt := 78) hx hb dX2_isBlock_74 (by decide) ?_
          refine sf_topi (y := sf_b (fc_isBlock k a0 b0 c0 n)) (congrArg sf_b (by first | (simp [fc_isBlock, c_1, c_2, c_3, c_4]; done) | (clear hl; simp_all [fc_isBlock]; done))) ?_
          exact W.zret hx hb hr (sf_b_nb _) (fun t ht _ => ⟨rfl, ht⟩) (fun _ h => nomatch h) dX2_isBlock_78
    · skip
      by_cases c_5 : k = 2
      · refine lv_tableIn (off := 57) (tgt := 58) hx hb dX2_isBlock_1 (by rw [c_5]; decide) (by rw [c_5]; decide) (by rw [c_5]; decide) (by decide) ?_
        refine lv_iload_n hx hb dX2_isBlock_58 rfl (lv_at hl 3 rfl) ?_
        refine sf_callRi (va_runS (As := [.int c0]) (rest := []) ⟨hx, hb, hml, hown, hg⟩ (c_X2_isBlockBit l c0) (cwS 1 hg (gw_S mw_300 mw_301 mw_21 mw_302) rfl rfl rfl (by decide +kernel) ⟨Nat.le_of_ble_eq_true rfl, Nat.le_of_ble_eq_true rfl⟩) sf_pre0 rfl rfl hl.1 rfl (lv_room (Nat.le_of_ble_eq_true rfl)) dX2_isBlock_59 ⟨Nat.zero_le _, Nat.zero_le _⟩) ?_
        refine sf_ifeq (tgt := 77) hx hb dX2_isBlock_62 (by decide) (fun c_6 => ?_) (fun c_6 => ?_)
        · refine lv_iconst (v := sf_b false) hx hb dX2_isBlock_77 (by decide) ?_
          refine sf_topi (y := sf_b (fc_isBlock k a0 b0 c0 n)) (congrArg sf_b (by first | (simp [fc_isBlock, c_1, c_2, c_5, c_6]; done) | (clear hl; simp_all [fc_isBlock]; done))) ?_
          exact W.zret hx hb hr (sf_b_nb _) (fun t ht _ => ⟨rfl, ht⟩) (fun _ h => nomatch h) dX2_isBlock_78
        · refine lv_dload hx hb dX2_isBlock_65 (lv_at hl 4 rfl) ?_
          refine sf_callRi (va_runS (As := [.double n]) (rest := []) ⟨hx, hb, hml, hown, hg⟩ (c_X2_isCountable l n) (cwS 1 hg (gw_S mw_303 mw_304 mw_21 mw_305) rfl rfl rfl (by decide +kernel) ⟨Nat.le_of_ble_eq_true rfl, Nat.le_of_ble_eq_true rfl⟩) sf_pre0 rfl rfl hl.1 rfl (lv_room (Nat.le_of_ble_eq_true rfl)) dX2_isBlock_67 ⟨Nat.zero_le _, Nat.zero_le _⟩) ?_
          refine sf_ifeq (tgt := 77) hx hb dX2_isBlock_70 (by decide) (fun c_7 => ?_) (fun c_7 => ?_)
          · refine lv_iconst (v := sf_b false) hx hb dX2_isBlock_77 (by decide) ?_
            refine sf_topi (y := sf_b (fc_isBlock k a0 b0 c0 n)) (congrArg sf_b (by first | (simp [fc_isBlock, c_1, c_2, c_5, c_6, c_7]; done) | (clear hl; simp_all [fc_isBlock]; done))) ?_
            exact W.zret hx hb hr (sf_b_nb _) (fun t ht _ => ⟨rfl, ht⟩) (fun _ h => nomatch h) dX2_isBlock_78
          · refine lv_iconst (v := sf_b true) hx hb dX2_isBlock_73 (by decide) ?_
            refine lv_goto (tgt := 78) hx hb dX2_isBlock_74 (by decide) ?_
            refine sf_topi (y := sf_b (fc_isBlock k a0 b0 c0 n)) (congrArg sf_b (by first | (simp [fc_isBlock, c_1, c_2, c_5, c_6, c_7]; done) | (clear hl; simp_all [fc_isBlock]; done))) ?_
            exact W.zret hx hb hr (sf_b_nb _) (fun t ht _ => ⟨rfl, ht⟩) (fun _ h => nomatch h) dX2_isBlock_78
      · skip
        by_cases c_8 : k = 3
        · refine lv_tableIn (off := 78) (tgt := 79) hx hb dX2_isBlock_1 (by rw [c_8]; decide) (by rw [c_8]; decide) (by rw [c_8]; decide) (by decide) ?_
          refine lv_iload_n hx hb dX2_isBlock_79 rfl (lv_at hl 1 rfl) ?_
          refine lv_iload_n hx hb dX2_isBlock_80 rfl (lv_at hl 2 rfl) ?_
          refine sf_callRi (va_runS (As := [.int a0, .int b0]) (rest := []) ⟨hx, hb, hml, hown, hg⟩ (c_X2_areRegisters l a0 b0) (cwS 2 hg (gw_S mw_307 mw_308 mw_21 mw_309) rfl rfl rfl (by decide +kernel) ⟨Nat.le_of_ble_eq_true rfl, Nat.le_of_ble_eq_true rfl⟩) sf_pre0 rfl rfl hl.1 rfl (lv_room (Nat.le_of_ble_eq_true rfl)) dX2_isBlock_81 ⟨Nat.zero_le _, Nat.zero_le _⟩) ?_
          refine sf_ifeq (tgt := 98) hx hb dX2_isBlock_84 (by decide) (fun c_9 => ?_) (fun c_9 => ?_)
          · refine lv_iconst (v := sf_b false) hx hb dX2_isBlock_98 (by decide) ?_
            refine sf_topi (y := sf_b (fc_isBlock k a0 b0 c0 n)) (congrArg sf_b (by first | (simp [fc_isBlock, c_1, c_2, c_5, c_8, c_9]; done) | (clear hl; simp_all [fc_isBlock]; done))) ?_
            exact W.zret hx hb hr (sf_b_nb _) (fun t ht _ => ⟨rfl, ht⟩) (fun _ h => nomatch h) dX2_isBlock_99
          · refine lv_iload_n hx hb dX2_isBlock_87 rfl (lv_at hl 3 rfl) ?_
            refine sf_callRi (va_runS (As := [.int c0]) (rest := []) ⟨hx, hb, hml, hown, hg⟩ (c_X2_isBlockBit l c0) (cwS 1 hg (gw_S mw_300 mw_301 mw_21 mw_302) rfl rfl rfl (by decide +kernel) ⟨Nat.le_of_ble_eq_true rfl, Nat.le_of_ble_eq_true rfl⟩) sf_pre0 rfl rfl hl.1 rfl (lv_room (Nat.le_of_ble_eq_true rfl)) dX2_isBlock_88 ⟨Nat.zero_le _, Nat.zero_le _⟩) ?_
            refine sf_ifeq (tgt := 98) hx hb dX2_isBlock_91 (by decide) (fun c_10 => ?_) (fun c_10 => ?_)
            · refine lv_iconst (v := sf_b false) hx hb dX2_isBlock_98 (by decide) ?_
              refine sf_topi (y := sf_b (fc_isBlock k a0 b0 c0 n)) (congrArg sf_b (by first | (simp [fc_isBlock, c_1, c_2, c_5, c_8, c_9, c_10]; done) | (clear hl; simp_all [fc_isBlock]; done))) ?_
              exact W.zret hx hb hr (sf_b_nb _) (fun t ht _ => ⟨rfl, ht⟩) (fun _ h => nomatch h) dX2_isBlock_99
            · refine lv_iconst (v := sf_b true) hx hb dX2_isBlock_94 (by decide) ?_
              refine lv_goto (tgt := 99) hx hb dX2_isBlock_95 (by decide) ?_
              refine sf_topi (y := sf_b (fc_isBlock k a0 b0 c0 n)) (congrArg sf_b (by first | (simp [fc_isBlock, c_1, c_2, c_5, c_8, c_9, c_10]; done) | (clear hl; simp_all [fc_isBlock]; done))) ?_
              exact W.zret hx hb hr (sf_b_nb _) (fun t ht _ => ⟨rfl, ht⟩) (fun _ h => nomatch h) dX2_isBlock_99
        · skip
          by_cases c_11 : k = 4
          · refine lv_tableIn (off := 99) (tgt := 100) hx hb dX2_isBlock_1 (by rw [c_11]; decide) (by rw [c_11]; decide) (by rw [c_11]; decide) (by decide) ?_
            refine lv_iload_n hx hb dX2_isBlock_100 rfl (lv_at hl 1 rfl) ?_
            refine lv_iload_n hx hb dX2_isBlock_101 rfl (lv_at hl 2 rfl) ?_
            refine sf_callRi (va_runS (As := [.int a0, .int b0]) (rest := []) ⟨hx, hb, hml, hown, hg⟩ (c_X2_areRegisters l a0 b0) (cwS 2 hg (gw_S mw_307 mw_308 mw_21 mw_309) rfl rfl rfl (by decide +kernel) ⟨Nat.le_of_ble_eq_true rfl, Nat.le_of_ble_eq_true rfl⟩) sf_pre0 rfl rfl hl.1 rfl (lv_room (Nat.le_of_ble_eq_true rfl)) dX2_isBlock_102 ⟨Nat.zero_le _, Nat.zero_le _⟩) ?_
            refine sf_ifeq (tgt := 121) hx hb dX2_isBlock_105 (by decide) (fun c_12 => ?_) (fun c_12 => ?_)
            · refine lv_iconst (v := sf_b false) hx hb dX2_isBlock_121 (by decide) ?_
              refine sf_topi (y := sf_b (fc_isBlock k a0 b0 c0 n)) (congrArg sf_b (by first | (simp [fc_isBlock, c_1, c_2, c_5, c_8, c_11, c_12]; done) | (clear hl; simp_all [fc_isBlock]; done))) ?_
              exact W.zret hx hb hr (sf_b_nb _) (fun t ht _ => ⟨rfl, ht⟩) (fun _ h => nomatch h) dX2_isBlock_122
            · refine lv_iload_n hx hb dX2_isBlock_108 rfl (lv_at hl 3 rfl) ?_
              refine lv_bipush (v := 8) hx hb dX2_isBlock_109 (by decide) ?_
              refine sf_callRi (va_runS (As := [.int c0, .int 8]) (rest := []) ⟨hx, hb, hml, hown, hg⟩ (c_X2_isIndex l c0 8) (cwS 2 hg (gw_S mw_163 mw_164 mw_21 mw_165) rfl rfl rfl (by decide +kernel) ⟨Nat.le_of_ble_eq_true rfl, Nat.le_of_ble_eq_true rfl⟩) sf_pre0 rfl rfl hl.1 rfl (lv_room (Nat.le_of_ble_eq_true rfl)) dX2_isBlock_111 ⟨Nat.zero_le _, Nat.zero_le _⟩) ?_
              refine sf_ifeq (tgt := 121) hx hb dX2_isBlock_114 (by decide) (fun c_13 => ?_) (fun c_13 => ?_)
              · refine lv_iconst (v := sf_b false) hx hb dX2_isBlock_121 (by decide) ?_
                refine sf_topi (y := sf_b (fc_isBlock k a0 b0 c0 n)) (congrArg sf_b (by first | (simp [fc_isBlock, c_1, c_2, c_5, c_8, c_11, c_12, c_13]; done) | (clear hl; simp_all [fc_isBlock]; done))) ?_
                exact W.zret hx hb hr (sf_b_nb _) (fun t ht _ => ⟨rfl, ht⟩) (fun _ h => nomatch h) dX2_isBlock_122
              · refine lv_iconst (v := sf_b true) hx hb dX2_isBlock_117 (by decide) ?_
                refine lv_goto (tgt := 122) hx hb dX2_isBlock_118 (by decide) ?_
                refine sf_topi (y := sf_b (fc_isBlock k a0 b0 c0 n)) (congrArg sf_b (by first | (simp [fc_isBlock, c_1, c_2, c_5, c_8, c_11, c_12, c_13]; done) | (clear hl; simp_all [fc_isBlock]; done))) ?_
                exact W.zret hx hb hr (sf_b_nb _) (fun t ht _ => ⟨rfl, ht⟩) (fun _ h => nomatch h) dX2_isBlock_122
          · skip
            by_cases c_14 : k = 5
            · refine lv_tableIn (off := 99) (tgt := 100) hx hb dX2_isBlock_1 (by rw [c_14]; decide) (by rw [c_14]; decide) (by rw [c_14]; decide) (by decide) ?_
              refine lv_iload_n hx hb dX2_isBlock_100 rfl (lv_at hl 1 rfl) ?_
              refine lv_iload_n hx hb dX2_isBlock_101 rfl (lv_at hl 2 rfl) ?_
              refine sf_callRi (va_runS (As := [.int a0, .int b0]) (rest := []) ⟨hx, hb, hml, hown, hg⟩ (c_X2_areRegisters l a0 b0) (cwS 2 hg (gw_S mw_307 mw_308 mw_21 mw_309) rfl rfl rfl (by decide +kernel) ⟨Nat.le_of_ble_eq_true rfl, Nat.le_of_ble_eq_true rfl⟩) sf_pre0 rfl rfl hl.1 rfl (lv_room (Nat.le_of_ble_eq_true rfl)) dX2_isBlock_102 ⟨Nat.zero_le _, Nat.zero_le _⟩) ?_
              refine sf_ifeq (tgt := 121) hx hb dX2_isBlock_105 (by decide) (fun c_15 => ?_) (fun c_15 => ?_)
              · refine lv_iconst (v := sf_b false) hx hb dX2_isBlock_121 (by decide) ?_
                refine sf_topi (y := sf_b (fc_isBlock k a0 b0 c0 n)) (congrArg sf_b (by first | (simp [fc_isBlock, c_1, c_2, c_5, c_8, c_11, c_14, c_15]; done) | (clear hl; simp_all [fc_isBlock]; done))) ?_
                exact W.zret hx hb hr (sf_b_nb _) (fun t ht _ => ⟨rfl, ht⟩) (fun _ h => nomatch h) dX2_isBlock_122
              · refine lv_iload_n hx hb dX2_isBlock_108 rfl (lv_at hl 3 rfl) ?_
                refine lv_bipush (v := 8) hx hb dX2_isBlock_109 (by decide) ?_
                refine sf_callRi (va_runS (As := [.int c0, .int 8]) (rest := []) ⟨hx, hb, hml, hown, hg⟩ (c_X2_isIndex l c0 8) (cwS 2 hg (gw_S mw_163 mw_164 mw_21 mw_165) rfl rfl rfl (by decide +kernel) ⟨Nat.le_of_ble_eq_true rfl, Nat.le_of_ble_eq_true rfl⟩) sf_pre0 rfl rfl hl.1 rfl (lv_room (Nat.le_of_ble_eq_true rfl)) dX2_isBlock_111 ⟨Nat.zero_le _, Nat.zero_le _⟩) ?_
                refine sf_ifeq (tgt := 121) hx hb dX2_isBlock_114 (by decide) (fun c_16 => ?_) (fun c_16 => ?_)
                · refine lv_iconst (v := sf_b false) hx hb dX2_isBlock_121 (by decide) ?_
                  refine sf_topi (y := sf_b (fc_isBlock k a0 b0 c0 n)) (congrArg sf_b (by first | (simp [fc_isBlock, c_1, c_2, c_5, c_8, c_11, c_14, c_15, c_16]; done) | (clear hl; simp_all [fc_isBlock]; done))) ?_
                  exact W.zret hx hb hr (sf_b_nb _) (fun t ht _ => ⟨rfl, ht⟩) (fun _ h => nomatch h) dX2_isBlock_122
                · refine lv_iconst (v := sf_b true) hx hb dX2_isBlock_117 (by decide) ?_
                  refine lv_goto (tgt := 122) hx hb dX2_isBlock_118 (by decide) ?_
                  refine sf_topi (y := sf_b (fc_isBlock k a0 b0 c0 n)) (congrArg sf_b (by first | (simp [fc_isBlock, c_1, c_2, c_5, c_8, c_11, c_14, c_15, c_16]; done) | (clear hl; simp_all [fc_isBlock]; done))) ?_
                  exact W.zret hx hb hr (sf_b_nb _) (fun t ht _ => ⟨rfl, ht⟩) (fun _ h => nomatch h) dX2_isBlock_122
            · skip
              by_cases c_17 : k = 6
              · refine lv_tableIn (off := 99) (tgt := 100) hx hb dX2_isBlock_1 (by rw [c_17]; decide) (by rw [c_17]; decide) (by rw [c_17]; decide) (by decide) ?_
                refine lv_iload_n hx hb dX2_isBlock_100 rfl (lv_at hl 1 rfl) ?_
                refine lv_iload_n hx hb dX2_isBlock_101 rfl (lv_at hl 2 rfl) ?_
                refine sf_callRi (va_runS (As := [.int a0, .int b0]) (rest := []) ⟨hx, hb, hml, hown, hg⟩ (c_X2_areRegisters l a0 b0) (cwS 2 hg (gw_S mw_307 mw_308 mw_21 mw_309) rfl rfl rfl (by decide +kernel) ⟨Nat.le_of_ble_eq_true rfl, Nat.le_of_ble_eq_true rfl⟩) sf_pre0 rfl rfl hl.1 rfl (lv_room (Nat.le_of_ble_eq_true rfl)) dX2_isBlock_102 ⟨Nat.zero_le _, Nat.zero_le _⟩) ?_
                refine sf_ifeq (tgt := 121) hx hb dX2_isBlock_105 (by decide) (fun c_18 => ?_) (fun c_18 => ?_)
                · refine lv_iconst (v := sf_b false) hx hb dX2_isBlock_121 (by decide) ?_
                  refine sf_topi (y := sf_b (fc_isBlock k a0 b0 c0 n)) (congrArg sf_b (by first | (simp [fc_isBlock, c_1, c_2, c_5, c_8, c_11, c_14, c_17, c_18]; done) | (clear hl; simp_all [fc_isBlock]; done))) ?_
                  exact W.zret hx hb hr (sf_b_nb _) (fun t ht _ => ⟨rfl, ht⟩) (fun _ h => nomatch h) dX2_isBlock_122
                · refine lv_iload_n hx hb dX2_isBlock_108 rfl (lv_at hl 3 rfl) ?_
                  refine lv_bipush (v := 8) hx hb dX2_isBlock_109 (by decide) ?_
                  refine sf_callRi (va_runS (As := [.int c0, .int 8]) (rest := []) ⟨hx, hb, hml, hown, hg⟩ (c_X2_isIndex l c0 8) (cwS 2 hg (gw_S mw_163 mw_164 mw_21 mw_165) rfl rfl rfl (by decide +kernel) ⟨Nat.le_of_ble_eq_true rfl, Nat.le_of_ble_eq_true rfl⟩) sf_pre0 rfl rfl hl.1 rfl (lv_room (Nat.le_of_ble_eq_true rfl)) dX2_isBlock_111 ⟨Nat.zero_le _, Nat.zero_le _⟩) ?_
                  refine sf_ifeq (tgt := 121) hx hb dX2_isBlock_114 (by decide) (fun c_19 => ?_) (fun c_19 => ?_)
                  · refine lv_iconst (v := sf_b false) hx hb dX2_isBlock_121 (by decide) ?_
                    refine sf_topi (y := sf_b (fc_isBlock k a0 b0 c0 n)) (congrArg sf_b (by first | (simp [fc_isBlock, c_1, c_2, c_5, c_8, c_11, c_14, c_17, c_18, c_19]; done) | (clear hl; simp_all [fc_isBlock]; done))) ?_
                    exact W.zret hx hb hr (sf_b_nb _) (fun t ht _ => ⟨rfl, ht⟩) (fun _ h => nomatch h) dX2_isBlock_122
                  · refine lv_iconst (v := sf_b true) hx hb dX2_isBlock_117 (by decide) ?_
                    refine lv_goto (tgt := 122) hx hb dX2_isBlock_118 (by decide) ?_
                    refine sf_topi (y := sf_b (fc_isBlock k a0 b0 c0 n)) (congrArg sf_b (by first | (simp [fc_isBlock, c_1, c_2, c_5, c_8, c_11, c_14, c_17, c_18, c_19]; done) | (clear hl; simp_all [fc_isBlock]; done))) ?_
                    exact W.zret hx hb hr (sf_b_nb _) (fun t ht _ => ⟨rfl, ht⟩) (fun _ h => nomatch h) dX2_isBlock_122
              · skip
                by_cases c_20 : k = 7
                · refine lv_tableIn (off := 99) (tgt := 100) hx hb dX2_isBlock_1 (by rw [c_20]; decide) (by rw [c_20]; decide) (by rw [c_20]; decide) (by decide) ?_
                  refine lv_iload_n hx hb dX2_isBlock_100 rfl (lv_at hl 1 rfl) ?_
                  refine lv_iload_n hx hb dX2_isBlock_101 rfl (lv_at hl 2 rfl) ?_
                  refine sf_callRi (va_runS (As := [.int a0, .int b0]) (rest := []) ⟨hx, hb, hml, hown, hg⟩ (c_X2_areRegisters l a0 b0) (cwS 2 hg (gw_S mw_307 mw_308 mw_21 mw_309) rfl rfl rfl (by decide +kernel) ⟨Nat.le_of_ble_eq_true rfl, Nat.le_of_ble_eq_true rfl⟩) sf_pre0 rfl rfl hl.1 rfl (lv_room (Nat.le_of_ble_eq_true rfl)) dX2_isBlock_102 ⟨Nat.zero_le _, Nat.zero_le _⟩) ?_
                  refine sf_ifeq (tgt := 121) hx hb dX2_isBlock_105 (by decide) (fun c_21 => ?_) (fun c_21 => ?_)
                  · refine lv_iconst (v := sf_b false) hx hb dX2_isBlock_121 (by decide) ?_
                    refine sf_topi (y := sf_b (fc_isBlock k a0 b0 c0 n)) (congrArg sf_b (by first | (simp [fc_isBlock, c_1, c_2, c_5, c_8, c_11, c_14, c_17, c_20, c_21]; done) | (clear hl; simp_all [fc_isBlock]; done))) ?_
                    exact W.zret hx hb hr (sf_b_nb _) (fun t ht _ => ⟨rfl, ht⟩) (fun _ h => nomatch h) dX2_isBlock_122
                  · refine lv_iload_n hx hb dX2_isBlock_108 rfl (lv_at hl 3 rfl) ?_
                    refine lv_bipush (v := 8) hx hb dX2_isBlock_109 (by decide) ?_
                    refine sf_callRi (va_runS (As := [.int c0, .int 8]) (rest := []) ⟨hx, hb, hml, hown, hg⟩ (c_X2_isIndex l c0 8) (cwS 2 hg (gw_S mw_163 mw_164 mw_21 mw_165) rfl rfl rfl (by decide +kernel) ⟨Nat.le_of_ble_eq_true rfl, Nat.le_of_ble_eq_true rfl⟩) sf_pre0 rfl rfl hl.1 rfl (lv_room (Nat.le_of_ble_eq_true rfl)) dX2_isBlock_111 ⟨Nat.zero_le _, Nat.zero_le _⟩) ?_
                    refine sf_ifeq (tgt := 121) hx hb dX2_isBlock_114 (by decide) (fun c_22 => ?_) (fun c_22 => ?_)
                    · refine lv_iconst (v := sf_b false) hx hb dX2_isBlock_121 (by decide) ?_
                      refine sf_topi (y := sf_b (fc_isBlock k a0 b0 c0 n)) (congrArg sf_b (by first | (simp [fc_isBlock, c_1, c_2, c_5, c_8, c_11, c_14, c_17, c_20, c_21, c_22]; done) | (clear hl; simp_all [fc_isBlock]; done))) ?_
                      exact W.zret hx hb hr (sf_b_nb _) (fun t ht _ => ⟨rfl, ht⟩) (fun _ h => nomatch h) dX2_isBlock_122
                    · refine lv_iconst (v := sf_b true) hx hb dX2_isBlock_117 (by decide) ?_
                      refine lv_goto (tgt := 122) hx hb dX2_isBlock_118 (by decide) ?_
                      refine sf_topi (y := sf_b (fc_isBlock k a0 b0 c0 n)) (congrArg sf_b (by first | (simp [fc_isBlock, c_1, c_2, c_5, c_8, c_11, c_14, c_17, c_20, c_21, c_22]; done) | (clear hl; simp_all [fc_isBlock]; done))) ?_
                      exact W.zret hx hb hr (sf_b_nb _) (fun t ht _ => ⟨rfl, ht⟩) (fun _ h => nomatch h) dX2_isBlock_122
                · skip
                  by_cases c_23 : k = 8
                  · refine lv_tableIn (off := 122) (tgt := 123) hx hb dX2_isBlock_1 (by rw [c_23]; decide) (by rw [c_23]; decide) (by rw [c_23]; decide) (by decide) ?_
                    refine lv_iload_n hx hb dX2_isBlock_123 rfl (lv_at hl 1 rfl) ?_
                    refine lv_iload_n hx hb dX2_isBlock_124 rfl (lv_at hl 2 rfl) ?_
                    refine sf_callRi (va_runS (As := [.int a0, .int b0]) (rest := []) ⟨hx, hb, hml, hown, hg⟩ (c_X2_areRegisters l a0 b0) (cwS 2 hg (gw_S mw_307 mw_308 mw_21 mw_309) rfl rfl rfl (by decide +kernel) ⟨Nat.le_of_ble_eq_true rfl, Nat.le_of_ble_eq_true rfl⟩) sf_pre0 rfl rfl hl.1 rfl (lv_room (Nat.le_of_ble_eq_true rfl)) dX2_isBlock_125 ⟨Nat.zero_le _, Nat.zero_le _⟩) ?_
                    refine sf_ifeq (tgt := 152) hx hb dX2_isBlock_128 (by decide) (fun c_24 => ?_) (fun c_24 => ?_)
                    · refine lv_iconst (v := sf_b false) hx hb dX2_isBlock_152 (by decide) ?_
                      refine sf_topi (y := sf_b (fc_isBlock k a0 b0 c0 n)) (congrArg sf_b (by first | (simp [fc_isBlock, c_1, c_2, c_5, c_8, c_11, c_14, c_17, c_20, c_23, c_24]; done) | (clear hl; simp_all [fc_isBlock]; done))) ?_
                      exact W.zret hx hb hr (sf_b_nb _) (fun t ht _ => ⟨rfl, ht⟩) (fun _ h => nomatch h) dX2_isBlock_153
                    · refine lv_iload_n hx hb dX2_isBlock_131 rfl (lv_at hl 3 rfl) ?_
                      refine lv_bipush (v := 8) hx hb dX2_isBlock_132 (by decide) ?_
                      refine sf_callRi (va_runS (As := [.int c0, .int 8]) (rest := []) ⟨hx, hb, hml, hown, hg⟩ (c_X2_isIndex l c0 8) (cwS 2 hg (gw_S mw_163 mw_164 mw_21 mw_165) rfl rfl rfl (by decide +kernel) ⟨Nat.le_of_ble_eq_true rfl, Nat.le_of_ble_eq_true rfl⟩) sf_pre0 rfl rfl hl.1 rfl (lv_room (Nat.le_of_ble_eq_true rfl)) dX2_isBlock_134 ⟨Nat.zero_le _, Nat.zero_le _⟩) ?_
                      refine sf_ifeq (tgt := 152) hx hb dX2_isBlock_137 (by decide) (fun c_25 => ?_) (fun c_25 => ?_)
                      · refine lv_iconst (v := sf_b false) hx hb dX2_isBlock_152 (by decide) ?_
                        refine sf_topi (y := sf_b (fc_isBlock k a0 b0 c0 n)) (congrArg sf_b (by first | (simp [fc_isBlock, c_1, c_2, c_5, c_8, c_11, c_14, c_17, c_20, c_23, c_24, c_25]; done) | (clear hl; simp_all [fc_isBlock]; done))) ?_
                        exact W.zret hx hb hr (sf_b_nb _) (fun t ht _ => ⟨rfl, ht⟩) (fun _ h => nomatch h) dX2_isBlock_153
                      · refine lv_dload hx hb dX2_isBlock_140 (lv_at hl 4 rfl) ?_
                        refine sf_callRi (va_runS (As := [.double n]) (rest := []) ⟨hx, hb, hml, hown, hg⟩ (c_X2_isSetting l n) (cwS 1 hg (gw_S mw_310 mw_311 mw_21 mw_312) rfl rfl rfl (by decide +kernel) ⟨Nat.le_of_ble_eq_true rfl, Nat.le_of_ble_eq_true rfl⟩) sf_pre0 rfl rfl hl.1 rfl (lv_room (Nat.le_of_ble_eq_true rfl)) dX2_isBlock_142 ⟨Nat.zero_le _, Nat.zero_le _⟩) ?_
                        refine sf_ifeq (tgt := 152) hx hb dX2_isBlock_145 (by decide) (fun c_26 => ?_) (fun c_26 => ?_)
                        · refine lv_iconst (v := sf_b false) hx hb dX2_isBlock_152 (by decide) ?_
                          refine sf_topi (y := sf_b (fc_isBlock k a0 b0 c0 n)) (congrArg sf_b (by first | (simp [fc_isBlock, c_1, c_2, c_5, c_8, c_11, c_14, c_17, c_20, c_23, c_24, c_25, c_26]; done) | (clear hl; simp_all [fc_isBlock]; done))) ?_
                          exact W.zret hx hb hr (sf_b_nb _) (fun t ht _ => ⟨rfl, ht⟩) (fun _ h => nomatch h) dX2_isBlock_153
                        · refine lv_iconst (v := sf_b true) hx hb dX2_isBlock_148 (by decide) ?_
                          refine lv_goto (tgt := 153) hx hb dX2_isBlock_149 (by decide) ?_
                          refine sf_topi (y := sf_b (fc_isBlock k a0 b0 c0 n)) (congrArg sf_b (by first | (simp [fc_isBlock, c_1, c_2, c_5, c_8, c_11, c_14, c_17, c_20, c_23, c_24, c_25, c_26]; done) | (clear hl; simp_all [fc_isBlock]; done))) ?_
                          exact W.zret hx hb hr (sf_b_nb _) (fun t ht _ => ⟨rfl, ht⟩) (fun _ h => nomatch h) dX2_isBlock_153
                  · skip
                    by_cases c_27 : k = 9
                    · refine lv_tableIn (off := 122) (tgt := 123) hx hb dX2_isBlock_1 (by rw [c_27]; decide) (by rw [c_27]; decide) (by rw [c_27]; decide) (by decide) ?_
                      refine lv_iload_n hx hb dX2_isBlock_123 rfl (lv_at hl 1 rfl) ?_
                      refine lv_iload_n hx hb dX2_isBlock_124 rfl (lv_at hl 2 rfl) ?_
                      refine sf_callRi (va_runS (As := [.int a0, .int b0]) (rest := []) ⟨hx, hb, hml, hown, hg⟩ (c_X2_areRegisters l a0 b0) (cwS 2 hg (gw_S mw_307 mw_308 mw_21 mw_309) rfl rfl rfl (by decide +kernel) ⟨Nat.le_of_ble_eq_true rfl, Nat.le_of_ble_eq_true rfl⟩) sf_pre0 rfl rfl hl.1 rfl (lv_room (Nat.le_of_ble_eq_true rfl)) dX2_isBlock_125 ⟨Nat.zero_le _, Nat.zero_le _⟩) ?_
                      refine sf_ifeq (tgt := 152) hx hb dX2_isBlock_128 (by decide) (fun c_28 => ?_) (fun c_28 => ?_)
                      · refine lv_iconst (v := sf_b false) hx hb dX2_isBlock_152 (by decide) ?_
                        refine sf_topi (y := sf_b (fc_isBlock k a0 b0 c0 n)) (congrArg sf_b (by first | (simp [fc_isBlock, c_1, c_2, c_5, c_8, c_11, c_14, c_17, c_20, c_23, c_27, c_28]; done) | (clear hl; simp_all [fc_isBlock]; done))) ?_
                        exact W.zret hx hb hr (sf_b_nb _) (fun t ht _ => ⟨rfl, ht⟩) (fun _ h => nomatch h) dX2_isBlock_153
                      · refine lv_iload_n hx hb dX2_isBlock_131 rfl (lv_at hl 3 rfl) ?_
                        refine lv_bipush (v := 8) hx hb dX2_isBlock_132 (by decide) ?_
                        refine sf_callRi (va_runS (As := [.int c0, .int 8]) (rest := []) ⟨hx, hb, hml, hown, hg⟩ (c_X2_isIndex l c0 8) (cwS 2 hg (gw_S mw_163 mw_164 mw_21 mw_165) rfl rfl rfl (by decide +kernel) ⟨Nat.le_of_ble_eq_true rfl, Nat.le_of_ble_eq_true rfl⟩) sf_pre0 rfl rfl hl.1 rfl (lv_room (Nat.le_of_ble_eq_true rfl)) dX2_isBlock_134 ⟨Nat.zero_le _, Nat.zero_le _⟩) ?_
                        refine sf_ifeq (tgt := 152) hx hb dX2_isBlock_137 (by decide) (fun c_29 => ?_) (fun c_29 => ?_)
                        · refine lv_iconst (v := sf_b false) hx hb dX2_isBlock_152 (by decide) ?_
                          refine sf_topi (y := sf_b (fc_isBlock k a0 b0 c0 n)) (congrArg sf_b (by first | (simp [fc_isBlock, c_1, c_2, c_5, c_8, c_11, c_14, c_17, c_20, c_23, c_27, c_28, c_29]; done) | (clear hl; simp_all [fc_isBlock]; done))) ?_
                          exact W.zret hx hb hr (sf_b_nb _) (fun t ht _ => ⟨rfl, ht⟩) (fun _ h => nomatch h) dX2_isBlock_153
                        · refine lv_dload hx hb dX2_isBlock_140 (lv_at hl 4 rfl) ?_
                          refine sf_callRi (va_runS (As := [.double n]) (rest := []) ⟨hx, hb, hml, hown, hg⟩ (c_X2_isSetting l n) (cwS 1 hg (gw_S mw_310 mw_311 mw_21 mw_312) rfl rfl rfl (by decide +kernel) ⟨Nat.le_of_ble_eq_true rfl, Nat.le_of_ble_eq_true rfl⟩) sf_pre0 rfl rfl hl.1 rfl (lv_room (Nat.le_of_ble_eq_true rfl)) dX2_isBlock_142 ⟨Nat.zero_le _, Nat.zero_le _⟩) ?_
                          refine sf_ifeq (tgt := 152) hx hb dX2_isBlock_145 (by decide) (fun c_30 => ?_) (fun c_30 => ?_)
                          · refine lv_iconst (v := sf_b false) hx hb dX2_isBlock_152 (by decide) ?_
                            refine sf_topi (y := sf_b (fc_isBlock k a0 b0 c0 n)) (congrArg sf_b (by first | (simp [fc_isBlock, c_1, c_2, c_5, c_8, c_11, c_14, c_17, c_20, c_23, c_27, c_28, c_29, c_30]; done) | (clear hl; simp_all [fc_isBlock]; done))) ?_
                            exact W.zret hx hb hr (sf_b_nb _) (fun t ht _ => ⟨rfl, ht⟩) (fun _ h => nomatch h) dX2_isBlock_153
                          · refine lv_iconst (v := sf_b true) hx hb dX2_isBlock_148 (by decide) ?_
                            refine lv_goto (tgt := 153) hx hb dX2_isBlock_149 (by decide) ?_
                            refine sf_topi (y := sf_b (fc_isBlock k a0 b0 c0 n)) (congrArg sf_b (by first | (simp [fc_isBlock, c_1, c_2, c_5, c_8, c_11, c_14, c_17, c_20, c_23, c_27, c_28, c_29, c_30]; done) | (clear hl; simp_all [fc_isBlock]; done))) ?_
                            exact W.zret hx hb hr (sf_b_nb _) (fun t ht _ => ⟨rfl, ht⟩) (fun _ h => nomatch h) dX2_isBlock_153
                    · skip
                      have h_31 : k.toInt < 0 ∨ 9 < k.toInt := by
                        have q0 : ¬ k.toInt = 0 := lv_neT c_1 (by decide)
                        have q1 : ¬ k.toInt = 1 := lv_neT c_2 (by decide)
                        have q2 : ¬ k.toInt = 2 := lv_neT c_5 (by decide)
                        have q3 : ¬ k.toInt = 3 := lv_neT c_8 (by decide)
                        have q4 : ¬ k.toInt = 4 := lv_neT c_11 (by decide)
                        have q5 : ¬ k.toInt = 5 := lv_neT c_14 (by decide)
                        have q6 : ¬ k.toInt = 6 := lv_neT c_17 (by decide)
                        have q7 : ¬ k.toInt = 7 := lv_neT c_20 (by decide)
                        have q8 : ¬ k.toInt = 8 := lv_neT c_23 (by decide)
                        have q9 : ¬ k.toInt = 9 := lv_neT c_27 (by decide)
                        omega
                      refine lv_tableOut (tgt := 154) hx hb dX2_isBlock_1 h_31 (by decide) ?_
                      refine lv_iconst (v := sf_b false) hx hb dX2_isBlock_154 (by decide) ?_
                      refine sf_topi (y := sf_b (fc_isBlock k a0 b0 c0 n)) (congrArg sf_b (by first | (simp [fc_isBlock, c_1, c_2, c_5, c_8, c_11, c_14, c_17, c_20, c_23, c_27]; done) | (clear hl; simp_all [fc_isBlock]; done))) ?_
                      exact W.zret hx hb hr (sf_b_nb _) (fun t ht _ => ⟨rfl, ht⟩) (fun _ h => nomatch h) dX2_isBlock_155
set_option maxHeartbeats 4000000 in
set_option maxRecDepth 100000 in
theorem c_X0_limited (l : Launch) (v : UInt64) (lo : UInt64) (hi : UInt64) : Met l yX0_limited wX0_limited ({ frames := 0, cells := 0, slots := 0, locals := 0 }) (sf_P0 [.double v, .double lo, .double hi]) (sf_R (some (.double (fc_lim v lo hi)))) 0 0 (fun _ => False) := by
  refine Met.ofW (cc := cX0_limited) (maxL := 6) (ret := (some .double)) (by decide) rfl ?_
  intro p e s m args below meth c s₁ B hml hv
  have hx := B.exec
  have hb := B.bytes
  have hr := B.returns
  have hts := atoms_spec (ws := wX0_limited) B.pre
  have hg : ∀ w ∈ gw_all, w.before args s = true := fun w h => hts w (List.mem_cons_of_mem _ h)
  have hown : s.vm.findClass RX0 = some m.cls := findClass_of_methodNamed B.named
  have hlocks := B.notSynchronized
  obtain ⟨rfl, -⟩ := hv
  have hl := lv_entry ([.double v, .double lo, .double hi]) (n := 6) (Nat.le_of_ble_eq_true rfl)
  rw [lg_entry_eq]
  generalize (lg_sl ([.double v, .double lo, .double hi]) ++ List.replicate (6 - (lg_sl ([.double v, .double lo, .double hi])).length) Slot.unset).toArray = ls at hl ⊢
  have hl : lv_has ls 6 [(0, .double v), (2, .double lo), (4, .double hi)] := hl
  refine lv_dload_n hx hb dX0_limited_0 rfl (lv_at hl 0 rfl) ?_
  refine lv_dload_n hx hb dX0_limited_1 rfl (lv_at hl 1 rfl) ?_
  refine lv_dcmp hx hb dX0_limited_2 ?_
  refine lv_if_ge (tgt := 10) hx hb dX0_limited_3 (by decide) (fun c_1 => ?_) (fun c_1 => ?_)
  · have c_1 := sd_g_ge.mp c_1
    refine lv_dload_n hx hb dX0_limited_10 rfl (lv_at hl 0 rfl) ?_
    refine lv_dload hx hb dX0_limited_11 (lv_at hl 2 rfl) ?_
    refine lv_dcmp hx hb dX0_limited_13 ?_
    refine lv_if_le (tgt := 22) hx hb dX0_limited_14 (by decide) (fun c_2 => ?_) (fun c_2 => ?_)
    · have c_2 := sd_l_le.mp c_2
      refine lv_dload_n hx hb dX0_limited_22 rfl (lv_at hl 0 rfl) ?_
      refine sf_topd (y := fc_lim v lo hi) (by simp [fc_lim, c_1, c_2]) ?_
      exact W.dret hx hb hr (fun t ht _ => ⟨rfl, ht⟩) (fun _ h => nomatch h) dX0_limited_23
    · have c_2 := sd_nl_le c_2
      refine lv_dload hx hb dX0_limited_17 (lv_at hl 2 rfl) ?_
      refine lv_goto (tgt := 23) hx hb dX0_limited_19 (by decide) ?_
      refine sf_topd (y := fc_lim v lo hi) (by simp [fc_lim, c_1, c_2]) ?_
      exact W.dret hx hb hr (fun t ht _ => ⟨rfl, ht⟩) (fun _ h => nomatch h) dX0_limited_23
  · have c_1 := sd_ng_ge c_1
    refine lv_dload_n hx hb dX0_limited_6 rfl (lv_at hl 1 rfl) ?_
    refine lv_goto (tgt := 23) hx hb dX0_limited_7 (by decide) ?_
    refine sf_topd (y := fc_lim v lo hi) (by simp [fc_lim, c_1]) ?_
    exact W.dret hx hb hr (fun t ht _ => ⟨rfl, ht⟩) (fun _ h => nomatch h) dX0_limited_23
set_option maxHeartbeats 4000000 in
set_option maxRecDepth 100000 in
theorem c_X3_in (l : Launch) (i : Int32) (lo : Int32) (hi : Int32) : Met l yX3_in wX3_in ({ frames := 0, cells := 0, slots := 0, locals := 0 }) (sf_P0 [.int i, .int lo, .int hi]) (sf_R (some (.int (sf_b (fc_btw i lo hi))))) 0 0 (fun _ => False) := by
  refine Met.ofW (cc := cX3_in) (maxL := 3) (ret := (some .boolean)) (by decide) rfl ?_
  intro p e s m args below meth c s₁ B hml hv
  have hx := B.exec
  have hb := B.bytes
  have hr := B.returns
  have hts := atoms_spec (ws := wX3_in) B.pre
  have hg : ∀ w ∈ gw_all, w.before args s = true := fun w h => hts w (List.mem_cons_of_mem _ h)
  have hown : s.vm.findClass RX3 = some m.cls := findClass_of_methodNamed B.named
  have hlocks := B.notSynchronized
  obtain ⟨rfl, -⟩ := hv
  have hl := lv_entry ([.int i, .int lo, .int hi]) (n := 3) (Nat.le_of_ble_eq_true rfl)
  rw [lg_entry_eq]
  generalize (lg_sl ([.int i, .int lo, .int hi]) ++ List.replicate (3 - (lg_sl ([.int i, .int lo, .int hi])).length) Slot.unset).toArray = ls at hl ⊢
  have hl : lv_has ls 3 [(0, .int i), (1, .int lo), (2, .int hi)] := hl
  refine lv_iload_n hx hb dX3_in_0 rfl (lv_at hl 0 rfl) ?_
  refine lv_iload_n hx hb dX3_in_1 rfl (lv_at hl 1 rfl) ?_
  refine lv_icmp_lt (tgt := 14) hx hb dX3_in_2 (by decide) (fun c_1 => ?_) (fun c_1 => ?_)
  · refine lv_iconst (v := sf_b false) hx hb dX3_in_14 (by decide) ?_
    refine sf_topi (y := sf_b (fc_btw i lo hi)) (congrArg sf_b (by first | (simp [fc_btw, c_1]; done) | (clear hl; simp_all [fc_btw]; done))) ?_
    exact W.zret hx hb hr (sf_b_nb _) (fun t ht _ => ⟨rfl, ht⟩) (fun _ h => nomatch h) dX3_in_15
  · refine lv_iload_n hx hb dX3_in_5 rfl (lv_at hl 0 rfl) ?_
    refine lv_iload_n hx hb dX3_in_6 rfl (lv_at hl 2 rfl) ?_
    refine lv_icmp_gt (tgt := 14) hx hb dX3_in_7 (by decide) (fun c_2 => ?_) (fun c_2 => ?_)
    · refine lv_iconst (v := sf_b false) hx hb dX3_in_14 (by decide) ?_
      refine sf_topi (y := sf_b (fc_btw i lo hi)) (congrArg sf_b (by first | (simp [fc_btw, c_1, c_2]; done) | (clear hl; simp_all [fc_btw]; done))) ?_
      exact W.zret hx hb hr (sf_b_nb _) (fun t ht _ => ⟨rfl, ht⟩) (fun _ h => nomatch h) dX3_in_15
    · refine lv_iconst (v := sf_b true) hx hb dX3_in_10 (by decide) ?_
      refine lv_goto (tgt := 15) hx hb dX3_in_11 (by decide) ?_
      refine sf_topi (y := sf_b (fc_btw i lo hi)) (congrArg sf_b (by first | (simp [fc_btw, c_1, c_2]; done) | (clear hl; simp_all [fc_btw]; done))) ?_
      exact W.zret hx hb hr (sf_b_nb _) (fun t ht _ => ⟨rfl, ht⟩) (fun _ h => nomatch h) dX3_in_15
set_option maxHeartbeats 4000000 in
set_option maxRecDepth 100000 in
theorem c_X3_at (l : Launch) (g : Int32) (r : Int32) (k : Int32) : Met l yX3_at wX3_at ({ frames := 0, cells := 0, slots := 0, locals := 0 }) (sf_P0 [.int g, .int r, .int k]) (sf_R (some (.int (fm_at g r k)))) 0 0 (fun _ => False) := by
  refine Met.ofW (cc := cX3_at) (maxL := 3) (ret := (some .int)) (by decide) rfl ?_
  intro p e s m args below meth c s₁ B hml hv
  have hx := B.exec
  have hb := B.bytes
  have hr := B.returns
  have hts := atoms_spec (ws := wX3_at) B.pre
  have hg : ∀ w ∈ gw_all, w.before args s = true := fun w h => hts w (List.mem_cons_of_mem _ h)
  have hown : s.vm.findClass RX3 = some m.cls := findClass_of_methodNamed B.named
  have hlocks := B.notSynchronized
  obtain ⟨rfl, -⟩ := hv
  have hl := lv_entry ([.int g, .int r, .int k]) (n := 3) (Nat.le_of_ble_eq_true rfl)
  rw [lg_entry_eq]
  generalize (lg_sl ([.int g, .int r, .int k]) ++ List.replicate (3 - (lg_sl ([.int g, .int r, .int k])).length) Slot.unset).toArray = ls at hl ⊢
  have hl : lv_has ls 3 [(0, .int g), (1, .int r), (2, .int k)] := hl
  refine lv_bipush (v := 12) hx hb dX3_at_0 (by decide) ?_
  refine lv_iload_n hx hb dX3_at_2 rfl (lv_at hl 0 rfl) ?_
  refine lv_imul hx hb dX3_at_3 ?_
  refine lv_iconst (v := 4) hx hb dX3_at_4 (by decide) ?_
  refine lv_iload_n hx hb dX3_at_5 rfl (lv_at hl 1 rfl) ?_
  refine lv_imul hx hb dX3_at_6 ?_
  refine lv_iadd hx hb dX3_at_7 ?_
  refine lv_iload_n hx hb dX3_at_8 rfl (lv_at hl 2 rfl) ?_
  refine lv_iadd hx hb dX3_at_9 ?_
  exact W.iret hx hb hr (fun t ht _ => ⟨rfl, ht⟩) (fun _ h => nomatch h) dX3_at_10
set_option maxHeartbeats 4000000 in
set_option maxRecDepth 100000 in
theorem c_X3_isRegister (l : Launch) (r : Int32) : Met l yX3_isRegister wX3_isRegister ({ frames := 1, cells := 0, slots := 0, locals := 22 }) (sf_P0 [.int r]) (sf_R (some (.int (sf_b (fm_reg r))))) 0 0 (fun _ => False) := by
  refine Met.ofW (cc := cX3_isRegister) (maxL := 1) (ret := (some .boolean)) (by decide) rfl ?_
  intro p e s m args below meth c s₁ B hml hv
  have hx := B.exec
  have hb := B.bytes
  have hr := B.returns
  have hts := atoms_spec (ws := wX3_isRegister) B.pre
  have hg : ∀ w ∈ gw_all, w.before args s = true := fun w h => hts w (List.mem_cons_of_mem _ h)
  have hown : s.vm.findClass RX3 = some m.cls := findClass_of_methodNamed B.named
  have hlocks := B.notSynchronized
  obtain ⟨rfl, -⟩ := hv
  have hl := lv_entry ([.int r]) (n := 1) (Nat.le_of_ble_eq_true rfl)
  rw [lg_entry_eq]
  generalize (lg_sl ([.int r]) ++ List.replicate (1 - (lg_sl ([.int r])).length) Slot.unset).toArray = ls at hl ⊢
  have hl : lv_has ls 1 [(0, .int r)] := hl
  refine lv_iload_n hx hb dX3_isRegister_0 rfl (lv_at hl 0 rfl) ?_
  refine lv_iconst (v := 0) hx hb dX3_isRegister_1 (by decide) ?_
  refine lv_bipush (v := 7) hx hb dX3_isRegister_2 (by decide) ?_
  refine sf_callRi (va_runS (As := [.int r, .int 0, .int 7]) (rest := []) ⟨hx, hb, hml, hown, hg⟩ (c_X3_in l r 0 7) (cwS 3 hg (gw_S mw_592 mw_593 mw_24 mw_594) rfl rfl rfl (by decide +kernel) ⟨Nat.le_of_ble_eq_true rfl, Nat.le_of_ble_eq_true rfl⟩) sf_pre0 rfl rfl hl.1 rfl (lv_room (Nat.le_of_ble_eq_true rfl)) dX3_isRegister_4 ⟨Nat.zero_le _, Nat.zero_le _⟩) ?_
  refine sf_topi (y := sf_b (fm_reg r)) (congrArg sf_b (by first | (simp [fm_reg]; done) | (clear hl; simp_all [fm_reg]; done))) ?_
  exact W.zret hx hb hr (sf_b_nb _) (fun t ht _ => ⟨rfl, ht⟩) (fun _ h => nomatch h) dX3_isRegister_7
set_option maxHeartbeats 4000000 in
set_option maxRecDepth 100000 in
theorem c_X3_fits (l : Launch) (k : Int32) (a0 : Int32) (b0 : Int32) (c0 : Int32) (n : UInt64) : Met l yX3_fits wX3_fits ({ frames := 2, cells := 0, slots := 0, locals := 42 }) (sf_P0 [.int k, .int a0, .int b0, .int c0, .double n]) (sf_R (some (.int (sf_b (fm_fits k a0 b0 c0 n))))) 0 0 (fun _ => False) := by
  refine Met.ofW (cc := cX3_fits) (maxL := 6) (ret := (some .boolean)) (by decide) rfl ?_
  intro p e s m args below meth c s₁ B hml hv
  have hx := B.exec
  have hb := B.bytes
  have hr := B.returns
  have hts := atoms_spec (ws := wX3_fits) B.pre
  have hg : ∀ w ∈ gw_all, w.before args s = true := fun w h => hts w (List.mem_cons_of_mem _ h)
  have hown : s.vm.findClass RX3 = some m.cls := findClass_of_methodNamed B.named
  have hlocks := B.notSynchronized
  obtain ⟨rfl, -⟩ := hv
  have hl := lv_entry ([.int k, .int a0, .int b0, .int c0, .double n]) (n := 6) (Nat.le_of_ble_eq_true rfl)
  rw [lg_entry_eq]
  generalize (lg_sl ([.int k, .int a0, .int b0, .int c0, .double n]) ++ List.replicate (6 - (lg_sl ([.int k, .int a0, .int b0, .int c0, .double n])).length) Slot.unset).toArray = ls at hl ⊢
  have hl : lv_has ls 6 [(0, .int k), (1, .int a0), (2, .int b0), (3, .int c0), (4, .double n)] := hl
  refine lv_iload_n hx hb dX3_fits_0 rfl (lv_at hl 0 rfl) ?_
  refine lv_iconst (v := 0) hx hb dX3_fits_1 (by decide) ?_
  refine lv_bipush (v := 9) hx hb dX3_fits_2 (by decide) ?_
  refine sf_callRi (va_runS (As := [.int k, .int 0, .int 9]) (rest := []) ⟨hx, hb, hml, hown, hg⟩ (c_X3_in l k 0 9) (cwS 3 hg (gw_S mw_592 mw_593 mw_24 mw_594) rfl rfl rfl (by decide +kernel) ⟨Nat.le_of_ble_eq_true rfl, Nat.le_of_ble_eq_true rfl⟩) sf_pre0 rfl rfl hl.1 rfl (lv_room (Nat.le_of_ble_eq_true rfl)) dX3_fits_4 ⟨Nat.zero_le _, Nat.zero_le _⟩) ?_
  refine sf_ifne (tgt := 12) hx hb dX3_fits_7 (by decide) (fun c_1 => ?_) (fun c_1 => ?_)
  · refine lv_iload_n hx hb dX3_fits_12 rfl (lv_at hl 0 rfl) ?_
    refine lv_if_ne (tgt := 18) hx hb dX3_fits_13 (by decide) (fun c_2 => ?_) (fun c_2 => ?_)
    · refine lv_iload_n hx hb dX3_fits_18 rfl (lv_at hl 0 rfl) ?_
      refine lv_iconst (v := 3) hx hb dX3_fits_19 (by decide) ?_
      refine lv_icmp_ge (tgt := 66) hx hb dX3_fits_20 (by decide) (fun c_3 => ?_) (fun c_3 => ?_)
      · refine lv_iload_n hx hb dX3_fits_66 rfl (lv_at hl 1 rfl) ?_
        refine sf_callRi (va_runS (As := [.int a0]) (rest := []) ⟨hx, hb, hml, hown, hg⟩ (c_X3_isRegister l a0) (cwS 1 hg (gw_S mw_618 mw_619 mw_24 mw_620) rfl rfl rfl (by decide +kernel) ⟨Nat.le_of_ble_eq_true rfl, Nat.le_of_ble_eq_true rfl⟩) sf_pre0 rfl rfl hl.1 rfl (lv_room (Nat.le_of_ble_eq_true rfl)) dX3_fits_67 ⟨Nat.zero_le _, Nat.zero_le _⟩) ?_
        refine sf_ifeq (tgt := 80) hx hb dX3_fits_70 (by decide) (fun c_4 => ?_) (fun c_4 => ?_)
        · refine lv_iconst (v := sf_b false) hx hb dX3_fits_80 (by decide) ?_
          refine sf_topi (y := sf_b (fm_fits k a0 b0 c0 n)) (congrArg sf_b (by first | (simp [fm_fits, c_1, c_2, c_3, c_4]; done) | (clear hl; simp_all [fm_fits]; done))) ?_
          exact W.zret hx hb hr (sf_b_nb _) (fun t ht _ => ⟨rfl, ht⟩) (fun _ h => nomatch h) dX3_fits_81
        · refine lv_iload_n hx hb dX3_fits_73 rfl (lv_at hl 2 rfl) ?_
          refine sf_callRi (va_runS (As := [.int b0]) (rest := []) ⟨hx, hb, hml, hown, hg⟩ (c_X3_isRegister l b0) (cwS 1 hg (gw_S mw_618 mw_619 mw_24 mw_620) rfl rfl rfl (by decide +kernel) ⟨Nat.le_of_ble_eq_true rfl, Nat.le_of_ble_eq_true rfl⟩) sf_pre0 rfl rfl hl.1 rfl (lv_room (Nat.le_of_ble_eq_true rfl)) dX3_fits_74 ⟨Nat.zero_le _, Nat.zero_le _⟩) ?_
          refine sf_ifne (tgt := 82) hx hb dX3_fits_77 (by decide) (fun c_5 => ?_) (fun c_5 => ?_)
          · refine lv_iload_n hx hb dX3_fits_82 rfl (lv_at hl 0 rfl) ?_
            refine lv_iconst (v := 3) hx hb dX3_fits_83 (by decide) ?_
            refine lv_icmp_ne (tgt := 96) hx hb dX3_fits_84 (by decide) (fun c_6 => ?_) (fun c_6 => ?_)
            · refine lv_iload_n hx hb dX3_fits_96 rfl (lv_at hl 3 rfl) ?_
              refine sf_callRi (va_runS (As := [.int c0]) (rest := []) ⟨hx, hb, hml, hown, hg⟩ (c_X3_isRegister l c0) (cwS 1 hg (gw_S mw_618 mw_619 mw_24 mw_620) rfl rfl rfl (by decide +kernel) ⟨Nat.le_of_ble_eq_true rfl, Nat.le_of_ble_eq_true rfl⟩) sf_pre0 rfl rfl hl.1 rfl (lv_room (Nat.le_of_ble_eq_true rfl)) dX3_fits_97 ⟨Nat.zero_le _, Nat.zero_le _⟩) ?_
              refine sf_ifeq (tgt := 131) hx hb dX3_fits_100 (by decide) (fun c_7 => ?_) (fun c_7 => ?_)
              · refine lv_iconst (v := sf_b false) hx hb dX3_fits_131 (by decide) ?_
                refine sf_topi (y := sf_b (fm_fits k a0 b0 c0 n)) (congrArg sf_b (by first | (simp [fm_fits, c_1, c_2, c_3, c_4, c_5, c_6, c_7]; done) | (clear hl; simp_all [fm_fits]; done))) ?_
                exact W.zret hx hb hr (sf_b_nb _) (fun t ht _ => ⟨rfl, ht⟩) (fun _ h => nomatch h) dX3_fits_132
              · refine lv_iload_n hx hb dX3_fits_103 rfl (lv_at hl 0 rfl) ?_
                refine lv_bipush (v := 8) hx hb dX3_fits_104 (by decide) ?_
                refine lv_icmp_lt (tgt := 127) hx hb dX3_fits_106 (by decide) (fun c_8 => ?_) (fun c_8 => ?_)
                · refine lv_iconst (v := sf_b true) hx hb dX3_fits_127 (by decide) ?_
                  refine lv_goto (tgt := 132) hx hb dX3_fits_128 (by decide) ?_
                  refine sf_topi (y := sf_b (fm_fits k a0 b0 c0 n)) (congrArg sf_b (by first | (simp [fm_fits, c_1, c_2, c_3, c_4, c_5, c_6, c_7, c_8]; done) | (clear hl; simp_all [fm_fits]; done))) ?_
                  exact W.zret hx hb hr (sf_b_nb _) (fun t ht _ => ⟨rfl, ht⟩) (fun _ h => nomatch h) dX3_fits_132
                · refine lv_dload hx hb dX3_fits_109 (lv_at hl 4 rfl) ?_
                  refine lv_ldc2d (v := 13875379345695965184) hx hb hown (hg _ mw_621) dX3_fits_111 ?_
                  refine lv_dcmp hx hb dX3_fits_114 ?_
                  refine lv_if_lt (tgt := 131) hx hb dX3_fits_115 (by decide) (fun c_9 => ?_) (fun c_9 => ?_)
                  · have c_9 := sd_l_lt.mp c_9
                    refine lv_iconst (v := sf_b false) hx hb dX3_fits_131 (by decide) ?_
                    refine sf_topi (y := sf_b (fm_fits k a0 b0 c0 n)) (congrArg sf_b (by first | (simp [fm_fits, c_1, c_2, c_3, c_4, c_5, c_6, c_7, c_8, c_9]; done) | (clear hl; simp_all [fm_fits]; done))) ?_
                    exact W.zret hx hb hr (sf_b_nb _) (fun t ht _ => ⟨rfl, ht⟩) (fun _ h => nomatch h) dX3_fits_132
                  · have c_9 := sd_nl_lt c_9
                    refine lv_dload hx hb dX3_fits_118 (lv_at hl 4 rfl) ?_
                    refine lv_ldc2d (v := 4652007308841189376) hx hb hown (hg _ mw_617) dX3_fits_120 ?_
                    refine lv_dcmp hx hb dX3_fits_123 ?_
                    refine lv_if_gt (tgt := 131) hx hb dX3_fits_124 (by decide) (fun c_10 => ?_) (fun c_10 => ?_)
                    · have c_10 := sd_g_gt.mp c_10
                      refine lv_iconst (v := sf_b false) hx hb dX3_fits_131 (by decide) ?_
                      refine sf_topi (y := sf_b (fm_fits k a0 b0 c0 n)) (congrArg sf_b (by first | (simp [fm_fits, c_1, c_2, c_3, c_4, c_5, c_6, c_7, c_8, c_9, c_10]; done) | (clear hl; simp_all [fm_fits]; done))) ?_
                      exact W.zret hx hb hr (sf_b_nb _) (fun t ht _ => ⟨rfl, ht⟩) (fun _ h => nomatch h) dX3_fits_132
                    · have c_10 := sd_ng_gt c_10
                      refine lv_iconst (v := sf_b true) hx hb dX3_fits_127 (by decide) ?_
                      refine lv_goto (tgt := 132) hx hb dX3_fits_128 (by decide) ?_
                      refine sf_topi (y := sf_b (fm_fits k a0 b0 c0 n)) (congrArg sf_b (by first | (simp [fm_fits, c_1, c_2, c_3, c_4, c_5, c_6, c_7, c_8, c_9, c_10]; done) | (clear hl; simp_all [fm_fits]; done))) ?_
                      exact W.zret hx hb hr (sf_b_nb _) (fun t ht _ => ⟨rfl, ht⟩) (fun _ h => nomatch h) dX3_fits_132
            · refine lv_iload_n hx hb dX3_fits_87 rfl (lv_at hl 3 rfl) ?_
              refine lv_bipush (v := 8) hx hb dX3_fits_88 (by decide) ?_
              refine lv_bipush (v := 21) hx hb dX3_fits_90 (by decide) ?_
              refine sf_callRi (va_runS (As := [.int c0, .int 8, .int 21]) (rest := []) ⟨hx, hb, hml, hown, hg⟩ (c_X3_in l c0 8 21) (cwS 3 hg (gw_S mw_592 mw_593 mw_24 mw_594) rfl rfl rfl (by decide +kernel) ⟨Nat.le_of_ble_eq_true rfl, Nat.le_of_ble_eq_true rfl⟩) sf_pre0 rfl rfl hl.1 rfl (lv_room (Nat.le_of_ble_eq_true rfl)) dX3_fits_92 ⟨Nat.zero_le _, Nat.zero_le _⟩) ?_
              refine sf_topi (y := sf_b (fm_fits k a0 b0 c0 n)) (congrArg sf_b (by first | (simp [fm_fits, c_1, c_2, c_3, c_4, c_5, c_6]; done) | (clear hl; simp_all [fm_fits]; done))) ?_
              exact W.zret hx hb hr (sf_b_nb _) (fun t ht _ => ⟨rfl, ht⟩) (fun _ h => nomatch h) dX3_fits_95
          · refine lv_iconst (v := sf_b false) hx hb dX3_fits_80 (by decide) ?_
            refine sf_topi (y := sf_b (fm_fits k a0 b0 c0 n)) (congrArg sf_b (by first | (simp [fm_fits, c_1, c_2, c_3, c_4, c_5]; done) | (clear hl; simp_all [fm_fits]; done))) ?_
            exact W.zret hx hb hr (sf_b_nb _) (fun t ht _ => ⟨rfl, ht⟩) (fun _ h => nomatch h) dX3_fits_81
      · refine lv_iload_n hx hb dX3_fits_23 rfl (lv_at hl 3 rfl) ?_
        refine lv_bipush (v := 8) hx hb dX3_fits_24 (by decide) ?_
        refine lv_bipush (v := 21) hx hb dX3_fits_26 (by decide) ?_
        refine sf_callRi (va_runS (As := [.int c0, .int 8, .int 21]) (rest := []) ⟨hx, hb, hml, hown, hg⟩ (c_X3_in l c0 8 21) (cwS 3 hg (gw_S mw_592 mw_593 mw_24 mw_594) rfl rfl rfl (by decide +kernel) ⟨Nat.le_of_ble_eq_true rfl, Nat.le_of_ble_eq_true rfl⟩) sf_pre0 rfl rfl hl.1 rfl (lv_room (Nat.le_of_ble_eq_true rfl)) dX3_fits_28 ⟨Nat.zero_le _, Nat.zero_le _⟩) ?_
        refine sf_ifeq (tgt := 64) hx hb dX3_fits_31 (by decide) (fun c_11 => ?_) (fun c_11 => ?_)
        · refine lv_iconst (v := sf_b false) hx hb dX3_fits_64 (by decide) ?_
          refine sf_topi (y := sf_b (fm_fits k a0 b0 c0 n)) (congrArg sf_b (by first | (simp [fm_fits, c_1, c_2, c_3, c_11]; done) | (clear hl; simp_all [fm_fits]; done))) ?_
          exact W.zret hx hb hr (sf_b_nb _) (fun t ht _ => ⟨rfl, ht⟩) (fun _ h => nomatch h) dX3_fits_65
        · refine lv_dload hx hb dX3_fits_34 (lv_at hl 4 rfl) ?_
          refine lv_dconst1 hx hb dX3_fits_36 ?_
          refine lv_dcmp hx hb dX3_fits_37 ?_
          refine lv_if_lt (tgt := 64) hx hb dX3_fits_38 (by decide) (fun c_12 => ?_) (fun c_12 => ?_)
          · have c_12 := sd_l_lt.mp c_12
            refine lv_iconst (v := sf_b false) hx hb dX3_fits_64 (by decide) ?_
            refine sf_topi (y := sf_b (fm_fits k a0 b0 c0 n)) (congrArg sf_b (by first | (simp [fm_fits, c_1, c_2, c_3, c_11, c_12]; done) | (clear hl; simp_all [fm_fits]; done))) ?_
            exact W.zret hx hb hr (sf_b_nb _) (fun t ht _ => ⟨rfl, ht⟩) (fun _ h => nomatch h) dX3_fits_65
          · have c_12 := sd_nl_lt c_12
            refine lv_dload hx hb dX3_fits_41 (lv_at hl 4 rfl) ?_
            refine lv_ldc2d (v := 4652007308841189376) hx hb hown (hg _ mw_617) dX3_fits_43 ?_
            refine lv_dcmp hx hb dX3_fits_46 ?_
            refine lv_if_gt (tgt := 64) hx hb dX3_fits_47 (by decide) (fun c_13 => ?_) (fun c_13 => ?_)
            · have c_13 := sd_g_gt.mp c_13
              refine lv_iconst (v := sf_b false) hx hb dX3_fits_64 (by decide) ?_
              refine sf_topi (y := sf_b (fm_fits k a0 b0 c0 n)) (congrArg sf_b (by first | (simp [fm_fits, c_1, c_2, c_3, c_11, c_12, c_13]; done) | (clear hl; simp_all [fm_fits]; done))) ?_
              exact W.zret hx hb hr (sf_b_nb _) (fun t ht _ => ⟨rfl, ht⟩) (fun _ h => nomatch h) dX3_fits_65
            · have c_13 := sd_ng_gt c_13
              refine lv_dload hx hb dX3_fits_50 (lv_at hl 4 rfl) ?_
              refine lv_dload hx hb dX3_fits_52 (lv_at hl 4 rfl) ?_
              refine lv_d2i hx hb dX3_fits_54 ?_
              refine lv_i2d hx hb dX3_fits_55 ?_
              refine lv_dcmp hx hb dX3_fits_56 ?_
              refine lv_if_ne (tgt := 64) hx hb dX3_fits_57 (by decide) (fun c_14 => ?_) (fun c_14 => ?_)
              · have c_14 := sd_nl_eq c_14
                refine lv_iconst (v := sf_b false) hx hb dX3_fits_64 (by decide) ?_
                refine sf_topi (y := sf_b (fm_fits k a0 b0 c0 n)) (congrArg sf_b (by first | (simp [fm_fits, c_1, c_2, c_3, c_11, c_12, c_13, c_14]; done) | (clear hl; simp_all [fm_fits]; done))) ?_
                exact W.zret hx hb hr (sf_b_nb _) (fun t ht _ => ⟨rfl, ht⟩) (fun _ h => nomatch h) dX3_fits_65
              · have c_14 := sd_l_eq.mp c_14
                refine lv_iconst (v := sf_b true) hx hb dX3_fits_60 (by decide) ?_
                refine lv_goto (tgt := 65) hx hb dX3_fits_61 (by decide) ?_
                refine sf_topi (y := sf_b (fm_fits k a0 b0 c0 n)) (congrArg sf_b (by first | (simp [fm_fits, c_1, c_2, c_3, c_11, c_12, c_13, c_14]; done) | (clear hl; simp_all [fm_fits]; done))) ?_
                exact W.zret hx hb hr (sf_b_nb _) (fun t ht _ => ⟨rfl, ht⟩) (fun _ h => nomatch h) dX3_fits_65
    · refine lv_iconst (v := sf_b true) hx hb dX3_fits_16 (by decide) ?_
      refine sf_topi (y := sf_b (fm_fits k a0 b0 c0 n)) (congrArg sf_b (by first | (simp [fm_fits, c_1, c_2]; done) | (clear hl; simp_all [fm_fits]; done))) ?_
      exact W.zret hx hb hr (sf_b_nb _) (fun t ht _ => ⟨rfl, ht⟩) (fun _ h => nomatch h) dX3_fits_17
  · refine lv_iconst (v := sf_b false) hx hb dX3_fits_10 (by decide) ?_
    refine sf_topi (y := sf_b (fm_fits k a0 b0 c0 n)) (congrArg sf_b (by first | (simp [fm_fits, c_1]; done) | (clear hl; simp_all [fm_fits]; done))) ?_
    exact W.zret hx hb hr (sf_b_nb _) (fun t ht _ => ⟨rfl, ht⟩) (fun _ h => nomatch h) dX3_fits_11
