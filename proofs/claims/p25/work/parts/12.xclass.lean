set_option maxHeartbeats 4000000 in
set_option maxRecDepth 100000 in
/-- a key -/
theorem c_X0_isKey (l : Launch) (k : Int32) : Met l yX0_isKey wsX0_isKey ({ frames := 0, cells := 0, slots := 0, locals := 0 } : Room) (va_Pc [.int k] (fun _ => True)) (vp_Si (fun z => z = bI (xKey k))) 0 0 (fun _ => False) := by
  refine Met.ofW (cc := cX0_isKey) (maxL := 1) (ret := (some .boolean)) (by decide) rfl ?_
  intro p e s m args below meth c s₁ B hml hv
  obtain ⟨rfl, -⟩ := hv
  have hx := B.exec
  have hb := B.bytes
  have hr := B.returns
  have hts := atoms_spec (ws := wsX0_isKey) B.pre
  have hown : s.vm.findClass RX0 = some m.cls := findClass_of_methodNamed B.named
  have hlocks := B.notSynchronized
  have hl := lv_entry ([.int k]) (n := 1) (Nat.le_of_ble_eq_true rfl)
  rw [lg_entry_eq]
  generalize (lg_sl ([.int k]) ++ List.replicate (1 - (lg_sl ([.int k])).length) Slot.unset).toArray = ls at hl ⊢
  have hl : lv_has ls 1 [(0, .int k)] := hl
  refine lv_iload_n hx hb dX0_isKey_0 rfl (lv_at hl 0 rfl) ?_
  refine lv_if_lt (tgt := 14) hx hb dX0_isKey_1 (by decide) (fun c_1 => ?_) (fun c_1 => ?_)
  · skip
    refine lv_iconst (v := 0) hx hb dX0_isKey_14 (by decide) ?_
    exact W.zret (v := 0) hx hb hr rfl (fun t ht hW => ⟨0, rfl, (bI_f (i_nl c_1)).symm, ht⟩) (fun q h => nomatch h) dX0_isKey_15
  · skip
    refine lv_iload_n hx hb dX0_isKey_4 rfl (lv_at hl 0 rfl) ?_
    refine lv_bipush (v := 100) hx hb dX0_isKey_5 (by decide) ?_
    refine lv_icmp_ge (tgt := 14) hx hb dX0_isKey_7 (by decide) (fun c_7 => ?_) (fun c_7 => ?_)
    · skip
      refine lv_iconst (v := 0) hx hb dX0_isKey_14 (by decide) ?_
      exact W.zret (v := 0) hx hb hr rfl (fun t ht hW => ⟨0, rfl, (bI_f (i_nr c_7)).symm, ht⟩) (fun q h => nomatch h) dX0_isKey_15
    · skip
      refine lv_iconst (v := 1) hx hb dX0_isKey_10 (by decide) ?_
      refine lv_goto (tgt := 15) hx hb dX0_isKey_11 (by decide) ?_
      exact W.zret (v := 1) hx hb hr rfl (fun t ht hW => ⟨1, rfl, (bI_t (i_and c_1 c_7)).symm, ht⟩) (fun q h => nomatch h) dX0_isKey_15
set_option maxHeartbeats 4000000 in
set_option maxRecDepth 100000 in
/-- a shard -/
theorem c_X0_isShard (l : Launch) (k : Int32) : Met l yX0_isShard wsX0_isShard ({ frames := 0, cells := 0, slots := 0, locals := 0 } : Room) (va_Pc [.int k] (fun _ => True)) (vp_Si (fun z => z = bI (xShard k))) 0 0 (fun _ => False) := by
  refine Met.ofW (cc := cX0_isShard) (maxL := 1) (ret := (some .boolean)) (by decide) rfl ?_
  intro p e s m args below meth c s₁ B hml hv
  obtain ⟨rfl, -⟩ := hv
  have hx := B.exec
  have hb := B.bytes
  have hr := B.returns
  have hts := atoms_spec (ws := wsX0_isShard) B.pre
  have hown : s.vm.findClass RX0 = some m.cls := findClass_of_methodNamed B.named
  have hlocks := B.notSynchronized
  have hl := lv_entry ([.int k]) (n := 1) (Nat.le_of_ble_eq_true rfl)
  rw [lg_entry_eq]
  generalize (lg_sl ([.int k]) ++ List.replicate (1 - (lg_sl ([.int k])).length) Slot.unset).toArray = ls at hl ⊢
  have hl : lv_has ls 1 [(0, .int k)] := hl
  refine lv_iload_n hx hb dX0_isShard_0 rfl (lv_at hl 0 rfl) ?_
  refine lv_if_lt (tgt := 13) hx hb dX0_isShard_1 (by decide) (fun c_1 => ?_) (fun c_1 => ?_)
  · skip
    refine lv_iconst (v := 0) hx hb dX0_isShard_13 (by decide) ?_
    exact W.zret (v := 0) hx hb hr rfl (fun t ht hW => ⟨0, rfl, (bI_f (i_nl c_1)).symm, ht⟩) (fun q h => nomatch h) dX0_isShard_14
  · skip
    refine lv_iload_n hx hb dX0_isShard_4 rfl (lv_at hl 0 rfl) ?_
    refine lv_iconst (v := 4) hx hb dX0_isShard_5 (by decide) ?_
    refine lv_icmp_ge (tgt := 13) hx hb dX0_isShard_6 (by decide) (fun c_6 => ?_) (fun c_6 => ?_)
    · skip
      refine lv_iconst (v := 0) hx hb dX0_isShard_13 (by decide) ?_
      exact W.zret (v := 0) hx hb hr rfl (fun t ht hW => ⟨0, rfl, (bI_f (i_nr c_6)).symm, ht⟩) (fun q h => nomatch h) dX0_isShard_14
    · skip
      refine lv_iconst (v := 1) hx hb dX0_isShard_9 (by decide) ?_
      refine lv_goto (tgt := 14) hx hb dX0_isShard_10 (by decide) ?_
      exact W.zret (v := 1) hx hb hr rfl (fun t ht hW => ⟨1, rfl, (bI_t (i_and c_1 c_6)).symm, ht⟩) (fun q h => nomatch h) dX0_isShard_14
set_option maxHeartbeats 4000000 in
set_option maxRecDepth 100000 in
/-- the district of an address -/
theorem c_X0_districtOf (l : Launch) (a : Int32) : Met l yX0_districtOf wsX0_districtOf ({ frames := 0, cells := 0, slots := 0, locals := 0 } : Room) (va_Pc [.int a] (fun _ => True)) (vp_Si (fun z => z = xDist a)) 0 0 (fun _ => False) := by
  refine Met.ofW (cc := cX0_districtOf) (maxL := 1) (ret := (some .int)) (by decide) rfl ?_
  intro p e s m args below meth c s₁ B hml hv
  obtain ⟨rfl, -⟩ := hv
  have hx := B.exec
  have hb := B.bytes
  have hr := B.returns
  have hts := atoms_spec (ws := wsX0_districtOf) B.pre
  have hown : s.vm.findClass RX0 = some m.cls := findClass_of_methodNamed B.named
  have hlocks := B.notSynchronized
  have hl := lv_entry ([.int a]) (n := 1) (Nat.le_of_ble_eq_true rfl)
  rw [lg_entry_eq]
  generalize (lg_sl ([.int a]) ++ List.replicate (1 - (lg_sl ([.int a])).length) Slot.unset).toArray = ls at hl ⊢
  have hl : lv_has ls 1 [(0, .int a)] := hl
  refine lv_iload_n hx hb dX0_districtOf_0 rfl (lv_at hl 0 rfl) ?_
  refine lv_iconst (v := (-1)) hx hb dX0_districtOf_1 (by decide) ?_
  refine lv_icmp_ne (tgt := 9) hx hb dX0_districtOf_2 (by decide) (fun c_2 => ?_) (fun c_2 => ?_)
  · skip
    refine lv_iload_n hx hb dX0_districtOf_9 rfl (lv_at hl 0 rfl) ?_
    refine lv_bipush (v := 10) hx hb dX0_districtOf_10 (by decide) ?_
    refine lv_idiv hx hb dX0_districtOf_12 (by decide) ?_
    exact W.iret (v := a / 10) hx hb hr (fun t ht hW => ⟨a / 10, rfl, (by unfold xDist; rw [if_neg c_2]), ht⟩) (fun q h => nomatch h) dX0_districtOf_13
  · skip
    refine lv_iconst (v := (-1)) hx hb dX0_districtOf_5 (by decide) ?_
    refine lv_goto (tgt := 13) hx hb dX0_districtOf_6 (by decide) ?_
    exact W.iret (v := (-1)) hx hb hr (fun t ht hW => ⟨(-1), rfl, (by unfold xDist; rw [if_pos c_2]), ht⟩) (fun q h => nomatch h) dX0_districtOf_13
set_option maxHeartbeats 4000000 in
set_option maxRecDepth 100000 in
/-- a range -/
theorem c_X0_isRange (l : Launch) (D : va_G) (cA cZ cL : ClassId) (ad : Nat → Nat) (f : qFs) (g : qGs) (r : Int32) : Met l yX0_isRange wsX0_isRange ({ frames := 0, cells := 0, slots := 0, locals := 0 } : Room) (va_Pc [.ref (ad 16), .int r] (qPre D (qTy cA cZ cL) (xW cA ad f g))) (vp_Si (fun z => z = bI (xRange f r))) 0 0 (fun _ => False) := by
  refine Met.ofW (cc := cX0_isRange) (maxL := 2) (ret := (some .boolean)) (by decide) rfl ?_
  intro p e s m args below meth c s₁ B hml hv
  obtain ⟨rfl, hP, hK⟩ := hv
  have hx := B.exec
  have hb := B.bytes
  have hr := B.returns
  have hts := atoms_spec (ws := wsX0_isRange) B.pre
  have hown : s.vm.findClass RX0 = some m.cls := findClass_of_methodNamed B.named
  have hlocks := B.notSynchronized
  have hfin : ∀ w ∈ wsX00, w ∈ wsX0_isRange := fun w h => (List.mem_cons_of_mem _ (List.mem_append_right _ h))
  have hl := lv_entry ([.ref (ad 16), .int r]) (n := 2) (Nat.le_of_ble_eq_true rfl)
  rw [lg_entry_eq]
  generalize (lg_sl ([.ref (ad 16), .int r]) ++ List.replicate (2 - (lg_sl ([.ref (ad 16), .int r])).length) Slot.unset).toArray = ls at hl ⊢
  have hl : lv_has ls 2 [(0, .ref (ad 16)), (1, .int r)] := hl
  refine lv_iload_n hx hb dX0_isRange_0 rfl (lv_at hl 1 rfl) ?_
  refine lv_if_lt (tgt := 16) hx hb dX0_isRange_1 (by decide) (fun c_1 => ?_) (fun c_1 => ?_)
  · skip
    refine lv_iconst (v := 0) hx hb dX0_isRange_16 (by decide) ?_
    exact W.zret (v := 0) hx hb hr rfl (fun t ht hW => ⟨0, rfl, (bI_f (i_nl c_1)).symm, ht⟩) (fun q h => nomatch h) dX0_isRange_17
  · skip
    refine lv_iload_n hx hb dX0_isRange_4 rfl (lv_at hl 1 rfl) ?_
    refine lv_aload_n hx hb dX0_isRange_5 rfl (lv_at hl 0 rfl) ?_
    refine va_get (D := D) (ci := 0) (v := .int (f 5)) (C := RX0) (T := TX0) (N := 16) hx hb hts hfin hown hK hP 0 rfl rfl 5 (by decide) (hts _ (List.mem_cons_of_mem _ (List.mem_append_left _ (List.mem_of_getElem? (i := 0) rfl)))) (fun _ h9 => h9) rfl dX0_isRange_6 ?_
    refine lv_icmp_ge (tgt := 16) hx hb dX0_isRange_9 (by decide) (fun c_9 => ?_) (fun c_9 => ?_)
    · skip
      refine lv_iconst (v := 0) hx hb dX0_isRange_16 (by decide) ?_
      exact W.zret (v := 0) hx hb hr rfl (fun t ht hW => ⟨0, rfl, (bI_f (i_nr c_9)).symm, ht⟩) (fun q h => nomatch h) dX0_isRange_17
    · skip
      refine lv_iconst (v := 1) hx hb dX0_isRange_12 (by decide) ?_
      refine lv_goto (tgt := 17) hx hb dX0_isRange_13 (by decide) ?_
      exact W.zret (v := 1) hx hb hr rfl (fun t ht hW => ⟨1, rfl, (bI_t (i_and c_1 c_9)).symm, ht⟩) (fun q h => nomatch h) dX0_isRange_17
set_option maxHeartbeats 4000000 in
set_option maxRecDepth 100000 in
/-- a ballot -/
theorem c_X0_isBallot (l : Launch) (D : va_G) (cA cZ cL : ClassId) (ad : Nat → Nat) (f : qFs) (g : qGs) (r : Int32) : Met l yX0_isBallot wsX0_isBallot ({ frames := 0, cells := 0, slots := 0, locals := 0 } : Room) (va_Pc [.ref (ad 16), .int r] (qPre D (qTy cA cZ cL) (xW cA ad f g))) (vp_Si (fun z => z = bI (xBallot f r))) 0 0 (fun _ => False) := by
  refine Met.ofW (cc := cX0_isBallot) (maxL := 2) (ret := (some .boolean)) (by decide) rfl ?_
  intro p e s m args below meth c s₁ B hml hv
  obtain ⟨rfl, hP, hK⟩ := hv
  have hx := B.exec
  have hb := B.bytes
  have hr := B.returns
  have hts := atoms_spec (ws := wsX0_isBallot) B.pre
  have hown : s.vm.findClass RX0 = some m.cls := findClass_of_methodNamed B.named
  have hlocks := B.notSynchronized
  have hfin : ∀ w ∈ wsX00, w ∈ wsX0_isBallot := fun w h => (List.mem_cons_of_mem _ (List.mem_append_right _ h))
  have hl := lv_entry ([.ref (ad 16), .int r]) (n := 2) (Nat.le_of_ble_eq_true rfl)
  rw [lg_entry_eq]
  generalize (lg_sl ([.ref (ad 16), .int r]) ++ List.replicate (2 - (lg_sl ([.ref (ad 16), .int r])).length) Slot.unset).toArray = ls at hl ⊢
  have hl : lv_has ls 2 [(0, .ref (ad 16)), (1, .int r)] := hl
  refine lv_iload_n hx hb dX0_isBallot_0 rfl (lv_at hl 1 rfl) ?_
  refine lv_if_lt (tgt := 16) hx hb dX0_isBallot_1 (by decide) (fun c_1 => ?_) (fun c_1 => ?_)
  · skip
    refine lv_iconst (v := 0) hx hb dX0_isBallot_16 (by decide) ?_
    exact W.zret (v := 0) hx hb hr rfl (fun t ht hW => ⟨0, rfl, (bI_f (i_nl c_1)).symm, ht⟩) (fun q h => nomatch h) dX0_isBallot_17
  · skip
    refine lv_iload_n hx hb dX0_isBallot_4 rfl (lv_at hl 1 rfl) ?_
    refine lv_aload_n hx hb dX0_isBallot_5 rfl (lv_at hl 0 rfl) ?_
    refine va_get (D := D) (ci := 0) (v := .int (f 15)) (C := RX0) (T := TX0) (N := 16) hx hb hts hfin hown hK hP 0 rfl rfl 15 (by decide) (hts _ (List.mem_cons_of_mem _ (List.mem_append_left _ (List.mem_of_getElem? (i := 0) rfl)))) (fun _ h9 => h9) rfl dX0_isBallot_6 ?_
    refine lv_icmp_ge (tgt := 16) hx hb dX0_isBallot_9 (by decide) (fun c_9 => ?_) (fun c_9 => ?_)
    · skip
      refine lv_iconst (v := 0) hx hb dX0_isBallot_16 (by decide) ?_
      exact W.zret (v := 0) hx hb hr rfl (fun t ht hW => ⟨0, rfl, (bI_f (i_nr c_9)).symm, ht⟩) (fun q h => nomatch h) dX0_isBallot_17
    · skip
      refine lv_iconst (v := 1) hx hb dX0_isBallot_12 (by decide) ?_
      refine lv_goto (tgt := 17) hx hb dX0_isBallot_13 (by decide) ?_
      exact W.zret (v := 1) hx hb hr rfl (fun t ht hW => ⟨1, rfl, (bI_t (i_and c_1 c_9)).symm, ht⟩) (fun q h => nomatch h) dX0_isBallot_17
set_option maxHeartbeats 4000000 in
set_option maxRecDepth 100000 in
/-- homeOf -/
theorem c_X0_homeOf (l : Launch) (D : va_G) (cA cZ cL : ClassId) (ad : Nat → Nat) (f : qFs) (g : qGs) (r : Int32) (nR : Nat) (nB : Nat) (hI : xI nR nB f) : Met l yX0_homeOf wsX0_homeOf ({ frames := 1, cells := 0, slots := 0, locals := 21 } : Room) (va_Pc [.ref (ad 16), .int r] (qPre D (qTy cA cZ cL) (xW cA ad f g))) (vp_Si (fun z => z = xHome f g r)) 0 0 (fun _ => False) := by
  refine Met.ofW (cc := cX0_homeOf) (maxL := 2) (ret := (some .int)) (by decide) rfl ?_
  intro p e s m args below meth c s₁ B hml hv
  obtain ⟨rfl, hP, hK⟩ := hv
  have hx := B.exec
  have hb := B.bytes
  have hr := B.returns
  have hts := atoms_spec (ws := wsX0_homeOf) B.pre
  have hown : s.vm.findClass RX0 = some m.cls := findClass_of_methodNamed B.named
  have hlocks := B.notSynchronized
  have hfin : ∀ w ∈ wsX00, w ∈ wsX0_homeOf := fun w h => (List.mem_cons_of_mem _ (List.mem_append_right _ h))
  have hl := lv_entry ([.ref (ad 16), .int r]) (n := 2) (Nat.le_of_ble_eq_true rfl)
  rw [lg_entry_eq]
  generalize (lg_sl ([.ref (ad 16), .int r]) ++ List.replicate (2 - (lg_sl ([.ref (ad 16), .int r])).length) Slot.unset).toArray = ls at hl ⊢
  have hl : lv_has ls 2 [(0, .ref (ad 16)), (1, .int r)] := hl
  refine lv_aload_n hx hb dX0_homeOf_0 rfl (lv_at hl 0 rfl) ?_
  refine lv_iload_n hx hb dX0_homeOf_1 rfl (lv_at hl 1 rfl) ?_
  refine vp_callSi (W.runV (As := [.int r]) (rest := []) ⟨hx, hb, hml, hown, hts⟩ (c_X0_isRange l D cA cZ cL ad f g r) (cwV 1 hts gX0_homeOf_X0_isRange rfl rfl rfl (by decide +kernel) ⟨Nat.le_of_ble_eq_true rfl, Nat.le_of_ble_eq_true rfl⟩) ⟨qPre_blind, va_recv hK hP (ci := 0) (q0 := 0) rfl rfl, qPre_at hP hK⟩ rfl rfl hl.1 rfl (lv_room (Nat.le_of_ble_eq_true rfl)) dX0_homeOf_2 ⟨Nat.le_of_ble_eq_true rfl, Nat.le_of_ble_eq_true rfl⟩) (fun z hz => ?_)
  subst hz
  refine lv_if_eq (tgt := 17) hx hb dX0_homeOf_5 (by decide) (fun c_5 => ?_) (fun c_5 => ?_)
  · have c_5 := bI_0.mp c_5
    refine lv_iconst (v := (-1)) hx hb dX0_homeOf_17 (by decide) ?_
    exact W.iret (v := (-1)) hx hb hr (fun t ht hW => ⟨(-1), rfl, (by unfold xHome; rw [if_neg c_5]), ht⟩) (fun q h => nomatch h) dX0_homeOf_18
  · have c_5 := bI_n.mp c_5
    refine lv_aload_n hx hb dX0_homeOf_8 rfl (lv_at hl 0 rfl) ?_
    refine va_get (D := D) (ci := 0) (v := .ref (ad 3)) (C := RX0) (T := TX0) (N := 16) hx hb hts hfin hown hK hP 0 rfl rfl 3 (by decide) (hts _ (List.mem_cons_of_mem _ (List.mem_append_left _ (List.mem_of_getElem? (i := 0) rfl)))) (fun _ h9 => h9) rfl dX0_homeOf_9 ?_
    refine lv_iload_n hx hb dX0_homeOf_12 rfl (lv_at hl 1 rfl) ?_
    refine va_iald hx hb hK hP 3 0 rfl rfl (x_in8 hI c_5) dX0_homeOf_13 ?_
    refine lv_goto (tgt := 18) hx hb dX0_homeOf_14 (by decide) ?_
    exact W.iret (v := g 3 r.toNatClampNeg) hx hb hr (fun t ht hW => ⟨g 3 r.toNatClampNeg, rfl, (by unfold xHome; rw [if_pos c_5]), ht⟩) (fun q h => nomatch h) dX0_homeOf_18
set_option maxHeartbeats 4000000 in
set_option maxRecDepth 100000 in
/-- targetOf -/
theorem c_X0_targetOf (l : Launch) (D : va_G) (cA cZ cL : ClassId) (ad : Nat → Nat) (f : qFs) (g : qGs) (r : Int32) (nR : Nat) (nB : Nat) (hI : xI nR nB f) : Met l yX0_targetOf wsX0_targetOf ({ frames := 1, cells := 0, slots := 0, locals := 21 } : Room) (va_Pc [.ref (ad 16), .int r] (qPre D (qTy cA cZ cL) (xW cA ad f g))) (vp_Si (fun z => z = xTarg f g r)) 0 0 (fun _ => False) := by
  refine Met.ofW (cc := cX0_targetOf) (maxL := 2) (ret := (some .int)) (by decide) rfl ?_
  intro p e s m args below meth c s₁ B hml hv
  obtain ⟨rfl, hP, hK⟩ := hv
  have hx := B.exec
  have hb := B.bytes
  have hr := B.returns
  have hts := atoms_spec (ws := wsX0_targetOf) B.pre
  have hown : s.vm.findClass RX0 = some m.cls := findClass_of_methodNamed B.named
  have hlocks := B.notSynchronized
  have hfin : ∀ w ∈ wsX00, w ∈ wsX0_targetOf := fun w h => (List.mem_cons_of_mem _ (List.mem_append_right _ h))
  have hl := lv_entry ([.ref (ad 16), .int r]) (n := 2) (Nat.le_of_ble_eq_true rfl)
  rw [lg_entry_eq]
  generalize (lg_sl ([.ref (ad 16), .int r]) ++ List.replicate (2 - (lg_sl ([.ref (ad 16), .int r])).length) Slot.unset).toArray = ls at hl ⊢
  have hl : lv_has ls 2 [(0, .ref (ad 16)), (1, .int r)] := hl
  refine lv_aload_n hx hb dX0_targetOf_0 rfl (lv_at hl 0 rfl) ?_
  refine lv_iload_n hx hb dX0_targetOf_1 rfl (lv_at hl 1 rfl) ?_
  refine vp_callSi (W.runV (As := [.int r]) (rest := []) ⟨hx, hb, hml, hown, hts⟩ (c_X0_isRange l D cA cZ cL ad f g r) (cwV 1 hts gX0_targetOf_X0_isRange rfl rfl rfl (by decide +kernel) ⟨Nat.le_of_ble_eq_true rfl, Nat.le_of_ble_eq_true rfl⟩) ⟨qPre_blind, va_recv hK hP (ci := 0) (q0 := 0) rfl rfl, qPre_at hP hK⟩ rfl rfl hl.1 rfl (lv_room (Nat.le_of_ble_eq_true rfl)) dX0_targetOf_2 ⟨Nat.le_of_ble_eq_true rfl, Nat.le_of_ble_eq_true rfl⟩) (fun z hz => ?_)
  subst hz
  refine lv_if_eq (tgt := 17) hx hb dX0_targetOf_5 (by decide) (fun c_5 => ?_) (fun c_5 => ?_)
  · have c_5 := bI_0.mp c_5
    refine lv_iconst (v := (-1)) hx hb dX0_targetOf_17 (by decide) ?_
    exact W.iret (v := (-1)) hx hb hr (fun t ht hW => ⟨(-1), rfl, (by unfold xTarg; rw [if_neg c_5]), ht⟩) (fun q h => nomatch h) dX0_targetOf_18
  · have c_5 := bI_n.mp c_5
    refine lv_aload_n hx hb dX0_targetOf_8 rfl (lv_at hl 0 rfl) ?_
    refine va_get (D := D) (ci := 0) (v := .ref (ad 4)) (C := RX0) (T := TX0) (N := 16) hx hb hts hfin hown hK hP 0 rfl rfl 4 (by decide) (hts _ (List.mem_cons_of_mem _ (List.mem_append_left _ (List.mem_of_getElem? (i := 0) rfl)))) (fun _ h9 => h9) rfl dX0_targetOf_9 ?_
    refine lv_iload_n hx hb dX0_targetOf_12 rfl (lv_at hl 1 rfl) ?_
    refine va_iald hx hb hK hP 4 0 rfl rfl (x_in8 hI c_5) dX0_targetOf_13 ?_
    refine lv_goto (tgt := 18) hx hb dX0_targetOf_14 (by decide) ?_
    exact W.iret (v := g 4 r.toNatClampNeg) hx hb hr (fun t ht hW => ⟨g 4 r.toNatClampNeg, rfl, (by unfold xTarg; rw [if_pos c_5]), ht⟩) (fun q h => nomatch h) dX0_targetOf_18
set_option maxHeartbeats 4000000 in
set_option maxRecDepth 100000 in
/-- lastKeyOf -/
theorem c_X0_lastKeyOf (l : Launch) (D : va_G) (cA cZ cL : ClassId) (ad : Nat → Nat) (f : qFs) (g : qGs) (r : Int32) (nR : Nat) (nB : Nat) (hI : xI nR nB f) : Met l yX0_lastKeyOf wsX0_lastKeyOf ({ frames := 1, cells := 0, slots := 0, locals := 21 } : Room) (va_Pc [.ref (ad 16), .int r] (qPre D (qTy cA cZ cL) (xW cA ad f g))) (vp_Si (fun z => z = xLast f g r)) 0 0 (fun _ => False) := by
  refine Met.ofW (cc := cX0_lastKeyOf) (maxL := 2) (ret := (some .int)) (by decide) rfl ?_
  intro p e s m args below meth c s₁ B hml hv
  obtain ⟨rfl, hP, hK⟩ := hv
  have hx := B.exec
  have hb := B.bytes
  have hr := B.returns
  have hts := atoms_spec (ws := wsX0_lastKeyOf) B.pre
  have hown : s.vm.findClass RX0 = some m.cls := findClass_of_methodNamed B.named
  have hlocks := B.notSynchronized
  have hfin : ∀ w ∈ wsX00, w ∈ wsX0_lastKeyOf := fun w h => (List.mem_cons_of_mem _ (List.mem_append_right _ h))
  have hl := lv_entry ([.ref (ad 16), .int r]) (n := 2) (Nat.le_of_ble_eq_true rfl)
  rw [lg_entry_eq]
  generalize (lg_sl ([.ref (ad 16), .int r]) ++ List.replicate (2 - (lg_sl ([.ref (ad 16), .int r])).length) Slot.unset).toArray = ls at hl ⊢
  have hl : lv_has ls 2 [(0, .ref (ad 16)), (1, .int r)] := hl
  refine lv_aload_n hx hb dX0_lastKeyOf_0 rfl (lv_at hl 0 rfl) ?_
  refine lv_iload_n hx hb dX0_lastKeyOf_1 rfl (lv_at hl 1 rfl) ?_
  refine vp_callSi (W.runV (As := [.int r]) (rest := []) ⟨hx, hb, hml, hown, hts⟩ (c_X0_isRange l D cA cZ cL ad f g r) (cwV 1 hts gX0_lastKeyOf_X0_isRange rfl rfl rfl (by decide +kernel) ⟨Nat.le_of_ble_eq_true rfl, Nat.le_of_ble_eq_true rfl⟩) ⟨qPre_blind, va_recv hK hP (ci := 0) (q0 := 0) rfl rfl, qPre_at hP hK⟩ rfl rfl hl.1 rfl (lv_room (Nat.le_of_ble_eq_true rfl)) dX0_lastKeyOf_2 ⟨Nat.le_of_ble_eq_true rfl, Nat.le_of_ble_eq_true rfl⟩) (fun z hz => ?_)
  subst hz
  refine lv_if_eq (tgt := 17) hx hb dX0_lastKeyOf_5 (by decide) (fun c_5 => ?_) (fun c_5 => ?_)
  · have c_5 := bI_0.mp c_5
    refine lv_iconst (v := (-1)) hx hb dX0_lastKeyOf_17 (by decide) ?_
    exact W.iret (v := (-1)) hx hb hr (fun t ht hW => ⟨(-1), rfl, (by unfold xLast; rw [if_neg c_5]), ht⟩) (fun q h => nomatch h) dX0_lastKeyOf_18
  · have c_5 := bI_n.mp c_5
    refine lv_aload_n hx hb dX0_lastKeyOf_8 rfl (lv_at hl 0 rfl) ?_
    refine va_get (D := D) (ci := 0) (v := .ref (ad 2)) (C := RX0) (T := TX0) (N := 16) hx hb hts hfin hown hK hP 0 rfl rfl 2 (by decide) (hts _ (List.mem_cons_of_mem _ (List.mem_append_left _ (List.mem_of_getElem? (i := 0) rfl)))) (fun _ h9 => h9) rfl dX0_lastKeyOf_9 ?_
    refine lv_iload_n hx hb dX0_lastKeyOf_12 rfl (lv_at hl 1 rfl) ?_
    refine va_iald hx hb hK hP 2 0 rfl rfl (x_in8 hI c_5) dX0_lastKeyOf_13 ?_
    refine lv_goto (tgt := 18) hx hb dX0_lastKeyOf_14 (by decide) ?_
    exact W.iret (v := g 2 r.toNatClampNeg) hx hb hr (fun t ht hW => ⟨g 2 r.toNatClampNeg, rfl, (by unfold xLast; rw [if_pos c_5]), ht⟩) (fun q h => nomatch h) dX0_lastKeyOf_18
set_option maxHeartbeats 4000000 in
set_option maxRecDepth 100000 in
/-- a row -/
theorem c_X0_rowOf (l : Launch) (D : va_G) (cA cZ cL : ClassId) (ad : Nat → Nat) (f : qFs) (g : qGs) (sh : Int32) (k : Int32) : Met l yX0_rowOf wsX0_rowOf ({ frames := 1, cells := 0, slots := 0, locals := 20 } : Room) (va_Pc [.ref (ad 16), .int sh, .int k] (qPre D (qTy cA cZ cL) (xW cA ad f g))) (vp_Si (fun z => z = xRowOf g sh k)) 0 0 (fun _ => False) := by
  refine Met.ofW (cc := cX0_rowOf) (maxL := 3) (ret := (some .int)) (by decide) rfl ?_
  intro p e s m args below meth c s₁ B hml hv
  obtain ⟨rfl, hP, hK⟩ := hv
  have hx := B.exec
  have hb := B.bytes
  have hr := B.returns
  have hts := atoms_spec (ws := wsX0_rowOf) B.pre
  have hown : s.vm.findClass RX0 = some m.cls := findClass_of_methodNamed B.named
  have hlocks := B.notSynchronized
  have hfin : ∀ w ∈ wsX00, w ∈ wsX0_rowOf := fun w h => (List.mem_cons_of_mem _ (List.mem_append_right _ h))
  have hl := lv_entry ([.ref (ad 16), .int sh, .int k]) (n := 3) (Nat.le_of_ble_eq_true rfl)
  rw [lg_entry_eq]
  generalize (lg_sl ([.ref (ad 16), .int sh, .int k]) ++ List.replicate (3 - (lg_sl ([.ref (ad 16), .int sh, .int k])).length) Slot.unset).toArray = ls at hl ⊢
  have hl : lv_has ls 3 [(0, .ref (ad 16)), (1, .int sh), (2, .int k)] := hl
  refine lv_iload_n hx hb dX0_rowOf_0 rfl (lv_at hl 1 rfl) ?_
  refine vp_callSi (W.runS (As := [.int sh]) (rest := []) ⟨hx, hb, hml, hown, hts⟩ (c_X0_isShard l sh) (va_cwS 1 hts gX0_rowOf_X0_isShard rfl rfl rfl (by decide +kernel) ⟨Nat.le_of_ble_eq_true rfl, Nat.le_of_ble_eq_true rfl⟩) ⟨qN_blind, qN_at⟩ rfl rfl hl.1 rfl (lv_room (Nat.le_of_ble_eq_true rfl)) dX0_rowOf_1 ⟨Nat.le_of_ble_eq_true rfl, Nat.le_of_ble_eq_true rfl⟩) (fun z hz => ?_)
  subst hz
  refine lv_if_eq (tgt := 28) hx hb dX0_rowOf_4 (by decide) (fun c_4 => ?_) (fun c_4 => ?_)
  · have c_4 := bI_0.mp c_4
    refine lv_iconst (v := (-1)) hx hb dX0_rowOf_28 (by decide) ?_
    exact W.iret (v := (-1)) hx hb hr (fun t ht hW => ⟨(-1), rfl, (by unfold xRowOf; rw [if_neg (fun q => c_4 q.1)]), ht⟩) (fun q h => nomatch h) dX0_rowOf_29
  · have c_4 := bI_n.mp c_4
    refine lv_iload_n hx hb dX0_rowOf_7 rfl (lv_at hl 2 rfl) ?_
    refine vp_callSi (W.runS (As := [.int k]) (rest := []) ⟨hx, hb, hml, hown, hts⟩ (c_X0_isKey l k) (va_cwS 1 hts gX0_rowOf_X0_isKey rfl rfl rfl (by decide +kernel) ⟨Nat.le_of_ble_eq_true rfl, Nat.le_of_ble_eq_true rfl⟩) ⟨qN_blind, qN_at⟩ rfl rfl hl.1 rfl (lv_room (Nat.le_of_ble_eq_true rfl)) dX0_rowOf_8 ⟨Nat.le_of_ble_eq_true rfl, Nat.le_of_ble_eq_true rfl⟩) (fun z hz => ?_)
    subst hz
    refine lv_if_eq (tgt := 28) hx hb dX0_rowOf_11 (by decide) (fun c_11 => ?_) (fun c_11 => ?_)
    · have c_11 := bI_0.mp c_11
      refine lv_iconst (v := (-1)) hx hb dX0_rowOf_28 (by decide) ?_
      exact W.iret (v := (-1)) hx hb hr (fun t ht hW => ⟨(-1), rfl, (by unfold xRowOf; rw [if_neg (fun q => c_11 q.2)]), ht⟩) (fun q h => nomatch h) dX0_rowOf_29
    · have c_11 := bI_n.mp c_11
      refine lv_aload_n hx hb dX0_rowOf_14 rfl (lv_at hl 0 rfl) ?_
      refine va_get (D := D) (ci := 0) (v := .ref (ad 0)) (C := RX0) (T := TX0) (N := 16) hx hb hts hfin hown hK hP 0 rfl rfl 0 (by decide) (hts _ (List.mem_cons_of_mem _ (List.mem_append_left _ (List.mem_of_getElem? (i := 0) rfl)))) (fun _ h9 => h9) rfl dX0_rowOf_15 ?_
      refine lv_iload_n hx hb dX0_rowOf_18 rfl (lv_at hl 1 rfl) ?_
      refine lv_bipush (v := 100) hx hb dX0_rowOf_19 (by decide) ?_
      refine lv_imul hx hb dX0_rowOf_21 ?_
      refine lv_iload_n hx hb dX0_rowOf_22 rfl (lv_at hl 2 rfl) ?_
      refine lv_iadd hx hb dX0_rowOf_23 ?_
      refine va_iald hx hb hK hP 1 0 rfl rfl (x_inT c_4 c_11) dX0_rowOf_24 ?_
      refine lv_goto (tgt := 29) hx hb dX0_rowOf_25 (by decide) ?_
      exact W.iret (v := g 0 ((sh * 100) + k).toNatClampNeg) hx hb hr (fun t ht hW => ⟨g 0 ((sh * 100) + k).toNatClampNeg, rfl, (by unfold xRowOf; rw [if_pos ⟨c_4, c_11⟩]), ht⟩) (fun q h => nomatch h) dX0_rowOf_29
set_option maxHeartbeats 4000000 in
set_option maxRecDepth 100000 in
/-- the range that holds a key -/
theorem c_X0_rangeHolding (l : Launch) (D : va_G) (cA cZ cL : ClassId) (ad : Nat → Nat) (f : qFs) (g : qGs) (k : Int32) (nR : Nat) (nB : Nat) (hI : xI nR nB f) : Met l yX0_rangeHolding wsX0_rangeHolding ({ frames := 2, cells := 0, slots := 0, locals := 42 } : Room) (va_Pc [.ref (ad 16), .int k] (qPre D (qTy cA cZ cL) (xW cA ad f g))) (vp_Si (fun z => z = nI (xHold nR g k))) 0 0 (fun _ => False) := by
  refine Met.ofW (cc := cX0_rangeHolding) (maxL := 4) (ret := (some .int)) (by decide) rfl ?_
  intro p e s m args below meth c s₁ B hml hv
  obtain ⟨rfl, hP, hK⟩ := hv
  have hx := B.exec
  have hb := B.bytes
  have hr := B.returns
  have hts := atoms_spec (ws := wsX0_rangeHolding) B.pre
  have hown : s.vm.findClass RX0 = some m.cls := findClass_of_methodNamed B.named
  have hlocks := B.notSynchronized
  have hfin : ∀ w ∈ wsX00, w ∈ wsX0_rangeHolding := fun w h => (List.mem_cons_of_mem _ (List.mem_append_right _ h))
  have hl := lv_entry ([.ref (ad 16), .int k]) (n := 4) (Nat.le_of_ble_eq_true rfl)
  rw [lg_entry_eq]
  generalize (lg_sl ([.ref (ad 16), .int k]) ++ List.replicate (4 - (lg_sl ([.ref (ad 16), .int k])).length) Slot.unset).toArray = ls at hl ⊢
  have hl : lv_has ls 4 [(0, .ref (ad 16)), (1, .int k)] := hl
  have hR8 := hI.2.2.1
  refine lv_aload_n hx hb dX0_rangeHolding_0 rfl (lv_at hl 0 rfl) ?_
  refine va_get (D := D) (ci := 0) (v := .int (f 5)) (C := RX0) (T := TX0) (N := 16) hx hb hts hfin hown hK hP 0 rfl rfl 5 (by decide) (hts _ (List.mem_cons_of_mem _ (List.mem_append_left _ (List.mem_of_getElem? (i := 0) rfl)))) (fun _ h9 => h9) rfl dX0_rangeHolding_1 ?_
  refine lv_iconst (v := 1) hx hb dX0_rangeHolding_4 (by decide) ?_
  refine lv_isub hx hb dX0_rangeHolding_5 ?_
  refine lv_topi (fun v_5 hv_5 => ?_)
  have hv_5 : v_5 = nI (nR - 1) := hv_5.trans (x_R1 hI)
  subst hv_5
  refine lv_istore_n (lv' := [(2, .int (nI (nR - 1))), (0, .ref (ad 16)), (1, .int k)]) hx hb dX0_rangeHolding_6 rfl hl (by decide) rfl (fun ls hl => ?_)
  refine lv_iconst (v := 0) hx hb dX0_rangeHolding_7 (by decide) ?_
  refine lv_istore_n (lv' := [(3, .int 0), (2, .int (nI (nR - 1))), (0, .ref (ad 16)), (1, .int k)]) hx hb dX0_rangeHolding_8 rfl hl (by decide) rfl (fun ls hl => ?_)
  have hloop_9 : ∀ (nme : Nat) (i : Nat), nR - 1 - i = nme → (i ≤ nR - 1) → (xHoldN (g 2) k i (nR - 1 - i) = xHold nR g k) → ∀ ls : Array Slot, lv_has ls 4 [(0, .ref (ad 16)), (1, .int k), (2, .int (nI (nR - 1))), (3, .int (nI i))] → W p l e (headSpec wsX0_rangeHolding ({ frames := 2, cells := 0, slots := 0, locals := 42 } : Room)).room s m ([.ref (ad 16), .int k] : List Value).toArray below meth c s.heap [] 0 0 (MQ below (vp_Si (fun z => z = nI (xHold nR g k))) ([.ref (ad 16), .int k] : List Value).toArray s 0 0 (fun _ => False)) (F0 m 9 ls []) := by
    intro nme
    induction nme using Nat.strongRecOn with
    | ind nme ih =>
      intro i hnme hi hh ls hl
      refine lv_iload_n hx hb dX0_rangeHolding_9 rfl (lv_at hl 3 rfl) ?_
      refine lv_iload_n hx hb dX0_rangeHolding_10 rfl (lv_at hl 2 rfl) ?_
      refine lv_icmp_ge (tgt := 31) hx hb dX0_rangeHolding_11 (by decide) (fun c_11 => ?_) (fun c_11 => ?_)
      · skip
        have hge : nR - 1 ≤ i := n_ge c_11 (by omega) (by omega)
        refine lv_iload_n hx hb dX0_rangeHolding_31 rfl (lv_at hl 2 rfl) ?_
        exact W.iret (v := nI (nR - 1)) hx hb hr (fun t ht hW => ⟨nI (nR - 1), rfl, (by rw [← hh, xHold_e hge]; congr 1; omega), ht⟩) (fun q h => nomatch h) dX0_rangeHolding_32
      · skip
        have hlt : i < nR - 1 := n_lt c_11 (by omega)
        refine lv_iload_n hx hb dX0_rangeHolding_14 rfl (lv_at hl 1 rfl) ?_
        refine lv_aload_n hx hb dX0_rangeHolding_15 rfl (lv_at hl 0 rfl) ?_
        refine lv_iload_n hx hb dX0_rangeHolding_16 rfl (lv_at hl 3 rfl) ?_
        refine vp_callSi (W.runV (As := [.int (nI i)]) (rest := [.int k]) ⟨hx, hb, hml, hown, hts⟩ (c_X0_lastKeyOf l D cA cZ cL ad f g (nI i) nR nB hI) (cwV 1 hts gX0_rangeHolding_X0_lastKeyOf rfl rfl rfl (by decide +kernel) ⟨Nat.le_of_ble_eq_true rfl, Nat.le_of_ble_eq_true rfl⟩) ⟨qPre_blind, va_recv hK hP (ci := 0) (q0 := 0) rfl rfl, qPre_at hP hK⟩ rfl rfl hl.1 rfl (lv_room (Nat.le_of_ble_eq_true rfl)) dX0_rangeHolding_17 ⟨Nat.le_of_ble_eq_true rfl, Nat.le_of_ble_eq_true rfl⟩) (fun z hz => ?_)
        subst hz
        refine lv_topi (fun v_17 hv_17 => ?_)
        have hv_17 : v_17 = g 2 i := hv_17.trans (x_lastAt hI.1 hR8 (by omega))
        subst hv_17
        refine lv_icmp_gt (tgt := 25) hx hb dX0_rangeHolding_20 (by decide) (fun c_20 => ?_) (fun c_20 => ?_)
        · skip
          refine lv_iinc (v := nI (i + 1)) (lv' := [(3, .int (nI (i + 1))), (0, .ref (ad 16)), (1, .int k), (2, .int (nI (nR - 1)))]) hx hb dX0_rangeHolding_25 hl (k := 3) rfl (nI_1 i) (by decide) rfl (fun ls hl => ?_)
          refine lv_goto (tgt := 9) hx hb dX0_rangeHolding_28 (by decide) ?_
          exact ih _ (by omega) (i + 1) rfl (by omega) (by rw [← hh]; exact (xHold_n hlt (fa_of_lt c_20).2.1).symm) _ (lv_sub hl [1, 2, 3, 0] rfl)
        · skip
          refine lv_iload_n hx hb dX0_rangeHolding_23 rfl (lv_at hl 3 rfl) ?_
          exact W.iret (v := nI i) hx hb hr (fun t ht hW => ⟨nI i, rfl, (by rw [← hh, xHold_y hlt (fa_of_nlt c_20)]), ht⟩) (fun q h => nomatch h) dX0_rangeHolding_24
  exact hloop_9 _ 0 rfl (Nat.zero_le _) rfl _ (lv_sub hl [2, 3, 1, 0] rfl)
set_option maxHeartbeats 4000000 in
set_option maxRecDepth 100000 in
/-- the address at a key -/
theorem c_X0_read (l : Launch) (D : va_G) (cA cZ cL : ClassId) (ad : Nat → Nat) (f : qFs) (g : qGs) (k : Int32) (nR : Nat) (nB : Nat) (hI : xI nR nB f) : Met l yX0_read wsX0_read ({ frames := 3, cells := 0, slots := 0, locals := 65 } : Room) (va_Pc [.ref (ad 16), .int k] (qPre D (qTy cA cZ cL) (xW cA ad f g))) (vp_Si (fun z => z = xRead nR f g k)) 0 0 (fun _ => False) := by
  refine Met.ofW (cc := cX0_read) (maxL := 2) (ret := (some .int)) (by decide) rfl ?_
  intro p e s m args below meth c s₁ B hml hv
  obtain ⟨rfl, hP, hK⟩ := hv
  have hx := B.exec
  have hb := B.bytes
  have hr := B.returns
  have hts := atoms_spec (ws := wsX0_read) B.pre
  have hown : s.vm.findClass RX0 = some m.cls := findClass_of_methodNamed B.named
  have hlocks := B.notSynchronized
  have hfin : ∀ w ∈ wsX00, w ∈ wsX0_read := fun w h => (List.mem_cons_of_mem _ (List.mem_append_right _ h))
  have hl := lv_entry ([.ref (ad 16), .int k]) (n := 2) (Nat.le_of_ble_eq_true rfl)
  rw [lg_entry_eq]
  generalize (lg_sl ([.ref (ad 16), .int k]) ++ List.replicate (2 - (lg_sl ([.ref (ad 16), .int k])).length) Slot.unset).toArray = ls at hl ⊢
  have hl : lv_has ls 2 [(0, .ref (ad 16)), (1, .int k)] := hl
  refine lv_aload_n hx hb dX0_read_0 rfl (lv_at hl 0 rfl) ?_
  refine lv_aload_n hx hb dX0_read_1 rfl (lv_at hl 0 rfl) ?_
  refine lv_aload_n hx hb dX0_read_2 rfl (lv_at hl 0 rfl) ?_
  refine lv_iload_n hx hb dX0_read_3 rfl (lv_at hl 1 rfl) ?_
  refine vp_callSi (W.runV (As := [.int k]) (rest := [.ref (ad 16), .ref (ad 16)]) ⟨hx, hb, hml, hown, hts⟩ (c_X0_rangeHolding l D cA cZ cL ad f g k nR nB hI) (cwV 1 hts gX0_read_X0_rangeHolding rfl rfl rfl (by decide +kernel) ⟨Nat.le_of_ble_eq_true rfl, Nat.le_of_ble_eq_true rfl⟩) ⟨qPre_blind, va_recv hK hP (ci := 0) (q0 := 0) rfl rfl, qPre_at hP hK⟩ rfl rfl hl.1 rfl (lv_room (Nat.le_of_ble_eq_true rfl)) dX0_read_4 ⟨Nat.le_of_ble_eq_true rfl, Nat.le_of_ble_eq_true rfl⟩) (fun z hz => ?_)
  subst hz
  refine vp_callSi (W.runV (As := [.int (nI (xHold nR g k))]) (rest := [.ref (ad 16)]) ⟨hx, hb, hml, hown, hts⟩ (c_X0_homeOf l D cA cZ cL ad f g (nI (xHold nR g k)) nR nB hI) (cwV 1 hts gX0_read_X0_homeOf rfl rfl rfl (by decide +kernel) ⟨Nat.le_of_ble_eq_true rfl, Nat.le_of_ble_eq_true rfl⟩) ⟨qPre_blind, va_recv hK hP (ci := 0) (q0 := 0) rfl rfl, qPre_at hP hK⟩ rfl rfl hl.1 rfl (lv_room (Nat.le_of_ble_eq_true rfl)) dX0_read_7 ⟨Nat.le_of_ble_eq_true rfl, Nat.le_of_ble_eq_true rfl⟩) (fun z hz => ?_)
  subst hz
  refine lv_iload_n hx hb dX0_read_10 rfl (lv_at hl 1 rfl) ?_
  refine vp_callSi (W.runV (As := [.int (xHome f g (nI (xHold nR g k))), .int k]) (rest := []) ⟨hx, hb, hml, hown, hts⟩ (c_X0_rowOf l D cA cZ cL ad f g (xHome f g (nI (xHold nR g k))) k) (cwV 2 hts gX0_read_X0_rowOf rfl rfl rfl (by decide +kernel) ⟨Nat.le_of_ble_eq_true rfl, Nat.le_of_ble_eq_true rfl⟩) ⟨qPre_blind, va_recv hK hP (ci := 0) (q0 := 0) rfl rfl, qPre_at hP hK⟩ rfl rfl hl.1 rfl (lv_room (Nat.le_of_ble_eq_true rfl)) dX0_read_11 ⟨Nat.le_of_ble_eq_true rfl, Nat.le_of_ble_eq_true rfl⟩) (fun z hz => ?_)
  subst hz
  exact W.iret (v := xRowOf g (xHome f g (nI (xHold nR g k))) k) hx hb hr (fun t ht hW => ⟨xRowOf g (xHome f g (nI (xHold nR g k))) k, rfl, rfl, ht⟩) (fun q h => nomatch h) dX0_read_14
set_option maxHeartbeats 4000000 in
set_option maxRecDepth 100000 in
/-- is there a member -/
theorem c_X0_isMember (l : Launch) (D : va_G) (cA cZ cL : ClassId) (ad : Nat → Nat) (f : qFs) (g : qGs) (k : Int32) (nR : Nat) (nB : Nat) (hI : xI nR nB f) : Met l yX0_isMember wsX0_isMember ({ frames := 4, cells := 0, slots := 0, locals := 86 } : Room) (va_Pc [.ref (ad 16), .int k] (qPre D (qTy cA cZ cL) (xW cA ad f g))) (vp_Si (fun z => z = bI (¬ xRead nR f g k = -1))) 0 0 (fun _ => False) := by
  refine Met.ofW (cc := cX0_isMember) (maxL := 2) (ret := (some .boolean)) (by decide) rfl ?_
  intro p e s m args below meth c s₁ B hml hv
  obtain ⟨rfl, hP, hK⟩ := hv
  have hx := B.exec
  have hb := B.bytes
  have hr := B.returns
  have hts := atoms_spec (ws := wsX0_isMember) B.pre
  have hown : s.vm.findClass RX0 = some m.cls := findClass_of_methodNamed B.named
  have hlocks := B.notSynchronized
  have hfin : ∀ w ∈ wsX00, w ∈ wsX0_isMember := fun w h => (List.mem_cons_of_mem _ (List.mem_append_right _ h))
  have hl := lv_entry ([.ref (ad 16), .int k]) (n := 2) (Nat.le_of_ble_eq_true rfl)
  rw [lg_entry_eq]
  generalize (lg_sl ([.ref (ad 16), .int k]) ++ List.replicate (2 - (lg_sl ([.ref (ad 16), .int k])).length) Slot.unset).toArray = ls at hl ⊢
  have hl : lv_has ls 2 [(0, .ref (ad 16)), (1, .int k)] := hl
  refine lv_aload_n hx hb dX0_isMember_0 rfl (lv_at hl 0 rfl) ?_
  refine lv_iload_n hx hb dX0_isMember_1 rfl (lv_at hl 1 rfl) ?_
  refine vp_callSi (W.runV (As := [.int k]) (rest := []) ⟨hx, hb, hml, hown, hts⟩ (c_X0_read l D cA cZ cL ad f g k nR nB hI) (cwV 1 hts gX0_isMember_X0_read rfl rfl rfl (by decide +kernel) ⟨Nat.le_of_ble_eq_true rfl, Nat.le_of_ble_eq_true rfl⟩) ⟨qPre_blind, va_recv hK hP (ci := 0) (q0 := 0) rfl rfl, qPre_at hP hK⟩ rfl rfl hl.1 rfl (lv_room (Nat.le_of_ble_eq_true rfl)) dX0_isMember_2 ⟨Nat.le_of_ble_eq_true rfl, Nat.le_of_ble_eq_true rfl⟩) (fun z hz => ?_)
  subst hz
  refine lv_iconst (v := (-1)) hx hb dX0_isMember_5 (by decide) ?_
  refine lv_icmp_eq (tgt := 13) hx hb dX0_isMember_6 (by decide) (fun c_6 => ?_) (fun c_6 => ?_)
  · skip
    refine lv_iconst (v := 0) hx hb dX0_isMember_13 (by decide) ?_
    exact W.zret (v := 0) hx hb hr rfl (fun t ht hW => ⟨0, rfl, (bI_f (fun q => q c_6)).symm, ht⟩) (fun q h => nomatch h) dX0_isMember_14
  · skip
    refine lv_iconst (v := 1) hx hb dX0_isMember_9 (by decide) ?_
    refine lv_goto (tgt := 14) hx hb dX0_isMember_10 (by decide) ?_
    exact W.zret (v := 1) hx hb hr rfl (fun t ht hW => ⟨1, rfl, (bI_t (c_6)).symm, ht⟩) (fun q h => nomatch h) dX0_isMember_14
set_option maxHeartbeats 4000000 in
set_option maxRecDepth 100000 in
/-- how many rows a shard has from a key to another -/
theorem c_X0_countRows (l : Launch) (D : va_G) (cA cZ cL : ClassId) (ad : Nat → Nat) (f : qFs) (g : qGs) (sh : Int32) (lst : Int32) (lo : Nat) (hlo : lo ≤ 100) : Met l yX0_countRows wsX0_countRows ({ frames := 2, cells := 0, slots := 0, locals := 42 } : Room) (va_Pc [.ref (ad 16), .int sh, .int (nI lo), .int lst] (qPre D (qTy cA cZ cL) (xW cA ad f g))) (vp_Si (fun z => z = nI (cnt (xRowP g sh) lo (hiOf lst)))) 0 0 (fun _ => False) := by
  refine Met.ofW (cc := cX0_countRows) (maxL := 6) (ret := (some .int)) (by decide) rfl ?_
  intro p e s m args below meth c s₁ B hml hv
  obtain ⟨rfl, hP, hK⟩ := hv
  have hx := B.exec
  have hb := B.bytes
  have hr := B.returns
  have hts := atoms_spec (ws := wsX0_countRows) B.pre
  have hown : s.vm.findClass RX0 = some m.cls := findClass_of_methodNamed B.named
  have hlocks := B.notSynchronized
  have hfin : ∀ w ∈ wsX00, w ∈ wsX0_countRows := fun w h => (List.mem_cons_of_mem _ (List.mem_append_right _ h))
  have hl := lv_entry ([.ref (ad 16), .int sh, .int (nI lo), .int lst]) (n := 6) (Nat.le_of_ble_eq_true rfl)
  rw [lg_entry_eq]
  generalize (lg_sl ([.ref (ad 16), .int sh, .int (nI lo), .int lst]) ++ List.replicate (6 - (lg_sl ([.ref (ad 16), .int sh, .int (nI lo), .int lst])).length) Slot.unset).toArray = ls at hl ⊢
  have hl : lv_has ls 6 [(0, .ref (ad 16)), (1, .int sh), (2, .int (nI lo)), (3, .int lst)] := hl
  refine lv_iconst (v := 0) hx hb dX0_countRows_0 (by decide) ?_
  refine lv_istore (lv' := [(4, .int 0), (0, .ref (ad 16)), (1, .int sh), (2, .int (nI lo)), (3, .int lst)]) hx hb dX0_countRows_1 hl (by decide) rfl (fun ls hl => ?_)
  refine lv_iload_n hx hb dX0_countRows_3 rfl (lv_at hl 3 rfl) ?_
  refine lv_istore (lv' := [(5, .int (nI lo)), (4, .int 0), (0, .ref (ad 16)), (1, .int sh), (2, .int (nI lo)), (3, .int lst)]) hx hb dX0_countRows_4 hl (by decide) rfl (fun ls hl => ?_)
  have hloop_6 : ∀ (nme : Nat) (k : Nat) (acc : Nat), 100 - k = nme → (k ≤ 100) → (acc + cnt (xRowP g sh) k (hiOf lst) = cnt (xRowP g sh) lo (hiOf lst)) → ∀ ls : Array Slot, lv_has ls 6 [(0, .ref (ad 16)), (1, .int sh), (2, .int (nI lo)), (3, .int lst), (4, .int (nI acc)), (5, .int (nI k))] → W p l e (headSpec wsX0_countRows ({ frames := 2, cells := 0, slots := 0, locals := 42 } : Room)).room s m ([.ref (ad 16), .int sh, .int (nI lo), .int lst] : List Value).toArray below meth c s.heap [] 0 0 (MQ below (vp_Si (fun z => z = nI (cnt (xRowP g sh) lo (hiOf lst)))) ([.ref (ad 16), .int sh, .int (nI lo), .int lst] : List Value).toArray s 0 0 (fun _ => False)) (F0 m 6 ls []) := by
    intro nme
    induction nme using Nat.strongRecOn with
    | ind nme ih =>
      intro k acc hnme hk hc ls hl
      refine lv_iload hx hb dX0_countRows_6 (lv_at hl 5 rfl) ?_
      refine lv_iload_n hx hb dX0_countRows_8 rfl (lv_at hl 3 rfl) ?_
      refine lv_icmp_gt (tgt := 39) hx hb dX0_countRows_9 (by decide) (fun c_9 => ?_) (fun c_9 => ?_)
      · skip
        have hge := hi_out c_9 (by omega)
        refine lv_iload hx hb dX0_countRows_39 (lv_at hl 4 rfl) ?_
        exact W.iret (v := nI acc) hx hb hr (fun t ht hW => ⟨nI acc, rfl, (by rw [← hc, cnt_end hge]; rfl), ht⟩) (fun q h => nomatch h) dX0_countRows_41
      · skip
        refine lv_iload hx hb dX0_countRows_12 (lv_at hl 5 rfl) ?_
        refine lv_bipush (v := 100) hx hb dX0_countRows_14 (by decide) ?_
        refine lv_icmp_ge (tgt := 39) hx hb dX0_countRows_16 (by decide) (fun c_16 => ?_) (fun c_16 => ?_)
        · skip
          have hge : hiOf lst ≤ k := Nat.le_trans (hi_le lst) (n_ge (a := k) (b := 100) c_16 (by omega) (by decide))
          refine lv_iload hx hb dX0_countRows_39 (lv_at hl 4 rfl) ?_
          exact W.iret (v := nI acc) hx hb hr (fun t ht hW => ⟨nI acc, rfl, (by rw [← hc, cnt_end hge]; rfl), ht⟩) (fun q h => nomatch h) dX0_countRows_41
        · skip
          have hlt := hi_in c_9 c_16 (by omega)
          have hl1 := hi_le lst
          refine lv_aload_n hx hb dX0_countRows_19 rfl (lv_at hl 0 rfl) ?_
          refine lv_iload_n hx hb dX0_countRows_20 rfl (lv_at hl 1 rfl) ?_
          refine lv_iload hx hb dX0_countRows_21 (lv_at hl 5 rfl) ?_
          refine vp_callSi (W.runV (As := [.int sh, .int (nI k)]) (rest := []) ⟨hx, hb, hml, hown, hts⟩ (c_X0_rowOf l D cA cZ cL ad f g sh (nI k)) (cwV 2 hts gX0_countRows_X0_rowOf rfl rfl rfl (by decide +kernel) ⟨Nat.le_of_ble_eq_true rfl, Nat.le_of_ble_eq_true rfl⟩) ⟨qPre_blind, va_recv hK hP (ci := 0) (q0 := 0) rfl rfl, qPre_at hP hK⟩ rfl rfl hl.1 rfl (lv_room (Nat.le_of_ble_eq_true rfl)) dX0_countRows_23 ⟨Nat.le_of_ble_eq_true rfl, Nat.le_of_ble_eq_true rfl⟩) (fun z hz => ?_)
          subst hz
          refine lv_iconst (v := (-1)) hx hb dX0_countRows_26 (by decide) ?_
          refine lv_icmp_eq (tgt := 33) hx hb dX0_countRows_27 (by decide) (fun c_27 => ?_) (fun c_27 => ?_)
          · skip
            refine lv_iinc (v := nI (k + 1)) (lv' := [(5, .int (nI (k + 1))), (0, .ref (ad 16)), (1, .int sh), (2, .int (nI lo)), (3, .int lst), (4, .int (nI acc))]) hx hb dX0_countRows_33 hl (k := 5) rfl (nI_1 k) (by decide) rfl (fun ls hl => ?_)
            refine lv_goto (tgt := 6) hx hb dX0_countRows_36 (by decide) ?_
            exact ih _ (by omega) (k + 1) acc rfl (by omega) (by rw [← hc, cnt_n hlt (df (fun q => q c_27))]) _ (lv_sub hl [1, 2, 3, 4, 5, 0] rfl)
          · skip
            refine lv_iinc (v := nI (acc + 1)) (lv' := [(4, .int (nI (acc + 1))), (0, .ref (ad 16)), (1, .int sh), (2, .int (nI lo)), (3, .int lst), (5, .int (nI k))]) hx hb dX0_countRows_30 hl (k := 4) rfl (nI_1 acc) (by decide) rfl (fun ls hl => ?_)
            refine lv_iinc (v := nI (k + 1)) (lv' := [(5, .int (nI (k + 1))), (4, .int (nI (acc + 1))), (0, .ref (ad 16)), (1, .int sh), (2, .int (nI lo)), (3, .int lst)]) hx hb dX0_countRows_33 hl (k := 5) rfl (nI_1 k) (by decide) rfl (fun ls hl => ?_)
            refine lv_goto (tgt := 6) hx hb dX0_countRows_36 (by decide) ?_
            exact ih _ (by omega) (k + 1) (acc + 1) rfl (by omega) (by rw [← hc, cnt_y hlt (dt c_27)]; omega) _ (lv_sub hl [2, 3, 4, 5, 1, 0] rfl)
  exact hloop_6 _ lo 0 rfl hlo (Nat.zero_add _) _ (lv_sub hl [2, 3, 4, 5, 1, 0] rfl)
set_option maxHeartbeats 4000000 in
set_option maxRecDepth 100000 in
/-- puts a row, if there is such a shard and key -/
theorem c_X0_putRow (l : Launch) (D : va_G) (cA cZ cL : ClassId) (ad : Nat → Nat) (f : qFs) (g : qGs) (sz : Nat) (sh : Int32) (k : Int32) (a : Int32) : Met l yX0_putRow wsX0_putRow ({ frames := 1, cells := 0, slots := 0, locals := 20 } : Room) (va_Pc [.ref (ad 16), .int sh, .int k, .int a] (qPreW D (qTy cA cZ cL) (xW cA ad f g) sz)) (va_Qv (fun u : qFs × qGs => u.1 = f ∧ u.2 = xPutG g sh k a) (qAt D (va_A (xW cA ad f g) sz) (fun u : qFs × qGs => xW cA ad u.1 u.2)) (va_A (xW cA ad f g) sz)) 0 0 (va_A (xW cA ad f g) sz) := by
  refine Met.ofW (cc := cX0_putRow) (maxL := 4) (ret := none) (by decide) rfl ?_
  intro p e s m args below meth c s₁ B hml hv
  obtain ⟨rfl, hsz, hP, hK, hD0⟩ := hv
  have hx := B.exec
  have hb := B.bytes
  have hr := B.returns
  have hts := atoms_spec (ws := wsX0_putRow) B.pre
  have hown : s.vm.findClass RX0 = some m.cls := findClass_of_methodNamed B.named
  have hlocks := B.notSynchronized
  subst hsz
  have hD := hD0.self (sz := s.heap.size)
  generalize hAe : va_A (xW cA ad f g) s.heap.size = A at hD ⊢
  have hA : ∀ q : Nat, s.heap.size ≤ q → A q := fun q h => by rw [← hAe]; exact Or.inr h
  have hS : va_S A s.heap s.heap [] := va_S.rf
  have hfin : ∀ w ∈ wsX00, w ∈ wsX0_putRow := fun w h => (List.mem_cons_of_mem _ (List.mem_append_right _ h))
  have hl := lv_entry ([.ref (ad 16), .int sh, .int k, .int a]) (n := 4) (Nat.le_of_ble_eq_true rfl)
  rw [lg_entry_eq]
  generalize (lg_sl ([.ref (ad 16), .int sh, .int k, .int a]) ++ List.replicate (4 - (lg_sl ([.ref (ad 16), .int sh, .int k, .int a])).length) Slot.unset).toArray = ls at hl ⊢
  have hl : lv_has ls 4 [(0, .ref (ad 16)), (1, .int sh), (2, .int k), (3, .int a)] := hl
  refine lv_iload_n hx hb dX0_putRow_0 rfl (lv_at hl 1 rfl) ?_
  refine vp_callSi (W.runS (As := [.int sh]) (rest := []) ⟨hx, hb, hml, hown, hts⟩ (c_X0_isShard l sh) (va_cwS 1 hts gX0_putRow_X0_isShard rfl rfl rfl (by decide +kernel) ⟨Nat.le_of_ble_eq_true rfl, Nat.le_of_ble_eq_true rfl⟩) ⟨qN_blind, qN_at⟩ rfl rfl hl.1 rfl (lv_room (Nat.le_of_ble_eq_true rfl)) dX0_putRow_1 ⟨Nat.le_of_ble_eq_true rfl, Nat.le_of_ble_eq_true rfl⟩) (fun z hz => ?_)
  subst hz
  refine lv_if_eq (tgt := 26) hx hb dX0_putRow_4 (by decide) (fun c_4 => ?_) (fun c_4 => ?_)
  · have c_4 := bI_0.mp c_4
    exact W.vret hx hb hr (fun t ht hW => ⟨⟨(f, g), rfl, ⟨rfl, (by unfold xPutG xPut; rw [if_neg (fun q => c_4 q.1), up_self])⟩, by rw [ht]; exact hP, hD⟩, hS.F ht⟩) hS.2.2 dX0_putRow_26
  · have c_4 := bI_n.mp c_4
    refine lv_iload_n hx hb dX0_putRow_7 rfl (lv_at hl 2 rfl) ?_
    refine vp_callSi (W.runS (As := [.int k]) (rest := []) ⟨hx, hb, hml, hown, hts⟩ (c_X0_isKey l k) (va_cwS 1 hts gX0_putRow_X0_isKey rfl rfl rfl (by decide +kernel) ⟨Nat.le_of_ble_eq_true rfl, Nat.le_of_ble_eq_true rfl⟩) ⟨qN_blind, qN_at⟩ rfl rfl hl.1 rfl (lv_room (Nat.le_of_ble_eq_true rfl)) dX0_putRow_8 ⟨Nat.le_of_ble_eq_true rfl, Nat.le_of_ble_eq_true rfl⟩) (fun z hz => ?_)
    subst hz
    refine lv_if_eq (tgt := 26) hx hb dX0_putRow_11 (by decide) (fun c_11 => ?_) (fun c_11 => ?_)
    · have c_11 := bI_0.mp c_11
      exact W.vret hx hb hr (fun t ht hW => ⟨⟨(f, g), rfl, ⟨rfl, (by unfold xPutG xPut; rw [if_neg (fun q => c_11 q.2), up_self])⟩, by rw [ht]; exact hP, hD⟩, hS.F ht⟩) hS.2.2 dX0_putRow_26
    · have c_11 := bI_n.mp c_11
      refine lv_aload_n hx hb dX0_putRow_14 rfl (lv_at hl 0 rfl) ?_
      refine va_get (D := D) (ci := 0) (v := .ref (ad 0)) (C := RX0) (T := TX0) (N := 16) hx hb hts hfin hown hK hP 0 rfl rfl 0 (by decide) (hts _ (List.mem_cons_of_mem _ (List.mem_append_left _ (List.mem_of_getElem? (i := 0) rfl)))) (fun _ h9 => h9) rfl dX0_putRow_15 ?_
      refine lv_iload_n hx hb dX0_putRow_18 rfl (lv_at hl 1 rfl) ?_
      refine lv_bipush (v := 100) hx hb dX0_putRow_19 (by decide) ?_
      refine lv_imul hx hb dX0_putRow_21 ?_
      refine lv_iload_n hx hb dX0_putRow_22 rfl (lv_at hl 2 rfl) ?_
      refine lv_iadd hx hb dX0_putRow_23 ?_
      refine lv_iload_n hx hb dX0_putRow_24 rfl (lv_at hl 3 rfl) ?_
      refine va_iast hx hb hK hP hD hS 1 0 rfl rfl (x_inT c_4 c_11) dX0_putRow_25 (fun H locs hP hD hS => ?_)
      have hP : va_P D vwCl (xW cA ad f (va_up g 0 (upd (g 0) ((sh * 100) + k).toNatClampNeg a))) H := hP
      have hD : va_D A (xW cA ad f (va_up g 0 (upd (g 0) ((sh * 100) + k).toNatClampNeg a))) := hD
      exact W.vret hx hb hr (fun t ht hW => ⟨⟨(f, (va_up g 0 (upd (g 0) ((sh * 100) + k).toNatClampNeg a))), rfl, ⟨rfl, (by unfold xPutG xPut; rw [if_pos ⟨c_4, c_11⟩])⟩, by rw [ht]; exact hP, hD⟩, hS.F ht⟩) hS.2.2 dX0_putRow_26
set_option maxHeartbeats 4000000 in
set_option maxRecDepth 100000 in
/-- a write, to both shards of a moved range -/
theorem c_X0_write (l : Launch) (D : va_G) (cA cZ cL : ClassId) (ad : Nat → Nat) (f : qFs) (g : qGs) (sz : Nat) (k : Int32) (a : Int32) (nR : Nat) (nB : Nat) (hI : xI nR nB f) : Met l yX0_write wsX0_write ({ frames := 3, cells := 0, slots := 0, locals := 65 } : Room) (va_Pc [.ref (ad 16), .int k, .int a] (qPreW D (qTy cA cZ cL) (xW cA ad f g) sz)) (va_Qv (fun u : qFs × qGs => u.1 = f ∧ u.2 = xWriteG nR f g k a) (qAt D (va_A (xW cA ad f g) sz) (fun u : qFs × qGs => xW cA ad u.1 u.2)) (va_A (xW cA ad f g) sz)) 0 0 (va_A (xW cA ad f g) sz) := by
  refine Met.ofW (cc := cX0_write) (maxL := 4) (ret := none) (by decide) rfl ?_
  intro p e s m args below meth c s₁ B hml hv
  obtain ⟨rfl, hsz, hP, hK, hD0⟩ := hv
  have hx := B.exec
  have hb := B.bytes
  have hr := B.returns
  have hts := atoms_spec (ws := wsX0_write) B.pre
  have hown : s.vm.findClass RX0 = some m.cls := findClass_of_methodNamed B.named
  have hlocks := B.notSynchronized
  subst hsz
  have hD := hD0.self (sz := s.heap.size)
  generalize hAe : va_A (xW cA ad f g) s.heap.size = A at hD ⊢
  have hA : ∀ q : Nat, s.heap.size ≤ q → A q := fun q h => by rw [← hAe]; exact Or.inr h
  have hS : va_S A s.heap s.heap [] := va_S.rf
  have hfin : ∀ w ∈ wsX00, w ∈ wsX0_write := fun w h => (List.mem_cons_of_mem _ (List.mem_append_right _ h))
  have hl := lv_entry ([.ref (ad 16), .int k, .int a]) (n := 4) (Nat.le_of_ble_eq_true rfl)
  rw [lg_entry_eq]
  generalize (lg_sl ([.ref (ad 16), .int k, .int a]) ++ List.replicate (4 - (lg_sl ([.ref (ad 16), .int k, .int a])).length) Slot.unset).toArray = ls at hl ⊢
  have hl : lv_has ls 4 [(0, .ref (ad 16)), (1, .int k), (2, .int a)] := hl
  refine lv_aload_n hx hb dX0_write_0 rfl (lv_at hl 0 rfl) ?_
  refine lv_iload_n hx hb dX0_write_1 rfl (lv_at hl 1 rfl) ?_
  refine vp_callSi (W.runV (As := [.int k]) (rest := []) ⟨hx, hb, hml, hown, hts⟩ (c_X0_rangeHolding l D cA cZ cL ad f g k nR nB hI) (cwV 1 hts gX0_write_X0_rangeHolding rfl rfl rfl (by decide +kernel) ⟨Nat.le_of_ble_eq_true rfl, Nat.le_of_ble_eq_true rfl⟩) ⟨qPre_blind, va_recv hK hP (ci := 0) (q0 := 0) rfl rfl, qPre_at hP hK⟩ rfl rfl hl.1 rfl (lv_room (Nat.le_of_ble_eq_true rfl)) dX0_write_2 ⟨Nat.le_of_ble_eq_true rfl, Nat.le_of_ble_eq_true rfl⟩) (fun z hz => ?_)
  subst hz
  refine lv_istore_n (lv' := [(3, .int (nI (xHold nR g k))), (0, .ref (ad 16)), (1, .int k), (2, .int a)]) hx hb dX0_write_5 rfl hl (by decide) rfl (fun ls hl => ?_)
  refine lv_aload_n hx hb dX0_write_6 rfl (lv_at hl 1 rfl) ?_
  refine lv_aload_n hx hb dX0_write_7 rfl (lv_at hl 1 rfl) ?_
  refine lv_iload_n hx hb dX0_write_8 rfl (lv_at hl 0 rfl) ?_
  refine vp_callSi (W.runV (As := [.int (nI (xHold nR g k))]) (rest := [.ref (ad 16)]) ⟨hx, hb, hml, hown, hts⟩ (c_X0_homeOf l D cA cZ cL ad f g (nI (xHold nR g k)) nR nB hI) (cwV 1 hts gX0_write_X0_homeOf rfl rfl rfl (by decide +kernel) ⟨Nat.le_of_ble_eq_true rfl, Nat.le_of_ble_eq_true rfl⟩) ⟨qPre_blind, va_recv hK hP (ci := 0) (q0 := 0) rfl rfl, qPre_at hP hK⟩ rfl rfl hl.1 rfl (lv_room (Nat.le_of_ble_eq_true rfl)) dX0_write_9 ⟨Nat.le_of_ble_eq_true rfl, Nat.le_of_ble_eq_true rfl⟩) (fun z hz => ?_)
  subst hz
  refine lv_iload_n hx hb dX0_write_12 rfl (lv_at hl 2 rfl) ?_
  refine lv_iload_n hx hb dX0_write_13 rfl (lv_at hl 3 rfl) ?_
  refine qb_callv (va_runV (As := [.int (xHome f g (nI (xHold nR g k))), .int k, .int a]) (rest := []) ⟨hx, hb, hml, hown, hts⟩ (c_X0_putRow l D cA cZ cL ad f g s.heap.size (xHome f g (nI (xHold nR g k))) k a) (cwV 3 hts gX0_write_X0_putRow rfl rfl rfl (by decide +kernel) ⟨Nat.le_of_ble_eq_true rfl, Nat.le_of_ble_eq_true rfl⟩) ⟨qPreW_blind, va_recv hK hP (ci := 0) (q0 := 0) rfl rfl, qPreW_at hP hK hD⟩ rfl rfl hl.1 rfl (lv_room (Nat.le_of_ble_eq_true rfl)) dX0_write_14 ⟨Nat.le_of_ble_eq_true rfl, Nat.le_of_ble_eq_true rfl⟩) hD hS hA (fun u H locs hu hP hD hS => ?_)
  obtain ⟨uf, ug⟩ := u
  obtain ⟨hu1, hu2⟩ := hu
  have hu1 : uf = f := hu1
  have hu2 : ug = xPutG g (xHome f g (nI (xHold nR g k))) k a := hu2
  have hP : va_P D vwCl (xW cA ad uf ug) H := hP
  have hD : va_D A (xW cA ad uf ug) := hD
  rw [hu1, hu2] at hP hD
  have hP : va_P D vwCl (xW cA ad f (xPutG g (xHome f g (nI (xHold nR g k))) k a)) H := hP
  have hD : va_D A (xW cA ad f (xPutG g (xHome f g (nI (xHold nR g k))) k a)) := hD
  refine lv_aload_n hx hb dX0_write_17 rfl (lv_at hl 1 rfl) ?_
  refine lv_aload_n hx hb dX0_write_18 rfl (lv_at hl 1 rfl) ?_
  refine lv_iload_n hx hb dX0_write_19 rfl (lv_at hl 0 rfl) ?_
  refine vp_callSi (W.runV (As := [.int (nI (xHold nR g k))]) (rest := [.ref (ad 16)]) ⟨hx, hb, hml, hown, hts⟩ (c_X0_targetOf l D cA cZ cL ad f (xPutG g (xHome f g (nI (xHold nR g k))) k a) (nI (xHold nR g k)) nR nB hI) (cwV 1 hts gX0_write_X0_targetOf rfl rfl rfl (by decide +kernel) ⟨Nat.le_of_ble_eq_true rfl, Nat.le_of_ble_eq_true rfl⟩) ⟨qPre_blind, va_recv hK hP (ci := 0) (q0 := 0) rfl rfl, qPre_at hP hK⟩ rfl rfl hl.1 rfl (lv_room (Nat.le_of_ble_eq_true rfl)) dX0_write_20 ⟨Nat.le_of_ble_eq_true rfl, Nat.le_of_ble_eq_true rfl⟩) (fun z hz => ?_)
  subst hz
  refine lv_topi (fun v_20 hv_20 => ?_)
  have hv_20 : v_20 = xTarg f g (nI (xHold nR g k)) := hv_20.trans (rfl)
  subst hv_20
  refine lv_iload_n hx hb dX0_write_23 rfl (lv_at hl 2 rfl) ?_
  refine lv_iload_n hx hb dX0_write_24 rfl (lv_at hl 3 rfl) ?_
  refine qb_callv (va_runV (As := [.int (xTarg f g (nI (xHold nR g k))), .int k, .int a]) (rest := []) ⟨hx, hb, hml, hown, hts⟩ (c_X0_putRow l D cA cZ cL ad f (xPutG g (xHome f g (nI (xHold nR g k))) k a) H.size (xTarg f g (nI (xHold nR g k))) k a) (cwV 3 hts gX0_write_X0_putRow rfl rfl rfl (by decide +kernel) ⟨Nat.le_of_ble_eq_true rfl, Nat.le_of_ble_eq_true rfl⟩) ⟨qPreW_blind, va_recv hK hP (ci := 0) (q0 := 0) rfl rfl, qPreW_at hP hK hD⟩ rfl rfl hl.1 rfl (lv_room (Nat.le_of_ble_eq_true rfl)) dX0_write_25 ⟨Nat.le_of_ble_eq_true rfl, Nat.le_of_ble_eq_true rfl⟩) hD hS hA (fun u H locs hu hP hD hS => ?_)
  obtain ⟨uf, ug⟩ := u
  obtain ⟨hu1, hu2⟩ := hu
  have hu1 : uf = f := hu1
  have hu2 : ug = xPutG (xPutG g (xHome f g (nI (xHold nR g k))) k a) (xTarg f g (nI (xHold nR g k))) k a := hu2
  have hP : va_P D vwCl (xW cA ad uf ug) H := hP
  have hD : va_D A (xW cA ad uf ug) := hD
  rw [hu1, hu2] at hP hD
  have hP : va_P D vwCl (xW cA ad f (xPutG (xPutG g (xHome f g (nI (xHold nR g k))) k a) (xTarg f g (nI (xHold nR g k))) k a)) H := hP
  have hD : va_D A (xW cA ad f (xPutG (xPutG g (xHome f g (nI (xHold nR g k))) k a) (xTarg f g (nI (xHold nR g k))) k a)) := hD
  exact W.vret hx hb hr (fun t ht hW => ⟨⟨(f, (xPutG (xPutG g (xHome f g (nI (xHold nR g k))) k a) (xTarg f g (nI (xHold nR g k))) k a)), rfl, ⟨rfl, rfl⟩, by rw [ht]; exact hP, hD⟩, hS.F ht⟩) hS.2.2 dX0_write_28
set_option maxHeartbeats 4000000 in
set_option maxRecDepth 100000 in
/-- checkKey -/
theorem c_X0_checkKey (l : Launch) (hl0 : l.stackTraces = false) (k : Int32) : vx_Met l yX0_checkKey wsX0_checkKey ({ frames := 6, cells := 1, slots := 6, locals := 90 } : Room) (va_Pc [.int k] qTH) (va_Sv (fun _ => xKey k)) (qX (fun E => E = eIO ∧ ¬ (xKey k))) 1 6 (fun _ => False) := by
  refine vx_ofW (cc := cX0_checkKey) (maxL := 1) (ret := none) (by decide) rfl ?_
  intro p e s m args below meth c s₁ B hml hno hv
  obtain ⟨rfl, hTH⟩ := hv
  have hx := B.exec
  have hb := B.bytes
  have hr := B.returns
  have hts := atoms_spec (ws := wsX0_checkKey) B.pre
  have hown : s.vm.findClass RX0 = some m.cls := findClass_of_methodNamed B.named
  have hlocks := B.notSynchronized
  have hl := lv_entry ([.int k]) (n := 1) (Nat.le_of_ble_eq_true rfl)
  rw [lg_entry_eq]
  generalize (lg_sl ([.int k]) ++ List.replicate (1 - (lg_sl ([.int k])).length) Slot.unset).toArray = ls at hl ⊢
  have hl : lv_has ls 1 [(0, .int k)] := hl
  refine lv_iload_n hx hb dX0_checkKey_0 rfl (lv_at hl 0 rfl) ?_
  refine vp_callSi (W.runS (As := [.int k]) (rest := []) ⟨hx, hb, hml, hown, hts⟩ (c_X0_isKey l k) (va_cwS 1 hts gX0_checkKey_X0_isKey rfl rfl rfl (by decide +kernel) ⟨Nat.le_of_ble_eq_true rfl, Nat.le_of_ble_eq_true rfl⟩) ⟨qN_blind, qN_at⟩ rfl rfl hl.1 rfl (lv_room (Nat.le_of_ble_eq_true rfl)) dX0_checkKey_1 ⟨Nat.le_of_ble_eq_true rfl, Nat.le_of_ble_eq_true rfl⟩) (fun z hz => ?_)
  subst hz
  refine lv_if_ne (tgt := 17) hx hb dX0_checkKey_4 (by decide) (fun c_4 => ?_) (fun c_4 => ?_)
  · have c_4 := bI_n.mp c_4
    refine vx_ret ?_
    refine W.widen (k := 1) (n := 6) (by decide) (by decide) ?_
    exact W.vret hx hb hr (fun t ht hW => ⟨rfl, c_4, ht⟩) (fun q h => nomatch h) dX0_checkKey_17
  · have c_4 := bI_0.mp c_4
    obtain ⟨sa, hsa⟩ := hTH.2.2.1 (216, "no such key") (List.mem_of_getElem? (i := 17) rfl)
    exact vx_throwS (A := fun _ => False) (names := ["java/lang/RuntimeException", "java/lang/Exception"]) hx hb hl0 hown (by decide) (by decide) (hts _ (List.mem_cons_of_mem _ (List.mem_append_left _ (List.mem_of_getElem? (i := 0) rfl)))) (hts _ (List.mem_cons_of_mem _ (List.mem_append_left _ (List.mem_of_getElem? (i := 1) rfl)))) hsa (vx_hat (fun w h => hts w (List.mem_cons_of_mem _ (List.mem_append_right _ h))) qw1 (qBad_of hTH (by decide))) qg1 hTH.1 hTH.2.1 va_S.rf (hl.1.trans hml.symm) dX0_checkKey_7 dX0_checkKey_10 dX0_checkKey_11 dX0_checkKey_13 dX0_checkKey_16 (fun x h => (hno x h).elim) (Nat.le_of_ble_eq_true rfl) (Nat.le_of_ble_eq_true rfl) (Nat.le_of_ble_eq_true rfl) (Nat.le_of_ble_eq_true rfl) hlocks (fun t _ h1 h2 => ⟨⟨rfl, c_4⟩, h1, h2⟩) (fun q h => nomatch h) (by decide) (by decide)
set_option maxHeartbeats 4000000 in
set_option maxRecDepth 100000 in
/-- checkShard -/
theorem c_X0_checkShard (l : Launch) (hl0 : l.stackTraces = false) (k : Int32) : vx_Met l yX0_checkShard wsX0_checkShard ({ frames := 6, cells := 1, slots := 6, locals := 90 } : Room) (va_Pc [.int k] qTH) (va_Sv (fun _ => xShard k)) (qX (fun E => E = eIO ∧ ¬ (xShard k))) 1 6 (fun _ => False) := by
  refine vx_ofW (cc := cX0_checkShard) (maxL := 1) (ret := none) (by decide) rfl ?_
  intro p e s m args below meth c s₁ B hml hno hv
  obtain ⟨rfl, hTH⟩ := hv
  have hx := B.exec
  have hb := B.bytes
  have hr := B.returns
  have hts := atoms_spec (ws := wsX0_checkShard) B.pre
  have hown : s.vm.findClass RX0 = some m.cls := findClass_of_methodNamed B.named
  have hlocks := B.notSynchronized
  have hl := lv_entry ([.int k]) (n := 1) (Nat.le_of_ble_eq_true rfl)
  rw [lg_entry_eq]
  generalize (lg_sl ([.int k]) ++ List.replicate (1 - (lg_sl ([.int k])).length) Slot.unset).toArray = ls at hl ⊢
  have hl : lv_has ls 1 [(0, .int k)] := hl
  refine lv_iload_n hx hb dX0_checkShard_0 rfl (lv_at hl 0 rfl) ?_
  refine vp_callSi (W.runS (As := [.int k]) (rest := []) ⟨hx, hb, hml, hown, hts⟩ (c_X0_isShard l k) (va_cwS 1 hts gX0_checkShard_X0_isShard rfl rfl rfl (by decide +kernel) ⟨Nat.le_of_ble_eq_true rfl, Nat.le_of_ble_eq_true rfl⟩) ⟨qN_blind, qN_at⟩ rfl rfl hl.1 rfl (lv_room (Nat.le_of_ble_eq_true rfl)) dX0_checkShard_1 ⟨Nat.le_of_ble_eq_true rfl, Nat.le_of_ble_eq_true rfl⟩) (fun z hz => ?_)
  subst hz
  refine lv_if_ne (tgt := 17) hx hb dX0_checkShard_4 (by decide) (fun c_4 => ?_) (fun c_4 => ?_)
  · have c_4 := bI_n.mp c_4
    refine vx_ret ?_
    refine W.widen (k := 1) (n := 6) (by decide) (by decide) ?_
    exact W.vret hx hb hr (fun t ht hW => ⟨rfl, c_4, ht⟩) (fun q h => nomatch h) dX0_checkShard_17
  · have c_4 := bI_0.mp c_4
    obtain ⟨sa, hsa⟩ := hTH.2.2.1 (219, "no such shard") (List.mem_of_getElem? (i := 18) rfl)
    exact vx_throwS (A := fun _ => False) (names := ["java/lang/RuntimeException", "java/lang/Exception"]) hx hb hl0 hown (by decide) (by decide) (hts _ (List.mem_cons_of_mem _ (List.mem_append_left _ (List.mem_of_getElem? (i := 0) rfl)))) (hts _ (List.mem_cons_of_mem _ (List.mem_append_left _ (List.mem_of_getElem? (i := 1) rfl)))) hsa (vx_hat (fun w h => hts w (List.mem_cons_of_mem _ (List.mem_append_right _ h))) qw1 (qBad_of hTH (by decide))) qg1 hTH.1 hTH.2.1 va_S.rf (hl.1.trans hml.symm) dX0_checkShard_7 dX0_checkShard_10 dX0_checkShard_11 dX0_checkShard_13 dX0_checkShard_16 (fun x h => (hno x h).elim) (Nat.le_of_ble_eq_true rfl) (Nat.le_of_ble_eq_true rfl) (Nat.le_of_ble_eq_true rfl) (Nat.le_of_ble_eq_true rfl) hlocks (fun t _ h1 h2 => ⟨⟨rfl, c_4⟩, h1, h2⟩) (fun q h => nomatch h) (by decide) (by decide)
set_option maxHeartbeats 4000000 in
set_option maxRecDepth 100000 in
/-- checkDistrict -/
theorem c_X0_checkDistrict (l : Launch) (hl0 : l.stackTraces = false) (k : Int32) : vx_Met l yX0_checkDistrict wsX0_checkDistrict ({ frames := 6, cells := 1, slots := 6, locals := 90 } : Room) (va_Pc [.int k] qTH) (va_Sv (fun _ => xShard k)) (qX (fun E => E = eIO ∧ ¬ (xShard k))) 1 6 (fun _ => False) := by
  refine vx_ofW (cc := cX0_checkDistrict) (maxL := 1) (ret := none) (by decide) rfl ?_
  intro p e s m args below meth c s₁ B hml hno hv
  obtain ⟨rfl, hTH⟩ := hv
  have hx := B.exec
  have hb := B.bytes
  have hr := B.returns
  have hts := atoms_spec (ws := wsX0_checkDistrict) B.pre
  have hown : s.vm.findClass RX0 = some m.cls := findClass_of_methodNamed B.named
  have hlocks := B.notSynchronized
  have hl := lv_entry ([.int k]) (n := 1) (Nat.le_of_ble_eq_true rfl)
  rw [lg_entry_eq]
  generalize (lg_sl ([.int k]) ++ List.replicate (1 - (lg_sl ([.int k])).length) Slot.unset).toArray = ls at hl ⊢
  have hl : lv_has ls 1 [(0, .int k)] := hl
  refine lv_iload_n hx hb dX0_checkDistrict_0 rfl (lv_at hl 0 rfl) ?_
  refine lv_if_lt (tgt := 9) hx hb dX0_checkDistrict_1 (by decide) (fun c_1 => ?_) (fun c_1 => ?_)
  · skip
    obtain ⟨sa, hsa⟩ := hTH.2.2.1 (221, "no such district") (List.mem_of_getElem? (i := 19) rfl)
    exact vx_throwS (A := fun _ => False) (names := ["java/lang/RuntimeException", "java/lang/Exception"]) hx hb hl0 hown (by decide) (by decide) (hts _ (List.mem_cons_of_mem _ (List.mem_append_left _ (List.mem_of_getElem? (i := 0) rfl)))) (hts _ (List.mem_cons_of_mem _ (List.mem_append_left _ (List.mem_of_getElem? (i := 1) rfl)))) hsa (vx_hat (fun w h => hts w (List.mem_cons_of_mem _ (List.mem_append_right _ h))) qw1 (qBad_of hTH (by decide))) qg1 hTH.1 hTH.2.1 va_S.rf (hl.1.trans hml.symm) dX0_checkDistrict_9 dX0_checkDistrict_12 dX0_checkDistrict_13 dX0_checkDistrict_15 dX0_checkDistrict_18 (fun x h => (hno x h).elim) (Nat.le_of_ble_eq_true rfl) (Nat.le_of_ble_eq_true rfl) (Nat.le_of_ble_eq_true rfl) (Nat.le_of_ble_eq_true rfl) hlocks (fun t _ h1 h2 => ⟨⟨rfl, i_nl c_1⟩, h1, h2⟩) (fun q h => nomatch h) (by decide) (by decide)
  · skip
    refine lv_iload_n hx hb dX0_checkDistrict_4 rfl (lv_at hl 0 rfl) ?_
    refine lv_iconst (v := 4) hx hb dX0_checkDistrict_5 (by decide) ?_
    refine lv_icmp_lt (tgt := 19) hx hb dX0_checkDistrict_6 (by decide) (fun c_6 => ?_) (fun c_6 => ?_)
    · skip
      refine vx_ret ?_
      refine W.widen (k := 1) (n := 6) (by decide) (by decide) ?_
      exact W.vret hx hb hr (fun t ht hW => ⟨rfl, (i_and2 c_1 c_6), ht⟩) (fun q h => nomatch h) dX0_checkDistrict_19
    · skip
      obtain ⟨sa, hsa⟩ := hTH.2.2.1 (221, "no such district") (List.mem_of_getElem? (i := 19) rfl)
      exact vx_throwS (A := fun _ => False) (names := ["java/lang/RuntimeException", "java/lang/Exception"]) hx hb hl0 hown (by decide) (by decide) (hts _ (List.mem_cons_of_mem _ (List.mem_append_left _ (List.mem_of_getElem? (i := 0) rfl)))) (hts _ (List.mem_cons_of_mem _ (List.mem_append_left _ (List.mem_of_getElem? (i := 1) rfl)))) hsa (vx_hat (fun w h => hts w (List.mem_cons_of_mem _ (List.mem_append_right _ h))) qw1 (qBad_of hTH (by decide))) qg1 hTH.1 hTH.2.1 va_S.rf (hl.1.trans hml.symm) dX0_checkDistrict_9 dX0_checkDistrict_12 dX0_checkDistrict_13 dX0_checkDistrict_15 dX0_checkDistrict_18 (fun x h => (hno x h).elim) (Nat.le_of_ble_eq_true rfl) (Nat.le_of_ble_eq_true rfl) (Nat.le_of_ble_eq_true rfl) (Nat.le_of_ble_eq_true rfl) hlocks (fun t _ h1 h2 => ⟨⟨rfl, fun q => c_6 q.2⟩, h1, h2⟩) (fun q h => nomatch h) (by decide) (by decide)
set_option maxHeartbeats 4000000 in
set_option maxRecDepth 100000 in
/-- checkAddress -/
theorem c_X0_checkAddress (l : Launch) (hl0 : l.stackTraces = false) (k : Int32) : vx_Met l yX0_checkAddress wsX0_checkAddress ({ frames := 6, cells := 1, slots := 6, locals := 90 } : Room) (va_Pc [.int k] qTH) (va_Sv (fun _ => xAdr k)) (qX (fun E => E = eIA ∧ ¬ (xAdr k))) 1 6 (fun _ => False) := by
  refine vx_ofW (cc := cX0_checkAddress) (maxL := 1) (ret := none) (by decide) rfl ?_
  intro p e s m args below meth c s₁ B hml hno hv
  obtain ⟨rfl, hTH⟩ := hv
  have hx := B.exec
  have hb := B.bytes
  have hr := B.returns
  have hts := atoms_spec (ws := wsX0_checkAddress) B.pre
  have hown : s.vm.findClass RX0 = some m.cls := findClass_of_methodNamed B.named
  have hlocks := B.notSynchronized
  have hl := lv_entry ([.int k]) (n := 1) (Nat.le_of_ble_eq_true rfl)
  rw [lg_entry_eq]
  generalize (lg_sl ([.int k]) ++ List.replicate (1 - (lg_sl ([.int k])).length) Slot.unset).toArray = ls at hl ⊢
  have hl : lv_has ls 1 [(0, .int k)] := hl
  refine lv_iload_n hx hb dX0_checkAddress_0 rfl (lv_at hl 0 rfl) ?_
  refine lv_if_lt (tgt := 10) hx hb dX0_checkAddress_1 (by decide) (fun c_1 => ?_) (fun c_1 => ?_)
  · skip
    obtain ⟨sa, hsa⟩ := hTH.2.2.1 (229, "the address is out of range") (List.mem_of_getElem? (i := 22) rfl)
    exact vx_throwS (A := fun _ => False) (names := ["java/lang/RuntimeException", "java/lang/Exception"]) hx hb hl0 hown (by decide) (by decide) (hts _ (List.mem_cons_of_mem _ (List.mem_append_left _ (List.mem_of_getElem? (i := 0) rfl)))) (hts _ (List.mem_cons_of_mem _ (List.mem_append_left _ (List.mem_of_getElem? (i := 1) rfl)))) hsa (vx_hat (fun w h => hts w (List.mem_cons_of_mem _ (List.mem_append_right _ h))) qw2 (qBad_of hTH (by decide))) qg2 hTH.1 hTH.2.1 va_S.rf (hl.1.trans hml.symm) dX0_checkAddress_10 dX0_checkAddress_13 dX0_checkAddress_14 dX0_checkAddress_16 dX0_checkAddress_19 (fun x h => (hno x h).elim) (Nat.le_of_ble_eq_true rfl) (Nat.le_of_ble_eq_true rfl) (Nat.le_of_ble_eq_true rfl) (Nat.le_of_ble_eq_true rfl) hlocks (fun t _ h1 h2 => ⟨⟨rfl, i_nl c_1⟩, h1, h2⟩) (fun q h => nomatch h) (by decide) (by decide)
  · skip
    refine lv_iload_n hx hb dX0_checkAddress_4 rfl (lv_at hl 0 rfl) ?_
    refine lv_bipush (v := 40) hx hb dX0_checkAddress_5 (by decide) ?_
    refine lv_icmp_lt (tgt := 20) hx hb dX0_checkAddress_7 (by decide) (fun c_7 => ?_) (fun c_7 => ?_)
    · skip
      refine vx_ret ?_
      refine W.widen (k := 1) (n := 6) (by decide) (by decide) ?_
      exact W.vret hx hb hr (fun t ht hW => ⟨rfl, (i_and2 c_1 c_7), ht⟩) (fun q h => nomatch h) dX0_checkAddress_20
    · skip
      obtain ⟨sa, hsa⟩ := hTH.2.2.1 (229, "the address is out of range") (List.mem_of_getElem? (i := 22) rfl)
      exact vx_throwS (A := fun _ => False) (names := ["java/lang/RuntimeException", "java/lang/Exception"]) hx hb hl0 hown (by decide) (by decide) (hts _ (List.mem_cons_of_mem _ (List.mem_append_left _ (List.mem_of_getElem? (i := 0) rfl)))) (hts _ (List.mem_cons_of_mem _ (List.mem_append_left _ (List.mem_of_getElem? (i := 1) rfl)))) hsa (vx_hat (fun w h => hts w (List.mem_cons_of_mem _ (List.mem_append_right _ h))) qw2 (qBad_of hTH (by decide))) qg2 hTH.1 hTH.2.1 va_S.rf (hl.1.trans hml.symm) dX0_checkAddress_10 dX0_checkAddress_13 dX0_checkAddress_14 dX0_checkAddress_16 dX0_checkAddress_19 (fun x h => (hno x h).elim) (Nat.le_of_ble_eq_true rfl) (Nat.le_of_ble_eq_true rfl) (Nat.le_of_ble_eq_true rfl) (Nat.le_of_ble_eq_true rfl) hlocks (fun t _ h1 h2 => ⟨⟨rfl, fun q => c_7 q.2⟩, h1, h2⟩) (fun q h => nomatch h) (by decide) (by decide)
set_option maxHeartbeats 4000000 in
set_option maxRecDepth 100000 in
/-- checkChoice -/
theorem c_X0_checkChoice (l : Launch) (hl0 : l.stackTraces = false) (k : Int32) : vx_Met l yX0_checkChoice wsX0_checkChoice ({ frames := 6, cells := 1, slots := 6, locals := 90 } : Room) (va_Pc [.int k] qTH) (va_Sv (fun _ => xCho k)) (qX (fun E => E = eIA ∧ ¬ (xCho k))) 1 6 (fun _ => False) := by
  refine vx_ofW (cc := cX0_checkChoice) (maxL := 1) (ret := none) (by decide) rfl ?_
  intro p e s m args below meth c s₁ B hml hno hv
  obtain ⟨rfl, hTH⟩ := hv
  have hx := B.exec
  have hb := B.bytes
  have hr := B.returns
  have hts := atoms_spec (ws := wsX0_checkChoice) B.pre
  have hown : s.vm.findClass RX0 = some m.cls := findClass_of_methodNamed B.named
  have hlocks := B.notSynchronized
  have hl := lv_entry ([.int k]) (n := 1) (Nat.le_of_ble_eq_true rfl)
  rw [lg_entry_eq]
  generalize (lg_sl ([.int k]) ++ List.replicate (1 - (lg_sl ([.int k])).length) Slot.unset).toArray = ls at hl ⊢
  have hl : lv_has ls 1 [(0, .int k)] := hl
  refine lv_iload_n hx hb dX0_checkChoice_0 rfl (lv_at hl 0 rfl) ?_
  refine lv_if_lt (tgt := 9) hx hb dX0_checkChoice_1 (by decide) (fun c_1 => ?_) (fun c_1 => ?_)
  · skip
    obtain ⟨sa, hsa⟩ := hTH.2.2.1 (232, "the choice is out of range") (List.mem_of_getElem? (i := 23) rfl)
    exact vx_throwS (A := fun _ => False) (names := ["java/lang/RuntimeException", "java/lang/Exception"]) hx hb hl0 hown (by decide) (by decide) (hts _ (List.mem_cons_of_mem _ (List.mem_append_left _ (List.mem_of_getElem? (i := 0) rfl)))) (hts _ (List.mem_cons_of_mem _ (List.mem_append_left _ (List.mem_of_getElem? (i := 1) rfl)))) hsa (vx_hat (fun w h => hts w (List.mem_cons_of_mem _ (List.mem_append_right _ h))) qw2 (qBad_of hTH (by decide))) qg2 hTH.1 hTH.2.1 va_S.rf (hl.1.trans hml.symm) dX0_checkChoice_9 dX0_checkChoice_12 dX0_checkChoice_13 dX0_checkChoice_15 dX0_checkChoice_18 (fun x h => (hno x h).elim) (Nat.le_of_ble_eq_true rfl) (Nat.le_of_ble_eq_true rfl) (Nat.le_of_ble_eq_true rfl) (Nat.le_of_ble_eq_true rfl) hlocks (fun t _ h1 h2 => ⟨⟨rfl, i_nl c_1⟩, h1, h2⟩) (fun q h => nomatch h) (by decide) (by decide)
  · skip
    refine lv_iload_n hx hb dX0_checkChoice_4 rfl (lv_at hl 0 rfl) ?_
    refine lv_iconst (v := 3) hx hb dX0_checkChoice_5 (by decide) ?_
    refine lv_icmp_lt (tgt := 19) hx hb dX0_checkChoice_6 (by decide) (fun c_6 => ?_) (fun c_6 => ?_)
    · skip
      refine vx_ret ?_
      refine W.widen (k := 1) (n := 6) (by decide) (by decide) ?_
      exact W.vret hx hb hr (fun t ht hW => ⟨rfl, (i_and2 c_1 c_6), ht⟩) (fun q h => nomatch h) dX0_checkChoice_19
    · skip
      obtain ⟨sa, hsa⟩ := hTH.2.2.1 (232, "the choice is out of range") (List.mem_of_getElem? (i := 23) rfl)
      exact vx_throwS (A := fun _ => False) (names := ["java/lang/RuntimeException", "java/lang/Exception"]) hx hb hl0 hown (by decide) (by decide) (hts _ (List.mem_cons_of_mem _ (List.mem_append_left _ (List.mem_of_getElem? (i := 0) rfl)))) (hts _ (List.mem_cons_of_mem _ (List.mem_append_left _ (List.mem_of_getElem? (i := 1) rfl)))) hsa (vx_hat (fun w h => hts w (List.mem_cons_of_mem _ (List.mem_append_right _ h))) qw2 (qBad_of hTH (by decide))) qg2 hTH.1 hTH.2.1 va_S.rf (hl.1.trans hml.symm) dX0_checkChoice_9 dX0_checkChoice_12 dX0_checkChoice_13 dX0_checkChoice_15 dX0_checkChoice_18 (fun x h => (hno x h).elim) (Nat.le_of_ble_eq_true rfl) (Nat.le_of_ble_eq_true rfl) (Nat.le_of_ble_eq_true rfl) (Nat.le_of_ble_eq_true rfl) hlocks (fun t _ h1 h2 => ⟨⟨rfl, fun q => c_6 q.2⟩, h1, h2⟩) (fun q h => nomatch h) (by decide) (by decide)
set_option maxHeartbeats 4000000 in
set_option maxRecDepth 100000 in
/-- checkRange -/
theorem c_X0_checkRange (l : Launch) (hl0 : l.stackTraces = false) (D : va_G) (cA cZ cL : ClassId) (ad : Nat → Nat) (f : qFs) (g : qGs) (r : Int32) : vx_Met l yX0_checkRange wsX0_checkRange ({ frames := 6, cells := 1, slots := 6, locals := 90 } : Room) (va_Pc [.ref (ad 16), .int r] (qPreT D (qTy cA cZ cL) (xW cA ad f g))) (va_Sv (fun _ => xRange f r)) (qX (fun E => E = eIO ∧ ¬ (xRange f r))) 1 6 (fun _ => False) := by
  refine vx_ofW (cc := cX0_checkRange) (maxL := 2) (ret := none) (by decide) rfl ?_
  intro p e s m args below meth c s₁ B hml hno hv
  obtain ⟨rfl, hP, hK, hTH⟩ := hv
  have hx := B.exec
  have hb := B.bytes
  have hr := B.returns
  have hts := atoms_spec (ws := wsX0_checkRange) B.pre
  have hown : s.vm.findClass RX0 = some m.cls := findClass_of_methodNamed B.named
  have hlocks := B.notSynchronized
  have hfin : ∀ w ∈ wsX00, w ∈ wsX0_checkRange := fun w h => (List.mem_cons_of_mem _ (List.mem_append_left _ (List.mem_append_right _ h)))
  have hl := lv_entry ([.ref (ad 16), .int r]) (n := 2) (Nat.le_of_ble_eq_true rfl)
  rw [lg_entry_eq]
  generalize (lg_sl ([.ref (ad 16), .int r]) ++ List.replicate (2 - (lg_sl ([.ref (ad 16), .int r])).length) Slot.unset).toArray = ls at hl ⊢
  have hl : lv_has ls 2 [(0, .ref (ad 16)), (1, .int r)] := hl
  refine lv_aload_n hx hb dX0_checkRange_0 rfl (lv_at hl 0 rfl) ?_
  refine lv_iload_n hx hb dX0_checkRange_1 rfl (lv_at hl 1 rfl) ?_
  refine vp_callSi (W.runV (As := [.int r]) (rest := []) ⟨hx, hb, hml, hown, hts⟩ (c_X0_isRange l D cA cZ cL ad f g r) (cwV 1 hts gX0_checkRange_X0_isRange rfl rfl rfl (by decide +kernel) ⟨Nat.le_of_ble_eq_true rfl, Nat.le_of_ble_eq_true rfl⟩) ⟨qPre_blind, va_recv hK hP (ci := 0) (q0 := 0) rfl rfl, qPre_at hP hK⟩ rfl rfl hl.1 rfl (lv_room (Nat.le_of_ble_eq_true rfl)) dX0_checkRange_2 ⟨Nat.le_of_ble_eq_true rfl, Nat.le_of_ble_eq_true rfl⟩) (fun z hz => ?_)
  subst hz
  refine lv_if_ne (tgt := 18) hx hb dX0_checkRange_5 (by decide) (fun c_5 => ?_) (fun c_5 => ?_)
  · have c_5 := bI_n.mp c_5
    refine vx_ret ?_
    refine W.widen (k := 1) (n := 6) (by decide) (by decide) ?_
    exact W.vret hx hb hr (fun t ht hW => ⟨rfl, c_5, ht⟩) (fun q h => nomatch h) dX0_checkRange_18
  · have c_5 := bI_0.mp c_5
    obtain ⟨sa, hsa⟩ := hTH.2.2.1 (223, "no such range") (List.mem_of_getElem? (i := 20) rfl)
    exact vx_throwS (A := fun _ => False) (names := ["java/lang/RuntimeException", "java/lang/Exception"]) hx hb hl0 hown (by decide) (by decide) (hts _ (List.mem_cons_of_mem _ (List.mem_append_left _ (List.mem_append_left _ (List.mem_of_getElem? (i := 0) rfl))))) (hts _ (List.mem_cons_of_mem _ (List.mem_append_left _ (List.mem_append_left _ (List.mem_of_getElem? (i := 1) rfl))))) hsa (vx_hat (fun w h => hts w (List.mem_cons_of_mem _ (List.mem_append_right _ h))) qw1 (qBad_of hTH (by decide))) qg1 hTH.1 hTH.2.1 va_S.rf (hl.1.trans hml.symm) dX0_checkRange_8 dX0_checkRange_11 dX0_checkRange_12 dX0_checkRange_14 dX0_checkRange_17 (fun x h => (hno x h).elim) (Nat.le_of_ble_eq_true rfl) (Nat.le_of_ble_eq_true rfl) (Nat.le_of_ble_eq_true rfl) (Nat.le_of_ble_eq_true rfl) hlocks (fun t _ h1 h2 => ⟨⟨rfl, c_5⟩, h1, h2⟩) (fun q h => nomatch h) (by decide) (by decide)
set_option maxHeartbeats 4000000 in
set_option maxRecDepth 100000 in
/-- checkBallot -/
theorem c_X0_checkBallot (l : Launch) (hl0 : l.stackTraces = false) (D : va_G) (cA cZ cL : ClassId) (ad : Nat → Nat) (f : qFs) (g : qGs) (r : Int32) : vx_Met l yX0_checkBallot wsX0_checkBallot ({ frames := 6, cells := 1, slots := 6, locals := 90 } : Room) (va_Pc [.ref (ad 16), .int r] (qPreT D (qTy cA cZ cL) (xW cA ad f g))) (va_Sv (fun _ => xBallot f r)) (qX (fun E => E = eIO ∧ ¬ (xBallot f r))) 1 6 (fun _ => False) := by
  refine vx_ofW (cc := cX0_checkBallot) (maxL := 2) (ret := none) (by decide) rfl ?_
  intro p e s m args below meth c s₁ B hml hno hv
  obtain ⟨rfl, hP, hK, hTH⟩ := hv
  have hx := B.exec
  have hb := B.bytes
  have hr := B.returns
  have hts := atoms_spec (ws := wsX0_checkBallot) B.pre
  have hown : s.vm.findClass RX0 = some m.cls := findClass_of_methodNamed B.named
  have hlocks := B.notSynchronized
  have hfin : ∀ w ∈ wsX00, w ∈ wsX0_checkBallot := fun w h => (List.mem_cons_of_mem _ (List.mem_append_left _ (List.mem_append_right _ h)))
  have hl := lv_entry ([.ref (ad 16), .int r]) (n := 2) (Nat.le_of_ble_eq_true rfl)
  rw [lg_entry_eq]
  generalize (lg_sl ([.ref (ad 16), .int r]) ++ List.replicate (2 - (lg_sl ([.ref (ad 16), .int r])).length) Slot.unset).toArray = ls at hl ⊢
  have hl : lv_has ls 2 [(0, .ref (ad 16)), (1, .int r)] := hl
  refine lv_aload_n hx hb dX0_checkBallot_0 rfl (lv_at hl 0 rfl) ?_
  refine lv_iload_n hx hb dX0_checkBallot_1 rfl (lv_at hl 1 rfl) ?_
  refine vp_callSi (W.runV (As := [.int r]) (rest := []) ⟨hx, hb, hml, hown, hts⟩ (c_X0_isBallot l D cA cZ cL ad f g r) (cwV 1 hts gX0_checkBallot_X0_isBallot rfl rfl rfl (by decide +kernel) ⟨Nat.le_of_ble_eq_true rfl, Nat.le_of_ble_eq_true rfl⟩) ⟨qPre_blind, va_recv hK hP (ci := 0) (q0 := 0) rfl rfl, qPre_at hP hK⟩ rfl rfl hl.1 rfl (lv_room (Nat.le_of_ble_eq_true rfl)) dX0_checkBallot_2 ⟨Nat.le_of_ble_eq_true rfl, Nat.le_of_ble_eq_true rfl⟩) (fun z hz => ?_)
  subst hz
  refine lv_if_ne (tgt := 18) hx hb dX0_checkBallot_5 (by decide) (fun c_5 => ?_) (fun c_5 => ?_)
  · have c_5 := bI_n.mp c_5
    refine vx_ret ?_
    refine W.widen (k := 1) (n := 6) (by decide) (by decide) ?_
    exact W.vret hx hb hr (fun t ht hW => ⟨rfl, c_5, ht⟩) (fun q h => nomatch h) dX0_checkBallot_18
  · have c_5 := bI_0.mp c_5
    obtain ⟨sa, hsa⟩ := hTH.2.2.1 (225, "no such ballot") (List.mem_of_getElem? (i := 21) rfl)
    exact vx_throwS (A := fun _ => False) (names := ["java/lang/RuntimeException", "java/lang/Exception"]) hx hb hl0 hown (by decide) (by decide) (hts _ (List.mem_cons_of_mem _ (List.mem_append_left _ (List.mem_append_left _ (List.mem_of_getElem? (i := 0) rfl))))) (hts _ (List.mem_cons_of_mem _ (List.mem_append_left _ (List.mem_append_left _ (List.mem_of_getElem? (i := 1) rfl))))) hsa (vx_hat (fun w h => hts w (List.mem_cons_of_mem _ (List.mem_append_right _ h))) qw1 (qBad_of hTH (by decide))) qg1 hTH.1 hTH.2.1 va_S.rf (hl.1.trans hml.symm) dX0_checkBallot_8 dX0_checkBallot_11 dX0_checkBallot_12 dX0_checkBallot_14 dX0_checkBallot_17 (fun x h => (hno x h).elim) (Nat.le_of_ble_eq_true rfl) (Nat.le_of_ble_eq_true rfl) (Nat.le_of_ble_eq_true rfl) (Nat.le_of_ble_eq_true rfl) hlocks (fun t _ h1 h2 => ⟨⟨rfl, c_5⟩, h1, h2⟩) (fun q h => nomatch h) (by decide) (by decide)
set_option maxHeartbeats 4000000 in
set_option maxRecDepth 100000 in
/-- ranges -/
theorem c_X0_ranges (l : Launch) (D : va_G) (cA cZ cL : ClassId) (ad : Nat → Nat) (f : qFs) (g : qGs) : Met l yX0_ranges wsX0_ranges ({ frames := 0, cells := 0, slots := 0, locals := 0 } : Room) (va_Pc [.ref (ad 16)] (qPre D (qTy cA cZ cL) (xW cA ad f g))) (vp_Si (fun z => z = f 5)) 0 0 (fun _ => False) := by
  refine Met.ofW (cc := cX0_ranges) (maxL := 1) (ret := (some .int)) (by decide) rfl ?_
  intro p e s m args below meth c s₁ B hml hv
  obtain ⟨rfl, hP, hK⟩ := hv
  have hx := B.exec
  have hb := B.bytes
  have hr := B.returns
  have hts := atoms_spec (ws := wsX0_ranges) B.pre
  have hown : s.vm.findClass RX0 = some m.cls := findClass_of_methodNamed B.named
  have hlocks := B.notSynchronized
  have hfin : ∀ w ∈ wsX00, w ∈ wsX0_ranges := fun w h => (List.mem_cons_of_mem _ (List.mem_append_right _ h))
  have hl := lv_entry ([.ref (ad 16)]) (n := 1) (Nat.le_of_ble_eq_true rfl)
  rw [lg_entry_eq]
  generalize (lg_sl ([.ref (ad 16)]) ++ List.replicate (1 - (lg_sl ([.ref (ad 16)])).length) Slot.unset).toArray = ls at hl ⊢
  have hl : lv_has ls 1 [(0, .ref (ad 16))] := hl
  refine lv_aload_n hx hb dX0_ranges_0 rfl (lv_at hl 0 rfl) ?_
  refine va_get (D := D) (ci := 0) (v := .int (f 5)) (C := RX0) (T := TX0) (N := 16) hx hb hts hfin hown hK hP 0 rfl rfl 5 (by decide) (hts _ (List.mem_cons_of_mem _ (List.mem_append_left _ (List.mem_of_getElem? (i := 0) rfl)))) (fun _ h9 => h9) rfl dX0_ranges_1 ?_
  exact W.iret (v := f 5) hx hb hr (fun t ht hW => ⟨f 5, rfl, rfl, ht⟩) (fun q h => nomatch h) dX0_ranges_4
set_option maxHeartbeats 4000000 in
set_option maxRecDepth 100000 in
/-- address -/
theorem c_X0_address (l : Launch) (hl0 : l.stackTraces = false) (D : va_G) (cA cZ cL : ClassId) (ad : Nat → Nat) (f : qFs) (g : qGs) (k : Int32) (nR : Nat) (nB : Nat) (hI : xI nR nB f) : vx_Met l yX0_address wsX0_address ({ frames := 7, cells := 1, slots := 6, locals := 110 } : Room) (va_Pc [.ref (ad 16), .int k] (qPreT D (qTy cA cZ cL) (xW cA ad f g))) (vp_Si (fun z => xKey k ∧ z = xRead nR f g k)) (qX (fun E => E = eIO ∧ ¬ xKey k)) 1 6 (fun _ => False) := by
  refine vx_ofW (cc := cX0_address) (maxL := 2) (ret := (some .int)) (by decide) rfl ?_
  intro p e s m args below meth c s₁ B hml hno hv
  obtain ⟨rfl, hP, hK, hTH⟩ := hv
  have hx := B.exec
  have hb := B.bytes
  have hr := B.returns
  have hts := atoms_spec (ws := wsX0_address) B.pre
  have hown : s.vm.findClass RX0 = some m.cls := findClass_of_methodNamed B.named
  have hlocks := B.notSynchronized
  have hfin : ∀ w ∈ wsX00, w ∈ wsX0_address := fun w h => (List.mem_cons_of_mem _ (List.mem_append_left _ (List.mem_append_right _ h)))
  have hl := lv_entry ([.ref (ad 16), .int k]) (n := 2) (Nat.le_of_ble_eq_true rfl)
  rw [lg_entry_eq]
  generalize (lg_sl ([.ref (ad 16), .int k]) ++ List.replicate (2 - (lg_sl ([.ref (ad 16), .int k])).length) Slot.unset).toArray = ls at hl ⊢
  have hl : lv_has ls 2 [(0, .ref (ad 16)), (1, .int k)] := hl
  refine lv_iload_n hx hb dX0_address_0 rfl (lv_at hl 1 rfl) ?_
  refine qb_callSv (vx_runS (As := [.int k]) (rest := []) ⟨hx, hb, hml, hown, hts⟩ (c_X0_checkKey l hl0 k) (va_cwS 1 hts gX0_address_X0_checkKey rfl rfl rfl (by decide +kernel) ⟨Nat.le_of_ble_eq_true rfl, Nat.le_of_ble_eq_true rfl⟩) ⟨qTH_blind, qTH_pc hTH rfl⟩ rfl rfl hl.1 rfl (lv_room (Nat.le_of_ble_eq_true rfl)) dX0_address_1 ⟨Nat.le_of_ble_eq_true rfl, Nat.le_of_ble_eq_true rfl⟩) (fun E ce q9 st t H1 hst ht hvm hX hcell hcv hcl => vx_out (fun x h => (hno x h).elim) hlocks hcell hcv hcl (fun t2 h2 hA2 => qX_pass hX hst rfl ht h2 (fun h => h)) (fun q h => nomatch h) (by decide) (by decide)) (fun hz => ?_)
  have h_1 := hz
  refine lv_aload_n hx hb dX0_address_4 rfl (lv_at hl 0 rfl) ?_
  refine lv_iload_n hx hb dX0_address_5 rfl (lv_at hl 1 rfl) ?_
  refine vp_callSi (W.runV (As := [.int k]) (rest := []) ⟨hx, hb, hml, hown, hts⟩ (c_X0_read l D cA cZ cL ad f g k nR nB hI) (cwV 1 hts gX0_address_X0_read rfl rfl rfl (by decide +kernel) ⟨Nat.le_of_ble_eq_true rfl, Nat.le_of_ble_eq_true rfl⟩) ⟨qPre_blind, va_recv hK hP (ci := 0) (q0 := 0) rfl rfl, qPre_at hP hK⟩ rfl rfl hl.1 rfl (lv_room (Nat.le_of_ble_eq_true rfl)) dX0_address_6 ⟨Nat.le_of_ble_eq_true rfl, Nat.le_of_ble_eq_true rfl⟩) (fun z hz => ?_)
  subst hz
  refine vx_ret ?_
  refine W.widen (k := 1) (n := 6) (by decide) (by decide) ?_
  exact W.iret (v := xRead nR f g k) hx hb hr (fun t ht hW => ⟨xRead nR f g k, rfl, ⟨h_1, rfl⟩, ht⟩) (fun q h => nomatch h) dX0_address_9
set_option maxHeartbeats 4000000 in
set_option maxRecDepth 100000 in
/-- rangeOf -/
theorem c_X0_rangeOf (l : Launch) (hl0 : l.stackTraces = false) (D : va_G) (cA cZ cL : ClassId) (ad : Nat → Nat) (f : qFs) (g : qGs) (k : Int32) (nR : Nat) (nB : Nat) (hI : xI nR nB f) : vx_Met l yX0_rangeOf wsX0_rangeOf ({ frames := 7, cells := 1, slots := 6, locals := 110 } : Room) (va_Pc [.ref (ad 16), .int k] (qPreT D (qTy cA cZ cL) (xW cA ad f g))) (vp_Si (fun z => xKey k ∧ z = nI (xHold nR g k))) (qX (fun E => E = eIO ∧ ¬ xKey k)) 1 6 (fun _ => False) := by
  refine vx_ofW (cc := cX0_rangeOf) (maxL := 2) (ret := (some .int)) (by decide) rfl ?_
  intro p e s m args below meth c s₁ B hml hno hv
  obtain ⟨rfl, hP, hK, hTH⟩ := hv
  have hx := B.exec
  have hb := B.bytes
  have hr := B.returns
  have hts := atoms_spec (ws := wsX0_rangeOf) B.pre
  have hown : s.vm.findClass RX0 = some m.cls := findClass_of_methodNamed B.named
  have hlocks := B.notSynchronized
  have hfin : ∀ w ∈ wsX00, w ∈ wsX0_rangeOf := fun w h => (List.mem_cons_of_mem _ (List.mem_append_left _ (List.mem_append_right _ h)))
  have hl := lv_entry ([.ref (ad 16), .int k]) (n := 2) (Nat.le_of_ble_eq_true rfl)
  rw [lg_entry_eq]
  generalize (lg_sl ([.ref (ad 16), .int k]) ++ List.replicate (2 - (lg_sl ([.ref (ad 16), .int k])).length) Slot.unset).toArray = ls at hl ⊢
  have hl : lv_has ls 2 [(0, .ref (ad 16)), (1, .int k)] := hl
  refine lv_iload_n hx hb dX0_rangeOf_0 rfl (lv_at hl 1 rfl) ?_
  refine qb_callSv (vx_runS (As := [.int k]) (rest := []) ⟨hx, hb, hml, hown, hts⟩ (c_X0_checkKey l hl0 k) (va_cwS 1 hts gX0_rangeOf_X0_checkKey rfl rfl rfl (by decide +kernel) ⟨Nat.le_of_ble_eq_true rfl, Nat.le_of_ble_eq_true rfl⟩) ⟨qTH_blind, qTH_pc hTH rfl⟩ rfl rfl hl.1 rfl (lv_room (Nat.le_of_ble_eq_true rfl)) dX0_rangeOf_1 ⟨Nat.le_of_ble_eq_true rfl, Nat.le_of_ble_eq_true rfl⟩) (fun E ce q9 st t H1 hst ht hvm hX hcell hcv hcl => vx_out (fun x h => (hno x h).elim) hlocks hcell hcv hcl (fun t2 h2 hA2 => qX_pass hX hst rfl ht h2 (fun h => h)) (fun q h => nomatch h) (by decide) (by decide)) (fun hz => ?_)
  have h_1 := hz
  refine lv_aload_n hx hb dX0_rangeOf_4 rfl (lv_at hl 0 rfl) ?_
  refine lv_iload_n hx hb dX0_rangeOf_5 rfl (lv_at hl 1 rfl) ?_
  refine vp_callSi (W.runV (As := [.int k]) (rest := []) ⟨hx, hb, hml, hown, hts⟩ (c_X0_rangeHolding l D cA cZ cL ad f g k nR nB hI) (cwV 1 hts gX0_rangeOf_X0_rangeHolding rfl rfl rfl (by decide +kernel) ⟨Nat.le_of_ble_eq_true rfl, Nat.le_of_ble_eq_true rfl⟩) ⟨qPre_blind, va_recv hK hP (ci := 0) (q0 := 0) rfl rfl, qPre_at hP hK⟩ rfl rfl hl.1 rfl (lv_room (Nat.le_of_ble_eq_true rfl)) dX0_rangeOf_6 ⟨Nat.le_of_ble_eq_true rfl, Nat.le_of_ble_eq_true rfl⟩) (fun z hz => ?_)
  subst hz
  refine vx_ret ?_
  refine W.widen (k := 1) (n := 6) (by decide) (by decide) ?_
  exact W.iret (v := nI (xHold nR g k)) hx hb hr (fun t ht hW => ⟨nI (xHold nR g k), rfl, ⟨h_1, rfl⟩, ht⟩) (fun q h => nomatch h) dX0_rangeOf_9
set_option maxHeartbeats 4000000 in
set_option maxRecDepth 100000 in
/-- shardOf -/
theorem c_X0_shardOf (l : Launch) (hl0 : l.stackTraces = false) (D : va_G) (cA cZ cL : ClassId) (ad : Nat → Nat) (f : qFs) (g : qGs) (r : Int32) (nR : Nat) (nB : Nat) (hI : xI nR nB f) : vx_Met l yX0_shardOf wsX0_shardOf ({ frames := 7, cells := 1, slots := 6, locals := 111 } : Room) (va_Pc [.ref (ad 16), .int r] (qPreT D (qTy cA cZ cL) (xW cA ad f g))) (vp_Si (fun z => xRange f r ∧ z = g 3 r.toNatClampNeg)) (qX (fun E => E = eIO ∧ ¬ xRange f r)) 1 6 (fun _ => False) := by
  refine vx_ofW (cc := cX0_shardOf) (maxL := 2) (ret := (some .int)) (by decide) rfl ?_
  intro p e s m args below meth c s₁ B hml hno hv
  obtain ⟨rfl, hP, hK, hTH⟩ := hv
  have hx := B.exec
  have hb := B.bytes
  have hr := B.returns
  have hts := atoms_spec (ws := wsX0_shardOf) B.pre
  have hown : s.vm.findClass RX0 = some m.cls := findClass_of_methodNamed B.named
  have hlocks := B.notSynchronized
  have hfin : ∀ w ∈ wsX00, w ∈ wsX0_shardOf := fun w h => (List.mem_cons_of_mem _ (List.mem_append_left _ (List.mem_append_right _ h)))
  have hl := lv_entry ([.ref (ad 16), .int r]) (n := 2) (Nat.le_of_ble_eq_true rfl)
  rw [lg_entry_eq]
  generalize (lg_sl ([.ref (ad 16), .int r]) ++ List.replicate (2 - (lg_sl ([.ref (ad 16), .int r])).length) Slot.unset).toArray = ls at hl ⊢
  have hl : lv_has ls 2 [(0, .ref (ad 16)), (1, .int r)] := hl
  refine lv_aload_n hx hb dX0_shardOf_0 rfl (lv_at hl 0 rfl) ?_
  refine lv_iload_n hx hb dX0_shardOf_1 rfl (lv_at hl 1 rfl) ?_
  refine qb_callSv (vx_runV (As := [.int r]) (rest := []) ⟨hx, hb, hml, hown, hts⟩ (c_X0_checkRange l hl0 D cA cZ cL ad f g r) (cwV 1 hts gX0_shardOf_X0_checkRange rfl rfl rfl (by decide +kernel) ⟨Nat.le_of_ble_eq_true rfl, Nat.le_of_ble_eq_true rfl⟩) ⟨qPreT_blind, va_recv hK hP (ci := 0) (q0 := 0) rfl rfl, qPreT_at hP hK hTH rfl⟩ rfl rfl hl.1 rfl (lv_room (Nat.le_of_ble_eq_true rfl)) dX0_shardOf_2 ⟨Nat.le_of_ble_eq_true rfl, Nat.le_of_ble_eq_true rfl⟩) (fun E ce q9 st t H1 hst ht hvm hX hcell hcv hcl => vx_out (fun x h => (hno x h).elim) hlocks hcell hcv hcl (fun t2 h2 hA2 => qX_pass hX hst rfl ht h2 (fun h => h)) (fun q h => nomatch h) (by decide) (by decide)) (fun hz => ?_)
  have h_2 := hz
  refine lv_aload_n hx hb dX0_shardOf_5 rfl (lv_at hl 0 rfl) ?_
  refine va_get (D := D) (ci := 0) (v := .ref (ad 3)) (C := RX0) (T := TX0) (N := 16) hx hb hts hfin hown hK hP 0 rfl rfl 3 (by decide) (hts _ (List.mem_cons_of_mem _ (List.mem_append_left _ (List.mem_append_left _ (List.mem_of_getElem? (i := 0) rfl))))) (fun _ h9 => h9) rfl dX0_shardOf_6 ?_
  refine lv_iload_n hx hb dX0_shardOf_9 rfl (lv_at hl 1 rfl) ?_
  refine va_iald hx hb hK hP 3 0 rfl rfl (x_in8 hI h_2) dX0_shardOf_10 ?_
  refine vx_ret ?_
  refine W.widen (k := 1) (n := 6) (by decide) (by decide) ?_
  exact W.iret (v := g 3 r.toNatClampNeg) hx hb hr (fun t ht hW => ⟨g 3 r.toNatClampNeg, rfl, ⟨h_2, rfl⟩, ht⟩) (fun q h => nomatch h) dX0_shardOf_11
set_option maxHeartbeats 4000000 in
set_option maxRecDepth 100000 in
/-- rows -/
theorem c_X0_rows (l : Launch) (hl0 : l.stackTraces = false) (D : va_G) (cA cZ cL : ClassId) (ad : Nat → Nat) (f : qFs) (g : qGs) (sh : Int32) : vx_Met l yX0_rows wsX0_rows ({ frames := 7, cells := 1, slots := 6, locals := 110 } : Room) (va_Pc [.ref (ad 16), .int sh] (qPreT D (qTy cA cZ cL) (xW cA ad f g))) (vp_Si (fun z => xShard sh ∧ z = nI (cnt (xRowP g sh) 0 100))) (qX (fun E => E = eIO ∧ ¬ xShard sh)) 1 6 (fun _ => False) := by
  refine vx_ofW (cc := cX0_rows) (maxL := 2) (ret := (some .int)) (by decide) rfl ?_
  intro p e s m args below meth c s₁ B hml hno hv
  obtain ⟨rfl, hP, hK, hTH⟩ := hv
  have hx := B.exec
  have hb := B.bytes
  have hr := B.returns
  have hts := atoms_spec (ws := wsX0_rows) B.pre
  have hown : s.vm.findClass RX0 = some m.cls := findClass_of_methodNamed B.named
  have hlocks := B.notSynchronized
  have hfin : ∀ w ∈ wsX00, w ∈ wsX0_rows := fun w h => (List.mem_cons_of_mem _ (List.mem_append_left _ (List.mem_append_right _ h)))
  have hl := lv_entry ([.ref (ad 16), .int sh]) (n := 2) (Nat.le_of_ble_eq_true rfl)
  rw [lg_entry_eq]
  generalize (lg_sl ([.ref (ad 16), .int sh]) ++ List.replicate (2 - (lg_sl ([.ref (ad 16), .int sh])).length) Slot.unset).toArray = ls at hl ⊢
  have hl : lv_has ls 2 [(0, .ref (ad 16)), (1, .int sh)] := hl
  refine lv_iload_n hx hb dX0_rows_0 rfl (lv_at hl 1 rfl) ?_
  refine qb_callSv (vx_runS (As := [.int sh]) (rest := []) ⟨hx, hb, hml, hown, hts⟩ (c_X0_checkShard l hl0 sh) (va_cwS 1 hts gX0_rows_X0_checkShard rfl rfl rfl (by decide +kernel) ⟨Nat.le_of_ble_eq_true rfl, Nat.le_of_ble_eq_true rfl⟩) ⟨qTH_blind, qTH_pc hTH rfl⟩ rfl rfl hl.1 rfl (lv_room (Nat.le_of_ble_eq_true rfl)) dX0_rows_1 ⟨Nat.le_of_ble_eq_true rfl, Nat.le_of_ble_eq_true rfl⟩) (fun E ce q9 st t H1 hst ht hvm hX hcell hcv hcl => vx_out (fun x h => (hno x h).elim) hlocks hcell hcv hcl (fun t2 h2 hA2 => qX_pass hX hst rfl ht h2 (fun h => h)) (fun q h => nomatch h) (by decide) (by decide)) (fun hz => ?_)
  have h_1 := hz
  refine lv_aload_n hx hb dX0_rows_4 rfl (lv_at hl 0 rfl) ?_
  refine lv_iload_n hx hb dX0_rows_5 rfl (lv_at hl 1 rfl) ?_
  refine lv_iconst (v := 0) hx hb dX0_rows_6 (by decide) ?_
  refine lv_bipush (v := 99) hx hb dX0_rows_7 (by decide) ?_
  refine vp_callSi (W.runV (As := [.int sh, .int 0, .int 99]) (rest := []) ⟨hx, hb, hml, hown, hts⟩ (c_X0_countRows l D cA cZ cL ad f g sh 99 0 (by decide)) (cwV 3 hts gX0_rows_X0_countRows rfl rfl rfl (by decide +kernel) ⟨Nat.le_of_ble_eq_true rfl, Nat.le_of_ble_eq_true rfl⟩) ⟨qPre_blind, va_recv hK hP (ci := 0) (q0 := 0) rfl rfl, qPre_at hP hK⟩ rfl rfl hl.1 rfl (lv_room (Nat.le_of_ble_eq_true rfl)) dX0_rows_9 ⟨Nat.le_of_ble_eq_true rfl, Nat.le_of_ble_eq_true rfl⟩) (fun z hz => ?_)
  subst hz
  refine vx_ret ?_
  refine W.widen (k := 1) (n := 6) (by decide) (by decide) ?_
  exact W.iret (v := nI (cnt (xRowP g sh) 0 (hiOf 99))) hx hb hr (fun t ht hW => ⟨nI (cnt (xRowP g sh) 0 (hiOf 99)), rfl, ⟨h_1, (by rw [hi99])⟩, ht⟩) (fun q h => nomatch h) dX0_rows_12
set_option maxHeartbeats 4000000 in
set_option maxRecDepth 100000 in
/-- onRoll -/
theorem c_X0_onRoll (l : Launch) (hl0 : l.stackTraces = false) (D : va_G) (cA cZ cL : ClassId) (ad : Nat → Nat) (f : qFs) (g : qGs) (k : Int32) : vx_Met l yX0_onRoll wsX0_onRoll ({ frames := 7, cells := 1, slots := 6, locals := 110 } : Room) (va_Pc [.ref (ad 16), .int k] (qPreT D (qTy cA cZ cL) (xW cA ad f g))) (vp_Si (fun z => xKey k ∧ z = (if f 7 = 0 then -1 else g 6 k.toNatClampNeg))) (qX (fun E => E = eIO ∧ ¬ xKey k)) 1 6 (fun _ => False) := by
  refine vx_ofW (cc := cX0_onRoll) (maxL := 2) (ret := (some .int)) (by decide) rfl ?_
  intro p e s m args below meth c s₁ B hml hno hv
  obtain ⟨rfl, hP, hK, hTH⟩ := hv
  have hx := B.exec
  have hb := B.bytes
  have hr := B.returns
  have hts := atoms_spec (ws := wsX0_onRoll) B.pre
  have hown : s.vm.findClass RX0 = some m.cls := findClass_of_methodNamed B.named
  have hlocks := B.notSynchronized
  have hfin : ∀ w ∈ wsX00, w ∈ wsX0_onRoll := fun w h => (List.mem_cons_of_mem _ (List.mem_append_left _ (List.mem_append_right _ h)))
  have hl := lv_entry ([.ref (ad 16), .int k]) (n := 2) (Nat.le_of_ble_eq_true rfl)
  rw [lg_entry_eq]
  generalize (lg_sl ([.ref (ad 16), .int k]) ++ List.replicate (2 - (lg_sl ([.ref (ad 16), .int k])).length) Slot.unset).toArray = ls at hl ⊢
  have hl : lv_has ls 2 [(0, .ref (ad 16)), (1, .int k)] := hl
  refine lv_iload_n hx hb dX0_onRoll_0 rfl (lv_at hl 1 rfl) ?_
  refine qb_callSv (vx_runS (As := [.int k]) (rest := []) ⟨hx, hb, hml, hown, hts⟩ (c_X0_checkKey l hl0 k) (va_cwS 1 hts gX0_onRoll_X0_checkKey rfl rfl rfl (by decide +kernel) ⟨Nat.le_of_ble_eq_true rfl, Nat.le_of_ble_eq_true rfl⟩) ⟨qTH_blind, qTH_pc hTH rfl⟩ rfl rfl hl.1 rfl (lv_room (Nat.le_of_ble_eq_true rfl)) dX0_onRoll_1 ⟨Nat.le_of_ble_eq_true rfl, Nat.le_of_ble_eq_true rfl⟩) (fun E ce q9 st t H1 hst ht hvm hX hcell hcv hcl => vx_out (fun x h => (hno x h).elim) hlocks hcell hcv hcl (fun t2 h2 hA2 => qX_pass hX hst rfl ht h2 (fun h => h)) (fun q h => nomatch h) (by decide) (by decide)) (fun hz => ?_)
  have h_1 := hz
  refine lv_aload_n hx hb dX0_onRoll_4 rfl (lv_at hl 0 rfl) ?_
  refine va_get (D := D) (ci := 0) (v := .int (f 7)) (C := RX0) (T := TX0) (N := 16) hx hb hts hfin hown hK hP 0 rfl rfl 7 (by decide) (hts _ (List.mem_cons_of_mem _ (List.mem_append_left _ (List.mem_append_left _ (List.mem_of_getElem? (i := 0) rfl))))) (fun _ h9 => h9) rfl dX0_onRoll_5 ?_
  refine lv_if_eq (tgt := 20) hx hb dX0_onRoll_8 (by decide) (fun c_8 => ?_) (fun c_8 => ?_)
  · skip
    refine lv_iconst (v := (-1)) hx hb dX0_onRoll_20 (by decide) ?_
    refine vx_ret ?_
    refine W.widen (k := 1) (n := 6) (by decide) (by decide) ?_
    exact W.iret (v := (-1)) hx hb hr (fun t ht hW => ⟨(-1), rfl, ⟨h_1, (by rw [if_pos c_8])⟩, ht⟩) (fun q h => nomatch h) dX0_onRoll_21
  · skip
    refine lv_aload_n hx hb dX0_onRoll_11 rfl (lv_at hl 0 rfl) ?_
    refine va_get (D := D) (ci := 0) (v := .ref (ad 6)) (C := RX0) (T := TX0) (N := 16) hx hb hts hfin hown hK hP 0 rfl rfl 6 (by decide) (hts _ (List.mem_cons_of_mem _ (List.mem_append_left _ (List.mem_append_left _ (List.mem_of_getElem? (i := 1) rfl))))) (fun _ h9 => h9) rfl dX0_onRoll_12 ?_
    refine lv_iload_n hx hb dX0_onRoll_15 rfl (lv_at hl 1 rfl) ?_
    refine va_iald hx hb hK hP 5 0 rfl rfl (x_in100 h_1) dX0_onRoll_16 ?_
    refine lv_goto (tgt := 21) hx hb dX0_onRoll_17 (by decide) ?_
    refine vx_ret ?_
    refine W.widen (k := 1) (n := 6) (by decide) (by decide) ?_
    exact W.iret (v := g 6 k.toNatClampNeg) hx hb hr (fun t ht hW => ⟨g 6 k.toNatClampNeg, rfl, ⟨h_1, (by rw [if_neg c_8])⟩, ht⟩) (fun q h => nomatch h) dX0_onRoll_21
set_option maxHeartbeats 4000000 in
set_option maxRecDepth 100000 in
/-- sentTo -/
theorem c_X0_sentTo (l : Launch) (hl0 : l.stackTraces = false) (D : va_G) (cA cZ cL : ClassId) (ad : Nat → Nat) (f : qFs) (g : qGs) (b : Int32) (nR : Nat) (nB : Nat) (hI : xI nR nB f) : vx_Met l yX0_sentTo wsX0_sentTo ({ frames := 7, cells := 1, slots := 6, locals := 111 } : Room) (va_Pc [.ref (ad 16), .int b] (qPreT D (qTy cA cZ cL) (xW cA ad f g))) (vp_Si (fun z => xBallot f b ∧ z = g 11 b.toNatClampNeg)) (qX (fun E => E = eIO ∧ ¬ xBallot f b)) 1 6 (fun _ => False) := by
  refine vx_ofW (cc := cX0_sentTo) (maxL := 2) (ret := (some .int)) (by decide) rfl ?_
  intro p e s m args below meth c s₁ B hml hno hv
  obtain ⟨rfl, hP, hK, hTH⟩ := hv
  have hx := B.exec
  have hb := B.bytes
  have hr := B.returns
  have hts := atoms_spec (ws := wsX0_sentTo) B.pre
  have hown : s.vm.findClass RX0 = some m.cls := findClass_of_methodNamed B.named
  have hlocks := B.notSynchronized
  have hfin : ∀ w ∈ wsX00, w ∈ wsX0_sentTo := fun w h => (List.mem_cons_of_mem _ (List.mem_append_left _ (List.mem_append_right _ h)))
  have hl := lv_entry ([.ref (ad 16), .int b]) (n := 2) (Nat.le_of_ble_eq_true rfl)
  rw [lg_entry_eq]
  generalize (lg_sl ([.ref (ad 16), .int b]) ++ List.replicate (2 - (lg_sl ([.ref (ad 16), .int b])).length) Slot.unset).toArray = ls at hl ⊢
  have hl : lv_has ls 2 [(0, .ref (ad 16)), (1, .int b)] := hl
  refine lv_aload_n hx hb dX0_sentTo_0 rfl (lv_at hl 0 rfl) ?_
  refine lv_iload_n hx hb dX0_sentTo_1 rfl (lv_at hl 1 rfl) ?_
  refine qb_callSv (vx_runV (As := [.int b]) (rest := []) ⟨hx, hb, hml, hown, hts⟩ (c_X0_checkBallot l hl0 D cA cZ cL ad f g b) (cwV 1 hts gX0_sentTo_X0_checkBallot rfl rfl rfl (by decide +kernel) ⟨Nat.le_of_ble_eq_true rfl, Nat.le_of_ble_eq_true rfl⟩) ⟨qPreT_blind, va_recv hK hP (ci := 0) (q0 := 0) rfl rfl, qPreT_at hP hK hTH rfl⟩ rfl rfl hl.1 rfl (lv_room (Nat.le_of_ble_eq_true rfl)) dX0_sentTo_2 ⟨Nat.le_of_ble_eq_true rfl, Nat.le_of_ble_eq_true rfl⟩) (fun E ce q9 st t H1 hst ht hvm hX hcell hcv hcl => vx_out (fun x h => (hno x h).elim) hlocks hcell hcv hcl (fun t2 h2 hA2 => qX_pass hX hst rfl ht h2 (fun h => h)) (fun q h => nomatch h) (by decide) (by decide)) (fun hz => ?_)
  have h_2 := hz
  refine lv_aload_n hx hb dX0_sentTo_5 rfl (lv_at hl 0 rfl) ?_
  refine va_get (D := D) (ci := 0) (v := .ref (ad 11)) (C := RX0) (T := TX0) (N := 16) hx hb hts hfin hown hK hP 0 rfl rfl 11 (by decide) (hts _ (List.mem_cons_of_mem _ (List.mem_append_left _ (List.mem_append_left _ (List.mem_of_getElem? (i := 0) rfl))))) (fun _ h9 => h9) rfl dX0_sentTo_6 ?_
  refine lv_iload_n hx hb dX0_sentTo_9 rfl (lv_at hl 1 rfl) ?_
  refine va_iald hx hb hK hP 8 0 rfl rfl (x_in60 hI h_2) dX0_sentTo_10 ?_
  refine vx_ret ?_
  refine W.widen (k := 1) (n := 6) (by decide) (by decide) ?_
  exact W.iret (v := g 11 b.toNatClampNeg) hx hb hr (fun t ht hW => ⟨g 11 b.toNatClampNeg, rfl, ⟨h_2, rfl⟩, ht⟩) (fun q h => nomatch h) dX0_sentTo_11
set_option maxHeartbeats 4000000 in
set_option maxRecDepth 100000 in
/-- stateOf -/
theorem c_X0_stateOf (l : Launch) (hl0 : l.stackTraces = false) (D : va_G) (cA cZ cL : ClassId) (ad : Nat → Nat) (f : qFs) (g : qGs) (b : Int32) (nR : Nat) (nB : Nat) (hI : xI nR nB f) : vx_Met l yX0_stateOf wsX0_stateOf ({ frames := 7, cells := 1, slots := 6, locals := 111 } : Room) (va_Pc [.ref (ad 16), .int b] (qPreT D (qTy cA cZ cL) (xW cA ad f g))) (vp_Si (fun z => xBallot f b ∧ z = g 13 b.toNatClampNeg)) (qX (fun E => E = eIO ∧ ¬ xBallot f b)) 1 6 (fun _ => False) := by
  refine vx_ofW (cc := cX0_stateOf) (maxL := 2) (ret := (some .int)) (by decide) rfl ?_
  intro p e s m args below meth c s₁ B hml hno hv
  obtain ⟨rfl, hP, hK, hTH⟩ := hv
  have hx := B.exec
  have hb := B.bytes
  have hr := B.returns
  have hts := atoms_spec (ws := wsX0_stateOf) B.pre
  have hown : s.vm.findClass RX0 = some m.cls := findClass_of_methodNamed B.named
  have hlocks := B.notSynchronized
  have hfin : ∀ w ∈ wsX00, w ∈ wsX0_stateOf := fun w h => (List.mem_cons_of_mem _ (List.mem_append_left _ (List.mem_append_right _ h)))
  have hl := lv_entry ([.ref (ad 16), .int b]) (n := 2) (Nat.le_of_ble_eq_true rfl)
  rw [lg_entry_eq]
  generalize (lg_sl ([.ref (ad 16), .int b]) ++ List.replicate (2 - (lg_sl ([.ref (ad 16), .int b])).length) Slot.unset).toArray = ls at hl ⊢
  have hl : lv_has ls 2 [(0, .ref (ad 16)), (1, .int b)] := hl
  refine lv_aload_n hx hb dX0_stateOf_0 rfl (lv_at hl 0 rfl) ?_
  refine lv_iload_n hx hb dX0_stateOf_1 rfl (lv_at hl 1 rfl) ?_
  refine qb_callSv (vx_runV (As := [.int b]) (rest := []) ⟨hx, hb, hml, hown, hts⟩ (c_X0_checkBallot l hl0 D cA cZ cL ad f g b) (cwV 1 hts gX0_stateOf_X0_checkBallot rfl rfl rfl (by decide +kernel) ⟨Nat.le_of_ble_eq_true rfl, Nat.le_of_ble_eq_true rfl⟩) ⟨qPreT_blind, va_recv hK hP (ci := 0) (q0 := 0) rfl rfl, qPreT_at hP hK hTH rfl⟩ rfl rfl hl.1 rfl (lv_room (Nat.le_of_ble_eq_true rfl)) dX0_stateOf_2 ⟨Nat.le_of_ble_eq_true rfl, Nat.le_of_ble_eq_true rfl⟩) (fun E ce q9 st t H1 hst ht hvm hX hcell hcv hcl => vx_out (fun x h => (hno x h).elim) hlocks hcell hcv hcl (fun t2 h2 hA2 => qX_pass hX hst rfl ht h2 (fun h => h)) (fun q h => nomatch h) (by decide) (by decide)) (fun hz => ?_)
  have h_2 := hz
  refine lv_aload_n hx hb dX0_stateOf_5 rfl (lv_at hl 0 rfl) ?_
  refine va_get (D := D) (ci := 0) (v := .ref (ad 13)) (C := RX0) (T := TX0) (N := 16) hx hb hts hfin hown hK hP 0 rfl rfl 13 (by decide) (hts _ (List.mem_cons_of_mem _ (List.mem_append_left _ (List.mem_append_left _ (List.mem_of_getElem? (i := 0) rfl))))) (fun _ h9 => h9) rfl dX0_stateOf_6 ?_
  refine lv_iload_n hx hb dX0_stateOf_9 rfl (lv_at hl 1 rfl) ?_
  refine va_iald hx hb hK hP 10 0 rfl rfl (x_in60 hI h_2) dX0_stateOf_10 ?_
  refine vx_ret ?_
  refine W.widen (k := 1) (n := 6) (by decide) (by decide) ?_
  exact W.iret (v := g 13 b.toNatClampNeg) hx hb hr (fun t ht hW => ⟨g 13 b.toNatClampNeg, rfl, ⟨h_2, rfl⟩, ht⟩) (fun q h => nomatch h) dX0_stateOf_11
set_option maxHeartbeats 4000000 in
set_option maxRecDepth 100000 in
/-- inDistrict -/
theorem c_X0_inDistrict (l : Launch) (hl0 : l.stackTraces = false) (D : va_G) (cA cZ cL : ClassId) (ad : Nat → Nat) (f : qFs) (g : qGs) (d : Int32) (nR : Nat) (nB : Nat) (hI : xI nR nB f) : vx_Met l yX0_inDistrict wsX0_inDistrict ({ frames := 7, cells := 1, slots := 6, locals := 110 } : Room) (va_Pc [.ref (ad 16), .int d] (qPreT D (qTy cA cZ cL) (xW cA ad f g))) (vp_Si (fun z => xShard d ∧ z = nI (cnt (fun j => decide (xDist (xRead nR f g (nI j)) = d)) 0 100))) (qX (fun E => E = eIO ∧ ¬ xShard d)) 1 6 (fun _ => False) := by
  refine vx_ofW (cc := cX0_inDistrict) (maxL := 4) (ret := (some .int)) (by decide) rfl ?_
  intro p e s m args below meth c s₁ B hml hno hv
  obtain ⟨rfl, hP, hK, hTH⟩ := hv
  have hx := B.exec
  have hb := B.bytes
  have hr := B.returns
  have hts := atoms_spec (ws := wsX0_inDistrict) B.pre
  have hown : s.vm.findClass RX0 = some m.cls := findClass_of_methodNamed B.named
  have hlocks := B.notSynchronized
  have hfin : ∀ w ∈ wsX00, w ∈ wsX0_inDistrict := fun w h => (List.mem_cons_of_mem _ (List.mem_append_left _ (List.mem_append_right _ h)))
  have hl := lv_entry ([.ref (ad 16), .int d]) (n := 4) (Nat.le_of_ble_eq_true rfl)
  rw [lg_entry_eq]
  generalize (lg_sl ([.ref (ad 16), .int d]) ++ List.replicate (4 - (lg_sl ([.ref (ad 16), .int d])).length) Slot.unset).toArray = ls at hl ⊢
  have hl : lv_has ls 4 [(0, .ref (ad 16)), (1, .int d)] := hl
  refine lv_iload_n hx hb dX0_inDistrict_0 rfl (lv_at hl 1 rfl) ?_
  refine qb_callSv (vx_runS (As := [.int d]) (rest := []) ⟨hx, hb, hml, hown, hts⟩ (c_X0_checkDistrict l hl0 d) (va_cwS 1 hts gX0_inDistrict_X0_checkDistrict rfl rfl rfl (by decide +kernel) ⟨Nat.le_of_ble_eq_true rfl, Nat.le_of_ble_eq_true rfl⟩) ⟨qTH_blind, qTH_pc hTH rfl⟩ rfl rfl hl.1 rfl (lv_room (Nat.le_of_ble_eq_true rfl)) dX0_inDistrict_1 ⟨Nat.le_of_ble_eq_true rfl, Nat.le_of_ble_eq_true rfl⟩) (fun E ce q9 st t H1 hst ht hvm hX hcell hcv hcl => vx_out (fun x h => (hno x h).elim) hlocks hcell hcv hcl (fun t2 h2 hA2 => qX_pass hX hst rfl ht h2 (fun h => h)) (fun q h => nomatch h) (by decide) (by decide)) (fun hz => ?_)
  have h_1 := hz
  refine lv_iconst (v := 0) hx hb dX0_inDistrict_4 (by decide) ?_
  refine lv_istore_n (lv' := [(2, .int 0), (0, .ref (ad 16)), (1, .int d)]) hx hb dX0_inDistrict_5 rfl hl (by decide) rfl (fun ls hl => ?_)
  refine lv_iconst (v := 0) hx hb dX0_inDistrict_6 (by decide) ?_
  refine lv_istore_n (lv' := [(3, .int 0), (2, .int 0), (0, .ref (ad 16)), (1, .int d)]) hx hb dX0_inDistrict_7 rfl hl (by decide) rfl (fun ls hl => ?_)
  have hloop_8 : ∀ (nme : Nat) (k : Nat) (acc : Nat), 100 - k = nme → (k ≤ 100) → (acc + cnt (fun j => decide (xDist (xRead nR f g (nI j)) = d)) k 100 = cnt (fun j => decide (xDist (xRead nR f g (nI j)) = d)) 0 100) → ∀ ls : Array Slot, lv_has ls 4 [(0, .ref (ad 16)), (1, .int d), (2, .int (nI acc)), (3, .int (nI k))] → W p l e (headSpec wsX0_inDistrict ({ frames := 7, cells := 1, slots := 6, locals := 110 } : Room)).room s m ([.ref (ad 16), .int d] : List Value).toArray below meth c s.heap [] 0 0 (vx_MQ below (vp_Si (fun z => xShard d ∧ z = nI (cnt (fun j => decide (xDist (xRead nR f g (nI j)) = d)) 0 100))) (qX (fun E => E = eIO ∧ ¬ xShard d)) ([.ref (ad 16), .int d] : List Value).toArray s 1 6 (fun _ => False)) (F0 m 8 ls []) := by
    intro nme
    induction nme using Nat.strongRecOn with
    | ind nme ih =>
      intro k acc hnme hk hc ls hl
      refine lv_iload_n hx hb dX0_inDistrict_8 rfl (lv_at hl 3 rfl) ?_
      refine lv_bipush (v := 100) hx hb dX0_inDistrict_9 (by decide) ?_
      refine lv_icmp_ge (tgt := 35) hx hb dX0_inDistrict_11 (by decide) (fun c_11 => ?_) (fun c_11 => ?_)
      · skip
        have hge : 100 ≤ k := n_ge (b := 100) c_11 (by omega) (by decide)
        refine lv_iload_n hx hb dX0_inDistrict_35 rfl (lv_at hl 2 rfl) ?_
        refine vx_ret ?_
        refine W.widen (k := 1) (n := 6) (by decide) (by decide) ?_
        exact W.iret (v := nI acc) hx hb hr (fun t ht hW => ⟨nI acc, rfl, ⟨h_1, (by rw [← hc, cnt_end hge]; rfl)⟩, ht⟩) (fun q h => nomatch h) dX0_inDistrict_36
      · skip
        have hlt : k < 100 := n_lt (b := 100) c_11 (by omega)
        refine lv_aload_n hx hb dX0_inDistrict_14 rfl (lv_at hl 0 rfl) ?_
        refine lv_iload_n hx hb dX0_inDistrict_15 rfl (lv_at hl 3 rfl) ?_
        refine vp_callSi (W.runV (As := [.int (nI k)]) (rest := []) ⟨hx, hb, hml, hown, hts⟩ (c_X0_read l D cA cZ cL ad f g (nI k) nR nB hI) (cwV 1 hts gX0_inDistrict_X0_read rfl rfl rfl (by decide +kernel) ⟨Nat.le_of_ble_eq_true rfl, Nat.le_of_ble_eq_true rfl⟩) ⟨qPre_blind, va_recv hK hP (ci := 0) (q0 := 0) rfl rfl, qPre_at hP hK⟩ rfl rfl hl.1 rfl (lv_room (Nat.le_of_ble_eq_true rfl)) dX0_inDistrict_16 ⟨Nat.le_of_ble_eq_true rfl, Nat.le_of_ble_eq_true rfl⟩) (fun z hz => ?_)
        subst hz
        refine vp_callSi (W.runS (As := [.int (xRead nR f g (nI k))]) (rest := []) ⟨hx, hb, hml, hown, hts⟩ (c_X0_districtOf l (xRead nR f g (nI k))) (va_cwS 1 hts gX0_inDistrict_X0_districtOf rfl rfl rfl (by decide +kernel) ⟨Nat.le_of_ble_eq_true rfl, Nat.le_of_ble_eq_true rfl⟩) ⟨qN_blind, qN_at⟩ rfl rfl hl.1 rfl (lv_room (Nat.le_of_ble_eq_true rfl)) dX0_inDistrict_19 ⟨Nat.le_of_ble_eq_true rfl, Nat.le_of_ble_eq_true rfl⟩) (fun z hz => ?_)
        subst hz
        refine lv_iload_n hx hb dX0_inDistrict_22 rfl (lv_at hl 1 rfl) ?_
        refine lv_icmp_ne (tgt := 29) hx hb dX0_inDistrict_23 (by decide) (fun c_23 => ?_) (fun c_23 => ?_)
        · skip
          refine lv_iinc (v := nI (k + 1)) (lv' := [(3, .int (nI (k + 1))), (0, .ref (ad 16)), (1, .int d), (2, .int (nI acc))]) hx hb dX0_inDistrict_29 hl (k := 3) rfl (nI_1 k) (by decide) rfl (fun ls hl => ?_)
          refine lv_goto (tgt := 8) hx hb dX0_inDistrict_32 (by decide) ?_
          exact ih _ (by omega) (k + 1) acc rfl (by omega) (by rw [← hc, cnt_n hlt (df c_23)]) _ (lv_sub hl [1, 2, 3, 0] rfl)
        · skip
          refine lv_iinc (v := nI (acc + 1)) (lv' := [(2, .int (nI (acc + 1))), (0, .ref (ad 16)), (1, .int d), (3, .int (nI k))]) hx hb dX0_inDistrict_26 hl (k := 2) rfl (nI_1 acc) (by decide) rfl (fun ls hl => ?_)
          refine lv_iinc (v := nI (k + 1)) (lv' := [(3, .int (nI (k + 1))), (2, .int (nI (acc + 1))), (0, .ref (ad 16)), (1, .int d)]) hx hb dX0_inDistrict_29 hl (k := 3) rfl (nI_1 k) (by decide) rfl (fun ls hl => ?_)
          refine lv_goto (tgt := 8) hx hb dX0_inDistrict_32 (by decide) ?_
          exact ih _ (by omega) (k + 1) (acc + 1) rfl (by omega) (by rw [← hc, cnt_y hlt (dt c_23)]; omega) _ (lv_sub hl [2, 3, 1, 0] rfl)
  exact hloop_8 _ 0 0 rfl (by omega) (Nat.zero_add _) _ (lv_sub hl [2, 3, 1, 0] rfl)
set_option maxHeartbeats 4000000 in
set_option maxRecDepth 100000 in
/-- counted -/
theorem c_X0_counted (l : Launch) (hl0 : l.stackTraces = false) (D : va_G) (cA cZ cL : ClassId) (ad : Nat → Nat) (f : qFs) (g : qGs) (d : Int32) (ch : Int32) (nR : Nat) (nB : Nat) (hI : xI nR nB f) : vx_Met l yX0_counted wsX0_counted ({ frames := 7, cells := 1, slots := 6, locals := 110 } : Room) (va_Pc [.ref (ad 16), .int d, .int ch] (qPreT D (qTy cA cZ cL) (xW cA ad f g))) (vp_Si (fun z => (xShard d ∧ xCho ch) ∧ z = nI (cnt (fun j => decide (g 13 j = 2 ∧ g 12 j = d ∧ g 14 j = ch)) 0 nB))) (qX (fun E => (E = eIO ∧ ¬ xShard d) ∨ (E = eIA ∧ xShard d ∧ ¬ xCho ch))) 1 6 (fun _ => False) := by
  refine vx_ofW (cc := cX0_counted) (maxL := 5) (ret := (some .int)) (by decide) rfl ?_
  intro p e s m args below meth c s₁ B hml hno hv
  obtain ⟨rfl, hP, hK, hTH⟩ := hv
  have hx := B.exec
  have hb := B.bytes
  have hr := B.returns
  have hts := atoms_spec (ws := wsX0_counted) B.pre
  have hown : s.vm.findClass RX0 = some m.cls := findClass_of_methodNamed B.named
  have hlocks := B.notSynchronized
  have hfin : ∀ w ∈ wsX00, w ∈ wsX0_counted := fun w h => (List.mem_cons_of_mem _ (List.mem_append_left _ (List.mem_append_left _ (List.mem_append_right _ h))))
  have hl := lv_entry ([.ref (ad 16), .int d, .int ch]) (n := 5) (Nat.le_of_ble_eq_true rfl)
  rw [lg_entry_eq]
  generalize (lg_sl ([.ref (ad 16), .int d, .int ch]) ++ List.replicate (5 - (lg_sl ([.ref (ad 16), .int d, .int ch])).length) Slot.unset).toArray = ls at hl ⊢
  have hl : lv_has ls 5 [(0, .ref (ad 16)), (1, .int d), (2, .int ch)] := hl
  have hB6 := hI.2.2.2.2
  refine lv_iload_n hx hb dX0_counted_0 rfl (lv_at hl 1 rfl) ?_
  refine qb_callSv (vx_runS (As := [.int d]) (rest := []) ⟨hx, hb, hml, hown, hts⟩ (c_X0_checkDistrict l hl0 d) (va_cwS 1 hts gX0_counted_X0_checkDistrict rfl rfl rfl (by decide +kernel) ⟨Nat.le_of_ble_eq_true rfl, Nat.le_of_ble_eq_true rfl⟩) ⟨qTH_blind, qTH_pc hTH rfl⟩ rfl rfl hl.1 rfl (lv_room (Nat.le_of_ble_eq_true rfl)) dX0_counted_1 ⟨Nat.le_of_ble_eq_true rfl, Nat.le_of_ble_eq_true rfl⟩) (fun E ce q9 st t H1 hst ht hvm hX hcell hcv hcl => vx_out (fun x h => (hno x h).elim) hlocks hcell hcv hcl (fun t2 h2 hA2 => qX_pass hX hst rfl ht h2 (Or.inl)) (fun q h => nomatch h) (by decide) (by decide)) (fun hz => ?_)
  have h_1 := hz
  refine lv_iload_n hx hb dX0_counted_4 rfl (lv_at hl 2 rfl) ?_
  refine qb_callSv (vx_runS (As := [.int ch]) (rest := []) ⟨hx, hb, hml, hown, hts⟩ (c_X0_checkChoice l hl0 ch) (va_cwS 1 hts gX0_counted_X0_checkChoice rfl rfl rfl (by decide +kernel) ⟨Nat.le_of_ble_eq_true rfl, Nat.le_of_ble_eq_true rfl⟩) ⟨qTH_blind, qTH_pc hTH rfl⟩ rfl rfl hl.1 rfl (lv_room (Nat.le_of_ble_eq_true rfl)) dX0_counted_5 ⟨Nat.le_of_ble_eq_true rfl, Nat.le_of_ble_eq_true rfl⟩) (fun E ce q9 st t H1 hst ht hvm hX hcell hcv hcl => vx_out (fun x h => (hno x h).elim) hlocks hcell hcv hcl (fun t2 h2 hA2 => qX_pass hX hst rfl ht h2 (fun h => Or.inr ⟨h.1, h_1, h.2⟩)) (fun q h => nomatch h) (by decide) (by decide)) (fun hz => ?_)
  have h_5 := hz
  refine lv_iconst (v := 0) hx hb dX0_counted_8 (by decide) ?_
  refine lv_istore_n (lv' := [(3, .int 0), (0, .ref (ad 16)), (1, .int d), (2, .int ch)]) hx hb dX0_counted_9 rfl hl (by decide) rfl (fun ls hl => ?_)
  refine lv_iconst (v := 0) hx hb dX0_counted_10 (by decide) ?_
  refine lv_istore (lv' := [(4, .int 0), (3, .int 0), (0, .ref (ad 16)), (1, .int d), (2, .int ch)]) hx hb dX0_counted_11 hl (by decide) rfl (fun ls hl => ?_)
  have hloop_13 : ∀ (nme : Nat) (k : Nat) (acc : Nat), nB - k = nme → (k ≤ nB) → (acc + cnt (fun j => decide (g 13 j = 2 ∧ g 12 j = d ∧ g 14 j = ch)) k nB = cnt (fun j => decide (g 13 j = 2 ∧ g 12 j = d ∧ g 14 j = ch)) 0 nB) → ∀ ls : Array Slot, lv_has ls 5 [(0, .ref (ad 16)), (1, .int d), (2, .int ch), (3, .int (nI acc)), (4, .int (nI k))] → W p l e (headSpec wsX0_counted ({ frames := 7, cells := 1, slots := 6, locals := 110 } : Room)).room s m ([.ref (ad 16), .int d, .int ch] : List Value).toArray below meth c s.heap [] 0 0 (vx_MQ below (vp_Si (fun z => (xShard d ∧ xCho ch) ∧ z = nI (cnt (fun j => decide (g 13 j = 2 ∧ g 12 j = d ∧ g 14 j = ch)) 0 nB))) (qX (fun E => (E = eIO ∧ ¬ xShard d) ∨ (E = eIA ∧ xShard d ∧ ¬ xCho ch))) ([.ref (ad 16), .int d, .int ch] : List Value).toArray s 1 6 (fun _ => False)) (F0 m 13 ls []) := by
    intro nme
    induction nme using Nat.strongRecOn with
    | ind nme ih =>
      intro k acc hnme hk hc ls hl
      refine lv_iload hx hb dX0_counted_13 (lv_at hl 4 rfl) ?_
      refine lv_aload_n hx hb dX0_counted_15 rfl (lv_at hl 0 rfl) ?_
      refine va_get (D := D) (ci := 0) (v := .int (f 15)) (C := RX0) (T := TX0) (N := 16) hx hb hts hfin hown hK hP 0 rfl rfl 15 (by decide) (hts _ (List.mem_cons_of_mem _ (List.mem_append_left _ (List.mem_append_left _ (List.mem_append_left _ (List.mem_of_getElem? (i := 0) rfl)))))) (fun _ h9 => h9) rfl dX0_counted_16 ?_
      refine lv_topi (fun v_16 hv_16 => ?_)
      have hv_16 : v_16 = nI nB := hv_16.trans (hI.2.2.2.1)
      subst hv_16
      refine lv_icmp_ge (tgt := 64) hx hb dX0_counted_19 (by decide) (fun c_19 => ?_) (fun c_19 => ?_)
      · skip
        have hge : nB ≤ k := n_ge c_19 (by omega) (by omega)
        refine lv_iload_n hx hb dX0_counted_64 rfl (lv_at hl 3 rfl) ?_
        refine vx_ret ?_
        refine W.widen (k := 1) (n := 6) (by decide) (by decide) ?_
        exact W.iret (v := nI acc) hx hb hr (fun t ht hW => ⟨nI acc, rfl, ⟨⟨h_1, h_5⟩, (by rw [← hc, cnt_end hge]; rfl)⟩, ht⟩) (fun q h => nomatch h) dX0_counted_65
      · skip
        have hlt : k < nB := n_lt c_19 (by omega)
        refine lv_aload_n hx hb dX0_counted_22 rfl (lv_at hl 0 rfl) ?_
        refine va_get (D := D) (ci := 0) (v := .ref (ad 13)) (C := RX0) (T := TX0) (N := 16) hx hb hts hfin hown hK hP 0 rfl rfl 13 (by decide) (hts _ (List.mem_cons_of_mem _ (List.mem_append_left _ (List.mem_append_left _ (List.mem_append_left _ (List.mem_of_getElem? (i := 1) rfl)))))) (fun _ h9 => h9) rfl dX0_counted_23 ?_
        refine lv_iload hx hb dX0_counted_26 (lv_at hl 4 rfl) ?_
        refine va_iald hx hb hK hP 10 0 rfl rfl (vp_in_nI (by omega) (by decide)) dX0_counted_28 ?_
        refine lv_topi (fun v_28 hv_28 => ?_)
        have hv_28 : v_28 = g 13 k := hv_28.trans (by rw [nI_clamp (by omega)])
        subst hv_28
        refine lv_iconst (v := 2) hx hb dX0_counted_29 (by decide) ?_
        refine lv_icmp_ne (tgt := 58) hx hb dX0_counted_30 (by decide) (fun c_30 => ?_) (fun c_30 => ?_)
        · skip
          refine lv_iinc (v := nI (k + 1)) (lv' := [(4, .int (nI (k + 1))), (0, .ref (ad 16)), (1, .int d), (2, .int ch), (3, .int (nI acc))]) hx hb dX0_counted_58 hl (k := 4) rfl (nI_1 k) (by decide) rfl (fun ls hl => ?_)
          refine lv_goto (tgt := 13) hx hb dX0_counted_61 (by decide) ?_
          exact ih _ (by omega) (k + 1) acc rfl (by omega) (by rw [← hc, cnt_n hlt (df (fun q => c_30 q.1))]) _ (lv_sub hl [1, 2, 3, 4, 0] rfl)
        · skip
          refine lv_aload_n hx hb dX0_counted_33 rfl (lv_at hl 0 rfl) ?_
          refine va_get (D := D) (ci := 0) (v := .ref (ad 12)) (C := RX0) (T := TX0) (N := 16) hx hb hts hfin hown hK hP 0 rfl rfl 12 (by decide) (hts _ (List.mem_cons_of_mem _ (List.mem_append_left _ (List.mem_append_left _ (List.mem_append_left _ (List.mem_of_getElem? (i := 2) rfl)))))) (fun _ h9 => h9) rfl dX0_counted_34 ?_
          refine lv_iload hx hb dX0_counted_37 (lv_at hl 4 rfl) ?_
          refine va_iald hx hb hK hP 9 0 rfl rfl (vp_in_nI (by omega) (by decide)) dX0_counted_39 ?_
          refine lv_topi (fun v_39 hv_39 => ?_)
          have hv_39 : v_39 = g 12 k := hv_39.trans (by rw [nI_clamp (by omega)])
          subst hv_39
          refine lv_iload_n hx hb dX0_counted_40 rfl (lv_at hl 1 rfl) ?_
          refine lv_icmp_ne (tgt := 58) hx hb dX0_counted_41 (by decide) (fun c_41 => ?_) (fun c_41 => ?_)
          · skip
            refine lv_iinc (v := nI (k + 1)) (lv' := [(4, .int (nI (k + 1))), (0, .ref (ad 16)), (1, .int d), (2, .int ch), (3, .int (nI acc))]) hx hb dX0_counted_58 hl (k := 4) rfl (nI_1 k) (by decide) rfl (fun ls hl => ?_)
            refine lv_goto (tgt := 13) hx hb dX0_counted_61 (by decide) ?_
            exact ih _ (by omega) (k + 1) acc rfl (by omega) (by rw [← hc, cnt_n hlt (df (fun q => c_41 q.2.1))]) _ (lv_sub hl [1, 2, 3, 4, 0] rfl)
          · skip
            refine lv_aload_n hx hb dX0_counted_44 rfl (lv_at hl 0 rfl) ?_
            refine va_get (D := D) (ci := 0) (v := .ref (ad 14)) (C := RX0) (T := TX0) (N := 16) hx hb hts hfin hown hK hP 0 rfl rfl 14 (by decide) (hts _ (List.mem_cons_of_mem _ (List.mem_append_left _ (List.mem_append_left _ (List.mem_append_left _ (List.mem_of_getElem? (i := 3) rfl)))))) (fun _ h9 => h9) rfl dX0_counted_45 ?_
            refine lv_iload hx hb dX0_counted_48 (lv_at hl 4 rfl) ?_
            refine va_iald hx hb hK hP 11 0 rfl rfl (vp_in_nI (by omega) (by decide)) dX0_counted_50 ?_
            refine lv_topi (fun v_50 hv_50 => ?_)
            have hv_50 : v_50 = g 14 k := hv_50.trans (by rw [nI_clamp (by omega)])
            subst hv_50
            refine lv_iload_n hx hb dX0_counted_51 rfl (lv_at hl 2 rfl) ?_
            refine lv_icmp_ne (tgt := 58) hx hb dX0_counted_52 (by decide) (fun c_52 => ?_) (fun c_52 => ?_)
            · skip
              refine lv_iinc (v := nI (k + 1)) (lv' := [(4, .int (nI (k + 1))), (0, .ref (ad 16)), (1, .int d), (2, .int ch), (3, .int (nI acc))]) hx hb dX0_counted_58 hl (k := 4) rfl (nI_1 k) (by decide) rfl (fun ls hl => ?_)
              refine lv_goto (tgt := 13) hx hb dX0_counted_61 (by decide) ?_
              exact ih _ (by omega) (k + 1) acc rfl (by omega) (by rw [← hc, cnt_n hlt (df (fun q => c_52 q.2.2))]) _ (lv_sub hl [1, 2, 3, 4, 0] rfl)
            · skip
              refine lv_iinc (v := nI (acc + 1)) (lv' := [(3, .int (nI (acc + 1))), (0, .ref (ad 16)), (1, .int d), (2, .int ch), (4, .int (nI k))]) hx hb dX0_counted_55 hl (k := 3) rfl (nI_1 acc) (by decide) rfl (fun ls hl => ?_)
              refine lv_iinc (v := nI (k + 1)) (lv' := [(4, .int (nI (k + 1))), (3, .int (nI (acc + 1))), (0, .ref (ad 16)), (1, .int d), (2, .int ch)]) hx hb dX0_counted_58 hl (k := 4) rfl (nI_1 k) (by decide) rfl (fun ls hl => ?_)
              refine lv_goto (tgt := 13) hx hb dX0_counted_61 (by decide) ?_
              exact ih _ (by omega) (k + 1) (acc + 1) rfl (by omega) (by rw [← hc, cnt_y hlt (dt ⟨c_30, c_41, c_52⟩)]; omega) _ (lv_sub hl [2, 3, 4, 1, 0] rfl)
  exact hloop_13 _ 0 0 rfl (by omega) (Nat.zero_add _) _ (lv_sub hl [2, 3, 4, 1, 0] rfl)
set_option maxHeartbeats 4000000 in
set_option maxRecDepth 100000 in
/-- join -/
theorem c_X0_join (l : Launch) (hl0 : l.stackTraces = false) (D : va_G) (cA cZ cL : ClassId) (ad : Nat → Nat) (f : qFs) (g : qGs) (sz : Nat) (k : Int32) (a : Int32) (nR : Nat) (nB : Nat) (hI : xI nR nB f) : vx_Met l yX0_join wsX0_join ({ frames := 7, cells := 1, slots := 6, locals := 110 } : Room) (va_Pc [.ref (ad 16), .int k, .int a] (qPreX D (qTy cA cZ cL) (xW cA ad f g) sz)) (va_Qi (fun (z : Int32) (u : qFs × qGs) => (xKey k ∧ xAdr a ∧ xRead nR f g k = -1 ∧ f 1 < 40) ∧ z = f 1 + 1 ∧ u.1 = va_up f 1 (f 1 + 1) ∧ u.2 = xWriteG nR f g k a) (qAt D (va_A (xW cA ad f g) sz) (fun u : qFs × qGs => xW cA ad u.1 u.2)) (va_A (xW cA ad f g) sz)) (qX (fun E => (E = eIO ∧ ¬ xKey k) ∨ (E = eIA ∧ xKey k ∧ ¬ xAdr a) ∨ (E = eIS ∧ xKey k ∧ xAdr a ∧ (¬ xRead nR f g k = -1 ∨ ¬ f 1 < 40)))) 1 6 (va_A (xW cA ad f g) sz) := by
  refine vx_ofW (cc := cX0_join) (maxL := 3) (ret := (some .int)) (by decide) rfl ?_
  intro p e s m args below meth c s₁ B hml hno hv
  obtain ⟨rfl, hsz, hP, hK, hD0, hTH⟩ := hv
  have hx := B.exec
  have hb := B.bytes
  have hr := B.returns
  have hts := atoms_spec (ws := wsX0_join) B.pre
  have hown : s.vm.findClass RX0 = some m.cls := findClass_of_methodNamed B.named
  have hlocks := B.notSynchronized
  subst hsz
  have hD := hD0.self (sz := s.heap.size)
  generalize hAe : va_A (xW cA ad f g) s.heap.size = A at hD ⊢
  have hA : ∀ q : Nat, s.heap.size ≤ q → A q := fun q h => by rw [← hAe]; exact Or.inr h
  have hS : va_S A s.heap s.heap [] := va_S.rf
  have hfin : ∀ w ∈ wsX00, w ∈ wsX0_join := fun w h => (List.mem_cons_of_mem _ (List.mem_append_left _ (List.mem_append_left _ (List.mem_append_left _ (List.mem_append_right _ h)))))
  have hl := lv_entry ([.ref (ad 16), .int k, .int a]) (n := 3) (Nat.le_of_ble_eq_true rfl)
  rw [lg_entry_eq]
  generalize (lg_sl ([.ref (ad 16), .int k, .int a]) ++ List.replicate (3 - (lg_sl ([.ref (ad 16), .int k, .int a])).length) Slot.unset).toArray = ls at hl ⊢
  have hl : lv_has ls 3 [(0, .ref (ad 16)), (1, .int k), (2, .int a)] := hl
  refine lv_iload_n hx hb dX0_join_0 rfl (lv_at hl 1 rfl) ?_
  refine qb_callSv (vx_runS (As := [.int k]) (rest := []) ⟨hx, hb, hml, hown, hts⟩ (c_X0_checkKey l hl0 k) (va_cwS 1 hts gX0_join_X0_checkKey rfl rfl rfl (by decide +kernel) ⟨Nat.le_of_ble_eq_true rfl, Nat.le_of_ble_eq_true rfl⟩) ⟨qTH_blind, qTH_pc hTH rfl⟩ rfl rfl hl.1 rfl (lv_room (Nat.le_of_ble_eq_true rfl)) dX0_join_1 ⟨Nat.le_of_ble_eq_true rfl, Nat.le_of_ble_eq_true rfl⟩) (fun E ce q9 st t H1 hst ht hvm hX hcell hcv hcl => vx_out (fun x h => (hno x h).elim) hlocks hcell hcv hcl (fun t2 h2 hA2 => qX_pass hX hst rfl ht h2 (Or.inl)) (fun q h => nomatch h) (by decide) (by decide)) (fun hz => ?_)
  have h_1 := hz
  refine lv_iload_n hx hb dX0_join_4 rfl (lv_at hl 2 rfl) ?_
  refine qb_callSv (vx_runS (As := [.int a]) (rest := []) ⟨hx, hb, hml, hown, hts⟩ (c_X0_checkAddress l hl0 a) (va_cwS 1 hts gX0_join_X0_checkAddress rfl rfl rfl (by decide +kernel) ⟨Nat.le_of_ble_eq_true rfl, Nat.le_of_ble_eq_true rfl⟩) ⟨qTH_blind, qTH_pc hTH rfl⟩ rfl rfl hl.1 rfl (lv_room (Nat.le_of_ble_eq_true rfl)) dX0_join_5 ⟨Nat.le_of_ble_eq_true rfl, Nat.le_of_ble_eq_true rfl⟩) (fun E ce q9 st t H1 hst ht hvm hX hcell hcv hcl => vx_out (fun x h => (hno x h).elim) hlocks hcell hcv hcl (fun t2 h2 hA2 => qX_pass hX hst rfl ht h2 (fun h => Or.inr (Or.inl ⟨h.1, h_1, h.2⟩))) (fun q h => nomatch h) (by decide) (by decide)) (fun hz => ?_)
  have h_5 := hz
  refine lv_aload_n hx hb dX0_join_8 rfl (lv_at hl 0 rfl) ?_
  refine lv_iload_n hx hb dX0_join_9 rfl (lv_at hl 1 rfl) ?_
  refine vp_callSi (W.runV (As := [.int k]) (rest := []) ⟨hx, hb, hml, hown, hts⟩ (c_X0_isMember l D cA cZ cL ad f g k nR nB hI) (cwV 1 hts gX0_join_X0_isMember rfl rfl rfl (by decide +kernel) ⟨Nat.le_of_ble_eq_true rfl, Nat.le_of_ble_eq_true rfl⟩) ⟨qPre_blind, va_recv hK hP (ci := 0) (q0 := 0) rfl rfl, qPre_at hP hK⟩ rfl rfl hl.1 rfl (lv_room (Nat.le_of_ble_eq_true rfl)) dX0_join_10 ⟨Nat.le_of_ble_eq_true rfl, Nat.le_of_ble_eq_true rfl⟩) (fun z hz => ?_)
  subst hz
  refine lv_if_eq (tgt := 26) hx hb dX0_join_13 (by decide) (fun c_13 => ?_) (fun c_13 => ?_)
  · have c_13 := bI_0.mp c_13
    refine lv_aload_n hx hb dX0_join_26 rfl (lv_at hl 0 rfl) ?_
    refine va_get (D := D) (ci := 0) (v := .int (f 1)) (C := RX0) (T := TX0) (N := 16) hx hb hts hfin hown hK hP 0 rfl rfl 1 (by decide) (hts _ (List.mem_cons_of_mem _ (List.mem_append_left _ (List.mem_append_left _ (List.mem_append_left _ (List.mem_append_left _ (List.mem_append_left _ (List.mem_of_getElem? (i := 2) rfl)))))))) (fun _ h9 => h9) rfl dX0_join_27 ?_
    refine lv_bipush (v := 40) hx hb dX0_join_30 (by decide) ?_
    refine lv_icmp_lt (tgt := 45) hx hb dX0_join_32 (by decide) (fun c_32 => ?_) (fun c_32 => ?_)
    · skip
      refine lv_aload_n hx hb dX0_join_45 rfl (lv_at hl 0 rfl) ?_
      refine lv_iload_n hx hb dX0_join_46 rfl (lv_at hl 1 rfl) ?_
      refine lv_iload_n hx hb dX0_join_47 rfl (lv_at hl 2 rfl) ?_
      refine qb_callv (va_runV (As := [.int k, .int a]) (rest := []) ⟨hx, hb, hml, hown, hts⟩ (c_X0_write l D cA cZ cL ad f g s.heap.size k a nR nB hI) (cwV 2 hts gX0_join_X0_write rfl rfl rfl (by decide +kernel) ⟨Nat.le_of_ble_eq_true rfl, Nat.le_of_ble_eq_true rfl⟩) ⟨qPreW_blind, va_recv hK hP (ci := 0) (q0 := 0) rfl rfl, qPreW_at hP hK hD⟩ rfl rfl hl.1 rfl (lv_room (Nat.le_of_ble_eq_true rfl)) dX0_join_48 ⟨Nat.le_of_ble_eq_true rfl, Nat.le_of_ble_eq_true rfl⟩) hD hS hA (fun u H locs hu hP hD hS => ?_)
      obtain ⟨uf, ug⟩ := u
      obtain ⟨hu1, hu2⟩ := hu
      have hu1 : uf = f := hu1
      have hu2 : ug = xWriteG nR f g k a := hu2
      have hP : va_P D vwCl (xW cA ad uf ug) H := hP
      have hD : va_D A (xW cA ad uf ug) := hD
      rw [hu1, hu2] at hP hD
      have hP : va_P D vwCl (xW cA ad f (xWriteG nR f g k a)) H := hP
      have hD : va_D A (xW cA ad f (xWriteG nR f g k a)) := hD
      refine lv_aload_n hx hb dX0_join_51 rfl (lv_at hl 0 rfl) ?_
      refine lv_dup hx hb dX0_join_52 rfl ?_
      refine va_get (D := D) (ci := 0) (v := .int (f 1)) (C := RX0) (T := TX0) (N := 16) hx hb hts hfin hown hK hP 0 rfl rfl 1 (by decide) (hts _ (List.mem_cons_of_mem _ (List.mem_append_left _ (List.mem_append_left _ (List.mem_append_left _ (List.mem_append_left _ (List.mem_append_left _ (List.mem_of_getElem? (i := 2) rfl)))))))) (fun _ h9 => h9) rfl dX0_join_53 ?_
      refine lv_iconst (v := 1) hx hb dX0_join_56 (by decide) ?_
      refine lv_iadd hx hb dX0_join_57 ?_
      refine va_put (D := D) (ci := 0) (v := .int ((f 1) + 1)) (ty := .int) (C := RX0) (T := TX0) (N := 16) hx hb hts hfin tyX0 tyX0_ok nmX0 hown hK hP hD hS 0 rfl rfl 1 (by decide) (hts _ (List.mem_cons_of_mem _ (List.mem_append_left _ (List.mem_append_left _ (List.mem_append_left _ (List.mem_append_left _ (List.mem_append_left _ (List.mem_of_getElem? (i := 2) rfl)))))))) (fun _ h9 => h9) rfl (by decide +kernel) (rfl) (rfl) (Nat.le_of_ble_eq_true rfl) dX0_join_58 (fun H locs hP hD hS => ?_)
      have hP : va_P D vwCl (xW cA ad (va_up f 1 ((f 1) + 1)) (xWriteG nR f g k a)) H := hP
      have hD : va_D A (xW cA ad (va_up f 1 ((f 1) + 1)) (xWriteG nR f g k a)) := hD
      refine lv_aload_n hx hb dX0_join_61 rfl (lv_at hl 0 rfl) ?_
      refine va_get (D := D) (ci := 0) (v := .int ((f 1) + 1)) (C := RX0) (T := TX0) (N := 16) hx hb hts hfin hown hK hP 0 rfl rfl 1 (by decide) (hts _ (List.mem_cons_of_mem _ (List.mem_append_left _ (List.mem_append_left _ (List.mem_append_left _ (List.mem_append_left _ (List.mem_append_left _ (List.mem_of_getElem? (i := 2) rfl)))))))) (fun _ h9 => h9) rfl dX0_join_62 ?_
      refine vx_ret ?_
      refine W.widen (k := 1) (n := 6) (by decide) (by decide) ?_
      exact W.iret (v := (f 1) + 1) hx hb hr (fun t ht hW => ⟨⟨(f 1) + 1, ((va_up f 1 ((f 1) + 1)), (xWriteG nR f g k a)), rfl, ⟨⟨h_1, h_5, Decidable.not_not.mp c_13, c_32⟩, rfl, rfl, rfl⟩, by rw [ht]; exact hP, hD⟩, hS.F ht⟩) hS.2.2 dX0_join_65
    · skip
      obtain ⟨sa, hsa⟩ := hTH.2.2.1 (74, "there are 40 members") (List.mem_of_getElem? (i := 1) rfl)
      exact vx_throwS (A := fun _ => False) (names := ["java/lang/RuntimeException", "java/lang/Exception"]) hx hb hl0 hown (by decide) (by decide) (hts _ (List.mem_cons_of_mem _ (List.mem_append_left _ (List.mem_append_left _ (List.mem_append_left _ (List.mem_append_left _ (List.mem_append_left _ (List.mem_of_getElem? (i := 0) rfl)))))))) (hts _ (List.mem_cons_of_mem _ (List.mem_append_left _ (List.mem_append_left _ (List.mem_append_left _ (List.mem_append_left _ (List.mem_append_left _ (List.mem_of_getElem? (i := 1) rfl)))))))) hsa (vx_hat (fun w h => hts w (List.mem_cons_of_mem _ (List.mem_append_left _ (List.mem_append_left _ (List.mem_append_right _ h))))) qw3 (qBad_of hTH (by decide))) qg3 hTH.1 hTH.2.1 va_S.rf (hl.1.trans hml.symm) dX0_join_35 dX0_join_38 dX0_join_39 dX0_join_41 dX0_join_44 (fun x h => (hno x h).elim) (Nat.le_of_ble_eq_true rfl) (Nat.le_of_ble_eq_true rfl) (Nat.le_of_ble_eq_true rfl) (Nat.le_of_ble_eq_true rfl) hlocks (fun t _ h1 h2 => ⟨Or.inr (Or.inr ⟨rfl, h_1, h_5, Or.inr c_32⟩), h1, h2⟩) (fun q h => nomatch h) (by decide) (by decide)
  · have c_13 := bI_n.mp c_13
    obtain ⟨sa, hsa⟩ := hTH.2.2.1 (66, "there is a member with this key") (List.mem_of_getElem? (i := 0) rfl)
    exact vx_throwS (A := fun _ => False) (names := ["java/lang/RuntimeException", "java/lang/Exception"]) hx hb hl0 hown (by decide) (by decide) (hts _ (List.mem_cons_of_mem _ (List.mem_append_left _ (List.mem_append_left _ (List.mem_append_left _ (List.mem_append_left _ (List.mem_append_left _ (List.mem_of_getElem? (i := 0) rfl)))))))) (hts _ (List.mem_cons_of_mem _ (List.mem_append_left _ (List.mem_append_left _ (List.mem_append_left _ (List.mem_append_left _ (List.mem_append_left _ (List.mem_of_getElem? (i := 1) rfl)))))))) hsa (vx_hat (fun w h => hts w (List.mem_cons_of_mem _ (List.mem_append_left _ (List.mem_append_left _ (List.mem_append_right _ h))))) qw3 (qBad_of hTH (by decide))) qg3 hTH.1 hTH.2.1 va_S.rf (hl.1.trans hml.symm) dX0_join_16 dX0_join_19 dX0_join_20 dX0_join_22 dX0_join_25 (fun x h => (hno x h).elim) (Nat.le_of_ble_eq_true rfl) (Nat.le_of_ble_eq_true rfl) (Nat.le_of_ble_eq_true rfl) (Nat.le_of_ble_eq_true rfl) hlocks (fun t _ h1 h2 => ⟨Or.inr (Or.inr ⟨rfl, h_1, h_5, Or.inl c_13⟩), h1, h2⟩) (fun q h => nomatch h) (by decide) (by decide)
