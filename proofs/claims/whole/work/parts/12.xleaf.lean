set_option maxHeartbeats 4000000 in
set_option maxRecDepth 100000 in
/-- a key -/
theorem c_X0_isKey (l : Launch) (k : Int32) : Met l yX0_isKey wsX0_isKey ({ frames := 0, cells := 0, slots := 0, locals := 0 } : Room) (va_Pc [.int k] (fun _ => True)) (vp_Si (fun z => z = bI (xKey k))) 0 0 (fun _ => False) := by
  refine Met.ofW (cc := cX0_isKey) (maxL := 1) (ret := (some .boolean)) (by decide) rfl ?_
  intro p e s m args below meth c s₁ B hml hv
  obtain ⟨rfl, -⟩ := hv
  have hx := B.exec
  have hb := B.bytes
  have hr := B.returns
  have hts := atoms_spec (ws := wsX0_isKey) B.pre
  have hown : s.vm.findClass RX0 = some m.cls := findClass_of_methodNamed B.named
  have hlocks := B.notSynchronized
  have hl := lv_entry ([.int k]) (n := 1) (Nat.le_of_ble_eq_true rfl)
  rw [lg_entry_eq]
  generalize (lg_sl ([.int k]) ++ List.replicate (1 - (lg_sl ([.int k])).length) Slot.unset).toArray = ls at hl ⊢
  have hl : lv_has ls 1 [(0, .int k)] := hl
  refine lv_iload_n hx hb dX0_isKey_0 rfl (lv_at hl 0 rfl) ?_
  refine lv_if_lt (tgt := 14) hx hb dX0_isKey_1 (by decide) (fun c_1 => ?_) (fun c_1 => ?_)
  · skip
    refine lv_iconst (v := 0) hx hb dX0_isKey_14 (by decide) ?_
    exact W.zret (v := 0) hx hb hr rfl (fun t ht hW => ⟨0, rfl, (bI_f (i_nl c_1)).symm, ht⟩) (fun q h => nomatch h) dX0_isKey_15
  · skip
    refine lv_iload_n hx hb dX0_isKey_4 rfl (lv_at hl 0 rfl) ?_
    refine lv_bipush (v := 100) hx hb dX0_isKey_5 (by decide) ?_
    refine lv_icmp_ge (tgt := 14) hx hb dX0_isKey_7 (by decide) (fun c_7 => ?_) (fun c_7 => ?_)
    · skip
      refine lv_iconst (v := 0) hx hb dX0_isKey_14 (by decide) ?_
      exact W.zret (v := 0) hx hb hr rfl (fun t ht hW => ⟨0, rfl, (bI_f (i_nr c_7)).symm, ht⟩) (fun q h => nomatch h) dX0_isKey_15
    · skip
      refine lv_iconst (v := 1) hx hb dX0_isKey_10 (by decide) ?_
      refine lv_goto (tgt := 15) hx hb dX0_isKey_11 (by decide) ?_
      exact W.zret (v := 1) hx hb hr rfl (fun t ht hW => ⟨1, rfl, (bI_t (i_and c_1 c_7)).symm, ht⟩) (fun q h => nomatch h) dX0_isKey_15
set_option maxHeartbeats 4000000 in
set_option maxRecDepth 100000 in
/-- a shard -/
theorem c_X0_isShard (l : Launch) (k : Int32) : Met l yX0_isShard wsX0_isShard ({ frames := 0, cells := 0, slots := 0, locals := 0 } : Room) (va_Pc [.int k] (fun _ => True)) (vp_Si (fun z => z = bI (xShard k))) 0 0 (fun _ => False) := by
  refine Met.ofW (cc := cX0_isShard) (maxL := 1) (ret := (some .boolean)) (by decide) rfl ?_
  intro p e s m args below meth c s₁ B hml hv
  obtain ⟨rfl, -⟩ := hv
  have hx := B.exec
  have hb := B.bytes
  have hr := B.returns
  have hts := atoms_spec (ws := wsX0_isShard) B.pre
  have hown : s.vm.findClass RX0 = some m.cls := findClass_of_methodNamed B.named
  have hlocks := B.notSynchronized
  have hl := lv_entry ([.int k]) (n := 1) (Nat.le_of_ble_eq_true rfl)
  rw [lg_entry_eq]
  generalize (lg_sl ([.int k]) ++ List.replicate (1 - (lg_sl ([.int k])).length) Slot.unset).toArray = ls at hl ⊢
  have hl : lv_has ls 1 [(0, .int k)] := hl
  refine lv_iload_n hx hb dX0_isShard_0 rfl (lv_at hl 0 rfl) ?_
  refine lv_if_lt (tgt := 13) hx hb dX0_isShard_1 (by decide) (fun c_1 => ?_) (fun c_1 => ?_)
  · skip
    refine lv_iconst (v := 0) hx hb dX0_isShard_13 (by decide) ?_
    exact W.zret (v := 0) hx hb hr rfl (fun t ht hW => ⟨0, rfl, (bI_f (i_nl c_1)).symm, ht⟩) (fun q h => nomatch h) dX0_isShard_14
  · skip
    refine lv_iload_n hx hb dX0_isShard_4 rfl (lv_at hl 0 rfl) ?_
    refine lv_iconst (v := 4) hx hb dX0_isShard_5 (by decide) ?_
    refine lv_icmp_ge (tgt := 13) hx hb dX0_isShard_6 (by decide) (fun c_6 => ?_) (fun c_6 => ?_)
    · skip
      refine lv_iconst (v := 0) hx hb dX0_isShard_13 (by decide) ?_
      exact W.zret (v := 0) hx hb hr rfl (fun t ht hW => ⟨0, rfl, (bI_f (i_nr c_6)).symm, ht⟩) (fun q h => nomatch h) dX0_isShard_14
    · skip
      refine lv_iconst (v := 1) hx hb dX0_isShard_9 (by decide) ?_
      refine lv_goto (tgt := 14) hx hb dX0_isShard_10 (by decide) ?_
      exact W.zret (v := 1) hx hb hr rfl (fun t ht hW => ⟨1, rfl, (bI_t (i_and c_1 c_6)).symm, ht⟩) (fun q h => nomatch h) dX0_isShard_14
set_option maxHeartbeats 4000000 in
set_option maxRecDepth 100000 in
/-- the district of an address -/
theorem c_X0_districtOf (l : Launch) (a : Int32) : Met l yX0_districtOf wsX0_districtOf ({ frames := 0, cells := 0, slots := 0, locals := 0 } : Room) (va_Pc [.int a] (fun _ => True)) (vp_Si (fun z => z = xDist a)) 0 0 (fun _ => False) := by
  refine Met.ofW (cc := cX0_districtOf) (maxL := 1) (ret := (some .int)) (by decide) rfl ?_
  intro p e s m args below meth c s₁ B hml hv
  obtain ⟨rfl, -⟩ := hv
  have hx := B.exec
  have hb := B.bytes
  have hr := B.returns
  have hts := atoms_spec (ws := wsX0_districtOf) B.pre
  have hown : s.vm.findClass RX0 = some m.cls := findClass_of_methodNamed B.named
  have hlocks := B.notSynchronized
  have hl := lv_entry ([.int a]) (n := 1) (Nat.le_of_ble_eq_true rfl)
  rw [lg_entry_eq]
  generalize (lg_sl ([.int a]) ++ List.replicate (1 - (lg_sl ([.int a])).length) Slot.unset).toArray = ls at hl ⊢
  have hl : lv_has ls 1 [(0, .int a)] := hl
  refine lv_iload_n hx hb dX0_districtOf_0 rfl (lv_at hl 0 rfl) ?_
  refine lv_iconst (v := (-1)) hx hb dX0_districtOf_1 (by decide) ?_
  refine lv_icmp_ne (tgt := 9) hx hb dX0_districtOf_2 (by decide) (fun c_2 => ?_) (fun c_2 => ?_)
  · skip
    refine lv_iload_n hx hb dX0_districtOf_9 rfl (lv_at hl 0 rfl) ?_
    refine lv_bipush (v := 10) hx hb dX0_districtOf_10 (by decide) ?_
    refine lv_idiv hx hb dX0_districtOf_12 (by decide) ?_
    exact W.iret (v := a / 10) hx hb hr (fun t ht hW => ⟨a / 10, rfl, (by unfold xDist; rw [if_neg c_2]), ht⟩) (fun q h => nomatch h) dX0_districtOf_13
  · skip
    refine lv_iconst (v := (-1)) hx hb dX0_districtOf_5 (by decide) ?_
    refine lv_goto (tgt := 13) hx hb dX0_districtOf_6 (by decide) ?_
    exact W.iret (v := (-1)) hx hb hr (fun t ht hW => ⟨(-1), rfl, (by unfold xDist; rw [if_pos c_2]), ht⟩) (fun q h => nomatch h) dX0_districtOf_13
set_option maxHeartbeats 4000000 in
set_option maxRecDepth 100000 in
/-- a range -/
theorem c_X0_isRange (l : Launch) (D : va_G) (cA cZ cL : ClassId) (ad : Nat → Nat) (f : qFs) (g : qGs) (r : Int32) : Met l yX0_isRange wsX0_isRange ({ frames := 0, cells := 0, slots := 0, locals := 0 } : Room) (va_Pc [.ref (ad 16), .int r] (qPre D (qTy cA cZ cL) (xW cA ad f g))) (vp_Si (fun z => z = bI (xRange f r))) 0 0 (fun _ => False) := by
  refine Met.ofW (cc := cX0_isRange) (maxL := 2) (ret := (some .boolean)) (by decide) rfl ?_
  intro p e s m args below meth c s₁ B hml hv
  obtain ⟨rfl, hP, hK⟩ := hv
  have hx := B.exec
  have hb := B.bytes
  have hr := B.returns
  have hts := atoms_spec (ws := wsX0_isRange) B.pre
  have hown : s.vm.findClass RX0 = some m.cls := findClass_of_methodNamed B.named
  have hlocks := B.notSynchronized
  have hfin : ∀ w ∈ wsX00, w ∈ wsX0_isRange := fun w h => (List.mem_cons_of_mem _ (List.mem_append_right _ h))
  have hl := lv_entry ([.ref (ad 16), .int r]) (n := 2) (Nat.le_of_ble_eq_true rfl)
  rw [lg_entry_eq]
  generalize (lg_sl ([.ref (ad 16), .int r]) ++ List.replicate (2 - (lg_sl ([.ref (ad 16), .int r])).length) Slot.unset).toArray = ls at hl ⊢
  have hl : lv_has ls 2 [(0, .ref (ad 16)), (1, .int r)] := hl
  refine lv_iload_n hx hb dX0_isRange_0 rfl (lv_at hl 1 rfl) ?_
  refine lv_if_lt (tgt := 16) hx hb dX0_isRange_1 (by decide) (fun c_1 => ?_) (fun c_1 => ?_)
  · skip
    refine lv_iconst (v := 0) hx hb dX0_isRange_16 (by decide) ?_
    exact W.zret (v := 0) hx hb hr rfl (fun t ht hW => ⟨0, rfl, (bI_f (i_nl c_1)).symm, ht⟩) (fun q h => nomatch h) dX0_isRange_17
  · skip
    refine lv_iload_n hx hb dX0_isRange_4 rfl (lv_at hl 1 rfl) ?_
    refine lv_aload_n hx hb dX0_isRange_5 rfl (lv_at hl 0 rfl) ?_
    refine va_get (D := D) (ci := 0) (v := .int (f 5)) (C := RX0) (T := TX0) (N := 16) hx hb hts hfin hown hK hP 0 rfl rfl 5 (by decide) (hts _ (List.mem_cons_of_mem _ (List.mem_append_left _ (List.mem_of_getElem? (i := 0) rfl)))) (fun _ h9 => h9) rfl dX0_isRange_6 ?_
    refine lv_icmp_ge (tgt := 16) hx hb dX0_isRange_9 (by decide) (fun c_9 => ?_) (fun c_9 => ?_)
    · skip
      refine lv_iconst (v := 0) hx hb dX0_isRange_16 (by decide) ?_
      exact W.zret (v := 0) hx hb hr rfl (fun t ht hW => ⟨0, rfl, (bI_f (i_nr c_9)).symm, ht⟩) (fun q h => nomatch h) dX0_isRange_17
    · skip
      refine lv_iconst (v := 1) hx hb dX0_isRange_12 (by decide) ?_
      refine lv_goto (tgt := 17) hx hb dX0_isRange_13 (by decide) ?_
      exact W.zret (v := 1) hx hb hr rfl (fun t ht hW => ⟨1, rfl, (bI_t (i_and c_1 c_9)).symm, ht⟩) (fun q h => nomatch h) dX0_isRange_17
set_option maxHeartbeats 4000000 in
set_option maxRecDepth 100000 in
/-- a ballot -/
theorem c_X0_isBallot (l : Launch) (D : va_G) (cA cZ cL : ClassId) (ad : Nat → Nat) (f : qFs) (g : qGs) (r : Int32) : Met l yX0_isBallot wsX0_isBallot ({ frames := 0, cells := 0, slots := 0, locals := 0 } : Room) (va_Pc [.ref (ad 16), .int r] (qPre D (qTy cA cZ cL) (xW cA ad f g))) (vp_Si (fun z => z = bI (xBallot f r))) 0 0 (fun _ => False) := by
  refine Met.ofW (cc := cX0_isBallot) (maxL := 2) (ret := (some .boolean)) (by decide) rfl ?_
  intro p e s m args below meth c s₁ B hml hv
  obtain ⟨rfl, hP, hK⟩ := hv
  have hx := B.exec
  have hb := B.bytes
  have hr := B.returns
  have hts := atoms_spec (ws := wsX0_isBallot) B.pre
  have hown : s.vm.findClass RX0 = some m.cls := findClass_of_methodNamed B.named
  have hlocks := B.notSynchronized
  have hfin : ∀ w ∈ wsX00, w ∈ wsX0_isBallot := fun w h => (List.mem_cons_of_mem _ (List.mem_append_right _ h))
  have hl := lv_entry ([.ref (ad 16), .int r]) (n := 2) (Nat.le_of_ble_eq_true rfl)
  rw [lg_entry_eq]
  generalize (lg_sl ([.ref (ad 16), .int r]) ++ List.replicate (2 - (lg_sl ([.ref (ad 16), .int r])).length) Slot.unset).toArray = ls at hl ⊢
  have hl : lv_has ls 2 [(0, .ref (ad 16)), (1, .int r)] := hl
  refine lv_iload_n hx hb dX0_isBallot_0 rfl (lv_at hl 1 rfl) ?_
  refine lv_if_lt (tgt := 16) hx hb dX0_isBallot_1 (by decide) (fun c_1 => ?_) (fun c_1 => ?_)
  · skip
    refine lv_iconst (v := 0) hx hb dX0_isBallot_16 (by decide) ?_
    exact W.zret (v := 0) hx hb hr rfl (fun t ht hW => ⟨0, rfl, (bI_f (i_nl c_1)).symm, ht⟩) (fun q h => nomatch h) dX0_isBallot_17
  · skip
    refine lv_iload_n hx hb dX0_isBallot_4 rfl (lv_at hl 1 rfl) ?_
    refine lv_aload_n hx hb dX0_isBallot_5 rfl (lv_at hl 0 rfl) ?_
    refine va_get (D := D) (ci := 0) (v := .int (f 15)) (C := RX0) (T := TX0) (N := 16) hx hb hts hfin hown hK hP 0 rfl rfl 15 (by decide) (hts _ (List.mem_cons_of_mem _ (List.mem_append_left _ (List.mem_of_getElem? (i := 0) rfl)))) (fun _ h9 => h9) rfl dX0_isBallot_6 ?_
    refine lv_icmp_ge (tgt := 16) hx hb dX0_isBallot_9 (by decide) (fun c_9 => ?_) (fun c_9 => ?_)
    · skip
      refine lv_iconst (v := 0) hx hb dX0_isBallot_16 (by decide) ?_
      exact W.zret (v := 0) hx hb hr rfl (fun t ht hW => ⟨0, rfl, (bI_f (i_nr c_9)).symm, ht⟩) (fun q h => nomatch h) dX0_isBallot_17
    · skip
      refine lv_iconst (v := 1) hx hb dX0_isBallot_12 (by decide) ?_
      refine lv_goto (tgt := 17) hx hb dX0_isBallot_13 (by decide) ?_
      exact W.zret (v := 1) hx hb hr rfl (fun t ht hW => ⟨1, rfl, (bI_t (i_and c_1 c_9)).symm, ht⟩) (fun q h => nomatch h) dX0_isBallot_17
set_option maxHeartbeats 4000000 in
set_option maxRecDepth 100000 in
/-- homeOf -/
theorem c_X0_homeOf (l : Launch) (D : va_G) (cA cZ cL : ClassId) (ad : Nat → Nat) (f : qFs) (g : qGs) (r : Int32) (nR : Nat) (nB : Nat) (hI : xI nR nB f) : Met l yX0_homeOf wsX0_homeOf ({ frames := 1, cells := 0, slots := 0, locals := 21 } : Room) (va_Pc [.ref (ad 16), .int r] (qPre D (qTy cA cZ cL) (xW cA ad f g))) (vp_Si (fun z => z = xHome f g r)) 0 0 (fun _ => False) := by
  refine Met.ofW (cc := cX0_homeOf) (maxL := 2) (ret := (some .int)) (by decide) rfl ?_
  intro p e s m args below meth c s₁ B hml hv
  obtain ⟨rfl, hP, hK⟩ := hv
  have hx := B.exec
  have hb := B.bytes
  have hr := B.returns
  have hts := atoms_spec (ws := wsX0_homeOf) B.pre
  have hown : s.vm.findClass RX0 = some m.cls := findClass_of_methodNamed B.named
  have hlocks := B.notSynchronized
  have hfin : ∀ w ∈ wsX00, w ∈ wsX0_homeOf := fun w h => (List.mem_cons_of_mem _ (List.mem_append_right _ h))
  have hl := lv_entry ([.ref (ad 16), .int r]) (n := 2) (Nat.le_of_ble_eq_true rfl)
  rw [lg_entry_eq]
  generalize (lg_sl ([.ref (ad 16), .int r]) ++ List.replicate (2 - (lg_sl ([.ref (ad 16), .int r])).length) Slot.unset).toArray = ls at hl ⊢
  have hl : lv_has ls 2 [(0, .ref (ad 16)), (1, .int r)] := hl
  refine lv_aload_n hx hb dX0_homeOf_0 rfl (lv_at hl 0 rfl) ?_
  refine lv_iload_n hx hb dX0_homeOf_1 rfl (lv_at hl 1 rfl) ?_
  refine vp_callSi (W.runV (As := [.int r]) (rest := []) ⟨hx, hb, hml, hown, hts⟩ (c_X0_isRange l D cA cZ cL ad f g r) (cwV 1 hts gX0_homeOf_X0_isRange rfl rfl rfl (by decide +kernel) ⟨Nat.le_of_ble_eq_true rfl, Nat.le_of_ble_eq_true rfl⟩) ⟨qPre_blind, va_recv hK hP (ci := 0) (q0 := 0) rfl rfl, qPre_at hP hK⟩ rfl rfl hl.1 rfl (lv_room (Nat.le_of_ble_eq_true rfl)) dX0_homeOf_2 ⟨Nat.le_of_ble_eq_true rfl, Nat.le_of_ble_eq_true rfl⟩) (fun z hz => ?_)
  subst hz
  refine lv_if_eq (tgt := 17) hx hb dX0_homeOf_5 (by decide) (fun c_5 => ?_) (fun c_5 => ?_)
  · have c_5 := bI_0.mp c_5
    refine lv_iconst (v := (-1)) hx hb dX0_homeOf_17 (by decide) ?_
    exact W.iret (v := (-1)) hx hb hr (fun t ht hW => ⟨(-1), rfl, (by unfold xHome; rw [if_neg c_5]), ht⟩) (fun q h => nomatch h) dX0_homeOf_18
  · have c_5 := bI_n.mp c_5
    refine lv_aload_n hx hb dX0_homeOf_8 rfl (lv_at hl 0 rfl) ?_
    refine va_get (D := D) (ci := 0) (v := .ref (ad 3)) (C := RX0) (T := TX0) (N := 16) hx hb hts hfin hown hK hP 0 rfl rfl 3 (by decide) (hts _ (List.mem_cons_of_mem _ (List.mem_append_left _ (List.mem_of_getElem? (i := 0) rfl)))) (fun _ h9 => h9) rfl dX0_homeOf_9 ?_
    refine lv_iload_n hx hb dX0_homeOf_12 rfl (lv_at hl 1 rfl) ?_
    refine va_iald hx hb hK hP 3 0 rfl rfl (x_in8 hI c_5) dX0_homeOf_13 ?_
    refine lv_goto (tgt := 18) hx hb dX0_homeOf_14 (by decide) ?_
    exact W.iret (v := g 3 r.toNatClampNeg) hx hb hr (fun t ht hW => ⟨g 3 r.toNatClampNeg, rfl, (by unfold xHome; rw [if_pos c_5]), ht⟩) (fun q h => nomatch h) dX0_homeOf_18
set_option maxHeartbeats 4000000 in
set_option maxRecDepth 100000 in
/-- targetOf -/
theorem c_X0_targetOf (l : Launch) (D : va_G) (cA cZ cL : ClassId) (ad : Nat → Nat) (f : qFs) (g : qGs) (r : Int32) (nR : Nat) (nB : Nat) (hI : xI nR nB f) : Met l yX0_targetOf wsX0_targetOf ({ frames := 1, cells := 0, slots := 0, locals := 21 } : Room) (va_Pc [.ref (ad 16), .int r] (qPre D (qTy cA cZ cL) (xW cA ad f g))) (vp_Si (fun z => z = xTarg f g r)) 0 0 (fun _ => False) := by
  refine Met.ofW (cc := cX0_targetOf) (maxL := 2) (ret := (some .int)) (by decide) rfl ?_
  intro p e s m args below meth c s₁ B hml hv
  obtain ⟨rfl, hP, hK⟩ := hv
  have hx := B.exec
  have hb := B.bytes
  have hr := B.returns
  have hts := atoms_spec (ws := wsX0_targetOf) B.pre
  have hown : s.vm.findClass RX0 = some m.cls := findClass_of_methodNamed B.named
  have hlocks := B.notSynchronized
  have hfin : ∀ w ∈ wsX00, w ∈ wsX0_targetOf := fun w h => (List.mem_cons_of_mem _ (List.mem_append_right _ h))
  have hl := lv_entry ([.ref (ad 16), .int r]) (n := 2) (Nat.le_of_ble_eq_true rfl)
  rw [lg_entry_eq]
  generalize (lg_sl ([.ref (ad 16), .int r]) ++ List.replicate (2 - (lg_sl ([.ref (ad 16), .int r])).length) Slot.unset).toArray = ls at hl ⊢
  have hl : lv_has ls 2 [(0, .ref (ad 16)), (1, .int r)] := hl
  refine lv_aload_n hx hb dX0_targetOf_0 rfl (lv_at hl 0 rfl) ?_
  refine lv_iload_n hx hb dX0_targetOf_1 rfl (lv_at hl 1 rfl) ?_
  refine vp_callSi (W.runV (As := [.int r]) (rest := []) ⟨hx, hb, hml, hown, hts⟩ (c_X0_isRange l D cA cZ cL ad f g r) (cwV 1 hts gX0_targetOf_X0_isRange rfl rfl rfl (by decide +kernel) ⟨Nat.le_of_ble_eq_true rfl, Nat.le_of_ble_eq_true rfl⟩) ⟨qPre_blind, va_recv hK hP (ci := 0) (q0 := 0) rfl rfl, qPre_at hP hK⟩ rfl rfl hl.1 rfl (lv_room (Nat.le_of_ble_eq_true rfl)) dX0_targetOf_2 ⟨Nat.le_of_ble_eq_true rfl, Nat.le_of_ble_eq_true rfl⟩) (fun z hz => ?_)
  subst hz
  refine lv_if_eq (tgt := 17) hx hb dX0_targetOf_5 (by decide) (fun c_5 => ?_) (fun c_5 => ?_)
  · have c_5 := bI_0.mp c_5
    refine lv_iconst (v := (-1)) hx hb dX0_targetOf_17 (by decide) ?_
    exact W.iret (v := (-1)) hx hb hr (fun t ht hW => ⟨(-1), rfl, (by unfold xTarg; rw [if_neg c_5]), ht⟩) (fun q h => nomatch h) dX0_targetOf_18
  · have c_5 := bI_n.mp c_5
    refine lv_aload_n hx hb dX0_targetOf_8 rfl (lv_at hl 0 rfl) ?_
    refine va_get (D := D) (ci := 0) (v := .ref (ad 4)) (C := RX0) (T := TX0) (N := 16) hx hb hts hfin hown hK hP 0 rfl rfl 4 (by decide) (hts _ (List.mem_cons_of_mem _ (List.mem_append_left _ (List.mem_of_getElem? (i := 0) rfl)))) (fun _ h9 => h9) rfl dX0_targetOf_9 ?_
    refine lv_iload_n hx hb dX0_targetOf_12 rfl (lv_at hl 1 rfl) ?_
    refine va_iald hx hb hK hP 4 0 rfl rfl (x_in8 hI c_5) dX0_targetOf_13 ?_
    refine lv_goto (tgt := 18) hx hb dX0_targetOf_14 (by decide) ?_
    exact W.iret (v := g 4 r.toNatClampNeg) hx hb hr (fun t ht hW => ⟨g 4 r.toNatClampNeg, rfl, (by unfold xTarg; rw [if_pos c_5]), ht⟩) (fun q h => nomatch h) dX0_targetOf_18
set_option maxHeartbeats 4000000 in
set_option maxRecDepth 100000 in
/-- lastKeyOf -/
theorem c_X0_lastKeyOf (l : Launch) (D : va_G) (cA cZ cL : ClassId) (ad : Nat → Nat) (f : qFs) (g : qGs) (r : Int32) (nR : Nat) (nB : Nat) (hI : xI nR nB f) : Met l yX0_lastKeyOf wsX0_lastKeyOf ({ frames := 1, cells := 0, slots := 0, locals := 21 } : Room) (va_Pc [.ref (ad 16), .int r] (qPre D (qTy cA cZ cL) (xW cA ad f g))) (vp_Si (fun z => z = xLast f g r)) 0 0 (fun _ => False) := by
  refine Met.ofW (cc := cX0_lastKeyOf) (maxL := 2) (ret := (some .int)) (by decide) rfl ?_
  intro p e s m args below meth c s₁ B hml hv
  obtain ⟨rfl, hP, hK⟩ := hv
  have hx := B.exec
  have hb := B.bytes
  have hr := B.returns
  have hts := atoms_spec (ws := wsX0_lastKeyOf) B.pre
  have hown : s.vm.findClass RX0 = some m.cls := findClass_of_methodNamed B.named
  have hlocks := B.notSynchronized
  have hfin : ∀ w ∈ wsX00, w ∈ wsX0_lastKeyOf := fun w h => (List.mem_cons_of_mem _ (List.mem_append_right _ h))
  have hl := lv_entry ([.ref (ad 16), .int r]) (n := 2) (Nat.le_of_ble_eq_true rfl)
  rw [lg_entry_eq]
  generalize (lg_sl ([.ref (ad 16), .int r]) ++ List.replicate (2 - (lg_sl ([.ref (ad 16), .int r])).length) Slot.unset).toArray = ls at hl ⊢
  have hl : lv_has ls 2 [(0, .ref (ad 16)), (1, .int r)] := hl
  refine lv_aload_n hx hb dX0_lastKeyOf_0 rfl (lv_at hl 0 rfl) ?_
  refine lv_iload_n hx hb dX0_lastKeyOf_1 rfl (lv_at hl 1 rfl) ?_
  refine vp_callSi (W.runV (As := [.int r]) (rest := []) ⟨hx, hb, hml, hown, hts⟩ (c_X0_isRange l D cA cZ cL ad f g r) (cwV 1 hts gX0_lastKeyOf_X0_isRange rfl rfl rfl (by decide +kernel) ⟨Nat.le_of_ble_eq_true rfl, Nat.le_of_ble_eq_true rfl⟩) ⟨qPre_blind, va_recv hK hP (ci := 0) (q0 := 0) rfl rfl, qPre_at hP hK⟩ rfl rfl hl.1 rfl (lv_room (Nat.le_of_ble_eq_true rfl)) dX0_lastKeyOf_2 ⟨Nat.le_of_ble_eq_true rfl, Nat.le_of_ble_eq_true rfl⟩) (fun z hz => ?_)
  subst hz
  refine lv_if_eq (tgt := 17) hx hb dX0_lastKeyOf_5 (by decide) (fun c_5 => ?_) (fun c_5 => ?_)
  · have c_5 := bI_0.mp c_5
    refine lv_iconst (v := (-1)) hx hb dX0_lastKeyOf_17 (by decide) ?_
    exact W.iret (v := (-1)) hx hb hr (fun t ht hW => ⟨(-1), rfl, (by unfold xLast; rw [if_neg c_5]), ht⟩) (fun q h => nomatch h) dX0_lastKeyOf_18
  · have c_5 := bI_n.mp c_5
    refine lv_aload_n hx hb dX0_lastKeyOf_8 rfl (lv_at hl 0 rfl) ?_
    refine va_get (D := D) (ci := 0) (v := .ref (ad 2)) (C := RX0) (T := TX0) (N := 16) hx hb hts hfin hown hK hP 0 rfl rfl 2 (by decide) (hts _ (List.mem_cons_of_mem _ (List.mem_append_left _ (List.mem_of_getElem? (i := 0) rfl)))) (fun _ h9 => h9) rfl dX0_lastKeyOf_9 ?_
    refine lv_iload_n hx hb dX0_lastKeyOf_12 rfl (lv_at hl 1 rfl) ?_
    refine va_iald hx hb hK hP 2 0 rfl rfl (x_in8 hI c_5) dX0_lastKeyOf_13 ?_
    refine lv_goto (tgt := 18) hx hb dX0_lastKeyOf_14 (by decide) ?_
    exact W.iret (v := g 2 r.toNatClampNeg) hx hb hr (fun t ht hW => ⟨g 2 r.toNatClampNeg, rfl, (by unfold xLast; rw [if_pos c_5]), ht⟩) (fun q h => nomatch h) dX0_lastKeyOf_18
set_option maxHeartbeats 4000000 in
set_option maxRecDepth 100000 in
/-- a row -/
theorem c_X0_rowOf (l : Launch) (D : va_G) (cA cZ cL : ClassId) (ad : Nat → Nat) (f : qFs) (g : qGs) (sh : Int32) (k : Int32) : Met l yX0_rowOf wsX0_rowOf ({ frames := 1, cells := 0, slots := 0, locals := 20 } : Room) (va_Pc [.ref (ad 16), .int sh, .int k] (qPre D (qTy cA cZ cL) (xW cA ad f g))) (vp_Si (fun z => z = xRowOf g sh k)) 0 0 (fun _ => False) := by
  refine Met.ofW (cc := cX0_rowOf) (maxL := 3) (ret := (some .int)) (by decide) rfl ?_
  intro p e s m args below meth c s₁ B hml hv
  obtain ⟨rfl, hP, hK⟩ := hv
  have hx := B.exec
  have hb := B.bytes
  have hr := B.returns
  have hts := atoms_spec (ws := wsX0_rowOf) B.pre
  have hown : s.vm.findClass RX0 = some m.cls := findClass_of_methodNamed B.named
  have hlocks := B.notSynchronized
  have hfin : ∀ w ∈ wsX00, w ∈ wsX0_rowOf := fun w h => (List.mem_cons_of_mem _ (List.mem_append_right _ h))
  have hl := lv_entry ([.ref (ad 16), .int sh, .int k]) (n := 3) (Nat.le_of_ble_eq_true rfl)
  rw [lg_entry_eq]
  generalize (lg_sl ([.ref (ad 16), .int sh, .int k]) ++ List.replicate (3 - (lg_sl ([.ref (ad 16), .int sh, .int k])).length) Slot.unset).toArray = ls at hl ⊢
  have hl : lv_has ls 3 [(0, .ref (ad 16)), (1, .int sh), (2, .int k)] := hl
  refine lv_iload_n hx hb dX0_rowOf_0 rfl (lv_at hl 1 rfl) ?_
  refine vp_callSi (W.runS (As := [.int sh]) (rest := []) ⟨hx, hb, hml, hown, hts⟩ (c_X0_isShard l sh) (va_cwS 1 hts gX0_rowOf_X0_isShard rfl rfl rfl (by decide +kernel) ⟨Nat.le_of_ble_eq_true rfl, Nat.le_of_ble_eq_true rfl⟩) ⟨qN_blind, qN_at⟩ rfl rfl hl.1 rfl (lv_room (Nat.le_of_ble_eq_true rfl)) dX0_rowOf_1 ⟨Nat.le_of_ble_eq_true rfl, Nat.le_of_ble_eq_true rfl⟩) (fun z hz => ?_)
  subst hz
  refine lv_if_eq (tgt := 28) hx hb dX0_rowOf_4 (by decide) (fun c_4 => ?_) (fun c_4 => ?_)
  · have c_4 := bI_0.mp c_4
    refine lv_iconst (v := (-1)) hx hb dX0_rowOf_28 (by decide) ?_
    exact W.iret (v := (-1)) hx hb hr (fun t ht hW => ⟨(-1), rfl, (by unfold xRowOf; rw [if_neg (fun q => c_4 q.1)]), ht⟩) (fun q h => nomatch h) dX0_rowOf_29
  · have c_4 := bI_n.mp c_4
    refine lv_iload_n hx hb dX0_rowOf_7 rfl (lv_at hl 2 rfl) ?_
    refine vp_callSi (W.runS (As := [.int k]) (rest := []) ⟨hx, hb, hml, hown, hts⟩ (c_X0_isKey l k) (va_cwS 1 hts gX0_rowOf_X0_isKey rfl rfl rfl (by decide +kernel) ⟨Nat.le_of_ble_eq_true rfl, Nat.le_of_ble_eq_true rfl⟩) ⟨qN_blind, qN_at⟩ rfl rfl hl.1 rfl (lv_room (Nat.le_of_ble_eq_true rfl)) dX0_rowOf_8 ⟨Nat.le_of_ble_eq_true rfl, Nat.le_of_ble_eq_true rfl⟩) (fun z hz => ?_)
    subst hz
    refine lv_if_eq (tgt := 28) hx hb dX0_rowOf_11 (by decide) (fun c_11 => ?_) (fun c_11 => ?_)
    · have c_11 := bI_0.mp c_11
      refine lv_iconst (v := (-1)) hx hb dX0_rowOf_28 (by decide) ?_
      exact W.iret (v := (-1)) hx hb hr (fun t ht hW => ⟨(-1), rfl, (by unfold xRowOf; rw [if_neg (fun q => c_11 q.2)]), ht⟩) (fun q h => nomatch h) dX0_rowOf_29
    · have c_11 := bI_n.mp c_11
      refine lv_aload_n hx hb dX0_rowOf_14 rfl (lv_at hl 0 rfl) ?_
      refine va_get (D := D) (ci := 0) (v := .ref (ad 0)) (C := RX0) (T := TX0) (N := 16) hx hb hts hfin hown hK hP 0 rfl rfl 0 (by decide) (hts _ (List.mem_cons_of_mem _ (List.mem_append_left _ (List.mem_of_getElem? (i := 0) rfl)))) (fun _ h9 => h9) rfl dX0_rowOf_15 ?_
      refine lv_iload_n hx hb dX0_rowOf_18 rfl (lv_at hl 1 rfl) ?_
      refine lv_bipush (v := 100) hx hb dX0_rowOf_19 (by decide) ?_
      refine lv_imul hx hb dX0_rowOf_21 ?_
      refine lv_iload_n hx hb dX0_rowOf_22 rfl (lv_at hl 2 rfl) ?_
      refine lv_iadd hx hb dX0_rowOf_23 ?_
      refine va_iald hx hb hK hP 1 0 rfl rfl (x_inT c_4 c_11) dX0_rowOf_24 ?_
      refine lv_goto (tgt := 29) hx hb dX0_rowOf_25 (by decide) ?_
      exact W.iret (v := g 0 ((sh * 100) + k).toNatClampNeg) hx hb hr (fun t ht hW => ⟨g 0 ((sh * 100) + k).toNatClampNeg, rfl, (by unfold xRowOf; rw [if_pos ⟨c_4, c_11⟩]), ht⟩) (fun q h => nomatch h) dX0_rowOf_29
set_option maxHeartbeats 4000000 in
set_option maxRecDepth 100000 in
/-- is it moved -/
theorem c_X0_isMoved (l : Launch) (D : va_G) (cA cZ cL : ClassId) (ad : Nat → Nat) (f : qFs) (g : qGs) (r : Int32) (nR : Nat) (nB : Nat) (hI : xI nR nB f) : Met l yX0_isMoved wsX0_isMoved ({ frames := 2, cells := 0, slots := 0, locals := 42 } : Room) (va_Pc [.ref (ad 16), .int r] (qPre D (qTy cA cZ cL) (xW cA ad f g))) (vp_Si (fun z => z = bI (¬ xTarg f g r = -1))) 0 0 (fun _ => False) := by
  refine Met.ofW (cc := cX0_isMoved) (maxL := 2) (ret := (some .boolean)) (by decide) rfl ?_
  intro p e s m args below meth c s₁ B hml hv
  obtain ⟨rfl, hP, hK⟩ := hv
  have hx := B.exec
  have hb := B.bytes
  have hr := B.returns
  have hts := atoms_spec (ws := wsX0_isMoved) B.pre
  have hown : s.vm.findClass RX0 = some m.cls := findClass_of_methodNamed B.named
  have hlocks := B.notSynchronized
  have hfin : ∀ w ∈ wsX00, w ∈ wsX0_isMoved := fun w h => (List.mem_cons_of_mem _ (List.mem_append_right _ h))
  have hl := lv_entry ([.ref (ad 16), .int r]) (n := 2) (Nat.le_of_ble_eq_true rfl)
  rw [lg_entry_eq]
  generalize (lg_sl ([.ref (ad 16), .int r]) ++ List.replicate (2 - (lg_sl ([.ref (ad 16), .int r])).length) Slot.unset).toArray = ls at hl ⊢
  have hl : lv_has ls 2 [(0, .ref (ad 16)), (1, .int r)] := hl
  refine lv_aload_n hx hb dX0_isMoved_0 rfl (lv_at hl 0 rfl) ?_
  refine lv_iload_n hx hb dX0_isMoved_1 rfl (lv_at hl 1 rfl) ?_
  refine vp_callSi (W.runV (As := [.int r]) (rest := []) ⟨hx, hb, hml, hown, hts⟩ (c_X0_targetOf l D cA cZ cL ad f g r nR nB hI) (cwV 1 hts gX0_isMoved_X0_targetOf rfl rfl rfl (by decide +kernel) ⟨Nat.le_of_ble_eq_true rfl, Nat.le_of_ble_eq_true rfl⟩) ⟨qPre_blind, va_recv hK hP (ci := 0) (q0 := 0) rfl rfl, qPre_at hP hK⟩ rfl rfl hl.1 rfl (lv_room (Nat.le_of_ble_eq_true rfl)) dX0_isMoved_2 ⟨Nat.le_of_ble_eq_true rfl, Nat.le_of_ble_eq_true rfl⟩) (fun z hz => ?_)
  subst hz
  refine lv_iconst (v := (-1)) hx hb dX0_isMoved_5 (by decide) ?_
  refine lv_icmp_eq (tgt := 13) hx hb dX0_isMoved_6 (by decide) (fun c_6 => ?_) (fun c_6 => ?_)
  · skip
    refine lv_iconst (v := 0) hx hb dX0_isMoved_13 (by decide) ?_
    exact W.zret (v := 0) hx hb hr rfl (fun t ht hW => ⟨0, rfl, (bI_f (fun q => q c_6)).symm, ht⟩) (fun q h => nomatch h) dX0_isMoved_14
  · skip
    refine lv_iconst (v := 1) hx hb dX0_isMoved_9 (by decide) ?_
    refine lv_goto (tgt := 14) hx hb dX0_isMoved_10 (by decide) ?_
    exact W.zret (v := 1) hx hb hr rfl (fun t ht hW => ⟨1, rfl, (bI_t (c_6)).symm, ht⟩) (fun q h => nomatch h) dX0_isMoved_14
set_option maxHeartbeats 4000000 in
set_option maxRecDepth 100000 in
/-- the first key -/
theorem c_X0_firstKeyOf (l : Launch) (D : va_G) (cA cZ cL : ClassId) (ad : Nat → Nat) (f : qFs) (g : qGs) (r : Int32) (nR : Nat) (nB : Nat) (hI : xI nR nB f) : Met l yX0_firstKeyOf wsX0_firstKeyOf ({ frames := 2, cells := 0, slots := 0, locals := 42 } : Room) (va_Pc [.ref (ad 16), .int r] (qPre D (qTy cA cZ cL) (xW cA ad f g))) (vp_Si (fun z => z = xFirst f g r)) 0 0 (fun _ => False) := by
  refine Met.ofW (cc := cX0_firstKeyOf) (maxL := 2) (ret := (some .int)) (by decide) rfl ?_
  intro p e s m args below meth c s₁ B hml hv
  obtain ⟨rfl, hP, hK⟩ := hv
  have hx := B.exec
  have hb := B.bytes
  have hr := B.returns
  have hts := atoms_spec (ws := wsX0_firstKeyOf) B.pre
  have hown : s.vm.findClass RX0 = some m.cls := findClass_of_methodNamed B.named
  have hlocks := B.notSynchronized
  have hfin : ∀ w ∈ wsX00, w ∈ wsX0_firstKeyOf := fun w h => (List.mem_cons_of_mem _ (List.mem_append_right _ h))
  have hl := lv_entry ([.ref (ad 16), .int r]) (n := 2) (Nat.le_of_ble_eq_true rfl)
  rw [lg_entry_eq]
  generalize (lg_sl ([.ref (ad 16), .int r]) ++ List.replicate (2 - (lg_sl ([.ref (ad 16), .int r])).length) Slot.unset).toArray = ls at hl ⊢
  have hl : lv_has ls 2 [(0, .ref (ad 16)), (1, .int r)] := hl
  refine lv_iload_n hx hb dX0_firstKeyOf_0 rfl (lv_at hl 1 rfl) ?_
  refine lv_if_ne (tgt := 8) hx hb dX0_firstKeyOf_1 (by decide) (fun c_1 => ?_) (fun c_1 => ?_)
  · skip
    refine lv_aload_n hx hb dX0_firstKeyOf_8 rfl (lv_at hl 0 rfl) ?_
    refine lv_iload_n hx hb dX0_firstKeyOf_9 rfl (lv_at hl 1 rfl) ?_
    refine lv_iconst (v := 1) hx hb dX0_firstKeyOf_10 (by decide) ?_
    refine lv_isub hx hb dX0_firstKeyOf_11 ?_
    refine vp_callSi (W.runV (As := [.int (r - 1)]) (rest := []) ⟨hx, hb, hml, hown, hts⟩ (c_X0_lastKeyOf l D cA cZ cL ad f g (r - 1) nR nB hI) (cwV 1 hts gX0_firstKeyOf_X0_lastKeyOf rfl rfl rfl (by decide +kernel) ⟨Nat.le_of_ble_eq_true rfl, Nat.le_of_ble_eq_true rfl⟩) ⟨qPre_blind, va_recv hK hP (ci := 0) (q0 := 0) rfl rfl, qPre_at hP hK⟩ rfl rfl hl.1 rfl (lv_room (Nat.le_of_ble_eq_true rfl)) dX0_firstKeyOf_12 ⟨Nat.le_of_ble_eq_true rfl, Nat.le_of_ble_eq_true rfl⟩) (fun z hz => ?_)
    subst hz
    refine lv_iconst (v := 1) hx hb dX0_firstKeyOf_15 (by decide) ?_
    refine lv_iadd hx hb dX0_firstKeyOf_16 ?_
    exact W.iret (v := (xLast f g (r - 1)) + 1) hx hb hr (fun t ht hW => ⟨(xLast f g (r - 1)) + 1, rfl, (by unfold xFirst; rw [if_neg c_1]), ht⟩) (fun q h => nomatch h) dX0_firstKeyOf_17
  · skip
    refine lv_iconst (v := 0) hx hb dX0_firstKeyOf_4 (by decide) ?_
    refine lv_goto (tgt := 17) hx hb dX0_firstKeyOf_5 (by decide) ?_
    exact W.iret (v := 0) hx hb hr (fun t ht hW => ⟨0, rfl, (by unfold xFirst; rw [if_pos c_1]), ht⟩) (fun q h => nomatch h) dX0_firstKeyOf_17
set_option maxHeartbeats 4000000 in
set_option maxRecDepth 100000 in
/-- the range that holds a key -/
theorem c_X0_rangeHolding (l : Launch) (D : va_G) (cA cZ cL : ClassId) (ad : Nat → Nat) (f : qFs) (g : qGs) (k : Int32) (nR : Nat) (nB : Nat) (hI : xI nR nB f) : Met l yX0_rangeHolding wsX0_rangeHolding ({ frames := 2, cells := 0, slots := 0, locals := 42 } : Room) (va_Pc [.ref (ad 16), .int k] (qPre D (qTy cA cZ cL) (xW cA ad f g))) (vp_Si (fun z => z = nI (xHold nR g k))) 0 0 (fun _ => False) := by
  refine Met.ofW (cc := cX0_rangeHolding) (maxL := 4) (ret := (some .int)) (by decide) rfl ?_
  intro p e s m args below meth c s₁ B hml hv
  obtain ⟨rfl, hP, hK⟩ := hv
  have hx := B.exec
  have hb := B.bytes
  have hr := B.returns
  have hts := atoms_spec (ws := wsX0_rangeHolding) B.pre
  have hown : s.vm.findClass RX0 = some m.cls := findClass_of_methodNamed B.named
  have hlocks := B.notSynchronized
  have hfin : ∀ w ∈ wsX00, w ∈ wsX0_rangeHolding := fun w h => (List.mem_cons_of_mem _ (List.mem_append_right _ h))
  have hl := lv_entry ([.ref (ad 16), .int k]) (n := 4) (Nat.le_of_ble_eq_true rfl)
  rw [lg_entry_eq]
  generalize (lg_sl ([.ref (ad 16), .int k]) ++ List.replicate (4 - (lg_sl ([.ref (ad 16), .int k])).length) Slot.unset).toArray = ls at hl ⊢
  have hl : lv_has ls 4 [(0, .ref (ad 16)), (1, .int k)] := hl
  have hR8 := hI.2.2.1
  refine lv_aload_n hx hb dX0_rangeHolding_0 rfl (lv_at hl 0 rfl) ?_
  refine va_get (D := D) (ci := 0) (v := .int (f 5)) (C := RX0) (T := TX0) (N := 16) hx hb hts hfin hown hK hP 0 rfl rfl 5 (by decide) (hts _ (List.mem_cons_of_mem _ (List.mem_append_left _ (List.mem_of_getElem? (i := 0) rfl)))) (fun _ h9 => h9) rfl dX0_rangeHolding_1 ?_
  refine lv_iconst (v := 1) hx hb dX0_rangeHolding_4 (by decide) ?_
  refine lv_isub hx hb dX0_rangeHolding_5 ?_
  refine lv_topi (fun v_5 hv_5 => ?_)
  have hv_5 : v_5 = nI (nR - 1) := hv_5.trans (x_R1 hI)
  subst hv_5
  refine lv_istore_n (lv' := [(2, .int (nI (nR - 1))), (0, .ref (ad 16)), (1, .int k)]) hx hb dX0_rangeHolding_6 rfl hl (by decide) rfl (fun ls hl => ?_)
  refine lv_iconst (v := 0) hx hb dX0_rangeHolding_7 (by decide) ?_
  refine lv_istore_n (lv' := [(3, .int 0), (2, .int (nI (nR - 1))), (0, .ref (ad 16)), (1, .int k)]) hx hb dX0_rangeHolding_8 rfl hl (by decide) rfl (fun ls hl => ?_)
  have hloop_9 : ∀ (nme : Nat) (i : Nat), nR - 1 - i = nme → (i ≤ nR - 1) → (xHoldN (g 2) k i (nR - 1 - i) = xHold nR g k) → ∀ ls : Array Slot, lv_has ls 4 [(0, .ref (ad 16)), (1, .int k), (2, .int (nI (nR - 1))), (3, .int (nI i))] → W p l e (headSpec wsX0_rangeHolding ({ frames := 2, cells := 0, slots := 0, locals := 42 } : Room)).room s m ([.ref (ad 16), .int k] : List Value).toArray below meth c s.heap [] 0 0 (MQ below (vp_Si (fun z => z = nI (xHold nR g k))) ([.ref (ad 16), .int k] : List Value).toArray s 0 0 (fun _ => False)) (F0 m 9 ls []) := by
    intro nme
    induction nme using Nat.strongRecOn with
    | ind nme ih =>
      intro i hnme hi hh ls hl
      refine lv_iload_n hx hb dX0_rangeHolding_9 rfl (lv_at hl 3 rfl) ?_
      refine lv_iload_n hx hb dX0_rangeHolding_10 rfl (lv_at hl 2 rfl) ?_
      refine lv_icmp_ge (tgt := 31) hx hb dX0_rangeHolding_11 (by decide) (fun c_11 => ?_) (fun c_11 => ?_)
      · skip
        have hge : nR - 1 ≤ i := n_ge c_11 (by omega) (by omega)
        refine lv_iload_n hx hb dX0_rangeHolding_31 rfl (lv_at hl 2 rfl) ?_
        exact W.iret (v := nI (nR - 1)) hx hb hr (fun t ht hW => ⟨nI (nR - 1), rfl, (by rw [← hh, xHold_e hge]; congr 1; omega), ht⟩) (fun q h => nomatch h) dX0_rangeHolding_32
      · skip
        have hlt : i < nR - 1 := n_lt c_11 (by omega)
        refine lv_iload_n hx hb dX0_rangeHolding_14 rfl (lv_at hl 1 rfl) ?_
        refine lv_aload_n hx hb dX0_rangeHolding_15 rfl (lv_at hl 0 rfl) ?_
        refine lv_iload_n hx hb dX0_rangeHolding_16 rfl (lv_at hl 3 rfl) ?_
        refine vp_callSi (W.runV (As := [.int (nI i)]) (rest := [.int k]) ⟨hx, hb, hml, hown, hts⟩ (c_X0_lastKeyOf l D cA cZ cL ad f g (nI i) nR nB hI) (cwV 1 hts gX0_rangeHolding_X0_lastKeyOf rfl rfl rfl (by decide +kernel) ⟨Nat.le_of_ble_eq_true rfl, Nat.le_of_ble_eq_true rfl⟩) ⟨qPre_blind, va_recv hK hP (ci := 0) (q0 := 0) rfl rfl, qPre_at hP hK⟩ rfl rfl hl.1 rfl (lv_room (Nat.le_of_ble_eq_true rfl)) dX0_rangeHolding_17 ⟨Nat.le_of_ble_eq_true rfl, Nat.le_of_ble_eq_true rfl⟩) (fun z hz => ?_)
        subst hz
        refine lv_topi (fun v_17 hv_17 => ?_)
        have hv_17 : v_17 = g 2 i := hv_17.trans (x_lastAt hI.1 hR8 (by omega))
        subst hv_17
        refine lv_icmp_gt (tgt := 25) hx hb dX0_rangeHolding_20 (by decide) (fun c_20 => ?_) (fun c_20 => ?_)
        · skip
          refine lv_iinc (v := nI (i + 1)) (lv' := [(3, .int (nI (i + 1))), (0, .ref (ad 16)), (1, .int k), (2, .int (nI (nR - 1)))]) hx hb dX0_rangeHolding_25 hl (k := 3) rfl (nI_1 i) (by decide) rfl (fun ls hl => ?_)
          refine lv_goto (tgt := 9) hx hb dX0_rangeHolding_28 (by decide) ?_
          exact ih _ (by omega) (i + 1) rfl (by omega) (by rw [← hh]; exact (xHold_n hlt (fa_of_lt c_20).2.1).symm) _ (lv_sub hl [1, 2, 3, 0] rfl)
        · skip
          refine lv_iload_n hx hb dX0_rangeHolding_23 rfl (lv_at hl 3 rfl) ?_
          exact W.iret (v := nI i) hx hb hr (fun t ht hW => ⟨nI i, rfl, (by rw [← hh, xHold_y hlt (fa_of_nlt c_20)]), ht⟩) (fun q h => nomatch h) dX0_rangeHolding_24
  exact hloop_9 _ 0 rfl (Nat.zero_le _) rfl _ (lv_sub hl [2, 3, 1, 0] rfl)
set_option maxHeartbeats 4000000 in
set_option maxRecDepth 100000 in
/-- the address at a key -/
theorem c_X0_read (l : Launch) (D : va_G) (cA cZ cL : ClassId) (ad : Nat → Nat) (f : qFs) (g : qGs) (k : Int32) (nR : Nat) (nB : Nat) (hI : xI nR nB f) : Met l yX0_read wsX0_read ({ frames := 3, cells := 0, slots := 0, locals := 65 } : Room) (va_Pc [.ref (ad 16), .int k] (qPre D (qTy cA cZ cL) (xW cA ad f g))) (vp_Si (fun z => z = xRead nR f g k)) 0 0 (fun _ => False) := by
  refine Met.ofW (cc := cX0_read) (maxL := 2) (ret := (some .int)) (by decide) rfl ?_
  intro p e s m args below meth c s₁ B hml hv
  obtain ⟨rfl, hP, hK⟩ := hv
  have hx := B.exec
  have hb := B.bytes
  have hr := B.returns
  have hts := atoms_spec (ws := wsX0_read) B.pre
  have hown : s.vm.findClass RX0 = some m.cls := findClass_of_methodNamed B.named
  have hlocks := B.notSynchronized
  have hfin : ∀ w ∈ wsX00, w ∈ wsX0_read := fun w h => (List.mem_cons_of_mem _ (List.mem_append_right _ h))
  have hl := lv_entry ([.ref (ad 16), .int k]) (n := 2) (Nat.le_of_ble_eq_true rfl)
  rw [lg_entry_eq]
  generalize (lg_sl ([.ref (ad 16), .int k]) ++ List.replicate (2 - (lg_sl ([.ref (ad 16), .int k])).length) Slot.unset).toArray = ls at hl ⊢
  have hl : lv_has ls 2 [(0, .ref (ad 16)), (1, .int k)] := hl
  refine lv_aload_n hx hb dX0_read_0 rfl (lv_at hl 0 rfl) ?_
  refine lv_aload_n hx hb dX0_read_1 rfl (lv_at hl 0 rfl) ?_
  refine lv_aload_n hx hb dX0_read_2 rfl (lv_at hl 0 rfl) ?_
  refine lv_iload_n hx hb dX0_read_3 rfl (lv_at hl 1 rfl) ?_
  refine vp_callSi (W.runV (As := [.int k]) (rest := [.ref (ad 16), .ref (ad 16)]) ⟨hx, hb, hml, hown, hts⟩ (c_X0_rangeHolding l D cA cZ cL ad f g k nR nB hI) (cwV 1 hts gX0_read_X0_rangeHolding rfl rfl rfl (by decide +kernel) ⟨Nat.le_of_ble_eq_true rfl, Nat.le_of_ble_eq_true rfl⟩) ⟨qPre_blind, va_recv hK hP (ci := 0) (q0 := 0) rfl rfl, qPre_at hP hK⟩ rfl rfl hl.1 rfl (lv_room (Nat.le_of_ble_eq_true rfl)) dX0_read_4 ⟨Nat.le_of_ble_eq_true rfl, Nat.le_of_ble_eq_true rfl⟩) (fun z hz => ?_)
  subst hz
  refine vp_callSi (W.runV (As := [.int (nI (xHold nR g k))]) (rest := [.ref (ad 16)]) ⟨hx, hb, hml, hown, hts⟩ (c_X0_homeOf l D cA cZ cL ad f g (nI (xHold nR g k)) nR nB hI) (cwV 1 hts gX0_read_X0_homeOf rfl rfl rfl (by decide +kernel) ⟨Nat.le_of_ble_eq_true rfl, Nat.le_of_ble_eq_true rfl⟩) ⟨qPre_blind, va_recv hK hP (ci := 0) (q0 := 0) rfl rfl, qPre_at hP hK⟩ rfl rfl hl.1 rfl (lv_room (Nat.le_of_ble_eq_true rfl)) dX0_read_7 ⟨Nat.le_of_ble_eq_true rfl, Nat.le_of_ble_eq_true rfl⟩) (fun z hz => ?_)
  subst hz
  refine lv_iload_n hx hb dX0_read_10 rfl (lv_at hl 1 rfl) ?_
  refine vp_callSi (W.runV (As := [.int (xHome f g (nI (xHold nR g k))), .int k]) (rest := []) ⟨hx, hb, hml, hown, hts⟩ (c_X0_rowOf l D cA cZ cL ad f g (xHome f g (nI (xHold nR g k))) k) (cwV 2 hts gX0_read_X0_rowOf rfl rfl rfl (by decide +kernel) ⟨Nat.le_of_ble_eq_true rfl, Nat.le_of_ble_eq_true rfl⟩) ⟨qPre_blind, va_recv hK hP (ci := 0) (q0 := 0) rfl rfl, qPre_at hP hK⟩ rfl rfl hl.1 rfl (lv_room (Nat.le_of_ble_eq_true rfl)) dX0_read_11 ⟨Nat.le_of_ble_eq_true rfl, Nat.le_of_ble_eq_true rfl⟩) (fun z hz => ?_)
  subst hz
  exact W.iret (v := xRowOf g (xHome f g (nI (xHold nR g k))) k) hx hb hr (fun t ht hW => ⟨xRowOf g (xHome f g (nI (xHold nR g k))) k, rfl, rfl, ht⟩) (fun q h => nomatch h) dX0_read_14
set_option maxHeartbeats 4000000 in
set_option maxRecDepth 100000 in
/-- is there a member -/
theorem c_X0_isMember (l : Launch) (D : va_G) (cA cZ cL : ClassId) (ad : Nat → Nat) (f : qFs) (g : qGs) (k : Int32) (nR : Nat) (nB : Nat) (hI : xI nR nB f) : Met l yX0_isMember wsX0_isMember ({ frames := 4, cells := 0, slots := 0, locals := 86 } : Room) (va_Pc [.ref (ad 16), .int k] (qPre D (qTy cA cZ cL) (xW cA ad f g))) (vp_Si (fun z => z = bI (¬ xRead nR f g k = -1))) 0 0 (fun _ => False) := by
  refine Met.ofW (cc := cX0_isMember) (maxL := 2) (ret := (some .boolean)) (by decide) rfl ?_
  intro p e s m args below meth c s₁ B hml hv
  obtain ⟨rfl, hP, hK⟩ := hv
  have hx := B.exec
  have hb := B.bytes
  have hr := B.returns
  have hts := atoms_spec (ws := wsX0_isMember) B.pre
  have hown : s.vm.findClass RX0 = some m.cls := findClass_of_methodNamed B.named
  have hlocks := B.notSynchronized
  have hfin : ∀ w ∈ wsX00, w ∈ wsX0_isMember := fun w h => (List.mem_cons_of_mem _ (List.mem_append_right _ h))
  have hl := lv_entry ([.ref (ad 16), .int k]) (n := 2) (Nat.le_of_ble_eq_true rfl)
  rw [lg_entry_eq]
  generalize (lg_sl ([.ref (ad 16), .int k]) ++ List.replicate (2 - (lg_sl ([.ref (ad 16), .int k])).length) Slot.unset).toArray = ls at hl ⊢
  have hl : lv_has ls 2 [(0, .ref (ad 16)), (1, .int k)] := hl
  refine lv_aload_n hx hb dX0_isMember_0 rfl (lv_at hl 0 rfl) ?_
  refine lv_iload_n hx hb dX0_isMember_1 rfl (lv_at hl 1 rfl) ?_
  refine vp_callSi (W.runV (As := [.int k]) (rest := []) ⟨hx, hb, hml, hown, hts⟩ (c_X0_read l D cA cZ cL ad f g k nR nB hI) (cwV 1 hts gX0_isMember_X0_read rfl rfl rfl (by decide +kernel) ⟨Nat.le_of_ble_eq_true rfl, Nat.le_of_ble_eq_true rfl⟩) ⟨qPre_blind, va_recv hK hP (ci := 0) (q0 := 0) rfl rfl, qPre_at hP hK⟩ rfl rfl hl.1 rfl (lv_room (Nat.le_of_ble_eq_true rfl)) dX0_isMember_2 ⟨Nat.le_of_ble_eq_true rfl, Nat.le_of_ble_eq_true rfl⟩) (fun z hz => ?_)
  subst hz
  refine lv_iconst (v := (-1)) hx hb dX0_isMember_5 (by decide) ?_
  refine lv_icmp_eq (tgt := 13) hx hb dX0_isMember_6 (by decide) (fun c_6 => ?_) (fun c_6 => ?_)
  · skip
    refine lv_iconst (v := 0) hx hb dX0_isMember_13 (by decide) ?_
    exact W.zret (v := 0) hx hb hr rfl (fun t ht hW => ⟨0, rfl, (bI_f (fun q => q c_6)).symm, ht⟩) (fun q h => nomatch h) dX0_isMember_14
  · skip
    refine lv_iconst (v := 1) hx hb dX0_isMember_9 (by decide) ?_
    refine lv_goto (tgt := 14) hx hb dX0_isMember_10 (by decide) ?_
    exact W.zret (v := 1) hx hb hr rfl (fun t ht hW => ⟨1, rfl, (bI_t (c_6)).symm, ht⟩) (fun q h => nomatch h) dX0_isMember_14
set_option maxHeartbeats 4000000 in
set_option maxRecDepth 100000 in
/-- how many rows a shard has from a key to another -/
theorem c_X0_countRows (l : Launch) (D : va_G) (cA cZ cL : ClassId) (ad : Nat → Nat) (f : qFs) (g : qGs) (sh : Int32) (lst : Int32) (lo : Nat) (hlo : lo ≤ 100) : Met l yX0_countRows wsX0_countRows ({ frames := 2, cells := 0, slots := 0, locals := 42 } : Room) (va_Pc [.ref (ad 16), .int sh, .int (nI lo), .int lst] (qPre D (qTy cA cZ cL) (xW cA ad f g))) (vp_Si (fun z => z = nI (cnt (xRowP g sh) lo (hiOf lst)))) 0 0 (fun _ => False) := by
  refine Met.ofW (cc := cX0_countRows) (maxL := 6) (ret := (some .int)) (by decide) rfl ?_
  intro p e s m args below meth c s₁ B hml hv
  obtain ⟨rfl, hP, hK⟩ := hv
  have hx := B.exec
  have hb := B.bytes
  have hr := B.returns
  have hts := atoms_spec (ws := wsX0_countRows) B.pre
  have hown : s.vm.findClass RX0 = some m.cls := findClass_of_methodNamed B.named
  have hlocks := B.notSynchronized
  have hfin : ∀ w ∈ wsX00, w ∈ wsX0_countRows := fun w h => (List.mem_cons_of_mem _ (List.mem_append_right _ h))
  have hl := lv_entry ([.ref (ad 16), .int sh, .int (nI lo), .int lst]) (n := 6) (Nat.le_of_ble_eq_true rfl)
  rw [lg_entry_eq]
  generalize (lg_sl ([.ref (ad 16), .int sh, .int (nI lo), .int lst]) ++ List.replicate (6 - (lg_sl ([.ref (ad 16), .int sh, .int (nI lo), .int lst])).length) Slot.unset).toArray = ls at hl ⊢
  have hl : lv_has ls 6 [(0, .ref (ad 16)), (1, .int sh), (2, .int (nI lo)), (3, .int lst)] := hl
  refine lv_iconst (v := 0) hx hb dX0_countRows_0 (by decide) ?_
  refine lv_istore (lv' := [(4, .int 0), (0, .ref (ad 16)), (1, .int sh), (2, .int (nI lo)), (3, .int lst)]) hx hb dX0_countRows_1 hl (by decide) rfl (fun ls hl => ?_)
  refine lv_iload_n hx hb dX0_countRows_3 rfl (lv_at hl 3 rfl) ?_
  refine lv_istore (lv' := [(5, .int (nI lo)), (4, .int 0), (0, .ref (ad 16)), (1, .int sh), (2, .int (nI lo)), (3, .int lst)]) hx hb dX0_countRows_4 hl (by decide) rfl (fun ls hl => ?_)
  have hloop_6 : ∀ (nme : Nat) (k : Nat) (acc : Nat), 100 - k = nme → (k ≤ 100) → (acc + cnt (xRowP g sh) k (hiOf lst) = cnt (xRowP g sh) lo (hiOf lst)) → ∀ ls : Array Slot, lv_has ls 6 [(0, .ref (ad 16)), (1, .int sh), (2, .int (nI lo)), (3, .int lst), (4, .int (nI acc)), (5, .int (nI k))] → W p l e (headSpec wsX0_countRows ({ frames := 2, cells := 0, slots := 0, locals := 42 } : Room)).room s m ([.ref (ad 16), .int sh, .int (nI lo), .int lst] : List Value).toArray below meth c s.heap [] 0 0 (MQ below (vp_Si (fun z => z = nI (cnt (xRowP g sh) lo (hiOf lst)))) ([.ref (ad 16), .int sh, .int (nI lo), .int lst] : List Value).toArray s 0 0 (fun _ => False)) (F0 m 6 ls []) := by
    intro nme
    induction nme using Nat.strongRecOn with
    | ind nme ih =>
      intro k acc hnme hk hc ls hl
      refine lv_iload hx hb dX0_countRows_6 (lv_at hl 5 rfl) ?_
      refine lv_iload_n hx hb dX0_countRows_8 rfl (lv_at hl 3 rfl) ?_
      refine lv_icmp_gt (tgt := 39) hx hb dX0_countRows_9 (by decide) (fun c_9 => ?_) (fun c_9 => ?_)
      · skip
        have hge := hi_out c_9 (by omega)
        refine lv_iload hx hb dX0_countRows_39 (lv_at hl 4 rfl) ?_
        exact W.iret (v := nI acc) hx hb hr (fun t ht hW => ⟨nI acc, rfl, (by rw [← hc, cnt_end hge]; rfl), ht⟩) (fun q h => nomatch h) dX0_countRows_41
      · skip
        refine lv_iload hx hb dX0_countRows_12 (lv_at hl 5 rfl) ?_
        refine lv_bipush (v := 100) hx hb dX0_countRows_14 (by decide) ?_
        refine lv_icmp_ge (tgt := 39) hx hb dX0_countRows_16 (by decide) (fun c_16 => ?_) (fun c_16 => ?_)
        · skip
          have hge : hiOf lst ≤ k := Nat.le_trans (hi_le lst) (n_ge (a := k) (b := 100) c_16 (by omega) (by decide))
          refine lv_iload hx hb dX0_countRows_39 (lv_at hl 4 rfl) ?_
          exact W.iret (v := nI acc) hx hb hr (fun t ht hW => ⟨nI acc, rfl, (by rw [← hc, cnt_end hge]; rfl), ht⟩) (fun q h => nomatch h) dX0_countRows_41
        · skip
          have hlt := hi_in c_9 c_16 (by omega)
          have hl1 := hi_le lst
          refine lv_aload_n hx hb dX0_countRows_19 rfl (lv_at hl 0 rfl) ?_
          refine lv_iload_n hx hb dX0_countRows_20 rfl (lv_at hl 1 rfl) ?_
          refine lv_iload hx hb dX0_countRows_21 (lv_at hl 5 rfl) ?_
          refine vp_callSi (W.runV (As := [.int sh, .int (nI k)]) (rest := []) ⟨hx, hb, hml, hown, hts⟩ (c_X0_rowOf l D cA cZ cL ad f g sh (nI k)) (cwV 2 hts gX0_countRows_X0_rowOf rfl rfl rfl (by decide +kernel) ⟨Nat.le_of_ble_eq_true rfl, Nat.le_of_ble_eq_true rfl⟩) ⟨qPre_blind, va_recv hK hP (ci := 0) (q0 := 0) rfl rfl, qPre_at hP hK⟩ rfl rfl hl.1 rfl (lv_room (Nat.le_of_ble_eq_true rfl)) dX0_countRows_23 ⟨Nat.le_of_ble_eq_true rfl, Nat.le_of_ble_eq_true rfl⟩) (fun z hz => ?_)
          subst hz
          refine lv_iconst (v := (-1)) hx hb dX0_countRows_26 (by decide) ?_
          refine lv_icmp_eq (tgt := 33) hx hb dX0_countRows_27 (by decide) (fun c_27 => ?_) (fun c_27 => ?_)
          · skip
            refine lv_iinc (v := nI (k + 1)) (lv' := [(5, .int (nI (k + 1))), (0, .ref (ad 16)), (1, .int sh), (2, .int (nI lo)), (3, .int lst), (4, .int (nI acc))]) hx hb dX0_countRows_33 hl (k := 5) rfl (nI_1 k) (by decide) rfl (fun ls hl => ?_)
            refine lv_goto (tgt := 6) hx hb dX0_countRows_36 (by decide) ?_
            exact ih _ (by omega) (k + 1) acc rfl (by omega) (by rw [← hc, cnt_n hlt (df (fun q => q c_27))]) _ (lv_sub hl [1, 2, 3, 4, 5, 0] rfl)
          · skip
            refine lv_iinc (v := nI (acc + 1)) (lv' := [(4, .int (nI (acc + 1))), (0, .ref (ad 16)), (1, .int sh), (2, .int (nI lo)), (3, .int lst), (5, .int (nI k))]) hx hb dX0_countRows_30 hl (k := 4) rfl (nI_1 acc) (by decide) rfl (fun ls hl => ?_)
            refine lv_iinc (v := nI (k + 1)) (lv' := [(5, .int (nI (k + 1))), (4, .int (nI (acc + 1))), (0, .ref (ad 16)), (1, .int sh), (2, .int (nI lo)), (3, .int lst)]) hx hb dX0_countRows_33 hl (k := 5) rfl (nI_1 k) (by decide) rfl (fun ls hl => ?_)
            refine lv_goto (tgt := 6) hx hb dX0_countRows_36 (by decide) ?_
            exact ih _ (by omega) (k + 1) (acc + 1) rfl (by omega) (by rw [← hc, cnt_y hlt (dt c_27)]; omega) _ (lv_sub hl [2, 3, 4, 5, 1, 0] rfl)
  exact hloop_6 _ lo 0 rfl hlo (Nat.zero_add _) _ (lv_sub hl [2, 3, 4, 5, 1, 0] rfl)
set_option maxHeartbeats 4000000 in
set_option maxRecDepth 100000 in
/-- is a ballot of the open vote -/
theorem c_X0_isOfOpenVote (l : Launch) (D : va_G) (cA cZ cL : ClassId) (ad : Nat → Nat) (f : qFs) (g : qGs) (b : Int32) (nR : Nat) (nB : Nat) (hI : xI nR nB f) : Met l yX0_isOfOpenVote wsX0_isOfOpenVote ({ frames := 1, cells := 0, slots := 0, locals := 21 } : Room) (va_Pc [.ref (ad 16), .int b] (qPre D (qTy cA cZ cL) (xW cA ad f g))) (vp_Si (fun z => z = bI (xOpen f g b))) 0 0 (fun _ => False) := by
  refine Met.ofW (cc := cX0_isOfOpenVote) (maxL := 2) (ret := (some .boolean)) (by decide) rfl ?_
  intro p e s m args below meth c s₁ B hml hv
  obtain ⟨rfl, hP, hK⟩ := hv
  have hx := B.exec
  have hb := B.bytes
  have hr := B.returns
  have hts := atoms_spec (ws := wsX0_isOfOpenVote) B.pre
  have hown : s.vm.findClass RX0 = some m.cls := findClass_of_methodNamed B.named
  have hlocks := B.notSynchronized
  have hfin : ∀ w ∈ wsX00, w ∈ wsX0_isOfOpenVote := fun w h => (List.mem_cons_of_mem _ (List.mem_append_right _ h))
  have hl := lv_entry ([.ref (ad 16), .int b]) (n := 2) (Nat.le_of_ble_eq_true rfl)
  rw [lg_entry_eq]
  generalize (lg_sl ([.ref (ad 16), .int b]) ++ List.replicate (2 - (lg_sl ([.ref (ad 16), .int b])).length) Slot.unset).toArray = ls at hl ⊢
  have hl : lv_has ls 2 [(0, .ref (ad 16)), (1, .int b)] := hl
  refine lv_aload_n hx hb dX0_isOfOpenVote_0 rfl (lv_at hl 0 rfl) ?_
  refine va_get (D := D) (ci := 0) (v := .int (f 7)) (C := RX0) (T := TX0) (N := 16) hx hb hts hfin hown hK hP 0 rfl rfl 7 (by decide) (hts _ (List.mem_cons_of_mem _ (List.mem_append_left _ (List.mem_of_getElem? (i := 0) rfl)))) (fun _ h9 => h9) rfl dX0_isOfOpenVote_1 ?_
  refine lv_if_eq (tgt := 32) hx hb dX0_isOfOpenVote_4 (by decide) (fun c_4 => ?_) (fun c_4 => ?_)
  · skip
    refine lv_iconst (v := 0) hx hb dX0_isOfOpenVote_32 (by decide) ?_
    exact W.zret (v := 0) hx hb hr rfl (fun t ht hW => ⟨0, rfl, (bI_f (fun q => q.1 c_4)).symm, ht⟩) (fun q h => nomatch h) dX0_isOfOpenVote_33
  · skip
    refine lv_aload_n hx hb dX0_isOfOpenVote_7 rfl (lv_at hl 0 rfl) ?_
    refine lv_iload_n hx hb dX0_isOfOpenVote_8 rfl (lv_at hl 1 rfl) ?_
    refine vp_callSi (W.runV (As := [.int b]) (rest := []) ⟨hx, hb, hml, hown, hts⟩ (c_X0_isBallot l D cA cZ cL ad f g b) (cwV 1 hts gX0_isOfOpenVote_X0_isBallot rfl rfl rfl (by decide +kernel) ⟨Nat.le_of_ble_eq_true rfl, Nat.le_of_ble_eq_true rfl⟩) ⟨qPre_blind, va_recv hK hP (ci := 0) (q0 := 0) rfl rfl, qPre_at hP hK⟩ rfl rfl hl.1 rfl (lv_room (Nat.le_of_ble_eq_true rfl)) dX0_isOfOpenVote_9 ⟨Nat.le_of_ble_eq_true rfl, Nat.le_of_ble_eq_true rfl⟩) (fun z hz => ?_)
    subst hz
    refine lv_if_eq (tgt := 32) hx hb dX0_isOfOpenVote_12 (by decide) (fun c_12 => ?_) (fun c_12 => ?_)
    · have c_12 := bI_0.mp c_12
      refine lv_iconst (v := 0) hx hb dX0_isOfOpenVote_32 (by decide) ?_
      exact W.zret (v := 0) hx hb hr rfl (fun t ht hW => ⟨0, rfl, (bI_f (fun q => c_12 q.2.1)).symm, ht⟩) (fun q h => nomatch h) dX0_isOfOpenVote_33
    · have c_12 := bI_n.mp c_12
      refine lv_aload_n hx hb dX0_isOfOpenVote_15 rfl (lv_at hl 0 rfl) ?_
      refine va_get (D := D) (ci := 0) (v := .ref (ad 10)) (C := RX0) (T := TX0) (N := 16) hx hb hts hfin hown hK hP 0 rfl rfl 10 (by decide) (hts _ (List.mem_cons_of_mem _ (List.mem_append_left _ (List.mem_of_getElem? (i := 1) rfl)))) (fun _ h9 => h9) rfl dX0_isOfOpenVote_16 ?_
      refine lv_iload_n hx hb dX0_isOfOpenVote_19 rfl (lv_at hl 1 rfl) ?_
      refine va_iald hx hb hK hP 7 0 rfl rfl (x_in60 hI c_12) dX0_isOfOpenVote_20 ?_
      refine lv_aload_n hx hb dX0_isOfOpenVote_21 rfl (lv_at hl 0 rfl) ?_
      refine va_get (D := D) (ci := 0) (v := .int (f 8)) (C := RX0) (T := TX0) (N := 16) hx hb hts hfin hown hK hP 0 rfl rfl 8 (by decide) (hts _ (List.mem_cons_of_mem _ (List.mem_append_left _ (List.mem_of_getElem? (i := 2) rfl)))) (fun _ h9 => h9) rfl dX0_isOfOpenVote_22 ?_
      refine lv_icmp_ne (tgt := 32) hx hb dX0_isOfOpenVote_25 (by decide) (fun c_25 => ?_) (fun c_25 => ?_)
      · skip
        refine lv_iconst (v := 0) hx hb dX0_isOfOpenVote_32 (by decide) ?_
        exact W.zret (v := 0) hx hb hr rfl (fun t ht hW => ⟨0, rfl, (bI_f (fun q => c_25 q.2.2)).symm, ht⟩) (fun q h => nomatch h) dX0_isOfOpenVote_33
      · skip
        refine lv_iconst (v := 1) hx hb dX0_isOfOpenVote_28 (by decide) ?_
        refine lv_goto (tgt := 33) hx hb dX0_isOfOpenVote_29 (by decide) ?_
        exact W.zret (v := 1) hx hb hr rfl (fun t ht hW => ⟨1, rfl, (bI_t (⟨c_4, c_12, c_25⟩)).symm, ht⟩) (fun q h => nomatch h) dX0_isOfOpenVote_33
set_option maxHeartbeats 4000000 in
set_option maxRecDepth 100000 in
/-- the latest ballot to a key -/
theorem c_X0_latestBallotTo (l : Launch) (D : va_G) (cA cZ cL : ClassId) (ad : Nat → Nat) (f : qFs) (g : qGs) (k : Int32) (nR : Nat) (nB : Nat) (hI : xI nR nB f) : Met l yX0_latestBallotTo wsX0_latestBallotTo ({ frames := 2, cells := 0, slots := 0, locals := 42 } : Room) (va_Pc [.ref (ad 16), .int k] (qPre D (qTy cA cZ cL) (xW cA ad f g))) (vp_Si (fun z => z = xLatN (xLatP f g k) nB)) 0 0 (fun _ => False) := by
  refine Met.ofW (cc := cX0_latestBallotTo) (maxL := 3) (ret := (some .int)) (by decide) rfl ?_
  intro p e s m args below meth c s₁ B hml hv
  obtain ⟨rfl, hP, hK⟩ := hv
  have hx := B.exec
  have hb := B.bytes
  have hr := B.returns
  have hts := atoms_spec (ws := wsX0_latestBallotTo) B.pre
  have hown : s.vm.findClass RX0 = some m.cls := findClass_of_methodNamed B.named
  have hlocks := B.notSynchronized
  have hfin : ∀ w ∈ wsX00, w ∈ wsX0_latestBallotTo := fun w h => (List.mem_cons_of_mem _ (List.mem_append_right _ h))
  have hl := lv_entry ([.ref (ad 16), .int k]) (n := 3) (Nat.le_of_ble_eq_true rfl)
  rw [lg_entry_eq]
  generalize (lg_sl ([.ref (ad 16), .int k]) ++ List.replicate (3 - (lg_sl ([.ref (ad 16), .int k])).length) Slot.unset).toArray = ls at hl ⊢
  have hl : lv_has ls 3 [(0, .ref (ad 16)), (1, .int k)] := hl
  have hB6 := hI.2.2.2.2
  refine lv_aload_n hx hb dX0_latestBallotTo_0 rfl (lv_at hl 0 rfl) ?_
  refine va_get (D := D) (ci := 0) (v := .int (f 15)) (C := RX0) (T := TX0) (N := 16) hx hb hts hfin hown hK hP 0 rfl rfl 15 (by decide) (hts _ (List.mem_cons_of_mem _ (List.mem_append_left _ (List.mem_of_getElem? (i := 0) rfl)))) (fun _ h9 => h9) rfl dX0_latestBallotTo_1 ?_
  refine lv_iconst (v := 1) hx hb dX0_latestBallotTo_4 (by decide) ?_
  refine lv_isub hx hb dX0_latestBallotTo_5 ?_
  refine lv_topi (fun v_5 hv_5 => ?_)
  have hv_5 : v_5 = nI nB - 1 := hv_5.trans (x_B1 hI)
  subst hv_5
  refine lv_istore_n (lv' := [(2, .int (nI nB - 1)), (0, .ref (ad 16)), (1, .int k)]) hx hb dX0_latestBallotTo_6 rfl hl (by decide) rfl (fun ls hl => ?_)
  have hloop_7 : ∀ (nme : Nat) (i : Nat), i = nme → (i ≤ 60) → (xLatN (xLatP f g k) i = xLatN (xLatP f g k) nB) → ∀ ls : Array Slot, lv_has ls 3 [(0, .ref (ad 16)), (1, .int k), (2, .int (nI i - 1))] → W p l e (headSpec wsX0_latestBallotTo ({ frames := 2, cells := 0, slots := 0, locals := 42 } : Room)).room s m ([.ref (ad 16), .int k] : List Value).toArray below meth c s.heap [] 0 0 (MQ below (vp_Si (fun z => z = xLatN (xLatP f g k) nB)) ([.ref (ad 16), .int k] : List Value).toArray s 0 0 (fun _ => False)) (F0 m 7 ls []) := by
    intro nme
    induction nme using Nat.strongRecOn with
    | ind nme ih =>
      intro i hnme hi hh ls hl
      refine lv_iload_n hx hb dX0_latestBallotTo_7 rfl (lv_at hl 2 rfl) ?_
      refine lv_if_lt (tgt := 37) hx hb dX0_latestBallotTo_8 (by decide) (fun c_8 => ?_) (fun c_8 => ?_)
      · skip
        have h0 := latN_out hi c_8
        subst h0
        refine lv_iconst (v := (-1)) hx hb dX0_latestBallotTo_37 (by decide) ?_
        exact W.iret (v := (-1)) hx hb hr (fun t ht hW => ⟨(-1), rfl, hh, ht⟩) (fun q h => nomatch h) dX0_latestBallotTo_38
      · skip
        obtain ⟨j, rfl⟩ := latN_in c_8
        rw [nI_pred] at hl
        refine lv_aload_n hx hb dX0_latestBallotTo_11 rfl (lv_at hl 0 rfl) ?_
        refine lv_iload_n hx hb dX0_latestBallotTo_12 rfl (lv_at hl 2 rfl) ?_
        refine vp_callSi (W.runV (As := [.int (nI j)]) (rest := []) ⟨hx, hb, hml, hown, hts⟩ (c_X0_isOfOpenVote l D cA cZ cL ad f g (nI j) nR nB hI) (cwV 1 hts gX0_latestBallotTo_X0_isOfOpenVote rfl rfl rfl (by decide +kernel) ⟨Nat.le_of_ble_eq_true rfl, Nat.le_of_ble_eq_true rfl⟩) ⟨qPre_blind, va_recv hK hP (ci := 0) (q0 := 0) rfl rfl, qPre_at hP hK⟩ rfl rfl hl.1 rfl (lv_room (Nat.le_of_ble_eq_true rfl)) dX0_latestBallotTo_13 ⟨Nat.le_of_ble_eq_true rfl, Nat.le_of_ble_eq_true rfl⟩) (fun z hz => ?_)
        subst hz
        refine lv_if_eq (tgt := 31) hx hb dX0_latestBallotTo_16 (by decide) (fun c_16 => ?_) (fun c_16 => ?_)
        · have c_16 := bI_0.mp c_16
          refine lv_iinc (v := nI j - 1) (lv' := [(2, .int (nI j - 1)), (0, .ref (ad 16)), (1, .int k)]) hx hb dX0_latestBallotTo_31 hl (k := 2) rfl (i_m1 _) (by decide) rfl (fun ls hl => ?_)
          refine lv_goto (tgt := 7) hx hb dX0_latestBallotTo_34 (by decide) ?_
          exact ih _ (by omega) j rfl (by omega) (by rw [← hh]; show _ = (if _ then _ else _); rw [if_neg (df (fun q => c_16 q.1))]) _ (lv_sub hl [1, 2, 0] rfl)
        · have c_16 := bI_n.mp c_16
          refine lv_aload_n hx hb dX0_latestBallotTo_19 rfl (lv_at hl 0 rfl) ?_
          refine va_get (D := D) (ci := 0) (v := .ref (ad 9)) (C := RX0) (T := TX0) (N := 16) hx hb hts hfin hown hK hP 0 rfl rfl 9 (by decide) (hts _ (List.mem_cons_of_mem _ (List.mem_append_left _ (List.mem_of_getElem? (i := 1) rfl)))) (fun _ h9 => h9) rfl dX0_latestBallotTo_20 ?_
          refine lv_iload_n hx hb dX0_latestBallotTo_23 rfl (lv_at hl 2 rfl) ?_
          refine va_iald hx hb hK hP 6 0 rfl rfl (vp_in_nI (by omega) (by decide)) dX0_latestBallotTo_24 ?_
          refine lv_topi (fun v_24 hv_24 => ?_)
          have hv_24 : v_24 = g 9 j := hv_24.trans (by rw [nI_clamp (by omega)])
          subst hv_24
          refine lv_iload_n hx hb dX0_latestBallotTo_25 rfl (lv_at hl 1 rfl) ?_
          refine lv_icmp_ne (tgt := 31) hx hb dX0_latestBallotTo_26 (by decide) (fun c_26 => ?_) (fun c_26 => ?_)
          · skip
            refine lv_iinc (v := nI j - 1) (lv' := [(2, .int (nI j - 1)), (0, .ref (ad 16)), (1, .int k)]) hx hb dX0_latestBallotTo_31 hl (k := 2) rfl (i_m1 _) (by decide) rfl (fun ls hl => ?_)
            refine lv_goto (tgt := 7) hx hb dX0_latestBallotTo_34 (by decide) ?_
            exact ih _ (by omega) j rfl (by omega) (by rw [← hh]; show _ = (if _ then _ else _); rw [if_neg (df (fun q => c_26 q.2))]) _ (lv_sub hl [1, 2, 0] rfl)
          · skip
            refine lv_iload_n hx hb dX0_latestBallotTo_29 rfl (lv_at hl 2 rfl) ?_
            exact W.iret (v := nI j) hx hb hr (fun t ht hW => ⟨nI j, rfl, (by rw [← hh]; show _ = (if _ then _ else _); rw [if_pos (dt ⟨c_16, c_26⟩)]), ht⟩) (fun q h => nomatch h) dX0_latestBallotTo_30
  exact hloop_7 _ nB rfl hB6 rfl _ (lv_sub hl [1, 2, 0] rfl)
set_option maxHeartbeats 4000000 in
set_option maxRecDepth 100000 in
/-- the lowest key of a moved range whose row has not been brought -/
theorem c_X0_lowestKeyNotBrought (l : Launch) (D : va_G) (cA cZ cL : ClassId) (ad : Nat → Nat) (f : qFs) (g : qGs) (r : Int32) (nR : Nat) (nB : Nat) (hI : xI nR nB f) (lo : Nat) (hlo : lo ≤ 100) (hlo2 : xFirst f g r = nI lo) : Met l yX0_lowestKeyNotBrought wsX0_lowestKeyNotBrought ({ frames := 3, cells := 0, slots := 0, locals := 63 } : Room) (va_Pc [.ref (ad 16), .int r] (qPre D (qTy cA cZ cL) (xW cA ad f g))) (vp_Si (fun z => z = xStepK f g r)) 0 0 (fun _ => False) := by
  refine Met.ofW (cc := cX0_lowestKeyNotBrought) (maxL := 6) (ret := (some .int)) (by decide) rfl ?_
  intro p e s m args below meth c s₁ B hml hv
  obtain ⟨rfl, hP, hK⟩ := hv
  have hx := B.exec
  have hb := B.bytes
  have hr := B.returns
  have hts := atoms_spec (ws := wsX0_lowestKeyNotBrought) B.pre
  have hown : s.vm.findClass RX0 = some m.cls := findClass_of_methodNamed B.named
  have hlocks := B.notSynchronized
  have hfin : ∀ w ∈ wsX00, w ∈ wsX0_lowestKeyNotBrought := fun w h => (List.mem_cons_of_mem _ (List.mem_append_right _ h))
  have hl := lv_entry ([.ref (ad 16), .int r]) (n := 6) (Nat.le_of_ble_eq_true rfl)
  rw [lg_entry_eq]
  generalize (lg_sl ([.ref (ad 16), .int r]) ++ List.replicate (6 - (lg_sl ([.ref (ad 16), .int r])).length) Slot.unset).toArray = ls at hl ⊢
  have hl : lv_has ls 6 [(0, .ref (ad 16)), (1, .int r)] := hl
  have hlo3 : (xFirst f g r).toNatClampNeg = lo := by rw [hlo2]; exact nI_clamp (by omega)
  refine lv_aload_n hx hb dX0_lowestKeyNotBrought_0 rfl (lv_at hl 0 rfl) ?_
  refine lv_iload_n hx hb dX0_lowestKeyNotBrought_1 rfl (lv_at hl 1 rfl) ?_
  refine vp_callSi (W.runV (As := [.int r]) (rest := []) ⟨hx, hb, hml, hown, hts⟩ (c_X0_homeOf l D cA cZ cL ad f g r nR nB hI) (cwV 1 hts gX0_lowestKeyNotBrought_X0_homeOf rfl rfl rfl (by decide +kernel) ⟨Nat.le_of_ble_eq_true rfl, Nat.le_of_ble_eq_true rfl⟩) ⟨qPre_blind, va_recv hK hP (ci := 0) (q0 := 0) rfl rfl, qPre_at hP hK⟩ rfl rfl hl.1 rfl (lv_room (Nat.le_of_ble_eq_true rfl)) dX0_lowestKeyNotBrought_2 ⟨Nat.le_of_ble_eq_true rfl, Nat.le_of_ble_eq_true rfl⟩) (fun z hz => ?_)
  subst hz
  refine lv_istore_n (lv' := [(2, .int (xHome f g r)), (0, .ref (ad 16)), (1, .int r)]) hx hb dX0_lowestKeyNotBrought_5 rfl hl (by decide) rfl (fun ls hl => ?_)
  refine lv_aload_n hx hb dX0_lowestKeyNotBrought_6 rfl (lv_at hl 1 rfl) ?_
  refine lv_iload_n hx hb dX0_lowestKeyNotBrought_7 rfl (lv_at hl 2 rfl) ?_
  refine vp_callSi (W.runV (As := [.int r]) (rest := []) ⟨hx, hb, hml, hown, hts⟩ (c_X0_targetOf l D cA cZ cL ad f g r nR nB hI) (cwV 1 hts gX0_lowestKeyNotBrought_X0_targetOf rfl rfl rfl (by decide +kernel) ⟨Nat.le_of_ble_eq_true rfl, Nat.le_of_ble_eq_true rfl⟩) ⟨qPre_blind, va_recv hK hP (ci := 0) (q0 := 0) rfl rfl, qPre_at hP hK⟩ rfl rfl hl.1 rfl (lv_room (Nat.le_of_ble_eq_true rfl)) dX0_lowestKeyNotBrought_8 ⟨Nat.le_of_ble_eq_true rfl, Nat.le_of_ble_eq_true rfl⟩) (fun z hz => ?_)
  subst hz
  refine lv_istore_n (lv' := [(3, .int (xTarg f g r)), (2, .int (xHome f g r)), (0, .ref (ad 16)), (1, .int r)]) hx hb dX0_lowestKeyNotBrought_11 rfl hl (by decide) rfl (fun ls hl => ?_)
  refine lv_aload_n hx hb dX0_lowestKeyNotBrought_12 rfl (lv_at hl 2 rfl) ?_
  refine lv_iload_n hx hb dX0_lowestKeyNotBrought_13 rfl (lv_at hl 3 rfl) ?_
  refine vp_callSi (W.runV (As := [.int r]) (rest := []) ⟨hx, hb, hml, hown, hts⟩ (c_X0_lastKeyOf l D cA cZ cL ad f g r nR nB hI) (cwV 1 hts gX0_lowestKeyNotBrought_X0_lastKeyOf rfl rfl rfl (by decide +kernel) ⟨Nat.le_of_ble_eq_true rfl, Nat.le_of_ble_eq_true rfl⟩) ⟨qPre_blind, va_recv hK hP (ci := 0) (q0 := 0) rfl rfl, qPre_at hP hK⟩ rfl rfl hl.1 rfl (lv_room (Nat.le_of_ble_eq_true rfl)) dX0_lowestKeyNotBrought_14 ⟨Nat.le_of_ble_eq_true rfl, Nat.le_of_ble_eq_true rfl⟩) (fun z hz => ?_)
  subst hz
  refine lv_istore (lv' := [(4, .int (xLast f g r)), (3, .int (xTarg f g r)), (2, .int (xHome f g r)), (0, .ref (ad 16)), (1, .int r)]) hx hb dX0_lowestKeyNotBrought_17 hl (by decide) rfl (fun ls hl => ?_)
  refine lv_aload_n hx hb dX0_lowestKeyNotBrought_19 rfl (lv_at hl 3 rfl) ?_
  refine lv_iload_n hx hb dX0_lowestKeyNotBrought_20 rfl (lv_at hl 4 rfl) ?_
  refine vp_callSi (W.runV (As := [.int r]) (rest := []) ⟨hx, hb, hml, hown, hts⟩ (c_X0_firstKeyOf l D cA cZ cL ad f g r nR nB hI) (cwV 1 hts gX0_lowestKeyNotBrought_X0_firstKeyOf rfl rfl rfl (by decide +kernel) ⟨Nat.le_of_ble_eq_true rfl, Nat.le_of_ble_eq_true rfl⟩) ⟨qPre_blind, va_recv hK hP (ci := 0) (q0 := 0) rfl rfl, qPre_at hP hK⟩ rfl rfl hl.1 rfl (lv_room (Nat.le_of_ble_eq_true rfl)) dX0_lowestKeyNotBrought_21 ⟨Nat.le_of_ble_eq_true rfl, Nat.le_of_ble_eq_true rfl⟩) (fun z hz => ?_)
  subst hz
  refine lv_topi (fun v_21 hv_21 => ?_)
  have hv_21 : v_21 = nI lo := hv_21.trans (hlo2)
  subst hv_21
  refine lv_istore (lv' := [(5, .int (nI lo)), (4, .int (xLast f g r)), (3, .int (xTarg f g r)), (2, .int (xHome f g r)), (0, .ref (ad 16)), (1, .int r)]) hx hb dX0_lowestKeyNotBrought_24 hl (by decide) rfl (fun ls hl => ?_)
  have hloop_26 : ∀ (nme : Nat) (k : Nat), 100 - k = nme → (k ≤ 100) → (upN (xLowP f g r) k (hiOf (xLast f g r) - k) = upN (xLowP f g r) lo (hiOf (xLast f g r) - lo)) → ∀ ls : Array Slot, lv_has ls 6 [(0, .ref (ad 16)), (1, .int r), (2, .int (xHome f g r)), (3, .int (xTarg f g r)), (4, .int (xLast f g r)), (5, .int (nI k))] → W p l e (headSpec wsX0_lowestKeyNotBrought ({ frames := 3, cells := 0, slots := 0, locals := 63 } : Room)).room s m ([.ref (ad 16), .int r] : List Value).toArray below meth c s.heap [] 0 0 (MQ below (vp_Si (fun z => z = xStepK f g r)) ([.ref (ad 16), .int r] : List Value).toArray s 0 0 (fun _ => False)) (F0 m 26 ls []) := by
    intro nme
    induction nme using Nat.strongRecOn with
    | ind nme ih =>
      intro k hnme hk hc ls hl
      refine lv_iload hx hb dX0_lowestKeyNotBrought_26 (lv_at hl 5 rfl) ?_
      refine lv_iload hx hb dX0_lowestKeyNotBrought_28 (lv_at hl 4 rfl) ?_
      refine lv_icmp_gt (tgt := 71) hx hb dX0_lowestKeyNotBrought_30 (by decide) (fun c_30 => ?_) (fun c_30 => ?_)
      · skip
        have hge := hi_out c_30 (by omega)
        refine lv_iconst (v := (-1)) hx hb dX0_lowestKeyNotBrought_71 (by decide) ?_
        exact W.iret (v := (-1)) hx hb hr (fun t ht hW => ⟨(-1), rfl, (by unfold xStepK; rw [hlo3, ← hc, upN_e hge]), ht⟩) (fun q h => nomatch h) dX0_lowestKeyNotBrought_72
      · skip
        refine lv_iload hx hb dX0_lowestKeyNotBrought_33 (lv_at hl 5 rfl) ?_
        refine lv_bipush (v := 100) hx hb dX0_lowestKeyNotBrought_35 (by decide) ?_
        refine lv_icmp_ge (tgt := 71) hx hb dX0_lowestKeyNotBrought_37 (by decide) (fun c_37 => ?_) (fun c_37 => ?_)
        · skip
          have hge : hiOf (xLast f g r) ≤ k := Nat.le_trans (hi_le _) (n_ge (a := k) (b := 100) c_37 (by omega) (by decide))
          refine lv_iconst (v := (-1)) hx hb dX0_lowestKeyNotBrought_71 (by decide) ?_
          exact W.iret (v := (-1)) hx hb hr (fun t ht hW => ⟨(-1), rfl, (by unfold xStepK; rw [hlo3, ← hc, upN_e hge]), ht⟩) (fun q h => nomatch h) dX0_lowestKeyNotBrought_72
        · skip
          have hlt := hi_in c_30 c_37 (by omega)
          have hl1 := hi_le (xLast f g r)
          refine lv_aload_n hx hb dX0_lowestKeyNotBrought_40 rfl (lv_at hl 0 rfl) ?_
          refine lv_iload_n hx hb dX0_lowestKeyNotBrought_41 rfl (lv_at hl 2 rfl) ?_
          refine lv_iload hx hb dX0_lowestKeyNotBrought_42 (lv_at hl 5 rfl) ?_
          refine vp_callSi (W.runV (As := [.int (xHome f g r), .int (nI k)]) (rest := []) ⟨hx, hb, hml, hown, hts⟩ (c_X0_rowOf l D cA cZ cL ad f g (xHome f g r) (nI k)) (cwV 2 hts gX0_lowestKeyNotBrought_X0_rowOf rfl rfl rfl (by decide +kernel) ⟨Nat.le_of_ble_eq_true rfl, Nat.le_of_ble_eq_true rfl⟩) ⟨qPre_blind, va_recv hK hP (ci := 0) (q0 := 0) rfl rfl, qPre_at hP hK⟩ rfl rfl hl.1 rfl (lv_room (Nat.le_of_ble_eq_true rfl)) dX0_lowestKeyNotBrought_44 ⟨Nat.le_of_ble_eq_true rfl, Nat.le_of_ble_eq_true rfl⟩) (fun z hz => ?_)
          subst hz
          refine lv_iconst (v := (-1)) hx hb dX0_lowestKeyNotBrought_47 (by decide) ?_
          refine lv_icmp_eq (tgt := 65) hx hb dX0_lowestKeyNotBrought_48 (by decide) (fun c_48 => ?_) (fun c_48 => ?_)
          · skip
            refine lv_iinc (v := nI (k + 1)) (lv' := [(5, .int (nI (k + 1))), (0, .ref (ad 16)), (1, .int r), (2, .int (xHome f g r)), (3, .int (xTarg f g r)), (4, .int (xLast f g r))]) hx hb dX0_lowestKeyNotBrought_65 hl (k := 5) rfl (nI_1 k) (by decide) rfl (fun ls hl => ?_)
            refine lv_goto (tgt := 26) hx hb dX0_lowestKeyNotBrought_68 (by decide) ?_
            exact ih _ (by omega) (k + 1) rfl (by omega) (by rw [← hc]; exact (upN_n hlt (df (fun q => q.1 c_48))).symm) _ (lv_sub hl [1, 2, 3, 4, 5, 0] rfl)
          · skip
            refine lv_aload_n hx hb dX0_lowestKeyNotBrought_51 rfl (lv_at hl 0 rfl) ?_
            refine lv_iload_n hx hb dX0_lowestKeyNotBrought_52 rfl (lv_at hl 3 rfl) ?_
            refine lv_iload hx hb dX0_lowestKeyNotBrought_53 (lv_at hl 5 rfl) ?_
            refine vp_callSi (W.runV (As := [.int (xTarg f g r), .int (nI k)]) (rest := []) ⟨hx, hb, hml, hown, hts⟩ (c_X0_rowOf l D cA cZ cL ad f g (xTarg f g r) (nI k)) (cwV 2 hts gX0_lowestKeyNotBrought_X0_rowOf rfl rfl rfl (by decide +kernel) ⟨Nat.le_of_ble_eq_true rfl, Nat.le_of_ble_eq_true rfl⟩) ⟨qPre_blind, va_recv hK hP (ci := 0) (q0 := 0) rfl rfl, qPre_at hP hK⟩ rfl rfl hl.1 rfl (lv_room (Nat.le_of_ble_eq_true rfl)) dX0_lowestKeyNotBrought_55 ⟨Nat.le_of_ble_eq_true rfl, Nat.le_of_ble_eq_true rfl⟩) (fun z hz => ?_)
            subst hz
            refine lv_iconst (v := (-1)) hx hb dX0_lowestKeyNotBrought_58 (by decide) ?_
            refine lv_icmp_ne (tgt := 65) hx hb dX0_lowestKeyNotBrought_59 (by decide) (fun c_59 => ?_) (fun c_59 => ?_)
            · skip
              refine lv_iinc (v := nI (k + 1)) (lv' := [(5, .int (nI (k + 1))), (0, .ref (ad 16)), (1, .int r), (2, .int (xHome f g r)), (3, .int (xTarg f g r)), (4, .int (xLast f g r))]) hx hb dX0_lowestKeyNotBrought_65 hl (k := 5) rfl (nI_1 k) (by decide) rfl (fun ls hl => ?_)
              refine lv_goto (tgt := 26) hx hb dX0_lowestKeyNotBrought_68 (by decide) ?_
              exact ih _ (by omega) (k + 1) rfl (by omega) (by rw [← hc]; exact (upN_n hlt (df (fun q => c_59 q.2))).symm) _ (lv_sub hl [1, 2, 3, 4, 5, 0] rfl)
            · skip
              refine lv_iload hx hb dX0_lowestKeyNotBrought_62 (lv_at hl 5 rfl) ?_
              exact W.iret (v := nI k) hx hb hr (fun t ht hW => ⟨nI k, rfl, (by unfold xStepK; rw [hlo3, ← hc]; exact (upN_y hlt (dt ⟨c_48, c_59⟩)).symm), ht⟩) (fun q h => nomatch h) dX0_lowestKeyNotBrought_64
  exact hloop_26 _ lo rfl hlo rfl _ (lv_sub hl [4, 5, 3, 2, 1, 0] rfl)
