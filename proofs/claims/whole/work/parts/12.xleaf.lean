set_option maxHeartbeats 4000000 in
set_option maxRecDepth 100000 in
/-- a key -/
theorem c_X0_isKey (l : Launch) (k : Int32) : Met l yX0_isKey wsX0_isKey ({ frames := 0, cells := 0, slots := 0, locals := 0 } : Room) (va_Pc [.int k] (fun _ => True)) (vp_Si (fun z => z = bI (xKey k))) 0 0 (fun _ => False) := by
  refine Met.ofW (cc := cX0_isKey) (maxL := 1) (ret := (some .boolean)) (by decide) rfl ?_
  intro p e s m args below meth c s₁ B hml hv
  obtain ⟨rfl, -⟩ := hv
  have hx := B.exec
  have hb := B.bytes
  have hr := B.returns
  have hts := atoms_spec (ws := wsX0_isKey) B.pre
  have hown : s.vm.findClass RX0 = some m.cls := findClass_of_methodNamed B.named
  have hlocks := B.notSynchronized
  have hl := lv_entry ([.int k]) (n := 1) (Nat.le_of_ble_eq_true rfl)
  rw [lg_entry_eq]
  generalize (lg_sl ([.int k]) ++ List.replicate (1 - (lg_sl ([.int k])).length) Slot.unset).toArray = ls at hl ⊢
  have hl : lv_has ls 1 [(0, .int k)] := hl
  refine lv_iload_n hx hb dX0_isKey_0 rfl (lv_at hl 0 rfl) ?_
  refine lv_if_lt (tgt := 14) hx hb dX0_isKey_1 (by decide) (fun c_1 => ?_) (fun c_1 => ?_)
  · skip
    refine lv_iconst (v := 0) hx hb dX0_isKey_14 (by decide) ?_
    exact W.zret (v := 0) hx hb hr rfl (fun t ht hW => ⟨0, rfl, (bI_f (i_nl c_1)).symm, ht⟩) (fun q h => nomatch h) dX0_isKey_15
  · skip
    refine lv_iload_n hx hb dX0_isKey_4 rfl (lv_at hl 0 rfl) ?_
    refine lv_bipush (v := 100) hx hb dX0_isKey_5 (by decide) ?_
    refine lv_icmp_ge (tgt := 14) hx hb dX0_isKey_7 (by decide) (fun c_7 => ?_) (fun c_7 => ?_)
    · skip
      refine lv_iconst (v := 0) hx hb dX0_isKey_14 (by decide) ?_
      exact W.zret (v := 0) hx hb hr rfl (fun t ht hW => ⟨0, rfl, (bI_f (i_nr c_7)).symm, ht⟩) (fun q h => nomatch h) dX0_isKey_15
    · skip
      refine lv_iconst (v := 1) hx hb dX0_isKey_10 (by decide) ?_
      refine lv_goto (tgt := 15) hx hb dX0_isKey_11 (by decide) ?_
      exact W.zret (v := 1) hx hb hr rfl (fun t ht hW => ⟨1, rfl, (bI_t (i_and c_1 c_7)).symm, ht⟩) (fun q h => nomatch h) dX0_isKey_15
set_option maxHeartbeats 4000000 in
set_option maxRecDepth 100000 in
/-- a shard -/
theorem c_X0_isShard (l : Launch) (k : Int32) : Met l yX0_isShard wsX0_isShard ({ frames := 0, cells := 0, slots := 0, locals := 0 } : Room) (va_Pc [.int k] (fun _ => True)) (vp_Si (fun z => z = bI (xShard k))) 0 0 (fun _ => False) := by
  refine Met.ofW (cc := cX0_isShard) (maxL := 1) (ret := (some .boolean)) (by decide) rfl ?_
  intro p e s m args below meth c s₁ B hml hv
  obtain ⟨rfl, -⟩ := hv
  have hx := B.exec
  have hb := B.bytes
  have hr := B.returns
  have hts := atoms_spec (ws := wsX0_isShard) B.pre
  have hown : s.vm.findClass RX0 = some m.cls := findClass_of_methodNamed B.named
  have hlocks := B.notSynchronized
  have hl := lv_entry ([.int k]) (n := 1) (Nat.le_of_ble_eq_true rfl)
  rw [lg_entry_eq]
  generalize (lg_sl ([.int k]) ++ List.replicate (1 - (lg_sl ([.int k])).length) Slot.unset).toArray = ls at hl ⊢
  have hl : lv_has ls 1 [(0, .int k)] := hl
  refine lv_iload_n hx hb dX0_isShard_0 rfl (lv_at hl 0 rfl) ?_
  refine lv_if_lt (tgt := 13) hx hb dX0_isShard_1 (by decide) (fun c_1 => ?_) (fun c_1 => ?_)
  · skip
    refine lv_iconst (v := 0) hx hb dX0_isShard_13 (by decide) ?_
    exact W.zret (v := 0) hx hb hr rfl (fun t ht hW => ⟨0, rfl, (bI_f (i_nl c_1)).symm, ht⟩) (fun q h => nomatch h) dX0_isShard_14
  · skip
    refine lv_iload_n hx hb dX0_isShard_4 rfl (lv_at hl 0 rfl) ?_
    refine lv_iconst (v := 4) hx hb dX0_isShard_5 (by decide) ?_
    refine lv_icmp_ge (tgt := 13) hx hb dX0_isShard_6 (by decide) (fun c_6 => ?_) (fun c_6 => ?_)
    · skip
      refine lv_iconst (v := 0) hx hb dX0_isShard_13 (by decide) ?_
      exact W.zret (v := 0) hx hb hr rfl (fun t ht hW => ⟨0, rfl, (bI_f (i_nr c_6)).symm, ht⟩) (fun q h => nomatch h) dX0_isShard_14
    · skip
      refine lv_iconst (v := 1) hx hb dX0_isShard_9 (by decide) ?_
      refine lv_goto (tgt := 14) hx hb dX0_isShard_10 (by decide) ?_
      exact W.zret (v := 1) hx hb hr rfl (fun t ht hW => ⟨1, rfl, (bI_t (i_and c_1 c_6)).symm, ht⟩) (fun q h => nomatch h) dX0_isShard_14
set_option maxHeartbeats 4000000 in
set_option maxRecDepth 100000 in
/-- the district of an address -/
theorem c_X0_districtOf (l : Launch) (a : Int32) : Met l yX0_districtOf wsX0_districtOf ({ frames := 0, cells := 0, slots := 0, locals := 0 } : Room) (va_Pc [.int a] (fun _ => True)) (vp_Si (fun z => z = xDist a)) 0 0 (fun _ => False) := by
  refine Met.ofW (cc := cX0_districtOf) (maxL := 1) (ret := (some .int)) (by decide) rfl ?_
  intro p e s m args below meth c s₁ B hml hv
  obtain ⟨rfl, -⟩ := hv
  have hx := B.exec
  have hb := B.bytes
  have hr := B.returns
  have hts := atoms_spec (ws := wsX0_districtOf) B.pre
  have hown : s.vm.findClass RX0 = some m.cls := findClass_of_methodNamed B.named
  have hlocks := B.notSynchronized
  have hl := lv_entry ([.int a]) (n := 1) (Nat.le_of_ble_eq_true rfl)
  rw [lg_entry_eq]
  generalize (lg_sl ([.int a]) ++ List.replicate (1 - (lg_sl ([.int a])).length) Slot.unset).toArray = ls at hl ⊢
  have hl : lv_has ls 1 [(0, .int a)] := hl
  refine lv_iload_n hx hb dX0_districtOf_0 rfl (lv_at hl 0 rfl) ?_
  refine lv_iconst (v := (-1)) hx hb dX0_districtOf_1 (by decide) ?_
  refine lv_icmp_ne (tgt := 9) hx hb dX0_districtOf_2 (by decide) (fun c_2 => ?_) (fun c_2 => ?_)
  · skip
    refine lv_iload_n hx hb dX0_districtOf_9 rfl (lv_at hl 0 rfl) ?_
    refine lv_bipush (v := 10) hx hb dX0_districtOf_10 (by decide) ?_
    refine lv_idiv hx hb dX0_districtOf_12 (by decide) ?_
    exact W.iret (v := a / 10) hx hb hr (fun t ht hW => ⟨a / 10, rfl, (by unfold xDist; rw [if_neg c_2]), ht⟩) (fun q h => nomatch h) dX0_districtOf_13
  · skip
    refine lv_iconst (v := (-1)) hx hb dX0_districtOf_5 (by decide) ?_
    refine lv_goto (tgt := 13) hx hb dX0_districtOf_6 (by decide) ?_
    exact W.iret (v := (-1)) hx hb hr (fun t ht hW => ⟨(-1), rfl, (by unfold xDist; rw [if_pos (Decidable.not_not.mp c_2)]), ht⟩) (fun q h => nomatch h) dX0_districtOf_13
set_option maxHeartbeats 4000000 in
set_option maxRecDepth 100000 in
/-- a range -/
theorem c_X0_isRange (l : Launch) (D : va_G) (cA cZ cL : ClassId) (ad : Nat → Nat) (f : qFs) (g : qGs) (r : Int32) : Met l yX0_isRange wsX0_isRange ({ frames := 0, cells := 0, slots := 0, locals := 0 } : Room) (va_Pc [.ref (ad 16), .int r] (qPre D (qTy cA cZ cL) (xW cA ad f g))) (vp_Si (fun z => z = bI (xRange f r))) 0 0 (fun _ => False) := by
  refine Met.ofW (cc := cX0_isRange) (maxL := 2) (ret := (some .boolean)) (by decide) rfl ?_
  intro p e s m args below meth c s₁ B hml hv
  obtain ⟨rfl, hP, hK⟩ := hv
  have hx := B.exec
  have hb := B.bytes
  have hr := B.returns
  have hts := atoms_spec (ws := wsX0_isRange) B.pre
  have hown : s.vm.findClass RX0 = some m.cls := findClass_of_methodNamed B.named
  have hlocks := B.notSynchronized
  have hfin : ∀ w ∈ wsX00, w ∈ wsX0_isRange := fun w h => (List.mem_cons_of_mem _ (List.mem_append_right _ h))
  have hl := lv_entry ([.ref (ad 16), .int r]) (n := 2) (Nat.le_of_ble_eq_true rfl)
  rw [lg_entry_eq]
  generalize (lg_sl ([.ref (ad 16), .int r]) ++ List.replicate (2 - (lg_sl ([.ref (ad 16), .int r])).length) Slot.unset).toArray = ls at hl ⊢
  have hl : lv_has ls 2 [(0, .ref (ad 16)), (1, .int r)] := hl
  refine lv_iload_n hx hb dX0_isRange_0 rfl (lv_at hl 1 rfl) ?_
  refine lv_if_lt (tgt := 16) hx hb dX0_isRange_1 (by decide) (fun c_1 => ?_) (fun c_1 => ?_)
  · skip
    refine lv_iconst (v := 0) hx hb dX0_isRange_16 (by decide) ?_
    exact W.zret (v := 0) hx hb hr rfl (fun t ht hW => ⟨0, rfl, (bI_f (i_nl c_1)).symm, ht⟩) (fun q h => nomatch h) dX0_isRange_17
  · skip
    refine lv_iload_n hx hb dX0_isRange_4 rfl (lv_at hl 1 rfl) ?_
    refine lv_aload_n hx hb dX0_isRange_5 rfl (lv_at hl 0 rfl) ?_
    refine va_get (D := D) (ci := 0) (v := .int (f 5)) (C := RX0) (T := TX0) (N := 16) hx hb hts hfin hown hK hP 0 rfl rfl 5 (by decide) (hts _ (List.mem_cons_of_mem _ (List.mem_append_left _ (List.mem_of_getElem? (i := 0) rfl)))) (fun _ h9 => h9) rfl dX0_isRange_6 ?_
    refine lv_icmp_ge (tgt := 16) hx hb dX0_isRange_9 (by decide) (fun c_9 => ?_) (fun c_9 => ?_)
    · skip
      refine lv_iconst (v := 0) hx hb dX0_isRange_16 (by decide) ?_
      exact W.zret (v := 0) hx hb hr rfl (fun t ht hW => ⟨0, rfl, (bI_f (i_nr c_9)).symm, ht⟩) (fun q h => nomatch h) dX0_isRange_17
    · skip
      refine lv_iconst (v := 1) hx hb dX0_isRange_12 (by decide) ?_
      refine lv_goto (tgt := 17) hx hb dX0_isRange_13 (by decide) ?_
      exact W.zret (v := 1) hx hb hr rfl (fun t ht hW => ⟨1, rfl, (bI_t (i_and c_1 c_9)).symm, ht⟩) (fun q h => nomatch h) dX0_isRange_17
set_option maxHeartbeats 4000000 in
set_option maxRecDepth 100000 in
/-- a ballot -/
theorem c_X0_isBallot (l : Launch) (D : va_G) (cA cZ cL : ClassId) (ad : Nat → Nat) (f : qFs) (g : qGs) (r : Int32) : Met l yX0_isBallot wsX0_isBallot ({ frames := 0, cells := 0, slots := 0, locals := 0 } : Room) (va_Pc [.ref (ad 16), .int r] (qPre D (qTy cA cZ cL) (xW cA ad f g))) (vp_Si (fun z => z = bI (xBallot f r))) 0 0 (fun _ => False) := by
  refine Met.ofW (cc := cX0_isBallot) (maxL := 2) (ret := (some .boolean)) (by decide) rfl ?_
  intro p e s m args below meth c s₁ B hml hv
  obtain ⟨rfl, hP, hK⟩ := hv
  have hx := B.exec
  have hb := B.bytes
  have hr := B.returns
  have hts := atoms_spec (ws := wsX0_isBallot) B.pre
  have hown : s.vm.findClass RX0 = some m.cls := findClass_of_methodNamed B.named
  have hlocks := B.notSynchronized
  have hfin : ∀ w ∈ wsX00, w ∈ wsX0_isBallot := fun w h => (List.mem_cons_of_mem _ (List.mem_append_right _ h))
  have hl := lv_entry ([.ref (ad 16), .int r]) (n := 2) (Nat.le_of_ble_eq_true rfl)
  rw [lg_entry_eq]
  generalize (lg_sl ([.ref (ad 16), .int r]) ++ List.replicate (2 - (lg_sl ([.ref (ad 16), .int r])).length) Slot.unset).toArray = ls at hl ⊢
  have hl : lv_has ls 2 [(0, .ref (ad 16)), (1, .int r)] := hl
  refine lv_iload_n hx hb dX0_isBallot_0 rfl (lv_at hl 1 rfl) ?_
  refine lv_if_lt (tgt := 16) hx hb dX0_isBallot_1 (by decide) (fun c_1 => ?_) (fun c_1 => ?_)
  · skip
    refine lv_iconst (v := 0) hx hb dX0_isBallot_16 (by decide) ?_
    exact W.zret (v := 0) hx hb hr rfl (fun t ht hW => ⟨0, rfl, (bI_f (i_nl c_1)).symm, ht⟩) (fun q h => nomatch h) dX0_isBallot_17
  · skip
    refine lv_iload_n hx hb dX0_isBallot_4 rfl (lv_at hl 1 rfl) ?_
    refine lv_aload_n hx hb dX0_isBallot_5 rfl (lv_at hl 0 rfl) ?_
    refine va_get (D := D) (ci := 0) (v := .int (f 15)) (C := RX0) (T := TX0) (N := 16) hx hb hts hfin hown hK hP 0 rfl rfl 15 (by decide) (hts _ (List.mem_cons_of_mem _ (List.mem_append_left _ (List.mem_of_getElem? (i := 0) rfl)))) (fun _ h9 => h9) rfl dX0_isBallot_6 ?_
    refine lv_icmp_ge (tgt := 16) hx hb dX0_isBallot_9 (by decide) (fun c_9 => ?_) (fun c_9 => ?_)
    · skip
      refine lv_iconst (v := 0) hx hb dX0_isBallot_16 (by decide) ?_
      exact W.zret (v := 0) hx hb hr rfl (fun t ht hW => ⟨0, rfl, (bI_f (i_nr c_9)).symm, ht⟩) (fun q h => nomatch h) dX0_isBallot_17
    · skip
      refine lv_iconst (v := 1) hx hb dX0_isBallot_12 (by decide) ?_
      refine lv_goto (tgt := 17) hx hb dX0_isBallot_13 (by decide) ?_
      exact W.zret (v := 1) hx hb hr rfl (fun t ht hW => ⟨1, rfl, (bI_t (i_and c_1 c_9)).symm, ht⟩) (fun q h => nomatch h) dX0_isBallot_17
set_option maxHeartbeats 4000000 in
set_option maxRecDepth 100000 in
/-- homeOf -/
theorem c_X0_homeOf (l : Launch) (D : va_G) (cA cZ cL : ClassId) (ad : Nat → Nat) (f : qFs) (g : qGs) (r : Int32) (R : Nat) (B : Nat) (hI : xI R B f) : Met l yX0_homeOf wsX0_homeOf ({ frames := 1, cells := 0, slots := 0, locals := 21 } : Room) (va_Pc [.ref (ad 16), .int r] (qPre D (qTy cA cZ cL) (xW cA ad f g))) (vp_Si (fun z => z = xHome f g r)) 0 0 (fun _ => False) := by
  refine Met.ofW (cc := cX0_homeOf) (maxL := 2) (ret := (some .int)) (by decide) rfl ?_
  intro p e s m args below meth c s₁ B hml hv
  obtain ⟨rfl, hP, hK⟩ := hv
  have hx := B.exec
  have hb := B.bytes
  have hr := B.returns
  have hts := atoms_spec (ws := wsX0_homeOf) B.pre
  have hown : s.vm.findClass RX0 = some m.cls := findClass_of_methodNamed B.named
  have hlocks := B.notSynchronized
  have hfin : ∀ w ∈ wsX00, w ∈ wsX0_homeOf := fun w h => (List.mem_cons_of_mem _ (List.mem_append_right _ h))
  have hl := lv_entry ([.ref (ad 16), .int r]) (n := 2) (Nat.le_of_ble_eq_true rfl)
  rw [lg_entry_eq]
  generalize (lg_sl ([.ref (ad 16), .int r]) ++ List.replicate (2 - (lg_sl ([.ref (ad 16), .int r])).length) Slot.unset).toArray = ls at hl ⊢
  have hl : lv_has ls 2 [(0, .ref (ad 16)), (1, .int r)] := hl
  refine lv_aload_n hx hb dX0_homeOf_0 rfl (lv_at hl 0 rfl) ?_
  refine lv_iload_n hx hb dX0_homeOf_1 rfl (lv_at hl 1 rfl) ?_
  refine vp_callSi (W.runV (As := [.int r]) (rest := []) ⟨hx, hb, hml, hown, hts⟩ (c_X0_isRange l D cA cZ cL ad f g r) (cwV 1 hts gX0_homeOf_X0_isRange rfl rfl rfl (by decide +kernel) ⟨Nat.le_of_ble_eq_true rfl, Nat.le_of_ble_eq_true rfl⟩) ⟨qPre_blind, va_recv hK hP (ci := 0) (q0 := 0) rfl rfl, qPre_at hP hK⟩ rfl rfl hl.1 rfl (lv_room (Nat.le_of_ble_eq_true rfl)) dX0_homeOf_2 ⟨Nat.le_of_ble_eq_true rfl, Nat.le_of_ble_eq_true rfl⟩) (fun z hz => ?_)
  subst hz
  refine lv_if_eq (tgt := 17) hx hb dX0_homeOf_5 (by decide) (fun c_5 => ?_) (fun c_5 => ?_)
  · have c_5 := bI_0.mp c_5
    refine lv_iconst (v := (-1)) hx hb dX0_homeOf_17 (by decide) ?_
    exact W.iret (v := (-1)) hx hb hr (fun t ht hW => ⟨(-1), rfl, (by unfold xHome; rw [if_neg c_5]), ht⟩) (fun q h => nomatch h) dX0_homeOf_18
  · have c_5 := bI_n.mp c_5
    refine lv_aload_n hx hb dX0_homeOf_8 rfl (lv_at hl 0 rfl) ?_
    refine va_get (D := D) (ci := 0) (v := .ref (ad 3)) (C := RX0) (T := TX0) (N := 16) hx hb hts hfin hown hK hP 0 rfl rfl 3 (by decide) (hts _ (List.mem_cons_of_mem _ (List.mem_append_left _ (List.mem_of_getElem? (i := 0) rfl)))) (fun _ h9 => h9) rfl dX0_homeOf_9 ?_
    refine lv_iload_n hx hb dX0_homeOf_12 rfl (lv_at hl 1 rfl) ?_
    refine va_iald hx hb hK hP 3 0 rfl rfl (x_in8 hI c_5) dX0_homeOf_13 ?_
    refine lv_goto (tgt := 18) hx hb dX0_homeOf_14 (by decide) ?_
    exact W.iret (v := g 3 r.toNatClampNeg) hx hb hr (fun t ht hW => ⟨g 3 r.toNatClampNeg, rfl, (by unfold xHome; rw [if_pos c_5]), ht⟩) (fun q h => nomatch h) dX0_homeOf_18
set_option maxHeartbeats 4000000 in
set_option maxRecDepth 100000 in
/-- targetOf -/
theorem c_X0_targetOf (l : Launch) (D : va_G) (cA cZ cL : ClassId) (ad : Nat → Nat) (f : qFs) (g : qGs) (r : Int32) (R : Nat) (B : Nat) (hI : xI R B f) : Met l yX0_targetOf wsX0_targetOf ({ frames := 1, cells := 0, slots := 0, locals := 21 } : Room) (va_Pc [.ref (ad 16), .int r] (qPre D (qTy cA cZ cL) (xW cA ad f g))) (vp_Si (fun z => z = xTarg f g r)) 0 0 (fun _ => False) := by
  refine Met.ofW (cc := cX0_targetOf) (maxL := 2) (ret := (some .int)) (by decide) rfl ?_
  intro p e s m args below meth c s₁ B hml hv
  obtain ⟨rfl, hP, hK⟩ := hv
  have hx := B.exec
  have hb := B.bytes
  have hr := B.returns
  have hts := atoms_spec (ws := wsX0_targetOf) B.pre
  have hown : s.vm.findClass RX0 = some m.cls := findClass_of_methodNamed B.named
  have hlocks := B.notSynchronized
  have hfin : ∀ w ∈ wsX00, w ∈ wsX0_targetOf := fun w h => (List.mem_cons_of_mem _ (List.mem_append_right _ h))
  have hl := lv_entry ([.ref (ad 16), .int r]) (n := 2) (Nat.le_of_ble_eq_true rfl)
  rw [lg_entry_eq]
  generalize (lg_sl ([.ref (ad 16), .int r]) ++ List.replicate (2 - (lg_sl ([.ref (ad 16), .int r])).length) Slot.unset).toArray = ls at hl ⊢
  have hl : lv_has ls 2 [(0, .ref (ad 16)), (1, .int r)] := hl
  refine lv_aload_n hx hb dX0_targetOf_0 rfl (lv_at hl 0 rfl) ?_
  refine lv_iload_n hx hb dX0_targetOf_1 rfl (lv_at hl 1 rfl) ?_
  refine vp_callSi (W.runV (As := [.int r]) (rest := []) ⟨hx, hb, hml, hown, hts⟩ (c_X0_isRange l D cA cZ cL ad f g r) (cwV 1 hts gX0_targetOf_X0_isRange rfl rfl rfl (by decide +kernel) ⟨Nat.le_of_ble_eq_true rfl, Nat.le_of_ble_eq_true rfl⟩) ⟨qPre_blind, va_recv hK hP (ci := 0) (q0 := 0) rfl rfl, qPre_at hP hK⟩ rfl rfl hl.1 rfl (lv_room (Nat.le_of_ble_eq_true rfl)) dX0_targetOf_2 ⟨Nat.le_of_ble_eq_true rfl, Nat.le_of_ble_eq_true rfl⟩) (fun z hz => ?_)
  subst hz
  refine lv_if_eq (tgt := 17) hx hb dX0_targetOf_5 (by decide) (fun c_5 => ?_) (fun c_5 => ?_)
  · have c_5 := bI_0.mp c_5
    refine lv_iconst (v := (-1)) hx hb dX0_targetOf_17 (by decide) ?_
    exact W.iret (v := (-1)) hx hb hr (fun t ht hW => ⟨(-1), rfl, (by unfold xTarg; rw [if_neg c_5]), ht⟩) (fun q h => nomatch h) dX0_targetOf_18
  · have c_5 := bI_n.mp c_5
    refine lv_aload_n hx hb dX0_targetOf_8 rfl (lv_at hl 0 rfl) ?_
    refine va_get (D := D) (ci := 0) (v := .ref (ad 4)) (C := RX0) (T := TX0) (N := 16) hx hb hts hfin hown hK hP 0 rfl rfl 4 (by decide) (hts _ (List.mem_cons_of_mem _ (List.mem_append_left _ (List.mem_of_getElem? (i := 0) rfl)))) (fun _ h9 => h9) rfl dX0_targetOf_9 ?_
    refine lv_iload_n hx hb dX0_targetOf_12 rfl (lv_at hl 1 rfl) ?_
    refine va_iald hx hb hK hP 4 0 rfl rfl (x_in8 hI c_5) dX0_targetOf_13 ?_
    refine lv_goto (tgt := 18) hx hb dX0_targetOf_14 (by decide) ?_
    exact W.iret (v := g 4 r.toNatClampNeg) hx hb hr (fun t ht hW => ⟨g 4 r.toNatClampNeg, rfl, (by unfold xTarg; rw [if_pos c_5]), ht⟩) (fun q h => nomatch h) dX0_targetOf_18
set_option maxHeartbeats 4000000 in
set_option maxRecDepth 100000 in
/-- lastKeyOf -/
theorem c_X0_lastKeyOf (l : Launch) (D : va_G) (cA cZ cL : ClassId) (ad : Nat → Nat) (f : qFs) (g : qGs) (r : Int32) (R : Nat) (B : Nat) (hI : xI R B f) : Met l yX0_lastKeyOf wsX0_lastKeyOf ({ frames := 1, cells := 0, slots := 0, locals := 21 } : Room) (va_Pc [.ref (ad 16), .int r] (qPre D (qTy cA cZ cL) (xW cA ad f g))) (vp_Si (fun z => z = xLast f g r)) 0 0 (fun _ => False) := by
  refine Met.ofW (cc := cX0_lastKeyOf) (maxL := 2) (ret := (some .int)) (by decide) rfl ?_
  intro p e s m args below meth c s₁ B hml hv
  obtain ⟨rfl, hP, hK⟩ := hv
  have hx := B.exec
  have hb := B.bytes
  have hr := B.returns
  have hts := atoms_spec (ws := wsX0_lastKeyOf) B.pre
  have hown : s.vm.findClass RX0 = some m.cls := findClass_of_methodNamed B.named
  have hlocks := B.notSynchronized
  have hfin : ∀ w ∈ wsX00, w ∈ wsX0_lastKeyOf := fun w h => (List.mem_cons_of_mem _ (List.mem_append_right _ h))
  have hl := lv_entry ([.ref (ad 16), .int r]) (n := 2) (Nat.le_of_ble_eq_true rfl)
  rw [lg_entry_eq]
  generalize (lg_sl ([.ref (ad 16), .int r]) ++ List.replicate (2 - (lg_sl ([.ref (ad 16), .int r])).length) Slot.unset).toArray = ls at hl ⊢
  have hl : lv_has ls 2 [(0, .ref (ad 16)), (1, .int r)] := hl
  refine lv_aload_n hx hb dX0_lastKeyOf_0 rfl (lv_at hl 0 rfl) ?_
  refine lv_iload_n hx hb dX0_lastKeyOf_1 rfl (lv_at hl 1 rfl) ?_
  refine vp_callSi (W.runV (As := [.int r]) (rest := []) ⟨hx, hb, hml, hown, hts⟩ (c_X0_isRange l D cA cZ cL ad f g r) (cwV 1 hts gX0_lastKeyOf_X0_isRange rfl rfl rfl (by decide +kernel) ⟨Nat.le_of_ble_eq_true rfl, Nat.le_of_ble_eq_true rfl⟩) ⟨qPre_blind, va_recv hK hP (ci := 0) (q0 := 0) rfl rfl, qPre_at hP hK⟩ rfl rfl hl.1 rfl (lv_room (Nat.le_of_ble_eq_true rfl)) dX0_lastKeyOf_2 ⟨Nat.le_of_ble_eq_true rfl, Nat.le_of_ble_eq_true rfl⟩) (fun z hz => ?_)
  subst hz
  refine lv_if_eq (tgt := 17) hx hb dX0_lastKeyOf_5 (by decide) (fun c_5 => ?_) (fun c_5 => ?_)
  · have c_5 := bI_0.mp c_5
    refine lv_iconst (v := (-1)) hx hb dX0_lastKeyOf_17 (by decide) ?_
    exact W.iret (v := (-1)) hx hb hr (fun t ht hW => ⟨(-1), rfl, (by unfold xLast; rw [if_neg c_5]), ht⟩) (fun q h => nomatch h) dX0_lastKeyOf_18
  · have c_5 := bI_n.mp c_5
    refine lv_aload_n hx hb dX0_lastKeyOf_8 rfl (lv_at hl 0 rfl) ?_
    refine va_get (D := D) (ci := 0) (v := .ref (ad 2)) (C := RX0) (T := TX0) (N := 16) hx hb hts hfin hown hK hP 0 rfl rfl 2 (by decide) (hts _ (List.mem_cons_of_mem _ (List.mem_append_left _ (List.mem_of_getElem? (i := 0) rfl)))) (fun _ h9 => h9) rfl dX0_lastKeyOf_9 ?_
    refine lv_iload_n hx hb dX0_lastKeyOf_12 rfl (lv_at hl 1 rfl) ?_
    refine va_iald hx hb hK hP 2 0 rfl rfl (x_in8 hI c_5) dX0_lastKeyOf_13 ?_
    refine lv_goto (tgt := 18) hx hb dX0_lastKeyOf_14 (by decide) ?_
    exact W.iret (v := g 2 r.toNatClampNeg) hx hb hr (fun t ht hW => ⟨g 2 r.toNatClampNeg, rfl, (by unfold xLast; rw [if_pos c_5]), ht⟩) (fun q h => nomatch h) dX0_lastKeyOf_18
set_option maxHeartbeats 4000000 in
set_option maxRecDepth 100000 in
/-- a row -/
theorem c_X0_rowOf (l : Launch) (D : va_G) (cA cZ cL : ClassId) (ad : Nat → Nat) (f : qFs) (g : qGs) (sh : Int32) (k : Int32) : Met l yX0_rowOf wsX0_rowOf ({ frames := 1, cells := 0, slots := 0, locals := 20 } : Room) (va_Pc [.ref (ad 16), .int sh, .int k] (qPre D (qTy cA cZ cL) (xW cA ad f g))) (vp_Si (fun z => z = xRowOf g sh k)) 0 0 (fun _ => False) := by
  refine Met.ofW (cc := cX0_rowOf) (maxL := 3) (ret := (some .int)) (by decide) rfl ?_
  intro p e s m args below meth c s₁ B hml hv
  obtain ⟨rfl, hP, hK⟩ := hv
  have hx := B.exec
  have hb := B.bytes
  have hr := B.returns
  have hts := atoms_spec (ws := wsX0_rowOf) B.pre
  have hown : s.vm.findClass RX0 = some m.cls := findClass_of_methodNamed B.named
  have hlocks := B.notSynchronized
  have hfin : ∀ w ∈ wsX00, w ∈ wsX0_rowOf := fun w h => (List.mem_cons_of_mem _ (List.mem_append_right _ h))
  have hl := lv_entry ([.ref (ad 16), .int sh, .int k]) (n := 3) (Nat.le_of_ble_eq_true rfl)
  rw [lg_entry_eq]
  generalize (lg_sl ([.ref (ad 16), .int sh, .int k]) ++ List.replicate (3 - (lg_sl ([.ref (ad 16), .int sh, .int k])).length) Slot.unset).toArray = ls at hl ⊢
  have hl : lv_has ls 3 [(0, .ref (ad 16)), (1, .int sh), (2, .int k)] := hl
  refine lv_iload_n hx hb dX0_rowOf_0 rfl (lv_at hl 1 rfl) ?_
  refine vp_callSi (W.runS (As := [.int sh]) (rest := []) ⟨hx, hb, hml, hown, hts⟩ (c_X0_isShard l sh) (va_cwS 1 hts gX0_rowOf_X0_isShard rfl rfl rfl (by decide +kernel) ⟨Nat.le_of_ble_eq_true rfl, Nat.le_of_ble_eq_true rfl⟩) ⟨qN_blind, qN_at⟩ rfl rfl hl.1 rfl (lv_room (Nat.le_of_ble_eq_true rfl)) dX0_rowOf_1 ⟨Nat.le_of_ble_eq_true rfl, Nat.le_of_ble_eq_true rfl⟩) (fun z hz => ?_)
  subst hz
  refine lv_if_eq (tgt := 28) hx hb dX0_rowOf_4 (by decide) (fun c_4 => ?_) (fun c_4 => ?_)
  · have c_4 := bI_0.mp c_4
    refine lv_iconst (v := (-1)) hx hb dX0_rowOf_28 (by decide) ?_
    exact W.iret (v := (-1)) hx hb hr (fun t ht hW => ⟨(-1), rfl, (by unfold xRowOf; rw [if_neg (fun q => c_4 q.1)]), ht⟩) (fun q h => nomatch h) dX0_rowOf_29
  · have c_4 := bI_n.mp c_4
    refine lv_iload_n hx hb dX0_rowOf_7 rfl (lv_at hl 2 rfl) ?_
    refine vp_callSi (W.runS (As := [.int k]) (rest := []) ⟨hx, hb, hml, hown, hts⟩ (c_X0_isKey l k) (va_cwS 1 hts gX0_rowOf_X0_isKey rfl rfl rfl (by decide +kernel) ⟨Nat.le_of_ble_eq_true rfl, Nat.le_of_ble_eq_true rfl⟩) ⟨qN_blind, qN_at⟩ rfl rfl hl.1 rfl (lv_room (Nat.le_of_ble_eq_true rfl)) dX0_rowOf_8 ⟨Nat.le_of_ble_eq_true rfl, Nat.le_of_ble_eq_true rfl⟩) (fun z hz => ?_)
    subst hz
    refine lv_if_eq (tgt := 28) hx hb dX0_rowOf_11 (by decide) (fun c_11 => ?_) (fun c_11 => ?_)
    · have c_11 := bI_0.mp c_11
      refine lv_iconst (v := (-1)) hx hb dX0_rowOf_28 (by decide) ?_
      exact W.iret (v := (-1)) hx hb hr (fun t ht hW => ⟨(-1), rfl, (by unfold xRowOf; rw [if_neg (fun q => c_11 q.2)]), ht⟩) (fun q h => nomatch h) dX0_rowOf_29
    · have c_11 := bI_n.mp c_11
      refine lv_aload_n hx hb dX0_rowOf_14 rfl (lv_at hl 0 rfl) ?_
      refine va_get (D := D) (ci := 0) (v := .ref (ad 0)) (C := RX0) (T := TX0) (N := 16) hx hb hts hfin hown hK hP 0 rfl rfl 0 (by decide) (hts _ (List.mem_cons_of_mem _ (List.mem_append_left _ (List.mem_of_getElem? (i := 0) rfl)))) (fun _ h9 => h9) rfl dX0_rowOf_15 ?_
      refine lv_iload_n hx hb dX0_rowOf_18 rfl (lv_at hl 1 rfl) ?_
      refine lv_bipush (v := 100) hx hb dX0_rowOf_19 (by decide) ?_
      refine lv_imul hx hb dX0_rowOf_21 ?_
      refine lv_iload_n hx hb dX0_rowOf_22 rfl (lv_at hl 2 rfl) ?_
      refine lv_iadd hx hb dX0_rowOf_23 ?_
      refine va_iald hx hb hK hP 1 0 rfl rfl (x_inT c_4 c_11) dX0_rowOf_24 ?_
      refine lv_goto (tgt := 29) hx hb dX0_rowOf_25 (by decide) ?_
      exact W.iret (v := g 0 ((sh * 100) + k).toNatClampNeg) hx hb hr (fun t ht hW => ⟨g 0 ((sh * 100) + k).toNatClampNeg, rfl, (by unfold xRowOf; rw [if_pos ⟨c_4, c_11⟩]), ht⟩) (fun q h => nomatch h) dX0_rowOf_29
set_option maxHeartbeats 4000000 in
set_option maxRecDepth 100000 in
/-- is it moved -/
theorem c_X0_isMoved (l : Launch) (D : va_G) (cA cZ cL : ClassId) (ad : Nat → Nat) (f : qFs) (g : qGs) (r : Int32) (R : Nat) (B : Nat) (hI : xI R B f) : Met l yX0_isMoved wsX0_isMoved ({ frames := 2, cells := 0, slots := 0, locals := 42 } : Room) (va_Pc [.ref (ad 16), .int r] (qPre D (qTy cA cZ cL) (xW cA ad f g))) (vp_Si (fun z => z = bI (¬ xTarg f g r = -1))) 0 0 (fun _ => False) := by
  refine Met.ofW (cc := cX0_isMoved) (maxL := 2) (ret := (some .boolean)) (by decide) rfl ?_
  intro p e s m args below meth c s₁ B hml hv
  obtain ⟨rfl, hP, hK⟩ := hv
  have hx := B.exec
  have hb := B.bytes
  have hr := B.returns
  have hts := atoms_spec (ws := wsX0_isMoved) B.pre
  have hown : s.vm.findClass RX0 = some m.cls := findClass_of_methodNamed B.named
  have hlocks := B.notSynchronized
  have hfin : ∀ w ∈ wsX00, w ∈ wsX0_isMoved := fun w h => (List.mem_cons_of_mem _ (List.mem_append_right _ h))
  have hl := lv_entry ([.ref (ad 16), .int r]) (n := 2) (Nat.le_of_ble_eq_true rfl)
  rw [lg_entry_eq]
  generalize (lg_sl ([.ref (ad 16), .int r]) ++ List.replicate (2 - (lg_sl ([.ref (ad 16), .int r])).length) Slot.unset).toArray = ls at hl ⊢
  have hl : lv_has ls 2 [(0, .ref (ad 16)), (1, .int r)] := hl
  refine lv_aload_n hx hb dX0_isMoved_0 rfl (lv_at hl 0 rfl) ?_
  refine lv_iload_n hx hb dX0_isMoved_1 rfl (lv_at hl 1 rfl) ?_
  refine vp_callSi (W.runV (As := [.int r]) (rest := []) ⟨hx, hb, hml, hown, hts⟩ (c_X0_targetOf l D cA cZ cL ad f g r R B hI) (cwV 1 hts gX0_isMoved_X0_targetOf rfl rfl rfl (by decide +kernel) ⟨Nat.le_of_ble_eq_true rfl, Nat.le_of_ble_eq_true rfl⟩) ⟨qPre_blind, va_recv hK hP (ci := 0) (q0 := 0) rfl rfl, qPre_at hP hK⟩ rfl rfl hl.1 rfl (lv_room (Nat.le_of_ble_eq_true rfl)) dX0_isMoved_2 ⟨Nat.le_of_ble_eq_true rfl, Nat.le_of_ble_eq_true rfl⟩) (fun z hz => ?_)
  subst hz
  refine lv_iconst (v := (-1)) hx hb dX0_isMoved_5 (by decide) ?_
  refine lv_icmp_eq (tgt := 13) hx hb dX0_isMoved_6 (by decide) (fun c_6 => ?_) (fun c_6 => ?_)
  · skip
    refine lv_iconst (v := 0) hx hb dX0_isMoved_13 (by decide) ?_
    exact W.zret (v := 0) hx hb hr rfl (fun t ht hW => ⟨0, rfl, (bI_f (fun q => q c_6)).symm, ht⟩) (fun q h => nomatch h) dX0_isMoved_14
  · skip
    refine lv_iconst (v := 1) hx hb dX0_isMoved_9 (by decide) ?_
    refine lv_goto (tgt := 14) hx hb dX0_isMoved_10 (by decide) ?_
    exact W.zret (v := 1) hx hb hr rfl (fun t ht hW => ⟨1, rfl, (bI_t (c_6)).symm, ht⟩) (fun q h => nomatch h) dX0_isMoved_14
