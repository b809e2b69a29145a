set_option maxHeartbeats 4000000 in
set_option maxRecDepth 100000 in
/-- checkKey -/
theorem c_X0_checkKey (l : Launch) (hl0 : l.stackTraces = false) (k : Int32) : vx_Met l yX0_checkKey wsX0_checkKey ({ frames := 6, cells := 1, slots := 6, locals := 90 } : Room) (va_Pc [.int k] qTH) (va_Sv (fun _ => xKey k)) (qX (fun E => E = eIO ∧ ¬ (xKey k))) 1 6 (fun _ => False) := by
  refine vx_ofW (cc := cX0_checkKey) (maxL := 1) (ret := none) (by decide) rfl ?_
  intro p e s m args below meth c s₁ B hml hno hv
  obtain ⟨rfl, hTH⟩ := hv
  have hx := B.exec
  have hb := B.bytes
  have hr := B.returns
  have hts := atoms_spec (ws := wsX0_checkKey) B.pre
  have hown : s.vm.findClass RX0 = some m.cls := findClass_of_methodNamed B.named
  have hlocks := B.notSynchronized
  have hl := lv_entry ([.int k]) (n := 1) (Nat.le_of_ble_eq_true rfl)
  rw [lg_entry_eq]
  generalize (lg_sl ([.int k]) ++ List.replicate (1 - (lg_sl ([.int k])).length) Slot.unset).toArray = ls at hl ⊢
  have hl : lv_has ls 1 [(0, .int k)] := hl
  refine lv_iload_n hx hb dX0_checkKey_0 rfl (lv_at hl 0 rfl) ?_
  refine vp_callSi (W.runS (As := [.int k]) (rest := []) ⟨hx, hb, hml, hown, hts⟩ (c_X0_isKey l k) (va_cwS 1 hts gX0_checkKey_X0_isKey rfl rfl rfl (by decide +kernel) ⟨Nat.le_of_ble_eq_true rfl, Nat.le_of_ble_eq_true rfl⟩) ⟨qN_blind, qN_at⟩ rfl rfl hl.1 rfl (lv_room (Nat.le_of_ble_eq_true rfl)) dX0_checkKey_1 ⟨Nat.le_of_ble_eq_true rfl, Nat.le_of_ble_eq_true rfl⟩) (fun z hz => ?_)
  subst hz
  refine lv_if_ne (tgt := 17) hx hb dX0_checkKey_4 (by decide) (fun c_4 => ?_) (fun c_4 => ?_)
  · have c_4 := bI_n.mp c_4
    refine vx_ret ?_
    refine W.widen (k := 1) (n := 6) (by decide) (by decide) ?_
    exact W.vret hx hb hr (fun t ht hW => ⟨rfl, c_4, ht⟩) (fun q h => nomatch h) dX0_checkKey_17
  · have c_4 := bI_0.mp c_4
    obtain ⟨sa, hsa⟩ := hTH.2.2.1 (216, "no such key") (List.mem_of_getElem? (i := 17) rfl)
    exact vx_throwS (A := fun _ => False) (names := ["java/lang/RuntimeException", "java/lang/Exception"]) hx hb hl0 hown (by decide) (by decide) (hts _ (List.mem_cons_of_mem _ (List.mem_append_left _ (List.mem_of_getElem? (i := 0) rfl)))) (hts _ (List.mem_cons_of_mem _ (List.mem_append_left _ (List.mem_of_getElem? (i := 1) rfl)))) hsa (vx_hat (fun w h => hts w (List.mem_cons_of_mem _ (List.mem_append_right _ h))) qw1 (qBad_of hTH (by decide))) qg1 hTH.1 hTH.2.1 va_S.rf (hl.1.trans hml.symm) dX0_checkKey_7 dX0_checkKey_10 dX0_checkKey_11 dX0_checkKey_13 dX0_checkKey_16 (fun x h => (hno x h).elim) (Nat.le_of_ble_eq_true rfl) (Nat.le_of_ble_eq_true rfl) (Nat.le_of_ble_eq_true rfl) (Nat.le_of_ble_eq_true rfl) hlocks (fun t _ h1 h2 => ⟨⟨rfl, c_4⟩, h1, h2⟩) (fun q h => nomatch h) (by decide) (by decide)
set_option maxHeartbeats 4000000 in
set_option maxRecDepth 100000 in
/-- checkShard -/
theorem c_X0_checkShard (l : Launch) (hl0 : l.stackTraces = false) (k : Int32) : vx_Met l yX0_checkShard wsX0_checkShard ({ frames := 6, cells := 1, slots := 6, locals := 90 } : Room) (va_Pc [.int k] qTH) (va_Sv (fun _ => xShard k)) (qX (fun E => E = eIO ∧ ¬ (xShard k))) 1 6 (fun _ => False) := by
  refine vx_ofW (cc := cX0_checkShard) (maxL := 1) (ret := none) (by decide) rfl ?_
  intro p e s m args below meth c s₁ B hml hno hv
  obtain ⟨rfl, hTH⟩ := hv
  have hx := B.exec
  have hb := B.bytes
  have hr := B.returns
  have hts := atoms_spec (ws := wsX0_checkShard) B.pre
  have hown : s.vm.findClass RX0 = some m.cls := findClass_of_methodNamed B.named
  have hlocks := B.notSynchronized
  have hl := lv_entry ([.int k]) (n := 1) (Nat.le_of_ble_eq_true rfl)
  rw [lg_entry_eq]
  generalize (lg_sl ([.int k]) ++ List.replicate (1 - (lg_sl ([.int k])).length) Slot.unset).toArray = ls at hl ⊢
  have hl : lv_has ls 1 [(0, .int k)] := hl
  refine lv_iload_n hx hb dX0_checkShard_0 rfl (lv_at hl 0 rfl) ?_
  refine vp_callSi (W.runS (As := [.int k]) (rest := []) ⟨hx, hb, hml, hown, hts⟩ (c_X0_isShard l k) (va_cwS 1 hts gX0_checkShard_X0_isShard rfl rfl rfl (by decide +kernel) ⟨Nat.le_of_ble_eq_true rfl, Nat.le_of_ble_eq_true rfl⟩) ⟨qN_blind, qN_at⟩ rfl rfl hl.1 rfl (lv_room (Nat.le_of_ble_eq_true rfl)) dX0_checkShard_1 ⟨Nat.le_of_ble_eq_true rfl, Nat.le_of_ble_eq_true rfl⟩) (fun z hz => ?_)
  subst hz
  refine lv_if_ne (tgt := 17) hx hb dX0_checkShard_4 (by decide) (fun c_4 => ?_) (fun c_4 => ?_)
  · have c_4 := bI_n.mp c_4
    refine vx_ret ?_
    refine W.widen (k := 1) (n := 6) (by decide) (by decide) ?_
    exact W.vret hx hb hr (fun t ht hW => ⟨rfl, c_4, ht⟩) (fun q h => nomatch h) dX0_checkShard_17
  · have c_4 := bI_0.mp c_4
    obtain ⟨sa, hsa⟩ := hTH.2.2.1 (219, "no such shard") (List.mem_of_getElem? (i := 18) rfl)
    exact vx_throwS (A := fun _ => False) (names := ["java/lang/RuntimeException", "java/lang/Exception"]) hx hb hl0 hown (by decide) (by decide) (hts _ (List.mem_cons_of_mem _ (List.mem_append_left _ (List.mem_of_getElem? (i := 0) rfl)))) (hts _ (List.mem_cons_of_mem _ (List.mem_append_left _ (List.mem_of_getElem? (i := 1) rfl)))) hsa (vx_hat (fun w h => hts w (List.mem_cons_of_mem _ (List.mem_append_right _ h))) qw1 (qBad_of hTH (by decide))) qg1 hTH.1 hTH.2.1 va_S.rf (hl.1.trans hml.symm) dX0_checkShard_7 dX0_checkShard_10 dX0_checkShard_11 dX0_checkShard_13 dX0_checkShard_16 (fun x h => (hno x h).elim) (Nat.le_of_ble_eq_true rfl) (Nat.le_of_ble_eq_true rfl) (Nat.le_of_ble_eq_true rfl) (Nat.le_of_ble_eq_true rfl) hlocks (fun t _ h1 h2 => ⟨⟨rfl, c_4⟩, h1, h2⟩) (fun q h => nomatch h) (by decide) (by decide)
set_option maxHeartbeats 4000000 in
set_option maxRecDepth 100000 in
/-- checkDistrict -/
theorem c_X0_checkDistrict (l : Launch) (hl0 : l.stackTraces = false) (k : Int32) : vx_Met l yX0_checkDistrict wsX0_checkDistrict ({ frames := 6, cells := 1, slots := 6, locals := 90 } : Room) (va_Pc [.int k] qTH) (va_Sv (fun _ => xShard k)) (qX (fun E => E = eIO ∧ ¬ (xShard k))) 1 6 (fun _ => False) := by
  refine vx_ofW (cc := cX0_checkDistrict) (maxL := 1) (ret := none) (by decide) rfl ?_
  intro p e s m args below meth c s₁ B hml hno hv
  obtain ⟨rfl, hTH⟩ := hv
  have hx := B.exec
  have hb := B.bytes
  have hr := B.returns
  have hts := atoms_spec (ws := wsX0_checkDistrict) B.pre
  have hown : s.vm.findClass RX0 = some m.cls := findClass_of_methodNamed B.named
  have hlocks := B.notSynchronized
  have hl := lv_entry ([.int k]) (n := 1) (Nat.le_of_ble_eq_true rfl)
  rw [lg_entry_eq]
  generalize (lg_sl ([.int k]) ++ List.replicate (1 - (lg_sl ([.int k])).length) Slot.unset).toArray = ls at hl ⊢
  have hl : lv_has ls 1 [(0, .int k)] := hl
  refine lv_iload_n hx hb dX0_checkDistrict_0 rfl (lv_at hl 0 rfl) ?_
  refine lv_if_lt (tgt := 9) hx hb dX0_checkDistrict_1 (by decide) (fun c_1 => ?_) (fun c_1 => ?_)
  · skip
    obtain ⟨sa, hsa⟩ := hTH.2.2.1 (221, "no such district") (List.mem_of_getElem? (i := 19) rfl)
    exact vx_throwS (A := fun _ => False) (names := ["java/lang/RuntimeException", "java/lang/Exception"]) hx hb hl0 hown (by decide) (by decide) (hts _ (List.mem_cons_of_mem _ (List.mem_append_left _ (List.mem_of_getElem? (i := 0) rfl)))) (hts _ (List.mem_cons_of_mem _ (List.mem_append_left _ (List.mem_of_getElem? (i := 1) rfl)))) hsa (vx_hat (fun w h => hts w (List.mem_cons_of_mem _ (List.mem_append_right _ h))) qw1 (qBad_of hTH (by decide))) qg1 hTH.1 hTH.2.1 va_S.rf (hl.1.trans hml.symm) dX0_checkDistrict_9 dX0_checkDistrict_12 dX0_checkDistrict_13 dX0_checkDistrict_15 dX0_checkDistrict_18 (fun x h => (hno x h).elim) (Nat.le_of_ble_eq_true rfl) (Nat.le_of_ble_eq_true rfl) (Nat.le_of_ble_eq_true rfl) (Nat.le_of_ble_eq_true rfl) hlocks (fun t _ h1 h2 => ⟨⟨rfl, i_nl c_1⟩, h1, h2⟩) (fun q h => nomatch h) (by decide) (by decide)
  · skip
    refine lv_iload_n hx hb dX0_checkDistrict_4 rfl (lv_at hl 0 rfl) ?_
    refine lv_iconst (v := 4) hx hb dX0_checkDistrict_5 (by decide) ?_
    refine lv_icmp_lt (tgt := 19) hx hb dX0_checkDistrict_6 (by decide) (fun c_6 => ?_) (fun c_6 => ?_)
    · skip
      refine vx_ret ?_
      refine W.widen (k := 1) (n := 6) (by decide) (by decide) ?_
      exact W.vret hx hb hr (fun t ht hW => ⟨rfl, (i_and2 c_1 c_6), ht⟩) (fun q h => nomatch h) dX0_checkDistrict_19
    · skip
      obtain ⟨sa, hsa⟩ := hTH.2.2.1 (221, "no such district") (List.mem_of_getElem? (i := 19) rfl)
      exact vx_throwS (A := fun _ => False) (names := ["java/lang/RuntimeException", "java/lang/Exception"]) hx hb hl0 hown (by decide) (by decide) (hts _ (List.mem_cons_of_mem _ (List.mem_append_left _ (List.mem_of_getElem? (i := 0) rfl)))) (hts _ (List.mem_cons_of_mem _ (List.mem_append_left _ (List.mem_of_getElem? (i := 1) rfl)))) hsa (vx_hat (fun w h => hts w (List.mem_cons_of_mem _ (List.mem_append_right _ h))) qw1 (qBad_of hTH (by decide))) qg1 hTH.1 hTH.2.1 va_S.rf (hl.1.trans hml.symm) dX0_checkDistrict_9 dX0_checkDistrict_12 dX0_checkDistrict_13 dX0_checkDistrict_15 dX0_checkDistrict_18 (fun x h => (hno x h).elim) (Nat.le_of_ble_eq_true rfl) (Nat.le_of_ble_eq_true rfl) (Nat.le_of_ble_eq_true rfl) (Nat.le_of_ble_eq_true rfl) hlocks (fun t _ h1 h2 => ⟨⟨rfl, fun q => c_6 q.2⟩, h1, h2⟩) (fun q h => nomatch h) (by decide) (by decide)
set_option maxHeartbeats 4000000 in
set_option maxRecDepth 100000 in
/-- checkAddress -/
theorem c_X0_checkAddress (l : Launch) (hl0 : l.stackTraces = false) (k : Int32) : vx_Met l yX0_checkAddress wsX0_checkAddress ({ frames := 6, cells := 1, slots := 6, locals := 90 } : Room) (va_Pc [.int k] qTH) (va_Sv (fun _ => xAdr k)) (qX (fun E => E = eIA ∧ ¬ (xAdr k))) 1 6 (fun _ => False) := by
  refine vx_ofW (cc := cX0_checkAddress) (maxL := 1) (ret := none) (by decide) rfl ?_
  intro p e s m args below meth c s₁ B hml hno hv
  obtain ⟨rfl, hTH⟩ := hv
  have hx := B.exec
  have hb := B.bytes
  have hr := B.returns
  have hts := atoms_spec (ws := wsX0_checkAddress) B.pre
  have hown : s.vm.findClass RX0 = some m.cls := findClass_of_methodNamed B.named
  have hlocks := B.notSynchronized
  have hl := lv_entry ([.int k]) (n := 1) (Nat.le_of_ble_eq_true rfl)
  rw [lg_entry_eq]
  generalize (lg_sl ([.int k]) ++ List.replicate (1 - (lg_sl ([.int k])).length) Slot.unset).toArray = ls at hl ⊢
  have hl : lv_has ls 1 [(0, .int k)] := hl
  refine lv_iload_n hx hb dX0_checkAddress_0 rfl (lv_at hl 0 rfl) ?_
  refine lv_if_lt (tgt := 10) hx hb dX0_checkAddress_1 (by decide) (fun c_1 => ?_) (fun c_1 => ?_)
  · skip
    obtain ⟨sa, hsa⟩ := hTH.2.2.1 (229, "the address is out of range") (List.mem_of_getElem? (i := 22) rfl)
    exact vx_throwS (A := fun _ => False) (names := ["java/lang/RuntimeException", "java/lang/Exception"]) hx hb hl0 hown (by decide) (by decide) (hts _ (List.mem_cons_of_mem _ (List.mem_append_left _ (List.mem_of_getElem? (i := 0) rfl)))) (hts _ (List.mem_cons_of_mem _ (List.mem_append_left _ (List.mem_of_getElem? (i := 1) rfl)))) hsa (vx_hat (fun w h => hts w (List.mem_cons_of_mem _ (List.mem_append_right _ h))) qw2 (qBad_of hTH (by decide))) qg2 hTH.1 hTH.2.1 va_S.rf (hl.1.trans hml.symm) dX0_checkAddress_10 dX0_checkAddress_13 dX0_checkAddress_14 dX0_checkAddress_16 dX0_checkAddress_19 (fun x h => (hno x h).elim) (Nat.le_of_ble_eq_true rfl) (Nat.le_of_ble_eq_true rfl) (Nat.le_of_ble_eq_true rfl) (Nat.le_of_ble_eq_true rfl) hlocks (fun t _ h1 h2 => ⟨⟨rfl, i_nl c_1⟩, h1, h2⟩) (fun q h => nomatch h) (by decide) (by decide)
  · skip
    refine lv_iload_n hx hb dX0_checkAddress_4 rfl (lv_at hl 0 rfl) ?_
    refine lv_bipush (v := 40) hx hb dX0_checkAddress_5 (by decide) ?_
    refine lv_icmp_lt (tgt := 20) hx hb dX0_checkAddress_7 (by decide) (fun c_7 => ?_) (fun c_7 => ?_)
    · skip
      refine vx_ret ?_
      refine W.widen (k := 1) (n := 6) (by decide) (by decide) ?_
      exact W.vret hx hb hr (fun t ht hW => ⟨rfl, (i_and2 c_1 c_7), ht⟩) (fun q h => nomatch h) dX0_checkAddress_20
    · skip
      obtain ⟨sa, hsa⟩ := hTH.2.2.1 (229, "the address is out of range") (List.mem_of_getElem? (i := 22) rfl)
      exact vx_throwS (A := fun _ => False) (names := ["java/lang/RuntimeException", "java/lang/Exception"]) hx hb hl0 hown (by decide) (by decide) (hts _ (List.mem_cons_of_mem _ (List.mem_append_left _ (List.mem_of_getElem? (i := 0) rfl)))) (hts _ (List.mem_cons_of_mem _ (List.mem_append_left _ (List.mem_of_getElem? (i := 1) rfl)))) hsa (vx_hat (fun w h => hts w (List.mem_cons_of_mem _ (List.mem_append_right _ h))) qw2 (qBad_of hTH (by decide))) qg2 hTH.1 hTH.2.1 va_S.rf (hl.1.trans hml.symm) dX0_checkAddress_10 dX0_checkAddress_13 dX0_checkAddress_14 dX0_checkAddress_16 dX0_checkAddress_19 (fun x h => (hno x h).elim) (Nat.le_of_ble_eq_true rfl) (Nat.le_of_ble_eq_true rfl) (Nat.le_of_ble_eq_true rfl) (Nat.le_of_ble_eq_true rfl) hlocks (fun t _ h1 h2 => ⟨⟨rfl, fun q => c_7 q.2⟩, h1, h2⟩) (fun q h => nomatch h) (by decide) (by decide)
set_option maxHeartbeats 4000000 in
set_option maxRecDepth 100000 in
/-- checkChoice -/
theorem c_X0_checkChoice (l : Launch) (hl0 : l.stackTraces = false) (k : Int32) : vx_Met l yX0_checkChoice wsX0_checkChoice ({ frames := 6, cells := 1, slots := 6, locals := 90 } : Room) (va_Pc [.int k] qTH) (va_Sv (fun _ => xCho k)) (qX (fun E => E = eIA ∧ ¬ (xCho k))) 1 6 (fun _ => False) := by
  refine vx_ofW (cc := cX0_checkChoice) (maxL := 1) (ret := none) (by decide) rfl ?_
  intro p e s m args below meth c s₁ B hml hno hv
  obtain ⟨rfl, hTH⟩ := hv
  have hx := B.exec
  have hb := B.bytes
  have hr := B.returns
  have hts := atoms_spec (ws := wsX0_checkChoice) B.pre
  have hown : s.vm.findClass RX0 = some m.cls := findClass_of_methodNamed B.named
  have hlocks := B.notSynchronized
  have hl := lv_entry ([.int k]) (n := 1) (Nat.le_of_ble_eq_true rfl)
  rw [lg_entry_eq]
  generalize (lg_sl ([.int k]) ++ List.replicate (1 - (lg_sl ([.int k])).length) Slot.unset).toArray = ls at hl ⊢
  have hl : lv_has ls 1 [(0, .int k)] := hl
  refine lv_iload_n hx hb dX0_checkChoice_0 rfl (lv_at hl 0 rfl) ?_
  refine lv_if_lt (tgt := 9) hx hb dX0_checkChoice_1 (by decide) (fun c_1 => ?_) (fun c_1 => ?_)
  · skip
    obtain ⟨sa, hsa⟩ := hTH.2.2.1 (232, "the choice is out of range") (List.mem_of_getElem? (i := 23) rfl)
    exact vx_throwS (A := fun _ => False) (names := ["java/lang/RuntimeException", "java/lang/Exception"]) hx hb hl0 hown (by decide) (by decide) (hts _ (List.mem_cons_of_mem _ (List.mem_append_left _ (List.mem_of_getElem? (i := 0) rfl)))) (hts _ (List.mem_cons_of_mem _ (List.mem_append_left _ (List.mem_of_getElem? (i := 1) rfl)))) hsa (vx_hat (fun w h => hts w (List.mem_cons_of_mem _ (List.mem_append_right _ h))) qw2 (qBad_of hTH (by decide))) qg2 hTH.1 hTH.2.1 va_S.rf (hl.1.trans hml.symm) dX0_checkChoice_9 dX0_checkChoice_12 dX0_checkChoice_13 dX0_checkChoice_15 dX0_checkChoice_18 (fun x h => (hno x h).elim) (Nat.le_of_ble_eq_true rfl) (Nat.le_of_ble_eq_true rfl) (Nat.le_of_ble_eq_true rfl) (Nat.le_of_ble_eq_true rfl) hlocks (fun t _ h1 h2 => ⟨⟨rfl, i_nl c_1⟩, h1, h2⟩) (fun q h => nomatch h) (by decide) (by decide)
  · skip
    refine lv_iload_n hx hb dX0_checkChoice_4 rfl (lv_at hl 0 rfl) ?_
    refine lv_iconst (v := 3) hx hb dX0_checkChoice_5 (by decide) ?_
    refine lv_icmp_lt (tgt := 19) hx hb dX0_checkChoice_6 (by decide) (fun c_6 => ?_) (fun c_6 => ?_)
    · skip
      refine vx_ret ?_
      refine W.widen (k := 1) (n := 6) (by decide) (by decide) ?_
      exact W.vret hx hb hr (fun t ht hW => ⟨rfl, (i_and2 c_1 c_6), ht⟩) (fun q h => nomatch h) dX0_checkChoice_19
    · skip
      obtain ⟨sa, hsa⟩ := hTH.2.2.1 (232, "the choice is out of range") (List.mem_of_getElem? (i := 23) rfl)
      exact vx_throwS (A := fun _ => False) (names := ["java/lang/RuntimeException", "java/lang/Exception"]) hx hb hl0 hown (by decide) (by decide) (hts _ (List.mem_cons_of_mem _ (List.mem_append_left _ (List.mem_of_getElem? (i := 0) rfl)))) (hts _ (List.mem_cons_of_mem _ (List.mem_append_left _ (List.mem_of_getElem? (i := 1) rfl)))) hsa (vx_hat (fun w h => hts w (List.mem_cons_of_mem _ (List.mem_append_right _ h))) qw2 (qBad_of hTH (by decide))) qg2 hTH.1 hTH.2.1 va_S.rf (hl.1.trans hml.symm) dX0_checkChoice_9 dX0_checkChoice_12 dX0_checkChoice_13 dX0_checkChoice_15 dX0_checkChoice_18 (fun x h => (hno x h).elim) (Nat.le_of_ble_eq_true rfl) (Nat.le_of_ble_eq_true rfl) (Nat.le_of_ble_eq_true rfl) (Nat.le_of_ble_eq_true rfl) hlocks (fun t _ h1 h2 => ⟨⟨rfl, fun q => c_6 q.2⟩, h1, h2⟩) (fun q h => nomatch h) (by decide) (by decide)
set_option maxHeartbeats 4000000 in
set_option maxRecDepth 100000 in
/-- checkRange -/
theorem c_X0_checkRange (l : Launch) (hl0 : l.stackTraces = false) (D : va_G) (cA cZ cL : ClassId) (ad : Nat → Nat) (f : qFs) (g : qGs) (r : Int32) : vx_Met l yX0_checkRange wsX0_checkRange ({ frames := 6, cells := 1, slots := 6, locals := 90 } : Room) (va_Pc [.ref (ad 16), .int r] (qPreT D (qTy cA cZ cL) (xW cA ad f g))) (va_Sv (fun _ => xRange f r)) (qX (fun E => E = eIO ∧ ¬ (xRange f r))) 1 6 (fun _ => False) := by
  refine vx_ofW (cc := cX0_checkRange) (maxL := 2) (ret := none) (by decide) rfl ?_
  intro p e s m args below meth c s₁ B hml hno hv
  obtain ⟨rfl, hP, hK, hTH⟩ := hv
  have hx := B.exec
  have hb := B.bytes
  have hr := B.returns
  have hts := atoms_spec (ws := wsX0_checkRange) B.pre
  have hown : s.vm.findClass RX0 = some m.cls := findClass_of_methodNamed B.named
  have hlocks := B.notSynchronized
  have hfin : ∀ w ∈ wsX00, w ∈ wsX0_checkRange := fun w h => (List.mem_cons_of_mem _ (List.mem_append_left _ (List.mem_append_right _ h)))
  have hl := lv_entry ([.ref (ad 16), .int r]) (n := 2) (Nat.le_of_ble_eq_true rfl)
  rw [lg_entry_eq]
  generalize (lg_sl ([.ref (ad 16), .int r]) ++ List.replicate (2 - (lg_sl ([.ref (ad 16), .int r])).length) Slot.unset).toArray = ls at hl ⊢
  have hl : lv_has ls 2 [(0, .ref (ad 16)), (1, .int r)] := hl
  refine lv_aload_n hx hb dX0_checkRange_0 rfl (lv_at hl 0 rfl) ?_
  refine lv_iload_n hx hb dX0_checkRange_1 rfl (lv_at hl 1 rfl) ?_
  refine vp_callSi (W.runV (As := [.int r]) (rest := []) ⟨hx, hb, hml, hown, hts⟩ (c_X0_isRange l D cA cZ cL ad f g r) (cwV 1 hts gX0_checkRange_X0_isRange rfl rfl rfl (by decide +kernel) ⟨Nat.le_of_ble_eq_true rfl, Nat.le_of_ble_eq_true rfl⟩) ⟨qPre_blind, va_recv hK hP (ci := 0) (q0 := 0) rfl rfl, qPre_at hP hK⟩ rfl rfl hl.1 rfl (lv_room (Nat.le_of_ble_eq_true rfl)) dX0_checkRange_2 ⟨Nat.le_of_ble_eq_true rfl, Nat.le_of_ble_eq_true rfl⟩) (fun z hz => ?_)
  subst hz
  refine lv_if_ne (tgt := 18) hx hb dX0_checkRange_5 (by decide) (fun c_5 => ?_) (fun c_5 => ?_)
  · have c_5 := bI_n.mp c_5
    refine vx_ret ?_
    refine W.widen (k := 1) (n := 6) (by decide) (by decide) ?_
    exact W.vret hx hb hr (fun t ht hW => ⟨rfl, c_5, ht⟩) (fun q h => nomatch h) dX0_checkRange_18
  · have c_5 := bI_0.mp c_5
    obtain ⟨sa, hsa⟩ := hTH.2.2.1 (223, "no such range") (List.mem_of_getElem? (i := 20) rfl)
    exact vx_throwS (A := fun _ => False) (names := ["java/lang/RuntimeException", "java/lang/Exception"]) hx hb hl0 hown (by decide) (by decide) (hts _ (List.mem_cons_of_mem _ (List.mem_append_left _ (List.mem_append_left _ (List.mem_of_getElem? (i := 0) rfl))))) (hts _ (List.mem_cons_of_mem _ (List.mem_append_left _ (List.mem_append_left _ (List.mem_of_getElem? (i := 1) rfl))))) hsa (vx_hat (fun w h => hts w (List.mem_cons_of_mem _ (List.mem_append_right _ h))) qw1 (qBad_of hTH (by decide))) qg1 hTH.1 hTH.2.1 va_S.rf (hl.1.trans hml.symm) dX0_checkRange_8 dX0_checkRange_11 dX0_checkRange_12 dX0_checkRange_14 dX0_checkRange_17 (fun x h => (hno x h).elim) (Nat.le_of_ble_eq_true rfl) (Nat.le_of_ble_eq_true rfl) (Nat.le_of_ble_eq_true rfl) (Nat.le_of_ble_eq_true rfl) hlocks (fun t _ h1 h2 => ⟨⟨rfl, c_5⟩, h1, h2⟩) (fun q h => nomatch h) (by decide) (by decide)
set_option maxHeartbeats 4000000 in
set_option maxRecDepth 100000 in
/-- checkBallot -/
theorem c_X0_checkBallot (l : Launch) (hl0 : l.stackTraces = false) (D : va_G) (cA cZ cL : ClassId) (ad : Nat → Nat) (f : qFs) (g : qGs) (r : Int32) : vx_Met l yX0_checkBallot wsX0_checkBallot ({ frames := 6, cells := 1, slots := 6, locals := 90 } : Room) (va_Pc [.ref (ad 16), .int r] (qPreT D (qTy cA cZ cL) (xW cA ad f g))) (va_Sv (fun _ => xBallot f r)) (qX (fun E => E = eIO ∧ ¬ (xBallot f r))) 1 6 (fun _ => False) := by
  refine vx_ofW (cc := cX0_checkBallot) (maxL := 2) (ret := none) (by decide) rfl ?_
  intro p e s m args below meth c s₁ B hml hno hv
  obtain ⟨rfl, hP, hK, hTH⟩ := hv
  have hx := B.exec
  have hb := B.bytes
  have hr := B.returns
  have hts := atoms_spec (ws := wsX0_checkBallot) B.pre
  have hown : s.vm.findClass RX0 = some m.cls := findClass_of_methodNamed B.named
  have hlocks := B.notSynchronized
  have hfin : ∀ w ∈ wsX00, w ∈ wsX0_checkBallot := fun w h => (List.mem_cons_of_mem _ (List.mem_append_left _ (List.mem_append_right _ h)))
  have hl := lv_entry ([.ref (ad 16), .int r]) (n := 2) (Nat.le_of_ble_eq_true rfl)
  rw [lg_entry_eq]
  generalize (lg_sl ([.ref (ad 16), .int r]) ++ List.replicate (2 - (lg_sl ([.ref (ad 16), .int r])).length) Slot.unset).toArray = ls at hl ⊢
  have hl : lv_has ls 2 [(0, .ref (ad 16)), (1, .int r)] := hl
  refine lv_aload_n hx hb dX0_checkBallot_0 rfl (lv_at hl 0 rfl) ?_
  refine lv_iload_n hx hb dX0_checkBallot_1 rfl (lv_at hl 1 rfl) ?_
  refine vp_callSi (W.runV (As := [.int r]) (rest := []) ⟨hx, hb, hml, hown, hts⟩ (c_X0_isBallot l D cA cZ cL ad f g r) (cwV 1 hts gX0_checkBallot_X0_isBallot rfl rfl rfl (by decide +kernel) ⟨Nat.le_of_ble_eq_true rfl, Nat.le_of_ble_eq_true rfl⟩) ⟨qPre_blind, va_recv hK hP (ci := 0) (q0 := 0) rfl rfl, qPre_at hP hK⟩ rfl rfl hl.1 rfl (lv_room (Nat.le_of_ble_eq_true rfl)) dX0_checkBallot_2 ⟨Nat.le_of_ble_eq_true rfl, Nat.le_of_ble_eq_true rfl⟩) (fun z hz => ?_)
  subst hz
  refine lv_if_ne (tgt := 18) hx hb dX0_checkBallot_5 (by decide) (fun c_5 => ?_) (fun c_5 => ?_)
  · have c_5 := bI_n.mp c_5
    refine vx_ret ?_
    refine W.widen (k := 1) (n := 6) (by decide) (by decide) ?_
    exact W.vret hx hb hr (fun t ht hW => ⟨rfl, c_5, ht⟩) (fun q h => nomatch h) dX0_checkBallot_18
  · have c_5 := bI_0.mp c_5
    obtain ⟨sa, hsa⟩ := hTH.2.2.1 (225, "no such ballot") (List.mem_of_getElem? (i := 21) rfl)
    exact vx_throwS (A := fun _ => False) (names := ["java/lang/RuntimeException", "java/lang/Exception"]) hx hb hl0 hown (by decide) (by decide) (hts _ (List.mem_cons_of_mem _ (List.mem_append_left _ (List.mem_append_left _ (List.mem_of_getElem? (i := 0) rfl))))) (hts _ (List.mem_cons_of_mem _ (List.mem_append_left _ (List.mem_append_left _ (List.mem_of_getElem? (i := 1) rfl))))) hsa (vx_hat (fun w h => hts w (List.mem_cons_of_mem _ (List.mem_append_right _ h))) qw1 (qBad_of hTH (by decide))) qg1 hTH.1 hTH.2.1 va_S.rf (hl.1.trans hml.symm) dX0_checkBallot_8 dX0_checkBallot_11 dX0_checkBallot_12 dX0_checkBallot_14 dX0_checkBallot_17 (fun x h => (hno x h).elim) (Nat.le_of_ble_eq_true rfl) (Nat.le_of_ble_eq_true rfl) (Nat.le_of_ble_eq_true rfl) (Nat.le_of_ble_eq_true rfl) hlocks (fun t _ h1 h2 => ⟨⟨rfl, c_5⟩, h1, h2⟩) (fun q h => nomatch h) (by decide) (by decide)
set_option maxHeartbeats 4000000 in
set_option maxRecDepth 100000 in
/-- checkMember -/
theorem c_X0_checkMember (l : Launch) (hl0 : l.stackTraces = false) (D : va_G) (cA cZ cL : ClassId) (ad : Nat → Nat) (f : qFs) (g : qGs) (k : Int32) (nR : Nat) (nB : Nat) (hI : xI nR nB f) : vx_Met l yX0_checkMember wsX0_checkMember ({ frames := 6, cells := 1, slots := 6, locals := 107 } : Room) (va_Pc [.ref (ad 16), .int k] (qPreT D (qTy cA cZ cL) (xW cA ad f g))) (va_Sv (fun _ => ¬ xRead nR f g k = -1)) (qX (fun E => E = eIS ∧ ¬ (¬ xRead nR f g k = -1))) 1 6 (fun _ => False) := by
  refine vx_ofW (cc := cX0_checkMember) (maxL := 2) (ret := none) (by decide) rfl ?_
  intro p e s m args below meth c s₁ B hml hno hv
  obtain ⟨rfl, hP, hK, hTH⟩ := hv
  have hx := B.exec
  have hb := B.bytes
  have hr := B.returns
  have hts := atoms_spec (ws := wsX0_checkMember) B.pre
  have hown : s.vm.findClass RX0 = some m.cls := findClass_of_methodNamed B.named
  have hlocks := B.notSynchronized
  have hfin : ∀ w ∈ wsX00, w ∈ wsX0_checkMember := fun w h => (List.mem_cons_of_mem _ (List.mem_append_left _ (List.mem_append_right _ h)))
  have hl := lv_entry ([.ref (ad 16), .int k]) (n := 2) (Nat.le_of_ble_eq_true rfl)
  rw [lg_entry_eq]
  generalize (lg_sl ([.ref (ad 16), .int k]) ++ List.replicate (2 - (lg_sl ([.ref (ad 16), .int k])).length) Slot.unset).toArray = ls at hl ⊢
  have hl : lv_has ls 2 [(0, .ref (ad 16)), (1, .int k)] := hl
  refine lv_aload_n hx hb dX0_checkMember_0 rfl (lv_at hl 0 rfl) ?_
  refine lv_iload_n hx hb dX0_checkMember_1 rfl (lv_at hl 1 rfl) ?_
  refine vp_callSi (W.runV (As := [.int k]) (rest := []) ⟨hx, hb, hml, hown, hts⟩ (c_X0_isMember l D cA cZ cL ad f g k nR nB hI) (cwV 1 hts gX0_checkMember_X0_isMember rfl rfl rfl (by decide +kernel) ⟨Nat.le_of_ble_eq_true rfl, Nat.le_of_ble_eq_true rfl⟩) ⟨qPre_blind, va_recv hK hP (ci := 0) (q0 := 0) rfl rfl, qPre_at hP hK⟩ rfl rfl hl.1 rfl (lv_room (Nat.le_of_ble_eq_true rfl)) dX0_checkMember_2 ⟨Nat.le_of_ble_eq_true rfl, Nat.le_of_ble_eq_true rfl⟩) (fun z hz => ?_)
  subst hz
  refine lv_if_ne (tgt := 18) hx hb dX0_checkMember_5 (by decide) (fun c_5 => ?_) (fun c_5 => ?_)
  · have c_5 := bI_n.mp c_5
    refine vx_ret ?_
    refine W.widen (k := 1) (n := 6) (by decide) (by decide) ?_
    exact W.vret hx hb hr (fun t ht hW => ⟨rfl, c_5, ht⟩) (fun q h => nomatch h) dX0_checkMember_18
  · have c_5 := bI_0.mp c_5
    obtain ⟨sa, hsa⟩ := hTH.2.2.1 (234, "there is no member with this key") (List.mem_of_getElem? (i := 24) rfl)
    exact vx_throwS (A := fun _ => False) (names := ["java/lang/RuntimeException", "java/lang/Exception"]) hx hb hl0 hown (by decide) (by decide) (hts _ (List.mem_cons_of_mem _ (List.mem_append_left _ (List.mem_append_left _ (List.mem_append_left _ (List.mem_of_getElem? (i := 0) rfl)))))) (hts _ (List.mem_cons_of_mem _ (List.mem_append_left _ (List.mem_append_left _ (List.mem_append_left _ (List.mem_of_getElem? (i := 1) rfl)))))) hsa (vx_hat (fun w h => hts w (List.mem_cons_of_mem _ (List.mem_append_right _ h))) qw3 (qBad_of hTH (by decide))) qg3 hTH.1 hTH.2.1 va_S.rf (hl.1.trans hml.symm) dX0_checkMember_8 dX0_checkMember_11 dX0_checkMember_12 dX0_checkMember_14 dX0_checkMember_17 (fun x h => (hno x h).elim) (Nat.le_of_ble_eq_true rfl) (Nat.le_of_ble_eq_true rfl) (Nat.le_of_ble_eq_true rfl) (Nat.le_of_ble_eq_true rfl) hlocks (fun t _ h1 h2 => ⟨⟨rfl, c_5⟩, h1, h2⟩) (fun q h => nomatch h) (by decide) (by decide)
set_option maxHeartbeats 4000000 in
set_option maxRecDepth 100000 in
/-- checkMoved -/
theorem c_X0_checkMoved (l : Launch) (hl0 : l.stackTraces = false) (D : va_G) (cA cZ cL : ClassId) (ad : Nat → Nat) (f : qFs) (g : qGs) (r : Int32) (nR : Nat) (nB : Nat) (hI : xI nR nB f) : vx_Met l yX0_checkMoved wsX0_checkMoved ({ frames := 6, cells := 1, slots := 6, locals := 90 } : Room) (va_Pc [.ref (ad 16), .int r] (qPreT D (qTy cA cZ cL) (xW cA ad f g))) (va_Sv (fun _ => ¬ xTarg f g r = -1)) (qX (fun E => E = eIS ∧ ¬ (¬ xTarg f g r = -1))) 1 6 (fun _ => False) := by
  refine vx_ofW (cc := cX0_checkMoved) (maxL := 2) (ret := none) (by decide) rfl ?_
  intro p e s m args below meth c s₁ B hml hno hv
  obtain ⟨rfl, hP, hK, hTH⟩ := hv
  have hx := B.exec
  have hb := B.bytes
  have hr := B.returns
  have hts := atoms_spec (ws := wsX0_checkMoved) B.pre
  have hown : s.vm.findClass RX0 = some m.cls := findClass_of_methodNamed B.named
  have hlocks := B.notSynchronized
  have hfin : ∀ w ∈ wsX00, w ∈ wsX0_checkMoved := fun w h => (List.mem_cons_of_mem _ (List.mem_append_left _ (List.mem_append_right _ h)))
  have hl := lv_entry ([.ref (ad 16), .int r]) (n := 2) (Nat.le_of_ble_eq_true rfl)
  rw [lg_entry_eq]
  generalize (lg_sl ([.ref (ad 16), .int r]) ++ List.replicate (2 - (lg_sl ([.ref (ad 16), .int r])).length) Slot.unset).toArray = ls at hl ⊢
  have hl : lv_has ls 2 [(0, .ref (ad 16)), (1, .int r)] := hl
  refine lv_aload_n hx hb dX0_checkMoved_0 rfl (lv_at hl 0 rfl) ?_
  refine lv_iload_n hx hb dX0_checkMoved_1 rfl (lv_at hl 1 rfl) ?_
  refine vp_callSi (W.runV (As := [.int r]) (rest := []) ⟨hx, hb, hml, hown, hts⟩ (c_X0_isMoved l D cA cZ cL ad f g r nR nB hI) (cwV 1 hts gX0_checkMoved_X0_isMoved rfl rfl rfl (by decide +kernel) ⟨Nat.le_of_ble_eq_true rfl, Nat.le_of_ble_eq_true rfl⟩) ⟨qPre_blind, va_recv hK hP (ci := 0) (q0 := 0) rfl rfl, qPre_at hP hK⟩ rfl rfl hl.1 rfl (lv_room (Nat.le_of_ble_eq_true rfl)) dX0_checkMoved_2 ⟨Nat.le_of_ble_eq_true rfl, Nat.le_of_ble_eq_true rfl⟩) (fun z hz => ?_)
  subst hz
  refine lv_if_ne (tgt := 18) hx hb dX0_checkMoved_5 (by decide) (fun c_5 => ?_) (fun c_5 => ?_)
  · have c_5 := bI_n.mp c_5
    refine vx_ret ?_
    refine W.widen (k := 1) (n := 6) (by decide) (by decide) ?_
    exact W.vret hx hb hr (fun t ht hW => ⟨rfl, c_5, ht⟩) (fun q h => nomatch h) dX0_checkMoved_18
  · have c_5 := bI_0.mp c_5
    obtain ⟨sa, hsa⟩ := hTH.2.2.1 (236, "the range is not moved") (List.mem_of_getElem? (i := 25) rfl)
    exact vx_throwS (A := fun _ => False) (names := ["java/lang/RuntimeException", "java/lang/Exception"]) hx hb hl0 hown (by decide) (by decide) (hts _ (List.mem_cons_of_mem _ (List.mem_append_left _ (List.mem_append_left _ (List.mem_of_getElem? (i := 0) rfl))))) (hts _ (List.mem_cons_of_mem _ (List.mem_append_left _ (List.mem_append_left _ (List.mem_of_getElem? (i := 1) rfl))))) hsa (vx_hat (fun w h => hts w (List.mem_cons_of_mem _ (List.mem_append_right _ h))) qw3 (qBad_of hTH (by decide))) qg3 hTH.1 hTH.2.1 va_S.rf (hl.1.trans hml.symm) dX0_checkMoved_8 dX0_checkMoved_11 dX0_checkMoved_12 dX0_checkMoved_14 dX0_checkMoved_17 (fun x h => (hno x h).elim) (Nat.le_of_ble_eq_true rfl) (Nat.le_of_ble_eq_true rfl) (Nat.le_of_ble_eq_true rfl) (Nat.le_of_ble_eq_true rfl) hlocks (fun t _ h1 h2 => ⟨⟨rfl, c_5⟩, h1, h2⟩) (fun q h => nomatch h) (by decide) (by decide)
set_option maxHeartbeats 4000000 in
set_option maxRecDepth 100000 in
/-- ranges -/
theorem c_X0_ranges (l : Launch) (D : va_G) (cA cZ cL : ClassId) (ad : Nat → Nat) (f : qFs) (g : qGs) : Met l yX0_ranges wsX0_ranges ({ frames := 0, cells := 0, slots := 0, locals := 0 } : Room) (va_Pc [.ref (ad 16)] (qPre D (qTy cA cZ cL) (xW cA ad f g))) (vp_Si (fun z => z = f 5)) 0 0 (fun _ => False) := by
  refine Met.ofW (cc := cX0_ranges) (maxL := 1) (ret := (some .int)) (by decide) rfl ?_
  intro p e s m args below meth c s₁ B hml hv
  obtain ⟨rfl, hP, hK⟩ := hv
  have hx := B.exec
  have hb := B.bytes
  have hr := B.returns
  have hts := atoms_spec (ws := wsX0_ranges) B.pre
  have hown : s.vm.findClass RX0 = some m.cls := findClass_of_methodNamed B.named
  have hlocks := B.notSynchronized
  have hfin : ∀ w ∈ wsX00, w ∈ wsX0_ranges := fun w h => (List.mem_cons_of_mem _ (List.mem_append_right _ h))
  have hl := lv_entry ([.ref (ad 16)]) (n := 1) (Nat.le_of_ble_eq_true rfl)
  rw [lg_entry_eq]
  generalize (lg_sl ([.ref (ad 16)]) ++ List.replicate (1 - (lg_sl ([.ref (ad 16)])).length) Slot.unset).toArray = ls at hl ⊢
  have hl : lv_has ls 1 [(0, .ref (ad 16))] := hl
  refine lv_aload_n hx hb dX0_ranges_0 rfl (lv_at hl 0 rfl) ?_
  refine va_get (D := D) (ci := 0) (v := .int (f 5)) (C := RX0) (T := TX0) (N := 16) hx hb hts hfin hown hK hP 0 rfl rfl 5 (by decide) (hts _ (List.mem_cons_of_mem _ (List.mem_append_left _ (List.mem_of_getElem? (i := 0) rfl)))) (fun _ h9 => h9) rfl dX0_ranges_1 ?_
  exact W.iret (v := f 5) hx hb hr (fun t ht hW => ⟨f 5, rfl, rfl, ht⟩) (fun q h => nomatch h) dX0_ranges_4
set_option maxHeartbeats 4000000 in
set_option maxRecDepth 100000 in
/-- address -/
theorem c_X0_address (l : Launch) (hl0 : l.stackTraces = false) (D : va_G) (cA cZ cL : ClassId) (ad : Nat → Nat) (f : qFs) (g : qGs) (k : Int32) (nR : Nat) (nB : Nat) (hI : xI nR nB f) : vx_Met l yX0_address wsX0_address ({ frames := 7, cells := 1, slots := 6, locals := 110 } : Room) (va_Pc [.ref (ad 16), .int k] (qPreT D (qTy cA cZ cL) (xW cA ad f g))) (vp_Si (fun z => xKey k ∧ z = xRead nR f g k)) (qX (fun E => E = eIO ∧ ¬ xKey k)) 1 6 (fun _ => False) := by
  refine vx_ofW (cc := cX0_address) (maxL := 2) (ret := (some .int)) (by decide) rfl ?_
  intro p e s m args below meth c s₁ B hml hno hv
  obtain ⟨rfl, hP, hK, hTH⟩ := hv
  have hx := B.exec
  have hb := B.bytes
  have hr := B.returns
  have hts := atoms_spec (ws := wsX0_address) B.pre
  have hown : s.vm.findClass RX0 = some m.cls := findClass_of_methodNamed B.named
  have hlocks := B.notSynchronized
  have hfin : ∀ w ∈ wsX00, w ∈ wsX0_address := fun w h => (List.mem_cons_of_mem _ (List.mem_append_left _ (List.mem_append_right _ h)))
  have hl := lv_entry ([.ref (ad 16), .int k]) (n := 2) (Nat.le_of_ble_eq_true rfl)
  rw [lg_entry_eq]
  generalize (lg_sl ([.ref (ad 16), .int k]) ++ List.replicate (2 - (lg_sl ([.ref (ad 16), .int k])).length) Slot.unset).toArray = ls at hl ⊢
  have hl : lv_has ls 2 [(0, .ref (ad 16)), (1, .int k)] := hl
  refine lv_iload_n hx hb dX0_address_0 rfl (lv_at hl 1 rfl) ?_
  refine qb_callSv (vx_runS (As := [.int k]) (rest := []) ⟨hx, hb, hml, hown, hts⟩ (c_X0_checkKey l hl0 k) (va_cwS 1 hts gX0_address_X0_checkKey rfl rfl rfl (by decide +kernel) ⟨Nat.le_of_ble_eq_true rfl, Nat.le_of_ble_eq_true rfl⟩) ⟨qTH_blind, qTH_pc hTH rfl⟩ rfl rfl hl.1 rfl (lv_room (Nat.le_of_ble_eq_true rfl)) dX0_address_1 ⟨Nat.le_of_ble_eq_true rfl, Nat.le_of_ble_eq_true rfl⟩) (fun E ce q9 st t H1 hst ht hvm hX hcell hcv hcl => vx_out (fun x h => (hno x h).elim) hlocks hcell hcv hcl (fun t2 h2 hA2 => qX_pass hX hst rfl ht h2 (fun h => h)) (fun q h => nomatch h) (by decide) (by decide)) (fun hz => ?_)
  have h_1 := hz
  refine lv_aload_n hx hb dX0_address_4 rfl (lv_at hl 0 rfl) ?_
  refine lv_iload_n hx hb dX0_address_5 rfl (lv_at hl 1 rfl) ?_
  refine vp_callSi (W.runV (As := [.int k]) (rest := []) ⟨hx, hb, hml, hown, hts⟩ (c_X0_read l D cA cZ cL ad f g k nR nB hI) (cwV 1 hts gX0_address_X0_read rfl rfl rfl (by decide +kernel) ⟨Nat.le_of_ble_eq_true rfl, Nat.le_of_ble_eq_true rfl⟩) ⟨qPre_blind, va_recv hK hP (ci := 0) (q0 := 0) rfl rfl, qPre_at hP hK⟩ rfl rfl hl.1 rfl (lv_room (Nat.le_of_ble_eq_true rfl)) dX0_address_6 ⟨Nat.le_of_ble_eq_true rfl, Nat.le_of_ble_eq_true rfl⟩) (fun z hz => ?_)
  subst hz
  refine vx_ret ?_
  refine W.widen (k := 1) (n := 6) (by decide) (by decide) ?_
  exact W.iret (v := xRead nR f g k) hx hb hr (fun t ht hW => ⟨xRead nR f g k, rfl, ⟨h_1, rfl⟩, ht⟩) (fun q h => nomatch h) dX0_address_9
set_option maxHeartbeats 4000000 in
set_option maxRecDepth 100000 in
/-- rangeOf -/
theorem c_X0_rangeOf (l : Launch) (hl0 : l.stackTraces = false) (D : va_G) (cA cZ cL : ClassId) (ad : Nat → Nat) (f : qFs) (g : qGs) (k : Int32) (nR : Nat) (nB : Nat) (hI : xI nR nB f) : vx_Met l yX0_rangeOf wsX0_rangeOf ({ frames := 7, cells := 1, slots := 6, locals := 110 } : Room) (va_Pc [.ref (ad 16), .int k] (qPreT D (qTy cA cZ cL) (xW cA ad f g))) (vp_Si (fun z => xKey k ∧ z = nI (xHold nR g k))) (qX (fun E => E = eIO ∧ ¬ xKey k)) 1 6 (fun _ => False) := by
  refine vx_ofW (cc := cX0_rangeOf) (maxL := 2) (ret := (some .int)) (by decide) rfl ?_
  intro p e s m args below meth c s₁ B hml hno hv
  obtain ⟨rfl, hP, hK, hTH⟩ := hv
  have hx := B.exec
  have hb := B.bytes
  have hr := B.returns
  have hts := atoms_spec (ws := wsX0_rangeOf) B.pre
  have hown : s.vm.findClass RX0 = some m.cls := findClass_of_methodNamed B.named
  have hlocks := B.notSynchronized
  have hfin : ∀ w ∈ wsX00, w ∈ wsX0_rangeOf := fun w h => (List.mem_cons_of_mem _ (List.mem_append_left _ (List.mem_append_right _ h)))
  have hl := lv_entry ([.ref (ad 16), .int k]) (n := 2) (Nat.le_of_ble_eq_true rfl)
  rw [lg_entry_eq]
  generalize (lg_sl ([.ref (ad 16), .int k]) ++ List.replicate (2 - (lg_sl ([.ref (ad 16), .int k])).length) Slot.unset).toArray = ls at hl ⊢
  have hl : lv_has ls 2 [(0, .ref (ad 16)), (1, .int k)] := hl
  refine lv_iload_n hx hb dX0_rangeOf_0 rfl (lv_at hl 1 rfl) ?_
  refine qb_callSv (vx_runS (As := [.int k]) (rest := []) ⟨hx, hb, hml, hown, hts⟩ (c_X0_checkKey l hl0 k) (va_cwS 1 hts gX0_rangeOf_X0_checkKey rfl rfl rfl (by decide +kernel) ⟨Nat.le_of_ble_eq_true rfl, Nat.le_of_ble_eq_true rfl⟩) ⟨qTH_blind, qTH_pc hTH rfl⟩ rfl rfl hl.1 rfl (lv_room (Nat.le_of_ble_eq_true rfl)) dX0_rangeOf_1 ⟨Nat.le_of_ble_eq_true rfl, Nat.le_of_ble_eq_true rfl⟩) (fun E ce q9 st t H1 hst ht hvm hX hcell hcv hcl => vx_out (fun x h => (hno x h).elim) hlocks hcell hcv hcl (fun t2 h2 hA2 => qX_pass hX hst rfl ht h2 (fun h => h)) (fun q h => nomatch h) (by decide) (by decide)) (fun hz => ?_)
  have h_1 := hz
  refine lv_aload_n hx hb dX0_rangeOf_4 rfl (lv_at hl 0 rfl) ?_
  refine lv_iload_n hx hb dX0_rangeOf_5 rfl (lv_at hl 1 rfl) ?_
  refine vp_callSi (W.runV (As := [.int k]) (rest := []) ⟨hx, hb, hml, hown, hts⟩ (c_X0_rangeHolding l D cA cZ cL ad f g k nR nB hI) (cwV 1 hts gX0_rangeOf_X0_rangeHolding rfl rfl rfl (by decide +kernel) ⟨Nat.le_of_ble_eq_true rfl, Nat.le_of_ble_eq_true rfl⟩) ⟨qPre_blind, va_recv hK hP (ci := 0) (q0 := 0) rfl rfl, qPre_at hP hK⟩ rfl rfl hl.1 rfl (lv_room (Nat.le_of_ble_eq_true rfl)) dX0_rangeOf_6 ⟨Nat.le_of_ble_eq_true rfl, Nat.le_of_ble_eq_true rfl⟩) (fun z hz => ?_)
  subst hz
  refine vx_ret ?_
  refine W.widen (k := 1) (n := 6) (by decide) (by decide) ?_
  exact W.iret (v := nI (xHold nR g k)) hx hb hr (fun t ht hW => ⟨nI (xHold nR g k), rfl, ⟨h_1, rfl⟩, ht⟩) (fun q h => nomatch h) dX0_rangeOf_9
set_option maxHeartbeats 4000000 in
set_option maxRecDepth 100000 in
/-- shardOf -/
theorem c_X0_shardOf (l : Launch) (hl0 : l.stackTraces = false) (D : va_G) (cA cZ cL : ClassId) (ad : Nat → Nat) (f : qFs) (g : qGs) (r : Int32) (nR : Nat) (nB : Nat) (hI : xI nR nB f) : vx_Met l yX0_shardOf wsX0_shardOf ({ frames := 7, cells := 1, slots := 6, locals := 111 } : Room) (va_Pc [.ref (ad 16), .int r] (qPreT D (qTy cA cZ cL) (xW cA ad f g))) (vp_Si (fun z => xRange f r ∧ z = g 3 r.toNatClampNeg)) (qX (fun E => E = eIO ∧ ¬ xRange f r)) 1 6 (fun _ => False) := by
  refine vx_ofW (cc := cX0_shardOf) (maxL := 2) (ret := (some .int)) (by decide) rfl ?_
  intro p e s m args below meth c s₁ B hml hno hv
  obtain ⟨rfl, hP, hK, hTH⟩ := hv
  have hx := B.exec
  have hb := B.bytes
  have hr := B.returns
  have hts := atoms_spec (ws := wsX0_shardOf) B.pre
  have hown : s.vm.findClass RX0 = some m.cls := findClass_of_methodNamed B.named
  have hlocks := B.notSynchronized
  have hfin : ∀ w ∈ wsX00, w ∈ wsX0_shardOf := fun w h => (List.mem_cons_of_mem _ (List.mem_append_left _ (List.mem_append_right _ h)))
  have hl := lv_entry ([.ref (ad 16), .int r]) (n := 2) (Nat.le_of_ble_eq_true rfl)
  rw [lg_entry_eq]
  generalize (lg_sl ([.ref (ad 16), .int r]) ++ List.replicate (2 - (lg_sl ([.ref (ad 16), .int r])).length) Slot.unset).toArray = ls at hl ⊢
  have hl : lv_has ls 2 [(0, .ref (ad 16)), (1, .int r)] := hl
  refine lv_aload_n hx hb dX0_shardOf_0 rfl (lv_at hl 0 rfl) ?_
  refine lv_iload_n hx hb dX0_shardOf_1 rfl (lv_at hl 1 rfl) ?_
  refine qb_callSv (vx_runV (As := [.int r]) (rest := []) ⟨hx, hb, hml, hown, hts⟩ (c_X0_checkRange l hl0 D cA cZ cL ad f g r) (cwV 1 hts gX0_shardOf_X0_checkRange rfl rfl rfl (by decide +kernel) ⟨Nat.le_of_ble_eq_true rfl, Nat.le_of_ble_eq_true rfl⟩) ⟨qPreT_blind, va_recv hK hP (ci := 0) (q0 := 0) rfl rfl, qPreT_at hP hK hTH rfl⟩ rfl rfl hl.1 rfl (lv_room (Nat.le_of_ble_eq_true rfl)) dX0_shardOf_2 ⟨Nat.le_of_ble_eq_true rfl, Nat.le_of_ble_eq_true rfl⟩) (fun E ce q9 st t H1 hst ht hvm hX hcell hcv hcl => vx_out (fun x h => (hno x h).elim) hlocks hcell hcv hcl (fun t2 h2 hA2 => qX_pass hX hst rfl ht h2 (fun h => h)) (fun q h => nomatch h) (by decide) (by decide)) (fun hz => ?_)
  have h_2 := hz
  refine lv_aload_n hx hb dX0_shardOf_5 rfl (lv_at hl 0 rfl) ?_
  refine va_get (D := D) (ci := 0) (v := .ref (ad 3)) (C := RX0) (T := TX0) (N := 16) hx hb hts hfin hown hK hP 0 rfl rfl 3 (by decide) (hts _ (List.mem_cons_of_mem _ (List.mem_append_left _ (List.mem_append_left _ (List.mem_of_getElem? (i := 0) rfl))))) (fun _ h9 => h9) rfl dX0_shardOf_6 ?_
  refine lv_iload_n hx hb dX0_shardOf_9 rfl (lv_at hl 1 rfl) ?_
  refine va_iald hx hb hK hP 3 0 rfl rfl (x_in8 hI h_2) dX0_shardOf_10 ?_
  refine vx_ret ?_
  refine W.widen (k := 1) (n := 6) (by decide) (by decide) ?_
  exact W.iret (v := g 3 r.toNatClampNeg) hx hb hr (fun t ht hW => ⟨g 3 r.toNatClampNeg, rfl, ⟨h_2, rfl⟩, ht⟩) (fun q h => nomatch h) dX0_shardOf_11
set_option maxHeartbeats 4000000 in
set_option maxRecDepth 100000 in
/-- rows -/
theorem c_X0_rows (l : Launch) (hl0 : l.stackTraces = false) (D : va_G) (cA cZ cL : ClassId) (ad : Nat → Nat) (f : qFs) (g : qGs) (sh : Int32) : vx_Met l yX0_rows wsX0_rows ({ frames := 7, cells := 1, slots := 6, locals := 110 } : Room) (va_Pc [.ref (ad 16), .int sh] (qPreT D (qTy cA cZ cL) (xW cA ad f g))) (vp_Si (fun z => xShard sh ∧ z = nI (cnt (xRowP g sh) 0 100))) (qX (fun E => E = eIO ∧ ¬ xShard sh)) 1 6 (fun _ => False) := by
  refine vx_ofW (cc := cX0_rows) (maxL := 2) (ret := (some .int)) (by decide) rfl ?_
  intro p e s m args below meth c s₁ B hml hno hv
  obtain ⟨rfl, hP, hK, hTH⟩ := hv
  have hx := B.exec
  have hb := B.bytes
  have hr := B.returns
  have hts := atoms_spec (ws := wsX0_rows) B.pre
  have hown : s.vm.findClass RX0 = some m.cls := findClass_of_methodNamed B.named
  have hlocks := B.notSynchronized
  have hfin : ∀ w ∈ wsX00, w ∈ wsX0_rows := fun w h => (List.mem_cons_of_mem _ (List.mem_append_left _ (List.mem_append_right _ h)))
  have hl := lv_entry ([.ref (ad 16), .int sh]) (n := 2) (Nat.le_of_ble_eq_true rfl)
  rw [lg_entry_eq]
  generalize (lg_sl ([.ref (ad 16), .int sh]) ++ List.replicate (2 - (lg_sl ([.ref (ad 16), .int sh])).length) Slot.unset).toArray = ls at hl ⊢
  have hl : lv_has ls 2 [(0, .ref (ad 16)), (1, .int sh)] := hl
  refine lv_iload_n hx hb dX0_rows_0 rfl (lv_at hl 1 rfl) ?_
  refine qb_callSv (vx_runS (As := [.int sh]) (rest := []) ⟨hx, hb, hml, hown, hts⟩ (c_X0_checkShard l hl0 sh) (va_cwS 1 hts gX0_rows_X0_checkShard rfl rfl rfl (by decide +kernel) ⟨Nat.le_of_ble_eq_true rfl, Nat.le_of_ble_eq_true rfl⟩) ⟨qTH_blind, qTH_pc hTH rfl⟩ rfl rfl hl.1 rfl (lv_room (Nat.le_of_ble_eq_true rfl)) dX0_rows_1 ⟨Nat.le_of_ble_eq_true rfl, Nat.le_of_ble_eq_true rfl⟩) (fun E ce q9 st t H1 hst ht hvm hX hcell hcv hcl => vx_out (fun x h => (hno x h).elim) hlocks hcell hcv hcl (fun t2 h2 hA2 => qX_pass hX hst rfl ht h2 (fun h => h)) (fun q h => nomatch h) (by decide) (by decide)) (fun hz => ?_)
  have h_1 := hz
  refine lv_aload_n hx hb dX0_rows_4 rfl (lv_at hl 0 rfl) ?_
  refine lv_iload_n hx hb dX0_rows_5 rfl (lv_at hl 1 rfl) ?_
  refine lv_iconst (v := 0) hx hb dX0_rows_6 (by decide) ?_
  refine lv_bipush (v := 99) hx hb dX0_rows_7 (by decide) ?_
  refine vp_callSi (W.runV (As := [.int sh, .int 0, .int 99]) (rest := []) ⟨hx, hb, hml, hown, hts⟩ (c_X0_countRows l D cA cZ cL ad f g sh 99 0 (by decide)) (cwV 3 hts gX0_rows_X0_countRows rfl rfl rfl (by decide +kernel) ⟨Nat.le_of_ble_eq_true rfl, Nat.le_of_ble_eq_true rfl⟩) ⟨qPre_blind, va_recv hK hP (ci := 0) (q0 := 0) rfl rfl, qPre_at hP hK⟩ rfl rfl hl.1 rfl (lv_room (Nat.le_of_ble_eq_true rfl)) dX0_rows_9 ⟨Nat.le_of_ble_eq_true rfl, Nat.le_of_ble_eq_true rfl⟩) (fun z hz => ?_)
  subst hz
  refine vx_ret ?_
  refine W.widen (k := 1) (n := 6) (by decide) (by decide) ?_
  exact W.iret (v := nI (cnt (xRowP g sh) 0 (hiOf 99))) hx hb hr (fun t ht hW => ⟨nI (cnt (xRowP g sh) 0 (hiOf 99)), rfl, ⟨h_1, (by rw [hi99])⟩, ht⟩) (fun q h => nomatch h) dX0_rows_12
set_option maxHeartbeats 4000000 in
set_option maxRecDepth 100000 in
/-- onRoll -/
theorem c_X0_onRoll (l : Launch) (hl0 : l.stackTraces = false) (D : va_G) (cA cZ cL : ClassId) (ad : Nat → Nat) (f : qFs) (g : qGs) (k : Int32) : vx_Met l yX0_onRoll wsX0_onRoll ({ frames := 7, cells := 1, slots := 6, locals := 110 } : Room) (va_Pc [.ref (ad 16), .int k] (qPreT D (qTy cA cZ cL) (xW cA ad f g))) (vp_Si (fun z => xKey k ∧ z = (if f 7 = 0 then -1 else g 6 k.toNatClampNeg))) (qX (fun E => E = eIO ∧ ¬ xKey k)) 1 6 (fun _ => False) := by
  refine vx_ofW (cc := cX0_onRoll) (maxL := 2) (ret := (some .int)) (by decide) rfl ?_
  intro p e s m args below meth c s₁ B hml hno hv
  obtain ⟨rfl, hP, hK, hTH⟩ := hv
  have hx := B.exec
  have hb := B.bytes
  have hr := B.returns
  have hts := atoms_spec (ws := wsX0_onRoll) B.pre
  have hown : s.vm.findClass RX0 = some m.cls := findClass_of_methodNamed B.named
  have hlocks := B.notSynchronized
  have hfin : ∀ w ∈ wsX00, w ∈ wsX0_onRoll := fun w h => (List.mem_cons_of_mem _ (List.mem_append_left _ (List.mem_append_right _ h)))
  have hl := lv_entry ([.ref (ad 16), .int k]) (n := 2) (Nat.le_of_ble_eq_true rfl)
  rw [lg_entry_eq]
  generalize (lg_sl ([.ref (ad 16), .int k]) ++ List.replicate (2 - (lg_sl ([.ref (ad 16), .int k])).length) Slot.unset).toArray = ls at hl ⊢
  have hl : lv_has ls 2 [(0, .ref (ad 16)), (1, .int k)] := hl
  refine lv_iload_n hx hb dX0_onRoll_0 rfl (lv_at hl 1 rfl) ?_
  refine qb_callSv (vx_runS (As := [.int k]) (rest := []) ⟨hx, hb, hml, hown, hts⟩ (c_X0_checkKey l hl0 k) (va_cwS 1 hts gX0_onRoll_X0_checkKey rfl rfl rfl (by decide +kernel) ⟨Nat.le_of_ble_eq_true rfl, Nat.le_of_ble_eq_true rfl⟩) ⟨qTH_blind, qTH_pc hTH rfl⟩ rfl rfl hl.1 rfl (lv_room (Nat.le_of_ble_eq_true rfl)) dX0_onRoll_1 ⟨Nat.le_of_ble_eq_true rfl, Nat.le_of_ble_eq_true rfl⟩) (fun E ce q9 st t H1 hst ht hvm hX hcell hcv hcl => vx_out (fun x h => (hno x h).elim) hlocks hcell hcv hcl (fun t2 h2 hA2 => qX_pass hX hst rfl ht h2 (fun h => h)) (fun q h => nomatch h) (by decide) (by decide)) (fun hz => ?_)
  have h_1 := hz
  refine lv_aload_n hx hb dX0_onRoll_4 rfl (lv_at hl 0 rfl) ?_
  refine va_get (D := D) (ci := 0) (v := .int (f 7)) (C := RX0) (T := TX0) (N := 16) hx hb hts hfin hown hK hP 0 rfl rfl 7 (by decide) (hts _ (List.mem_cons_of_mem _ (List.mem_append_left _ (List.mem_append_left _ (List.mem_of_getElem? (i := 0) rfl))))) (fun _ h9 => h9) rfl dX0_onRoll_5 ?_
  refine lv_if_eq (tgt := 20) hx hb dX0_onRoll_8 (by decide) (fun c_8 => ?_) (fun c_8 => ?_)
  · skip
    refine lv_iconst (v := (-1)) hx hb dX0_onRoll_20 (by decide) ?_
    refine vx_ret ?_
    refine W.widen (k := 1) (n := 6) (by decide) (by decide) ?_
    exact W.iret (v := (-1)) hx hb hr (fun t ht hW => ⟨(-1), rfl, ⟨h_1, (by rw [if_pos c_8])⟩, ht⟩) (fun q h => nomatch h) dX0_onRoll_21
  · skip
    refine lv_aload_n hx hb dX0_onRoll_11 rfl (lv_at hl 0 rfl) ?_
    refine va_get (D := D) (ci := 0) (v := .ref (ad 6)) (C := RX0) (T := TX0) (N := 16) hx hb hts hfin hown hK hP 0 rfl rfl 6 (by decide) (hts _ (List.mem_cons_of_mem _ (List.mem_append_left _ (List.mem_append_left _ (List.mem_of_getElem? (i := 1) rfl))))) (fun _ h9 => h9) rfl dX0_onRoll_12 ?_
    refine lv_iload_n hx hb dX0_onRoll_15 rfl (lv_at hl 1 rfl) ?_
    refine va_iald hx hb hK hP 5 0 rfl rfl (x_in100 h_1) dX0_onRoll_16 ?_
    refine lv_goto (tgt := 21) hx hb dX0_onRoll_17 (by decide) ?_
    refine vx_ret ?_
    refine W.widen (k := 1) (n := 6) (by decide) (by decide) ?_
    exact W.iret (v := g 6 k.toNatClampNeg) hx hb hr (fun t ht hW => ⟨g 6 k.toNatClampNeg, rfl, ⟨h_1, (by rw [if_neg c_8])⟩, ht⟩) (fun q h => nomatch h) dX0_onRoll_21
set_option maxHeartbeats 4000000 in
set_option maxRecDepth 100000 in
/-- sentTo -/
theorem c_X0_sentTo (l : Launch) (hl0 : l.stackTraces = false) (D : va_G) (cA cZ cL : ClassId) (ad : Nat → Nat) (f : qFs) (g : qGs) (b : Int32) (nR : Nat) (nB : Nat) (hI : xI nR nB f) : vx_Met l yX0_sentTo wsX0_sentTo ({ frames := 7, cells := 1, slots := 6, locals := 111 } : Room) (va_Pc [.ref (ad 16), .int b] (qPreT D (qTy cA cZ cL) (xW cA ad f g))) (vp_Si (fun z => xBallot f b ∧ z = g 11 b.toNatClampNeg)) (qX (fun E => E = eIO ∧ ¬ xBallot f b)) 1 6 (fun _ => False) := by
  refine vx_ofW (cc := cX0_sentTo) (maxL := 2) (ret := (some .int)) (by decide) rfl ?_
  intro p e s m args below meth c s₁ B hml hno hv
  obtain ⟨rfl, hP, hK, hTH⟩ := hv
  have hx := B.exec
  have hb := B.bytes
  have hr := B.returns
  have hts := atoms_spec (ws := wsX0_sentTo) B.pre
  have hown : s.vm.findClass RX0 = some m.cls := findClass_of_methodNamed B.named
  have hlocks := B.notSynchronized
  have hfin : ∀ w ∈ wsX00, w ∈ wsX0_sentTo := fun w h => (List.mem_cons_of_mem _ (List.mem_append_left _ (List.mem_append_right _ h)))
  have hl := lv_entry ([.ref (ad 16), .int b]) (n := 2) (Nat.le_of_ble_eq_true rfl)
  rw [lg_entry_eq]
  generalize (lg_sl ([.ref (ad 16), .int b]) ++ List.replicate (2 - (lg_sl ([.ref (ad 16), .int b])).length) Slot.unset).toArray = ls at hl ⊢
  have hl : lv_has ls 2 [(0, .ref (ad 16)), (1, .int b)] := hl
  refine lv_aload_n hx hb dX0_sentTo_0 rfl (lv_at hl 0 rfl) ?_
  refine lv_iload_n hx hb dX0_sentTo_1 rfl (lv_at hl 1 rfl) ?_
  refine qb_callSv (vx_runV (As := [.int b]) (rest := []) ⟨hx, hb, hml, hown, hts⟩ (c_X0_checkBallot l hl0 D cA cZ cL ad f g b) (cwV 1 hts gX0_sentTo_X0_checkBallot rfl rfl rfl (by decide +kernel) ⟨Nat.le_of_ble_eq_true rfl, Nat.le_of_ble_eq_true rfl⟩) ⟨qPreT_blind, va_recv hK hP (ci := 0) (q0 := 0) rfl rfl, qPreT_at hP hK hTH rfl⟩ rfl rfl hl.1 rfl (lv_room (Nat.le_of_ble_eq_true rfl)) dX0_sentTo_2 ⟨Nat.le_of_ble_eq_true rfl, Nat.le_of_ble_eq_true rfl⟩) (fun E ce q9 st t H1 hst ht hvm hX hcell hcv hcl => vx_out (fun x h => (hno x h).elim) hlocks hcell hcv hcl (fun t2 h2 hA2 => qX_pass hX hst rfl ht h2 (fun h => h)) (fun q h => nomatch h) (by decide) (by decide)) (fun hz => ?_)
  have h_2 := hz
  refine lv_aload_n hx hb dX0_sentTo_5 rfl (lv_at hl 0 rfl) ?_
  refine va_get (D := D) (ci := 0) (v := .ref (ad 11)) (C := RX0) (T := TX0) (N := 16) hx hb hts hfin hown hK hP 0 rfl rfl 11 (by decide) (hts _ (List.mem_cons_of_mem _ (List.mem_append_left _ (List.mem_append_left _ (List.mem_of_getElem? (i := 0) rfl))))) (fun _ h9 => h9) rfl dX0_sentTo_6 ?_
  refine lv_iload_n hx hb dX0_sentTo_9 rfl (lv_at hl 1 rfl) ?_
  refine va_iald hx hb hK hP 8 0 rfl rfl (x_in60 hI h_2) dX0_sentTo_10 ?_
  refine vx_ret ?_
  refine W.widen (k := 1) (n := 6) (by decide) (by decide) ?_
  exact W.iret (v := g 11 b.toNatClampNeg) hx hb hr (fun t ht hW => ⟨g 11 b.toNatClampNeg, rfl, ⟨h_2, rfl⟩, ht⟩) (fun q h => nomatch h) dX0_sentTo_11
set_option maxHeartbeats 4000000 in
set_option maxRecDepth 100000 in
/-- stateOf -/
theorem c_X0_stateOf (l : Launch) (hl0 : l.stackTraces = false) (D : va_G) (cA cZ cL : ClassId) (ad : Nat → Nat) (f : qFs) (g : qGs) (b : Int32) (nR : Nat) (nB : Nat) (hI : xI nR nB f) : vx_Met l yX0_stateOf wsX0_stateOf ({ frames := 7, cells := 1, slots := 6, locals := 111 } : Room) (va_Pc [.ref (ad 16), .int b] (qPreT D (qTy cA cZ cL) (xW cA ad f g))) (vp_Si (fun z => xBallot f b ∧ z = g 13 b.toNatClampNeg)) (qX (fun E => E = eIO ∧ ¬ xBallot f b)) 1 6 (fun _ => False) := by
  refine vx_ofW (cc := cX0_stateOf) (maxL := 2) (ret := (some .int)) (by decide) rfl ?_
  intro p e s m args below meth c s₁ B hml hno hv
  obtain ⟨rfl, hP, hK, hTH⟩ := hv
  have hx := B.exec
  have hb := B.bytes
  have hr := B.returns
  have hts := atoms_spec (ws := wsX0_stateOf) B.pre
  have hown : s.vm.findClass RX0 = some m.cls := findClass_of_methodNamed B.named
  have hlocks := B.notSynchronized
  have hfin : ∀ w ∈ wsX00, w ∈ wsX0_stateOf := fun w h => (List.mem_cons_of_mem _ (List.mem_append_left _ (List.mem_append_right _ h)))
  have hl := lv_entry ([.ref (ad 16), .int b]) (n := 2) (Nat.le_of_ble_eq_true rfl)
  rw [lg_entry_eq]
  generalize (lg_sl ([.ref (ad 16), .int b]) ++ List.replicate (2 - (lg_sl ([.ref (ad 16), .int b])).length) Slot.unset).toArray = ls at hl ⊢
  have hl : lv_has ls 2 [(0, .ref (ad 16)), (1, .int b)] := hl
  refine lv_aload_n hx hb dX0_stateOf_0 rfl (lv_at hl 0 rfl) ?_
  refine lv_iload_n hx hb dX0_stateOf_1 rfl (lv_at hl 1 rfl) ?_
  refine qb_callSv (vx_runV (As := [.int b]) (rest := []) ⟨hx, hb, hml, hown, hts⟩ (c_X0_checkBallot l hl0 D cA cZ cL ad f g b) (cwV 1 hts gX0_stateOf_X0_checkBallot rfl rfl rfl (by decide +kernel) ⟨Nat.le_of_ble_eq_true rfl, Nat.le_of_ble_eq_true rfl⟩) ⟨qPreT_blind, va_recv hK hP (ci := 0) (q0 := 0) rfl rfl, qPreT_at hP hK hTH rfl⟩ rfl rfl hl.1 rfl (lv_room (Nat.le_of_ble_eq_true rfl)) dX0_stateOf_2 ⟨Nat.le_of_ble_eq_true rfl, Nat.le_of_ble_eq_true rfl⟩) (fun E ce q9 st t H1 hst ht hvm hX hcell hcv hcl => vx_out (fun x h => (hno x h).elim) hlocks hcell hcv hcl (fun t2 h2 hA2 => qX_pass hX hst rfl ht h2 (fun h => h)) (fun q h => nomatch h) (by decide) (by decide)) (fun hz => ?_)
  have h_2 := hz
  refine lv_aload_n hx hb dX0_stateOf_5 rfl (lv_at hl 0 rfl) ?_
  refine va_get (D := D) (ci := 0) (v := .ref (ad 13)) (C := RX0) (T := TX0) (N := 16) hx hb hts hfin hown hK hP 0 rfl rfl 13 (by decide) (hts _ (List.mem_cons_of_mem _ (List.mem_append_left _ (List.mem_append_left _ (List.mem_of_getElem? (i := 0) rfl))))) (fun _ h9 => h9) rfl dX0_stateOf_6 ?_
  refine lv_iload_n hx hb dX0_stateOf_9 rfl (lv_at hl 1 rfl) ?_
  refine va_iald hx hb hK hP 10 0 rfl rfl (x_in60 hI h_2) dX0_stateOf_10 ?_
  refine vx_ret ?_
  refine W.widen (k := 1) (n := 6) (by decide) (by decide) ?_
  exact W.iret (v := g 13 b.toNatClampNeg) hx hb hr (fun t ht hW => ⟨g 13 b.toNatClampNeg, rfl, ⟨h_2, rfl⟩, ht⟩) (fun q h => nomatch h) dX0_stateOf_11
set_option maxHeartbeats 4000000 in
set_option maxRecDepth 100000 in
/-- inDistrict -/
theorem c_X0_inDistrict (l : Launch) (hl0 : l.stackTraces = false) (D : va_G) (cA cZ cL : ClassId) (ad : Nat → Nat) (f : qFs) (g : qGs) (d : Int32) (nR : Nat) (nB : Nat) (hI : xI nR nB f) : vx_Met l yX0_inDistrict wsX0_inDistrict ({ frames := 7, cells := 1, slots := 6, locals := 110 } : Room) (va_Pc [.ref (ad 16), .int d] (qPreT D (qTy cA cZ cL) (xW cA ad f g))) (vp_Si (fun z => xShard d ∧ z = nI (cnt (fun j => decide (xDist (xRead nR f g (nI j)) = d)) 0 100))) (qX (fun E => E = eIO ∧ ¬ xShard d)) 1 6 (fun _ => False) := by
  refine vx_ofW (cc := cX0_inDistrict) (maxL := 4) (ret := (some .int)) (by decide) rfl ?_
  intro p e s m args below meth c s₁ B hml hno hv
  obtain ⟨rfl, hP, hK, hTH⟩ := hv
  have hx := B.exec
  have hb := B.bytes
  have hr := B.returns
  have hts := atoms_spec (ws := wsX0_inDistrict) B.pre
  have hown : s.vm.findClass RX0 = some m.cls := findClass_of_methodNamed B.named
  have hlocks := B.notSynchronized
  have hfin : ∀ w ∈ wsX00, w ∈ wsX0_inDistrict := fun w h => (List.mem_cons_of_mem _ (List.mem_append_left _ (List.mem_append_right _ h)))
  have hl := lv_entry ([.ref (ad 16), .int d]) (n := 4) (Nat.le_of_ble_eq_true rfl)
  rw [lg_entry_eq]
  generalize (lg_sl ([.ref (ad 16), .int d]) ++ List.replicate (4 - (lg_sl ([.ref (ad 16), .int d])).length) Slot.unset).toArray = ls at hl ⊢
  have hl : lv_has ls 4 [(0, .ref (ad 16)), (1, .int d)] := hl
  refine lv_iload_n hx hb dX0_inDistrict_0 rfl (lv_at hl 1 rfl) ?_
  refine qb_callSv (vx_runS (As := [.int d]) (rest := []) ⟨hx, hb, hml, hown, hts⟩ (c_X0_checkDistrict l hl0 d) (va_cwS 1 hts gX0_inDistrict_X0_checkDistrict rfl rfl rfl (by decide +kernel) ⟨Nat.le_of_ble_eq_true rfl, Nat.le_of_ble_eq_true rfl⟩) ⟨qTH_blind, qTH_pc hTH rfl⟩ rfl rfl hl.1 rfl (lv_room (Nat.le_of_ble_eq_true rfl)) dX0_inDistrict_1 ⟨Nat.le_of_ble_eq_true rfl, Nat.le_of_ble_eq_true rfl⟩) (fun E ce q9 st t H1 hst ht hvm hX hcell hcv hcl => vx_out (fun x h => (hno x h).elim) hlocks hcell hcv hcl (fun t2 h2 hA2 => qX_pass hX hst rfl ht h2 (fun h => h)) (fun q h => nomatch h) (by decide) (by decide)) (fun hz => ?_)
  have h_1 := hz
  refine lv_iconst (v := 0) hx hb dX0_inDistrict_4 (by decide) ?_
  refine lv_istore_n (lv' := [(2, .int 0), (0, .ref (ad 16)), (1, .int d)]) hx hb dX0_inDistrict_5 rfl hl (by decide) rfl (fun ls hl => ?_)
  refine lv_iconst (v := 0) hx hb dX0_inDistrict_6 (by decide) ?_
  refine lv_istore_n (lv' := [(3, .int 0), (2, .int 0), (0, .ref (ad 16)), (1, .int d)]) hx hb dX0_inDistrict_7 rfl hl (by decide) rfl (fun ls hl => ?_)
  have hloop_8 : ∀ (nme : Nat) (k : Nat) (acc : Nat), 100 - k = nme → (k ≤ 100) → (acc + cnt (fun j => decide (xDist (xRead nR f g (nI j)) = d)) k 100 = cnt (fun j => decide (xDist (xRead nR f g (nI j)) = d)) 0 100) → ∀ ls : Array Slot, lv_has ls 4 [(0, .ref (ad 16)), (1, .int d), (2, .int (nI acc)), (3, .int (nI k))] → W p l e (headSpec wsX0_inDistrict ({ frames := 7, cells := 1, slots := 6, locals := 110 } : Room)).room s m ([.ref (ad 16), .int d] : List Value).toArray below meth c s.heap [] 0 0 (vx_MQ below (vp_Si (fun z => xShard d ∧ z = nI (cnt (fun j => decide (xDist (xRead nR f g (nI j)) = d)) 0 100))) (qX (fun E => E = eIO ∧ ¬ xShard d)) ([.ref (ad 16), .int d] : List Value).toArray s 1 6 (fun _ => False)) (F0 m 8 ls []) := by
    intro nme
    induction nme using Nat.strongRecOn with
    | ind nme ih =>
      intro k acc hnme hk hc ls hl
      refine lv_iload_n hx hb dX0_inDistrict_8 rfl (lv_at hl 3 rfl) ?_
      refine lv_bipush (v := 100) hx hb dX0_inDistrict_9 (by decide) ?_
      refine lv_icmp_ge (tgt := 35) hx hb dX0_inDistrict_11 (by decide) (fun c_11 => ?_) (fun c_11 => ?_)
      · skip
        have hge : 100 ≤ k := n_ge (b := 100) c_11 (by omega) (by decide)
        refine lv_iload_n hx hb dX0_inDistrict_35 rfl (lv_at hl 2 rfl) ?_
        refine vx_ret ?_
        refine W.widen (k := 1) (n := 6) (by decide) (by decide) ?_
        exact W.iret (v := nI acc) hx hb hr (fun t ht hW => ⟨nI acc, rfl, ⟨h_1, (by rw [← hc, cnt_end hge]; rfl)⟩, ht⟩) (fun q h => nomatch h) dX0_inDistrict_36
      · skip
        have hlt : k < 100 := n_lt (b := 100) c_11 (by omega)
        refine lv_aload_n hx hb dX0_inDistrict_14 rfl (lv_at hl 0 rfl) ?_
        refine lv_iload_n hx hb dX0_inDistrict_15 rfl (lv_at hl 3 rfl) ?_
        refine vp_callSi (W.runV (As := [.int (nI k)]) (rest := []) ⟨hx, hb, hml, hown, hts⟩ (c_X0_read l D cA cZ cL ad f g (nI k) nR nB hI) (cwV 1 hts gX0_inDistrict_X0_read rfl rfl rfl (by decide +kernel) ⟨Nat.le_of_ble_eq_true rfl, Nat.le_of_ble_eq_true rfl⟩) ⟨qPre_blind, va_recv hK hP (ci := 0) (q0 := 0) rfl rfl, qPre_at hP hK⟩ rfl rfl hl.1 rfl (lv_room (Nat.le_of_ble_eq_true rfl)) dX0_inDistrict_16 ⟨Nat.le_of_ble_eq_true rfl, Nat.le_of_ble_eq_true rfl⟩) (fun z hz => ?_)
        subst hz
        refine vp_callSi (W.runS (As := [.int (xRead nR f g (nI k))]) (rest := []) ⟨hx, hb, hml, hown, hts⟩ (c_X0_districtOf l (xRead nR f g (nI k))) (va_cwS 1 hts gX0_inDistrict_X0_districtOf rfl rfl rfl (by decide +kernel) ⟨Nat.le_of_ble_eq_true rfl, Nat.le_of_ble_eq_true rfl⟩) ⟨qN_blind, qN_at⟩ rfl rfl hl.1 rfl (lv_room (Nat.le_of_ble_eq_true rfl)) dX0_inDistrict_19 ⟨Nat.le_of_ble_eq_true rfl, Nat.le_of_ble_eq_true rfl⟩) (fun z hz => ?_)
        subst hz
        refine lv_iload_n hx hb dX0_inDistrict_22 rfl (lv_at hl 1 rfl) ?_
        refine lv_icmp_ne (tgt := 29) hx hb dX0_inDistrict_23 (by decide) (fun c_23 => ?_) (fun c_23 => ?_)
        · skip
          refine lv_iinc (v := nI (k + 1)) (lv' := [(3, .int (nI (k + 1))), (0, .ref (ad 16)), (1, .int d), (2, .int (nI acc))]) hx hb dX0_inDistrict_29 hl (k := 3) rfl (nI_1 k) (by decide) rfl (fun ls hl => ?_)
          refine lv_goto (tgt := 8) hx hb dX0_inDistrict_32 (by decide) ?_
          exact ih _ (by omega) (k + 1) acc rfl (by omega) (by rw [← hc, cnt_n hlt (df c_23)]) _ (lv_sub hl [1, 2, 3, 0] rfl)
        · skip
          refine lv_iinc (v := nI (acc + 1)) (lv' := [(2, .int (nI (acc + 1))), (0, .ref (ad 16)), (1, .int d), (3, .int (nI k))]) hx hb dX0_inDistrict_26 hl (k := 2) rfl (nI_1 acc) (by decide) rfl (fun ls hl => ?_)
          refine lv_iinc (v := nI (k + 1)) (lv' := [(3, .int (nI (k + 1))), (2, .int (nI (acc + 1))), (0, .ref (ad 16)), (1, .int d)]) hx hb dX0_inDistrict_29 hl (k := 3) rfl (nI_1 k) (by decide) rfl (fun ls hl => ?_)
          refine lv_goto (tgt := 8) hx hb dX0_inDistrict_32 (by decide) ?_
          exact ih _ (by omega) (k + 1) (acc + 1) rfl (by omega) (by rw [← hc, cnt_y hlt (dt c_23)]; omega) _ (lv_sub hl [2, 3, 1, 0] rfl)
  exact hloop_8 _ 0 0 rfl (by omega) (Nat.zero_add _) _ (lv_sub hl [2, 3, 1, 0] rfl)
set_option maxHeartbeats 4000000 in
set_option maxRecDepth 100000 in
/-- counted -/
theorem c_X0_counted (l : Launch) (hl0 : l.stackTraces = false) (D : va_G) (cA cZ cL : ClassId) (ad : Nat → Nat) (f : qFs) (g : qGs) (d : Int32) (ch : Int32) (nR : Nat) (nB : Nat) (hI : xI nR nB f) : vx_Met l yX0_counted wsX0_counted ({ frames := 7, cells := 1, slots := 6, locals := 110 } : Room) (va_Pc [.ref (ad 16), .int d, .int ch] (qPreT D (qTy cA cZ cL) (xW cA ad f g))) (vp_Si (fun z => (xShard d ∧ xCho ch) ∧ z = nI (cnt (fun j => decide (g 13 j = 2 ∧ g 12 j = d ∧ g 14 j = ch)) 0 nB))) (qX (fun E => (E = eIO ∧ ¬ xShard d) ∨ (E = eIA ∧ xShard d ∧ ¬ xCho ch))) 1 6 (fun _ => False) := by
  refine vx_ofW (cc := cX0_counted) (maxL := 5) (ret := (some .int)) (by decide) rfl ?_
  intro p e s m args below meth c s₁ B hml hno hv
  obtain ⟨rfl, hP, hK, hTH⟩ := hv
  have hx := B.exec
  have hb := B.bytes
  have hr := B.returns
  have hts := atoms_spec (ws := wsX0_counted) B.pre
  have hown : s.vm.findClass RX0 = some m.cls := findClass_of_methodNamed B.named
  have hlocks := B.notSynchronized
  have hfin : ∀ w ∈ wsX00, w ∈ wsX0_counted := fun w h => (List.mem_cons_of_mem _ (List.mem_append_left _ (List.mem_append_left _ (List.mem_append_right _ h))))
  have hl := lv_entry ([.ref (ad 16), .int d, .int ch]) (n := 5) (Nat.le_of_ble_eq_true rfl)
  rw [lg_entry_eq]
  generalize (lg_sl ([.ref (ad 16), .int d, .int ch]) ++ List.replicate (5 - (lg_sl ([.ref (ad 16), .int d, .int ch])).length) Slot.unset).toArray = ls at hl ⊢
  have hl : lv_has ls 5 [(0, .ref (ad 16)), (1, .int d), (2, .int ch)] := hl
  have hB6 := hI.2.2.2.2
  refine lv_iload_n hx hb dX0_counted_0 rfl (lv_at hl 1 rfl) ?_
  refine qb_callSv (vx_runS (As := [.int d]) (rest := []) ⟨hx, hb, hml, hown, hts⟩ (c_X0_checkDistrict l hl0 d) (va_cwS 1 hts gX0_counted_X0_checkDistrict rfl rfl rfl (by decide +kernel) ⟨Nat.le_of_ble_eq_true rfl, Nat.le_of_ble_eq_true rfl⟩) ⟨qTH_blind, qTH_pc hTH rfl⟩ rfl rfl hl.1 rfl (lv_room (Nat.le_of_ble_eq_true rfl)) dX0_counted_1 ⟨Nat.le_of_ble_eq_true rfl, Nat.le_of_ble_eq_true rfl⟩) (fun E ce q9 st t H1 hst ht hvm hX hcell hcv hcl => vx_out (fun x h => (hno x h).elim) hlocks hcell hcv hcl (fun t2 h2 hA2 => qX_pass hX hst rfl ht h2 (Or.inl)) (fun q h => nomatch h) (by decide) (by decide)) (fun hz => ?_)
  have h_1 := hz
  refine lv_iload_n hx hb dX0_counted_4 rfl (lv_at hl 2 rfl) ?_
  refine qb_callSv (vx_runS (As := [.int ch]) (rest := []) ⟨hx, hb, hml, hown, hts⟩ (c_X0_checkChoice l hl0 ch) (va_cwS 1 hts gX0_counted_X0_checkChoice rfl rfl rfl (by decide +kernel) ⟨Nat.le_of_ble_eq_true rfl, Nat.le_of_ble_eq_true rfl⟩) ⟨qTH_blind, qTH_pc hTH rfl⟩ rfl rfl hl.1 rfl (lv_room (Nat.le_of_ble_eq_true rfl)) dX0_counted_5 ⟨Nat.le_of_ble_eq_true rfl, Nat.le_of_ble_eq_true rfl⟩) (fun E ce q9 st t H1 hst ht hvm hX hcell hcv hcl => vx_out (fun x h => (hno x h).elim) hlocks hcell hcv hcl (fun t2 h2 hA2 => qX_pass hX hst rfl ht h2 (fun h => Or.inr ⟨h.1, h_1, h.2⟩)) (fun q h => nomatch h) (by decide) (by decide)) (fun hz => ?_)
  have h_5 := hz
  refine lv_iconst (v := 0) hx hb dX0_counted_8 (by decide) ?_
  refine lv_istore_n (lv' := [(3, .int 0), (0, .ref (ad 16)), (1, .int d), (2, .int ch)]) hx hb dX0_counted_9 rfl hl (by decide) rfl (fun ls hl => ?_)
  refine lv_iconst (v := 0) hx hb dX0_counted_10 (by decide) ?_
  refine lv_istore (lv' := [(4, .int 0), (3, .int 0), (0, .ref (ad 16)), (1, .int d), (2, .int ch)]) hx hb dX0_counted_11 hl (by decide) rfl (fun ls hl => ?_)
  have hloop_13 : ∀ (nme : Nat) (k : Nat) (acc : Nat), nB - k = nme → (k ≤ nB) → (acc + cnt (fun j => decide (g 13 j = 2 ∧ g 12 j = d ∧ g 14 j = ch)) k nB = cnt (fun j => decide (g 13 j = 2 ∧ g 12 j = d ∧ g 14 j = ch)) 0 nB) → ∀ ls : Array Slot, lv_has ls 5 [(0, .ref (ad 16)), (1, .int d), (2, .int ch), (3, .int (nI acc)), (4, .int (nI k))] → W p l e (headSpec wsX0_counted ({ frames := 7, cells := 1, slots := 6, locals := 110 } : Room)).room s m ([.ref (ad 16), .int d, .int ch] : List Value).toArray below meth c s.heap [] 0 0 (vx_MQ below (vp_Si (fun z => (xShard d ∧ xCho ch) ∧ z = nI (cnt (fun j => decide (g 13 j = 2 ∧ g 12 j = d ∧ g 14 j = ch)) 0 nB))) (qX (fun E => (E = eIO ∧ ¬ xShard d) ∨ (E = eIA ∧ xShard d ∧ ¬ xCho ch))) ([.ref (ad 16), .int d, .int ch] : List Value).toArray s 1 6 (fun _ => False)) (F0 m 13 ls []) := by
    intro nme
    induction nme using Nat.strongRecOn with
    | ind nme ih =>
      intro k acc hnme hk hc ls hl
      refine lv_iload hx hb dX0_counted_13 (lv_at hl 4 rfl) ?_
      refine lv_aload_n hx hb dX0_counted_15 rfl (lv_at hl 0 rfl) ?_
      refine va_get (D := D) (ci := 0) (v := .int (f 15)) (C := RX0) (T := TX0) (N := 16) hx hb hts hfin hown hK hP 0 rfl rfl 15 (by decide) (hts _ (List.mem_cons_of_mem _ (List.mem_append_left _ (List.mem_append_left _ (List.mem_append_left _ (List.mem_of_getElem? (i := 0) rfl)))))) (fun _ h9 => h9) rfl dX0_counted_16 ?_
      refine lv_topi (fun v_16 hv_16 => ?_)
      have hv_16 : v_16 = nI nB := hv_16.trans (hI.2.2.2.1)
      subst hv_16
      refine lv_icmp_ge (tgt := 64) hx hb dX0_counted_19 (by decide) (fun c_19 => ?_) (fun c_19 => ?_)
      · skip
        have hge : nB ≤ k := n_ge c_19 (by omega) (by omega)
        refine lv_iload_n hx hb dX0_counted_64 rfl (lv_at hl 3 rfl) ?_
        refine vx_ret ?_
        refine W.widen (k := 1) (n := 6) (by decide) (by decide) ?_
        exact W.iret (v := nI acc) hx hb hr (fun t ht hW => ⟨nI acc, rfl, ⟨⟨h_1, h_5⟩, (by rw [← hc, cnt_end hge]; rfl)⟩, ht⟩) (fun q h => nomatch h) dX0_counted_65
      · skip
        have hlt : k < nB := n_lt c_19 (by omega)
        refine lv_aload_n hx hb dX0_counted_22 rfl (lv_at hl 0 rfl) ?_
        refine va_get (D := D) (ci := 0) (v := .ref (ad 13)) (C := RX0) (T := TX0) (N := 16) hx hb hts hfin hown hK hP 0 rfl rfl 13 (by decide) (hts _ (List.mem_cons_of_mem _ (List.mem_append_left _ (List.mem_append_left _ (List.mem_append_left _ (List.mem_of_getElem? (i := 1) rfl)))))) (fun _ h9 => h9) rfl dX0_counted_23 ?_
        refine lv_iload hx hb dX0_counted_26 (lv_at hl 4 rfl) ?_
        refine va_iald hx hb hK hP 10 0 rfl rfl (vp_in_nI (by omega) (by decide)) dX0_counted_28 ?_
        refine lv_topi (fun v_28 hv_28 => ?_)
        have hv_28 : v_28 = g 13 k := hv_28.trans (by rw [nI_clamp (by omega)])
        subst hv_28
        refine lv_iconst (v := 2) hx hb dX0_counted_29 (by decide) ?_
        refine lv_icmp_ne (tgt := 58) hx hb dX0_counted_30 (by decide) (fun c_30 => ?_) (fun c_30 => ?_)
        · skip
          refine lv_iinc (v := nI (k + 1)) (lv' := [(4, .int (nI (k + 1))), (0, .ref (ad 16)), (1, .int d), (2, .int ch), (3, .int (nI acc))]) hx hb dX0_counted_58 hl (k := 4) rfl (nI_1 k) (by decide) rfl (fun ls hl => ?_)
          refine lv_goto (tgt := 13) hx hb dX0_counted_61 (by decide) ?_
          exact ih _ (by omega) (k + 1) acc rfl (by omega) (by rw [← hc, cnt_n hlt (df (fun q => c_30 q.1))]) _ (lv_sub hl [1, 2, 3, 4, 0] rfl)
        · skip
          refine lv_aload_n hx hb dX0_counted_33 rfl (lv_at hl 0 rfl) ?_
          refine va_get (D := D) (ci := 0) (v := .ref (ad 12)) (C := RX0) (T := TX0) (N := 16) hx hb hts hfin hown hK hP 0 rfl rfl 12 (by decide) (hts _ (List.mem_cons_of_mem _ (List.mem_append_left _ (List.mem_append_left _ (List.mem_append_left _ (List.mem_of_getElem? (i := 2) rfl)))))) (fun _ h9 => h9) rfl dX0_counted_34 ?_
          refine lv_iload hx hb dX0_counted_37 (lv_at hl 4 rfl) ?_
          refine va_iald hx hb hK hP 9 0 rfl rfl (vp_in_nI (by omega) (by decide)) dX0_counted_39 ?_
          refine lv_topi (fun v_39 hv_39 => ?_)
          have hv_39 : v_39 = g 12 k := hv_39.trans (by rw [nI_clamp (by omega)])
          subst hv_39
          refine lv_iload_n hx hb dX0_counted_40 rfl (lv_at hl 1 rfl) ?_
          refine lv_icmp_ne (tgt := 58) hx hb dX0_counted_41 (by decide) (fun c_41 => ?_) (fun c_41 => ?_)
          · skip
            refine lv_iinc (v := nI (k + 1)) (lv' := [(4, .int (nI (k + 1))), (0, .ref (ad 16)), (1, .int d), (2, .int ch), (3, .int (nI acc))]) hx hb dX0_counted_58 hl (k := 4) rfl (nI_1 k) (by decide) rfl (fun ls hl => ?_)
            refine lv_goto (tgt := 13) hx hb dX0_counted_61 (by decide) ?_
            exact ih _ (by omega) (k + 1) acc rfl (by omega) (by rw [← hc, cnt_n hlt (df (fun q => c_41 q.2.1))]) _ (lv_sub hl [1, 2, 3, 4, 0] rfl)
          · skip
            refine lv_aload_n hx hb dX0_counted_44 rfl (lv_at hl 0 rfl) ?_
            refine va_get (D := D) (ci := 0) (v := .ref (ad 14)) (C := RX0) (T := TX0) (N := 16) hx hb hts hfin hown hK hP 0 rfl rfl 14 (by decide) (hts _ (List.mem_cons_of_mem _ (List.mem_append_left _ (List.mem_append_left _ (List.mem_append_left _ (List.mem_of_getElem? (i := 3) rfl)))))) (fun _ h9 => h9) rfl dX0_counted_45 ?_
            refine lv_iload hx hb dX0_counted_48 (lv_at hl 4 rfl) ?_
            refine va_iald hx hb hK hP 11 0 rfl rfl (vp_in_nI (by omega) (by decide)) dX0_counted_50 ?_
            refine lv_topi (fun v_50 hv_50 => ?_)
            have hv_50 : v_50 = g 14 k := hv_50.trans (by rw [nI_clamp (by omega)])
            subst hv_50
            refine lv_iload_n hx hb dX0_counted_51 rfl (lv_at hl 2 rfl) ?_
            refine lv_icmp_ne (tgt := 58) hx hb dX0_counted_52 (by decide) (fun c_52 => ?_) (fun c_52 => ?_)
            · skip
              refine lv_iinc (v := nI (k + 1)) (lv' := [(4, .int (nI (k + 1))), (0, .ref (ad 16)), (1, .int d), (2, .int ch), (3, .int (nI acc))]) hx hb dX0_counted_58 hl (k := 4) rfl (nI_1 k) (by decide) rfl (fun ls hl => ?_)
              refine lv_goto (tgt := 13) hx hb dX0_counted_61 (by decide) ?_
              exact ih _ (by omega) (k + 1) acc rfl (by omega) (by rw [← hc, cnt_n hlt (df (fun q => c_52 q.2.2))]) _ (lv_sub hl [1, 2, 3, 4, 0] rfl)
            · skip
              refine lv_iinc (v := nI (acc + 1)) (lv' := [(3, .int (nI (acc + 1))), (0, .ref (ad 16)), (1, .int d), (2, .int ch), (4, .int (nI k))]) hx hb dX0_counted_55 hl (k := 3) rfl (nI_1 acc) (by decide) rfl (fun ls hl => ?_)
              refine lv_iinc (v := nI (k + 1)) (lv' := [(4, .int (nI (k + 1))), (3, .int (nI (acc + 1))), (0, .ref (ad 16)), (1, .int d), (2, .int ch)]) hx hb dX0_counted_58 hl (k := 4) rfl (nI_1 k) (by decide) rfl (fun ls hl => ?_)
              refine lv_goto (tgt := 13) hx hb dX0_counted_61 (by decide) ?_
              exact ih _ (by omega) (k + 1) (acc + 1) rfl (by omega) (by rw [← hc, cnt_y hlt (dt ⟨c_30, c_41, c_52⟩)]; omega) _ (lv_sub hl [2, 3, 4, 1, 0] rfl)
  exact hloop_13 _ 0 0 rfl (by omega) (Nat.zero_add _) _ (lv_sub hl [2, 3, 4, 1, 0] rfl)
