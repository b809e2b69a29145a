set_option maxHeartbeats 4000000 in
set_option maxRecDepth 100000 in
/-- the law asks rows -/
theorem c_L_rows (l : Launch) (hl0 : l.stackTraces = false) (D : va_G) (cA cZ cL : ClassId) (ad : Nat → Nat) (f : qFs) (g : qGs) (sh : Int32) : Met l yL_rows wsL_rows ({ frames := 8, cells := 1, slots := 6, locals := 131 } : Room) (va_Pc [.ref (ad 16), .int sh] (qPreN D (qTy cA cZ cL) (xW cA ad f g))) (qG (fun z n1 n2 => ¬ (xShard sh) → n1 + 1 ≤ n2)) 1 6 (fun _ => False) := by
  refine qMet_ofWH (cc := cL_rows) (maxL := 4) (ret := (some .int)) (hh := [(0, 6, 9, 14)]) (by decide) rfl ?_
  intro p e s m args below meth c s₁ B hml hv
  obtain ⟨rfl, hP, hK, hTH, hNC⟩ := hv
  have hx := B.exec
  have hb := B.bytes
  have hr := B.returns
  have hts := atoms_spec (ws := wsL_rows) B.pre
  have hown : s.vm.findClass RL = some m.cls := findClass_of_methodNamed B.named
  have hlocks := B.notSynchronized
  have hTab := vx_table (x := yL_rows) B (hts _ List.mem_cons_self)
  have hS : va_S (fun _ => False) s.heap s.heap [] := va_S.rf
  have hl := lv_entry ([.ref (ad 16), .int sh]) (n := 4) (Nat.le_of_ble_eq_true rfl)
  rw [lg_entry_eq]
  generalize (lg_sl ([.ref (ad 16), .int sh]) ++ List.replicate (4 - (lg_sl ([.ref (ad 16), .int sh])).length) Slot.unset).toArray = ls at hl ⊢
  have hl : lv_has ls 4 [(0, .ref (ad 16)), (1, .int sh)] := hl
  refine lv_aload_n hx hb dL_rows_0 rfl (lv_at hl 0 rfl) ?_
  refine lv_iload_n hx hb dL_rows_1 rfl (lv_at hl 1 rfl) ?_
  refine qb_readG hP (vx_runV (As := [.int sh]) (rest := []) ⟨hx, hb, hml, hown, hts⟩ (c_X0_rows l hl0 D cA cZ cL ad f g sh) (cwV 1 hts gL_rows_X0_rows rfl rfl rfl (by decide +kernel) ⟨Nat.le_of_ble_eq_true rfl, Nat.le_of_ble_eq_true rfl⟩) ⟨qPreT_blind, va_recv hK hP (ci := 0) (q0 := 0) rfl rfl, qPreT_at hP hK hTH rfl⟩ rfl rfl hl.1 rfl (lv_room (Nat.le_of_ble_eq_true rfl)) dL_rows_2 ⟨Nat.le_of_ble_eq_true rfl, Nat.le_of_ble_eq_true rfl⟩) hS (fun E ce q9 H locs hE hg hP hS hcell hcv hcl => ?_) (fun rv hu => ?_)
  · obtain ⟨rfl, hc⟩ := hE
    refine vx_catch (name := eIO) hown [] (⟨0, 6, 9, 14⟩ : ExceptionTableEntry) [] (by rw [hTab]; rfl) (fun _ h => nomatch h) (by decide) (by decide) (hts _ (List.mem_cons_of_mem _ (List.mem_append_left _ (List.mem_append_left _ (List.mem_append_left _ (List.mem_of_getElem? (i := 0) rfl)))))) (va_Nw.use rfl (hTH.2.2.2.1 eIO (by decide))) hcell hcv hcl ?_
    refine lv_astore_n (lv' := [(3, .ref q9), (0, .ref (ad 16)), (1, .int sh)]) hx hb dL_rows_9 rfl hl (by decide) rfl (fun ls hl => ?_)
    refine lv_sipush (v := -7100) hx hb dL_rows_10 (by decide) ?_
    exact W.iret (v := (-7100)) hx hb hr (fun t ht hW => ⟨(-7100), rfl, by first | (rw [ht]; done) | (rw [ht]; exact hS.1), fun q hq => by first | (rw [ht]; done) | (rw [ht]; exact hS.2.1 q hq (fun h => h)), fun hbad => by rw [ht]; exact hg⟩) hS.2.2 dL_rows_13
  · skip
    refine lv_istore_n (lv' := [(2, .int rv), (0, .ref (ad 16)), (1, .int sh)]) hx hb dL_rows_5 rfl hl (by decide) rfl (fun ls hl => ?_)
    refine lv_goto (tgt := 14) hx hb dL_rows_6 (by decide) ?_
    refine lv_iload_n hx hb dL_rows_14 rfl (lv_at hl 0 rfl) ?_
    exact W.iret (v := rv) hx hb hr (fun t ht hW => ⟨rv, rfl, by first | (rw [ht]; done) | (rw [ht]; exact hS.1), fun q hq => by first | (rw [ht]; done) | (rw [ht]; exact hS.2.1 q hq (fun h => h)), fun hbad => by rw [ht]; exact absurd hu.1 hbad⟩) hS.2.2 dL_rows_15
set_option maxHeartbeats 4000000 in
set_option maxRecDepth 100000 in
/-- the law asks inDistrict -/
theorem c_L_inDistrict (l : Launch) (hl0 : l.stackTraces = false) (D : va_G) (cA cZ cL : ClassId) (ad : Nat → Nat) (f : qFs) (g : qGs) (d : Int32) (nR : Nat) (nB : Nat) (hI : xI nR nB f) : Met l yL_inDistrict wsL_inDistrict ({ frames := 8, cells := 1, slots := 6, locals := 133 } : Room) (va_Pc [.ref (ad 16), .int d] (qPreN D (qTy cA cZ cL) (xW cA ad f g))) (qG (fun z n1 n2 => ¬ (xShard d) → n1 + 1 ≤ n2)) 1 6 (fun _ => False) := by
  refine qMet_ofWH (cc := cL_inDistrict) (maxL := 4) (ret := (some .int)) (hh := [(0, 6, 9, 14)]) (by decide) rfl ?_
  intro p e s m args below meth c s₁ B hml hv
  obtain ⟨rfl, hP, hK, hTH, hNC⟩ := hv
  have hx := B.exec
  have hb := B.bytes
  have hr := B.returns
  have hts := atoms_spec (ws := wsL_inDistrict) B.pre
  have hown : s.vm.findClass RL = some m.cls := findClass_of_methodNamed B.named
  have hlocks := B.notSynchronized
  have hTab := vx_table (x := yL_inDistrict) B (hts _ List.mem_cons_self)
  have hS : va_S (fun _ => False) s.heap s.heap [] := va_S.rf
  have hl := lv_entry ([.ref (ad 16), .int d]) (n := 4) (Nat.le_of_ble_eq_true rfl)
  rw [lg_entry_eq]
  generalize (lg_sl ([.ref (ad 16), .int d]) ++ List.replicate (4 - (lg_sl ([.ref (ad 16), .int d])).length) Slot.unset).toArray = ls at hl ⊢
  have hl : lv_has ls 4 [(0, .ref (ad 16)), (1, .int d)] := hl
  refine lv_aload_n hx hb dL_inDistrict_0 rfl (lv_at hl 0 rfl) ?_
  refine lv_iload_n hx hb dL_inDistrict_1 rfl (lv_at hl 1 rfl) ?_
  refine qb_readG hP (vx_runV (As := [.int d]) (rest := []) ⟨hx, hb, hml, hown, hts⟩ (c_X0_inDistrict l hl0 D cA cZ cL ad f g d nR nB hI) (cwV 1 hts gL_inDistrict_X0_inDistrict rfl rfl rfl (by decide +kernel) ⟨Nat.le_of_ble_eq_true rfl, Nat.le_of_ble_eq_true rfl⟩) ⟨qPreT_blind, va_recv hK hP (ci := 0) (q0 := 0) rfl rfl, qPreT_at hP hK hTH rfl⟩ rfl rfl hl.1 rfl (lv_room (Nat.le_of_ble_eq_true rfl)) dL_inDistrict_2 ⟨Nat.le_of_ble_eq_true rfl, Nat.le_of_ble_eq_true rfl⟩) hS (fun E ce q9 H locs hE hg hP hS hcell hcv hcl => ?_) (fun rv hu => ?_)
  · obtain ⟨rfl, hc⟩ := hE
    refine vx_catch (name := eIO) hown [] (⟨0, 6, 9, 14⟩ : ExceptionTableEntry) [] (by rw [hTab]; rfl) (fun _ h => nomatch h) (by decide) (by decide) (hts _ (List.mem_cons_of_mem _ (List.mem_append_left _ (List.mem_append_left _ (List.mem_append_left _ (List.mem_of_getElem? (i := 0) rfl)))))) (va_Nw.use rfl (hTH.2.2.2.1 eIO (by decide))) hcell hcv hcl ?_
    refine lv_astore_n (lv' := [(3, .ref q9), (0, .ref (ad 16)), (1, .int d)]) hx hb dL_inDistrict_9 rfl hl (by decide) rfl (fun ls hl => ?_)
    refine lv_sipush (v := -7100) hx hb dL_inDistrict_10 (by decide) ?_
    exact W.iret (v := (-7100)) hx hb hr (fun t ht hW => ⟨(-7100), rfl, by first | (rw [ht]; done) | (rw [ht]; exact hS.1), fun q hq => by first | (rw [ht]; done) | (rw [ht]; exact hS.2.1 q hq (fun h => h)), fun hbad => by rw [ht]; exact hg⟩) hS.2.2 dL_inDistrict_13
  · skip
    refine lv_istore_n (lv' := [(2, .int rv), (0, .ref (ad 16)), (1, .int d)]) hx hb dL_inDistrict_5 rfl hl (by decide) rfl (fun ls hl => ?_)
    refine lv_goto (tgt := 14) hx hb dL_inDistrict_6 (by decide) ?_
    refine lv_iload_n hx hb dL_inDistrict_14 rfl (lv_at hl 0 rfl) ?_
    exact W.iret (v := rv) hx hb hr (fun t ht hW => ⟨rv, rfl, by first | (rw [ht]; done) | (rw [ht]; exact hS.1), fun q hq => by first | (rw [ht]; done) | (rw [ht]; exact hS.2.1 q hq (fun h => h)), fun hbad => by rw [ht]; exact absurd hu.1 hbad⟩) hS.2.2 dL_inDistrict_15
set_option maxHeartbeats 4000000 in
set_option maxRecDepth 100000 in
/-- the law asks counted -/
theorem c_L_counted (l : Launch) (hl0 : l.stackTraces = false) (D : va_G) (cA cZ cL : ClassId) (ad : Nat → Nat) (f : qFs) (g : qGs) (d : Int32) (ch : Int32) (nR : Nat) (nB : Nat) (hI : xI nR nB f) : Met l yL_counted wsL_counted ({ frames := 8, cells := 1, slots := 6, locals := 134 } : Room) (va_Pc [.ref (ad 16), .int d, .int ch] (qPreN D (qTy cA cZ cL) (xW cA ad f g))) (qG (fun z n1 n2 => ¬ (xShard d ∧ xCho ch) → n1 + 1 ≤ n2)) 1 6 (fun _ => False) := by
  refine qMet_ofWH (cc := cL_counted) (maxL := 5) (ret := (some .int)) (hh := [(0, 7, 10, 14), (0, 7, 16, 16)]) (by decide) rfl ?_
  intro p e s m args below meth c s₁ B hml hv
  obtain ⟨rfl, hP, hK, hTH, hNC⟩ := hv
  have hx := B.exec
  have hb := B.bytes
  have hr := B.returns
  have hts := atoms_spec (ws := wsL_counted) B.pre
  have hown : s.vm.findClass RL = some m.cls := findClass_of_methodNamed B.named
  have hlocks := B.notSynchronized
  have hTab := vx_table (x := yL_counted) B (hts _ List.mem_cons_self)
  have hS : va_S (fun _ => False) s.heap s.heap [] := va_S.rf
  have hl := lv_entry ([.ref (ad 16), .int d, .int ch]) (n := 5) (Nat.le_of_ble_eq_true rfl)
  rw [lg_entry_eq]
  generalize (lg_sl ([.ref (ad 16), .int d, .int ch]) ++ List.replicate (5 - (lg_sl ([.ref (ad 16), .int d, .int ch])).length) Slot.unset).toArray = ls at hl ⊢
  have hl : lv_has ls 5 [(0, .ref (ad 16)), (1, .int d), (2, .int ch)] := hl
  refine lv_aload_n hx hb dL_counted_0 rfl (lv_at hl 0 rfl) ?_
  refine lv_iload_n hx hb dL_counted_1 rfl (lv_at hl 1 rfl) ?_
  refine lv_iload_n hx hb dL_counted_2 rfl (lv_at hl 2 rfl) ?_
  refine qb_readG hP (vx_runV (As := [.int d, .int ch]) (rest := []) ⟨hx, hb, hml, hown, hts⟩ (c_X0_counted l hl0 D cA cZ cL ad f g d ch nR nB hI) (cwV 2 hts gL_counted_X0_counted rfl rfl rfl (by decide +kernel) ⟨Nat.le_of_ble_eq_true rfl, Nat.le_of_ble_eq_true rfl⟩) ⟨qPreT_blind, va_recv hK hP (ci := 0) (q0 := 0) rfl rfl, qPreT_at hP hK hTH rfl⟩ rfl rfl hl.1 rfl (lv_room (Nat.le_of_ble_eq_true rfl)) dL_counted_3 ⟨Nat.le_of_ble_eq_true rfl, Nat.le_of_ble_eq_true rfl⟩) hS (fun E ce q9 H locs hE hg hP hS hcell hcv hcl => ?_) (fun rv hu => ?_)
  · rcases hE with ⟨rfl, hc⟩ | ⟨rfl, hc⟩
    · skip
      refine vx_catch (name := eIO) hown [] (⟨0, 7, 10, 14⟩ : ExceptionTableEntry) [(⟨0, 7, 16, 16⟩ : ExceptionTableEntry)] (by rw [hTab]; rfl) (fun _ h => nomatch h) (by decide) (by decide) (hts _ (List.mem_cons_of_mem _ (List.mem_append_left _ (List.mem_append_left _ (List.mem_append_left _ (List.mem_of_getElem? (i := 0) rfl)))))) (va_Nw.use rfl (hTH.2.2.2.1 eIO (by decide))) hcell hcv hcl ?_
      refine lv_astore (lv' := [(4, .ref q9), (0, .ref (ad 16)), (1, .int d), (2, .int ch)]) hx hb dL_counted_10 hl (by decide) rfl (fun ls hl => ?_)
      refine lv_sipush (v := -7100) hx hb dL_counted_12 (by decide) ?_
      exact W.iret (v := (-7100)) hx hb hr (fun t ht hW => ⟨(-7100), rfl, by first | (rw [ht]; done) | (rw [ht]; exact hS.1), fun q hq => by first | (rw [ht]; done) | (rw [ht]; exact hS.2.1 q hq (fun h => h)), fun hbad => by rw [ht]; exact hg⟩) hS.2.2 dL_counted_15
    · skip
      refine vx_catch (name := eIA) hown [(⟨0, 7, 10, 14⟩ : ExceptionTableEntry)] (⟨0, 7, 16, 16⟩ : ExceptionTableEntry) [] (by rw [hTab]; rfl) (List.forall_mem_cons.mpr ⟨Or.inr ⟨by decide, _, (hts _ (List.mem_cons_of_mem _ (List.mem_append_left _ (List.mem_append_left _ (List.mem_append_left _ (List.mem_of_getElem? (i := 0) rfl)))))), hNC.1⟩, (fun _ h => nomatch h)⟩) (by decide) (by decide) (hts _ (List.mem_cons_of_mem _ (List.mem_append_left _ (List.mem_append_left _ (List.mem_append_left _ (List.mem_of_getElem? (i := 1) rfl)))))) (va_Nw.use rfl (hTH.2.2.2.1 eIA (by decide))) hcell hcv hcl ?_
      refine lv_astore (lv' := [(4, .ref q9), (0, .ref (ad 16)), (1, .int d), (2, .int ch)]) hx hb dL_counted_16 hl (by decide) rfl (fun ls hl => ?_)
      refine lv_sipush (v := -7200) hx hb dL_counted_18 (by decide) ?_
      exact W.iret (v := (-7200)) hx hb hr (fun t ht hW => ⟨(-7200), rfl, by first | (rw [ht]; done) | (rw [ht]; exact hS.1), fun q hq => by first | (rw [ht]; done) | (rw [ht]; exact hS.2.1 q hq (fun h => h)), fun hbad => by rw [ht]; exact hg⟩) hS.2.2 dL_counted_21
  · skip
    refine lv_istore_n (lv' := [(3, .int rv), (0, .ref (ad 16)), (1, .int d), (2, .int ch)]) hx hb dL_counted_6 rfl hl (by decide) rfl (fun ls hl => ?_)
    refine lv_goto (tgt := 22) hx hb dL_counted_7 (by decide) ?_
    refine lv_iload_n hx hb dL_counted_22 rfl (lv_at hl 0 rfl) ?_
    exact W.iret (v := rv) hx hb hr (fun t ht hW => ⟨rv, rfl, by first | (rw [ht]; done) | (rw [ht]; exact hS.1), fun q hq => by first | (rw [ht]; done) | (rw [ht]; exact hS.2.1 q hq (fun h => h)), fun hbad => by rw [ht]; exact absurd hu.1 hbad⟩) hS.2.2 dL_counted_23
set_option maxHeartbeats 4000000 in
set_option maxRecDepth 100000 in
/-- the law asks shardOf -/
theorem c_L_shardOf (l : Launch) (hl0 : l.stackTraces = false) (D : va_G) (cA cZ cL : ClassId) (ad : Nat → Nat) (f : qFs) (g : qGs) (r : Int32) (nR : Nat) (nB : Nat) (hI : xI nR nB f) : Met l yL_shardOf wsL_shardOf ({ frames := 8, cells := 1, slots := 6, locals := 132 } : Room) (va_Pc [.ref (ad 16), .int r] (qPreN D (qTy cA cZ cL) (xW cA ad f g))) (qG (fun z n1 n2 => ¬ (xRange f r) → n1 + 1 ≤ n2)) 1 6 (fun _ => False) := by
  refine qMet_ofWH (cc := cL_shardOf) (maxL := 4) (ret := (some .int)) (hh := [(0, 6, 9, 14)]) (by decide) rfl ?_
  intro p e s m args below meth c s₁ B hml hv
  obtain ⟨rfl, hP, hK, hTH, hNC⟩ := hv
  have hx := B.exec
  have hb := B.bytes
  have hr := B.returns
  have hts := atoms_spec (ws := wsL_shardOf) B.pre
  have hown : s.vm.findClass RL = some m.cls := findClass_of_methodNamed B.named
  have hlocks := B.notSynchronized
  have hTab := vx_table (x := yL_shardOf) B (hts _ List.mem_cons_self)
  have hS : va_S (fun _ => False) s.heap s.heap [] := va_S.rf
  have hl := lv_entry ([.ref (ad 16), .int r]) (n := 4) (Nat.le_of_ble_eq_true rfl)
  rw [lg_entry_eq]
  generalize (lg_sl ([.ref (ad 16), .int r]) ++ List.replicate (4 - (lg_sl ([.ref (ad 16), .int r])).length) Slot.unset).toArray = ls at hl ⊢
  have hl : lv_has ls 4 [(0, .ref (ad 16)), (1, .int r)] := hl
  refine lv_aload_n hx hb dL_shardOf_0 rfl (lv_at hl 0 rfl) ?_
  refine lv_iload_n hx hb dL_shardOf_1 rfl (lv_at hl 1 rfl) ?_
  refine qb_readG hP (vx_runV (As := [.int r]) (rest := []) ⟨hx, hb, hml, hown, hts⟩ (c_X0_shardOf l hl0 D cA cZ cL ad f g r nR nB hI) (cwV 1 hts gL_shardOf_X0_shardOf rfl rfl rfl (by decide +kernel) ⟨Nat.le_of_ble_eq_true rfl, Nat.le_of_ble_eq_true rfl⟩) ⟨qPreT_blind, va_recv hK hP (ci := 0) (q0 := 0) rfl rfl, qPreT_at hP hK hTH rfl⟩ rfl rfl hl.1 rfl (lv_room (Nat.le_of_ble_eq_true rfl)) dL_shardOf_2 ⟨Nat.le_of_ble_eq_true rfl, Nat.le_of_ble_eq_true rfl⟩) hS (fun E ce q9 H locs hE hg hP hS hcell hcv hcl => ?_) (fun rv hu => ?_)
  · obtain ⟨rfl, hc⟩ := hE
    refine vx_catch (name := eIO) hown [] (⟨0, 6, 9, 14⟩ : ExceptionTableEntry) [] (by rw [hTab]; rfl) (fun _ h => nomatch h) (by decide) (by decide) (hts _ (List.mem_cons_of_mem _ (List.mem_append_left _ (List.mem_append_left _ (List.mem_of_getElem? (i := 0) rfl))))) (va_Nw.use rfl (hTH.2.2.2.1 eIO (by decide))) hcell hcv hcl ?_
    refine lv_astore_n (lv' := [(3, .ref q9), (0, .ref (ad 16)), (1, .int r)]) hx hb dL_shardOf_9 rfl hl (by decide) rfl (fun ls hl => ?_)
    refine lv_sipush (v := -7100) hx hb dL_shardOf_10 (by decide) ?_
    exact W.iret (v := (-7100)) hx hb hr (fun t ht hW => ⟨(-7100), rfl, by first | (rw [ht]; done) | (rw [ht]; exact hS.1), fun q hq => by first | (rw [ht]; done) | (rw [ht]; exact hS.2.1 q hq (fun h => h)), fun hbad => by rw [ht]; exact hg⟩) hS.2.2 dL_shardOf_13
  · skip
    refine lv_istore_n (lv' := [(2, .int rv), (0, .ref (ad 16)), (1, .int r)]) hx hb dL_shardOf_5 rfl hl (by decide) rfl (fun ls hl => ?_)
    refine lv_goto (tgt := 14) hx hb dL_shardOf_6 (by decide) ?_
    refine lv_iload_n hx hb dL_shardOf_14 rfl (lv_at hl 0 rfl) ?_
    exact W.iret (v := rv) hx hb hr (fun t ht hW => ⟨rv, rfl, by first | (rw [ht]; done) | (rw [ht]; exact hS.1), fun q hq => by first | (rw [ht]; done) | (rw [ht]; exact hS.2.1 q hq (fun h => h)), fun hbad => by rw [ht]; exact absurd hu.1 hbad⟩) hS.2.2 dL_shardOf_15
set_option maxHeartbeats 4000000 in
set_option maxRecDepth 100000 in
/-- the law asks address -/
theorem c_L_address (l : Launch) (hl0 : l.stackTraces = false) (D : va_G) (cA cZ cL : ClassId) (ad : Nat → Nat) (f : qFs) (g : qGs) (k : Int32) (nR : Nat) (nB : Nat) (hI : xI nR nB f) : Met l yL_address wsL_address ({ frames := 8, cells := 1, slots := 6, locals := 131 } : Room) (va_Pc [.ref (ad 16), .int k] (qPreN D (qTy cA cZ cL) (xW cA ad f g))) (qG (fun z n1 n2 => ¬ (xKey k) → n1 + 1 ≤ n2)) 1 6 (fun _ => False) := by
  refine qMet_ofWH (cc := cL_address) (maxL := 4) (ret := (some .int)) (hh := [(0, 6, 9, 14)]) (by decide) rfl ?_
  intro p e s m args below meth c s₁ B hml hv
  obtain ⟨rfl, hP, hK, hTH, hNC⟩ := hv
  have hx := B.exec
  have hb := B.bytes
  have hr := B.returns
  have hts := atoms_spec (ws := wsL_address) B.pre
  have hown : s.vm.findClass RL = some m.cls := findClass_of_methodNamed B.named
  have hlocks := B.notSynchronized
  have hTab := vx_table (x := yL_address) B (hts _ List.mem_cons_self)
  have hS : va_S (fun _ => False) s.heap s.heap [] := va_S.rf
  have hl := lv_entry ([.ref (ad 16), .int k]) (n := 4) (Nat.le_of_ble_eq_true rfl)
  rw [lg_entry_eq]
  generalize (lg_sl ([.ref (ad 16), .int k]) ++ List.replicate (4 - (lg_sl ([.ref (ad 16), .int k])).length) Slot.unset).toArray = ls at hl ⊢
  have hl : lv_has ls 4 [(0, .ref (ad 16)), (1, .int k)] := hl
  refine lv_aload_n hx hb dL_address_0 rfl (lv_at hl 0 rfl) ?_
  refine lv_iload_n hx hb dL_address_1 rfl (lv_at hl 1 rfl) ?_
  refine qb_readG hP (vx_runV (As := [.int k]) (rest := []) ⟨hx, hb, hml, hown, hts⟩ (c_X0_address l hl0 D cA cZ cL ad f g k nR nB hI) (cwV 1 hts gL_address_X0_address rfl rfl rfl (by decide +kernel) ⟨Nat.le_of_ble_eq_true rfl, Nat.le_of_ble_eq_true rfl⟩) ⟨qPreT_blind, va_recv hK hP (ci := 0) (q0 := 0) rfl rfl, qPreT_at hP hK hTH rfl⟩ rfl rfl hl.1 rfl (lv_room (Nat.le_of_ble_eq_true rfl)) dL_address_2 ⟨Nat.le_of_ble_eq_true rfl, Nat.le_of_ble_eq_true rfl⟩) hS (fun E ce q9 H locs hE hg hP hS hcell hcv hcl => ?_) (fun rv hu => ?_)
  · obtain ⟨rfl, hc⟩ := hE
    refine vx_catch (name := eIO) hown [] (⟨0, 6, 9, 14⟩ : ExceptionTableEntry) [] (by rw [hTab]; rfl) (fun _ h => nomatch h) (by decide) (by decide) (hts _ (List.mem_cons_of_mem _ (List.mem_append_left _ (List.mem_append_left _ (List.mem_append_left _ (List.mem_of_getElem? (i := 0) rfl)))))) (va_Nw.use rfl (hTH.2.2.2.1 eIO (by decide))) hcell hcv hcl ?_
    refine lv_astore_n (lv' := [(3, .ref q9), (0, .ref (ad 16)), (1, .int k)]) hx hb dL_address_9 rfl hl (by decide) rfl (fun ls hl => ?_)
    refine lv_sipush (v := -7100) hx hb dL_address_10 (by decide) ?_
    exact W.iret (v := (-7100)) hx hb hr (fun t ht hW => ⟨(-7100), rfl, by first | (rw [ht]; done) | (rw [ht]; exact hS.1), fun q hq => by first | (rw [ht]; done) | (rw [ht]; exact hS.2.1 q hq (fun h => h)), fun hbad => by rw [ht]; exact hg⟩) hS.2.2 dL_address_13
  · skip
    refine lv_istore_n (lv' := [(2, .int rv), (0, .ref (ad 16)), (1, .int k)]) hx hb dL_address_5 rfl hl (by decide) rfl (fun ls hl => ?_)
    refine lv_goto (tgt := 14) hx hb dL_address_6 (by decide) ?_
    refine lv_iload_n hx hb dL_address_14 rfl (lv_at hl 0 rfl) ?_
    exact W.iret (v := rv) hx hb hr (fun t ht hW => ⟨rv, rfl, by first | (rw [ht]; done) | (rw [ht]; exact hS.1), fun q hq => by first | (rw [ht]; done) | (rw [ht]; exact hS.2.1 q hq (fun h => h)), fun hbad => by rw [ht]; exact absurd hu.1 hbad⟩) hS.2.2 dL_address_15
set_option maxHeartbeats 4000000 in
set_option maxRecDepth 100000 in
/-- the law asks onRoll -/
theorem c_L_onRoll (l : Launch) (hl0 : l.stackTraces = false) (D : va_G) (cA cZ cL : ClassId) (ad : Nat → Nat) (f : qFs) (g : qGs) (k : Int32) : Met l yL_onRoll wsL_onRoll ({ frames := 8, cells := 1, slots := 6, locals := 131 } : Room) (va_Pc [.ref (ad 16), .int k] (qPreN D (qTy cA cZ cL) (xW cA ad f g))) (qG (fun z n1 n2 => ¬ (xKey k) → n1 + 1 ≤ n2)) 1 6 (fun _ => False) := by
  refine qMet_ofWH (cc := cL_onRoll) (maxL := 4) (ret := (some .int)) (hh := [(0, 6, 9, 14)]) (by decide) rfl ?_
  intro p e s m args below meth c s₁ B hml hv
  obtain ⟨rfl, hP, hK, hTH, hNC⟩ := hv
  have hx := B.exec
  have hb := B.bytes
  have hr := B.returns
  have hts := atoms_spec (ws := wsL_onRoll) B.pre
  have hown : s.vm.findClass RL = some m.cls := findClass_of_methodNamed B.named
  have hlocks := B.notSynchronized
  have hTab := vx_table (x := yL_onRoll) B (hts _ List.mem_cons_self)
  have hS : va_S (fun _ => False) s.heap s.heap [] := va_S.rf
  have hl := lv_entry ([.ref (ad 16), .int k]) (n := 4) (Nat.le_of_ble_eq_true rfl)
  rw [lg_entry_eq]
  generalize (lg_sl ([.ref (ad 16), .int k]) ++ List.replicate (4 - (lg_sl ([.ref (ad 16), .int k])).length) Slot.unset).toArray = ls at hl ⊢
  have hl : lv_has ls 4 [(0, .ref (ad 16)), (1, .int k)] := hl
  refine lv_aload_n hx hb dL_onRoll_0 rfl (lv_at hl 0 rfl) ?_
  refine lv_iload_n hx hb dL_onRoll_1 rfl (lv_at hl 1 rfl) ?_
  refine qb_readG hP (vx_runV (As := [.int k]) (rest := []) ⟨hx, hb, hml, hown, hts⟩ (c_X0_onRoll l hl0 D cA cZ cL ad f g k) (cwV 1 hts gL_onRoll_X0_onRoll rfl rfl rfl (by decide +kernel) ⟨Nat.le_of_ble_eq_true rfl, Nat.le_of_ble_eq_true rfl⟩) ⟨qPreT_blind, va_recv hK hP (ci := 0) (q0 := 0) rfl rfl, qPreT_at hP hK hTH rfl⟩ rfl rfl hl.1 rfl (lv_room (Nat.le_of_ble_eq_true rfl)) dL_onRoll_2 ⟨Nat.le_of_ble_eq_true rfl, Nat.le_of_ble_eq_true rfl⟩) hS (fun E ce q9 H locs hE hg hP hS hcell hcv hcl => ?_) (fun rv hu => ?_)
  · obtain ⟨rfl, hc⟩ := hE
    refine vx_catch (name := eIO) hown [] (⟨0, 6, 9, 14⟩ : ExceptionTableEntry) [] (by rw [hTab]; rfl) (fun _ h => nomatch h) (by decide) (by decide) (hts _ (List.mem_cons_of_mem _ (List.mem_append_left _ (List.mem_append_left _ (List.mem_of_getElem? (i := 0) rfl))))) (va_Nw.use rfl (hTH.2.2.2.1 eIO (by decide))) hcell hcv hcl ?_
    refine lv_astore_n (lv' := [(3, .ref q9), (0, .ref (ad 16)), (1, .int k)]) hx hb dL_onRoll_9 rfl hl (by decide) rfl (fun ls hl => ?_)
    refine lv_sipush (v := -7100) hx hb dL_onRoll_10 (by decide) ?_
    exact W.iret (v := (-7100)) hx hb hr (fun t ht hW => ⟨(-7100), rfl, by first | (rw [ht]; done) | (rw [ht]; exact hS.1), fun q hq => by first | (rw [ht]; done) | (rw [ht]; exact hS.2.1 q hq (fun h => h)), fun hbad => by rw [ht]; exact hg⟩) hS.2.2 dL_onRoll_13
  · skip
    refine lv_istore_n (lv' := [(2, .int rv), (0, .ref (ad 16)), (1, .int k)]) hx hb dL_onRoll_5 rfl hl (by decide) rfl (fun ls hl => ?_)
    refine lv_goto (tgt := 14) hx hb dL_onRoll_6 (by decide) ?_
    refine lv_iload_n hx hb dL_onRoll_14 rfl (lv_at hl 0 rfl) ?_
    exact W.iret (v := rv) hx hb hr (fun t ht hW => ⟨rv, rfl, by first | (rw [ht]; done) | (rw [ht]; exact hS.1), fun q hq => by first | (rw [ht]; done) | (rw [ht]; exact hS.2.1 q hq (fun h => h)), fun hbad => by rw [ht]; exact absurd hu.1 hbad⟩) hS.2.2 dL_onRoll_15
set_option maxHeartbeats 4000000 in
set_option maxRecDepth 100000 in
/-- the law asks rangeOf -/
theorem c_L_rangeOf (l : Launch) (hl0 : l.stackTraces = false) (D : va_G) (cA cZ cL : ClassId) (ad : Nat → Nat) (f : qFs) (g : qGs) (k : Int32) (nR : Nat) (nB : Nat) (hI : xI nR nB f) : Met l yL_rangeOf wsL_rangeOf ({ frames := 8, cells := 1, slots := 6, locals := 131 } : Room) (va_Pc [.ref (ad 16), .int k] (qPreN D (qTy cA cZ cL) (xW cA ad f g))) (qG (fun z n1 n2 => ¬ (xKey k) → n1 + 1 ≤ n2)) 1 6 (fun _ => False) := by
  refine qMet_ofWH (cc := cL_rangeOf) (maxL := 4) (ret := (some .int)) (hh := [(0, 6, 9, 14)]) (by decide) rfl ?_
  intro p e s m args below meth c s₁ B hml hv
  obtain ⟨rfl, hP, hK, hTH, hNC⟩ := hv
  have hx := B.exec
  have hb := B.bytes
  have hr := B.returns
  have hts := atoms_spec (ws := wsL_rangeOf) B.pre
  have hown : s.vm.findClass RL = some m.cls := findClass_of_methodNamed B.named
  have hlocks := B.notSynchronized
  have hTab := vx_table (x := yL_rangeOf) B (hts _ List.mem_cons_self)
  have hS : va_S (fun _ => False) s.heap s.heap [] := va_S.rf
  have hl := lv_entry ([.ref (ad 16), .int k]) (n := 4) (Nat.le_of_ble_eq_true rfl)
  rw [lg_entry_eq]
  generalize (lg_sl ([.ref (ad 16), .int k]) ++ List.replicate (4 - (lg_sl ([.ref (ad 16), .int k])).length) Slot.unset).toArray = ls at hl ⊢
  have hl : lv_has ls 4 [(0, .ref (ad 16)), (1, .int k)] := hl
  refine lv_aload_n hx hb dL_rangeOf_0 rfl (lv_at hl 0 rfl) ?_
  refine lv_iload_n hx hb dL_rangeOf_1 rfl (lv_at hl 1 rfl) ?_
  refine qb_readG hP (vx_runV (As := [.int k]) (rest := []) ⟨hx, hb, hml, hown, hts⟩ (c_X0_rangeOf l hl0 D cA cZ cL ad f g k nR nB hI) (cwV 1 hts gL_rangeOf_X0_rangeOf rfl rfl rfl (by decide +kernel) ⟨Nat.le_of_ble_eq_true rfl, Nat.le_of_ble_eq_true rfl⟩) ⟨qPreT_blind, va_recv hK hP (ci := 0) (q0 := 0) rfl rfl, qPreT_at hP hK hTH rfl⟩ rfl rfl hl.1 rfl (lv_room (Nat.le_of_ble_eq_true rfl)) dL_rangeOf_2 ⟨Nat.le_of_ble_eq_true rfl, Nat.le_of_ble_eq_true rfl⟩) hS (fun E ce q9 H locs hE hg hP hS hcell hcv hcl => ?_) (fun rv hu => ?_)
  · obtain ⟨rfl, hc⟩ := hE
    refine vx_catch (name := eIO) hown [] (⟨0, 6, 9, 14⟩ : ExceptionTableEntry) [] (by rw [hTab]; rfl) (fun _ h => nomatch h) (by decide) (by decide) (hts _ (List.mem_cons_of_mem _ (List.mem_append_left _ (List.mem_append_left _ (List.mem_append_left _ (List.mem_of_getElem? (i := 0) rfl)))))) (va_Nw.use rfl (hTH.2.2.2.1 eIO (by decide))) hcell hcv hcl ?_
    refine lv_astore_n (lv' := [(3, .ref q9), (0, .ref (ad 16)), (1, .int k)]) hx hb dL_rangeOf_9 rfl hl (by decide) rfl (fun ls hl => ?_)
    refine lv_sipush (v := -7100) hx hb dL_rangeOf_10 (by decide) ?_
    exact W.iret (v := (-7100)) hx hb hr (fun t ht hW => ⟨(-7100), rfl, by first | (rw [ht]; done) | (rw [ht]; exact hS.1), fun q hq => by first | (rw [ht]; done) | (rw [ht]; exact hS.2.1 q hq (fun h => h)), fun hbad => by rw [ht]; exact hg⟩) hS.2.2 dL_rangeOf_13
  · skip
    refine lv_istore_n (lv' := [(2, .int rv), (0, .ref (ad 16)), (1, .int k)]) hx hb dL_rangeOf_5 rfl hl (by decide) rfl (fun ls hl => ?_)
    refine lv_goto (tgt := 14) hx hb dL_rangeOf_6 (by decide) ?_
    refine lv_iload_n hx hb dL_rangeOf_14 rfl (lv_at hl 0 rfl) ?_
    exact W.iret (v := rv) hx hb hr (fun t ht hW => ⟨rv, rfl, by first | (rw [ht]; done) | (rw [ht]; exact hS.1), fun q hq => by first | (rw [ht]; done) | (rw [ht]; exact hS.2.1 q hq (fun h => h)), fun hbad => by rw [ht]; exact absurd hu.1 hbad⟩) hS.2.2 dL_rangeOf_15
set_option maxHeartbeats 4000000 in
set_option maxRecDepth 100000 in
/-- the law asks stateOf -/
theorem c_L_stateOf (l : Launch) (hl0 : l.stackTraces = false) (D : va_G) (cA cZ cL : ClassId) (ad : Nat → Nat) (f : qFs) (g : qGs) (b : Int32) (nR : Nat) (nB : Nat) (hI : xI nR nB f) : Met l yL_stateOf wsL_stateOf ({ frames := 8, cells := 1, slots := 6, locals := 132 } : Room) (va_Pc [.ref (ad 16), .int b] (qPreN D (qTy cA cZ cL) (xW cA ad f g))) (qG (fun z n1 n2 => ¬ (xBallot f b) → n1 + 1 ≤ n2)) 1 6 (fun _ => False) := by
  refine qMet_ofWH (cc := cL_stateOf) (maxL := 4) (ret := (some .int)) (hh := [(0, 6, 9, 14)]) (by decide) rfl ?_
  intro p e s m args below meth c s₁ B hml hv
  obtain ⟨rfl, hP, hK, hTH, hNC⟩ := hv
  have hx := B.exec
  have hb := B.bytes
  have hr := B.returns
  have hts := atoms_spec (ws := wsL_stateOf) B.pre
  have hown : s.vm.findClass RL = some m.cls := findClass_of_methodNamed B.named
  have hlocks := B.notSynchronized
  have hTab := vx_table (x := yL_stateOf) B (hts _ List.mem_cons_self)
  have hS : va_S (fun _ => False) s.heap s.heap [] := va_S.rf
  have hl := lv_entry ([.ref (ad 16), .int b]) (n := 4) (Nat.le_of_ble_eq_true rfl)
  rw [lg_entry_eq]
  generalize (lg_sl ([.ref (ad 16), .int b]) ++ List.replicate (4 - (lg_sl ([.ref (ad 16), .int b])).length) Slot.unset).toArray = ls at hl ⊢
  have hl : lv_has ls 4 [(0, .ref (ad 16)), (1, .int b)] := hl
  refine lv_aload_n hx hb dL_stateOf_0 rfl (lv_at hl 0 rfl) ?_
  refine lv_iload_n hx hb dL_stateOf_1 rfl (lv_at hl 1 rfl) ?_
  refine qb_readG hP (vx_runV (As := [.int b]) (rest := []) ⟨hx, hb, hml, hown, hts⟩ (c_X0_stateOf l hl0 D cA cZ cL ad f g b nR nB hI) (cwV 1 hts gL_stateOf_X0_stateOf rfl rfl rfl (by decide +kernel) ⟨Nat.le_of_ble_eq_true rfl, Nat.le_of_ble_eq_true rfl⟩) ⟨qPreT_blind, va_recv hK hP (ci := 0) (q0 := 0) rfl rfl, qPreT_at hP hK hTH rfl⟩ rfl rfl hl.1 rfl (lv_room (Nat.le_of_ble_eq_true rfl)) dL_stateOf_2 ⟨Nat.le_of_ble_eq_true rfl, Nat.le_of_ble_eq_true rfl⟩) hS (fun E ce q9 H locs hE hg hP hS hcell hcv hcl => ?_) (fun rv hu => ?_)
  · obtain ⟨rfl, hc⟩ := hE
    refine vx_catch (name := eIO) hown [] (⟨0, 6, 9, 14⟩ : ExceptionTableEntry) [] (by rw [hTab]; rfl) (fun _ h => nomatch h) (by decide) (by decide) (hts _ (List.mem_cons_of_mem _ (List.mem_append_left _ (List.mem_append_left _ (List.mem_of_getElem? (i := 0) rfl))))) (va_Nw.use rfl (hTH.2.2.2.1 eIO (by decide))) hcell hcv hcl ?_
    refine lv_astore_n (lv' := [(3, .ref q9), (0, .ref (ad 16)), (1, .int b)]) hx hb dL_stateOf_9 rfl hl (by decide) rfl (fun ls hl => ?_)
    refine lv_sipush (v := -7100) hx hb dL_stateOf_10 (by decide) ?_
    exact W.iret (v := (-7100)) hx hb hr (fun t ht hW => ⟨(-7100), rfl, by first | (rw [ht]; done) | (rw [ht]; exact hS.1), fun q hq => by first | (rw [ht]; done) | (rw [ht]; exact hS.2.1 q hq (fun h => h)), fun hbad => by rw [ht]; exact hg⟩) hS.2.2 dL_stateOf_13
  · skip
    refine lv_istore_n (lv' := [(2, .int rv), (0, .ref (ad 16)), (1, .int b)]) hx hb dL_stateOf_5 rfl hl (by decide) rfl (fun ls hl => ?_)
    refine lv_goto (tgt := 14) hx hb dL_stateOf_6 (by decide) ?_
    refine lv_iload_n hx hb dL_stateOf_14 rfl (lv_at hl 0 rfl) ?_
    exact W.iret (v := rv) hx hb hr (fun t ht hW => ⟨rv, rfl, by first | (rw [ht]; done) | (rw [ht]; exact hS.1), fun q hq => by first | (rw [ht]; done) | (rw [ht]; exact hS.2.1 q hq (fun h => h)), fun hbad => by rw [ht]; exact absurd hu.1 hbad⟩) hS.2.2 dL_stateOf_15
set_option maxHeartbeats 4000000 in
set_option maxRecDepth 100000 in
/-- the law asks sentTo -/
theorem c_L_sentTo (l : Launch) (hl0 : l.stackTraces = false) (D : va_G) (cA cZ cL : ClassId) (ad : Nat → Nat) (f : qFs) (g : qGs) (b : Int32) (nR : Nat) (nB : Nat) (hI : xI nR nB f) : Met l yL_sentTo wsL_sentTo ({ frames := 8, cells := 1, slots := 6, locals := 132 } : Room) (va_Pc [.ref (ad 16), .int b] (qPreN D (qTy cA cZ cL) (xW cA ad f g))) (qG (fun z n1 n2 => ¬ (xBallot f b) → n1 + 1 ≤ n2)) 1 6 (fun _ => False) := by
  refine qMet_ofWH (cc := cL_sentTo) (maxL := 4) (ret := (some .int)) (hh := [(0, 6, 9, 14)]) (by decide) rfl ?_
  intro p e s m args below meth c s₁ B hml hv
  obtain ⟨rfl, hP, hK, hTH, hNC⟩ := hv
  have hx := B.exec
  have hb := B.bytes
  have hr := B.returns
  have hts := atoms_spec (ws := wsL_sentTo) B.pre
  have hown : s.vm.findClass RL = some m.cls := findClass_of_methodNamed B.named
  have hlocks := B.notSynchronized
  have hTab := vx_table (x := yL_sentTo) B (hts _ List.mem_cons_self)
  have hS : va_S (fun _ => False) s.heap s.heap [] := va_S.rf
  have hl := lv_entry ([.ref (ad 16), .int b]) (n := 4) (Nat.le_of_ble_eq_true rfl)
  rw [lg_entry_eq]
  generalize (lg_sl ([.ref (ad 16), .int b]) ++ List.replicate (4 - (lg_sl ([.ref (ad 16), .int b])).length) Slot.unset).toArray = ls at hl ⊢
  have hl : lv_has ls 4 [(0, .ref (ad 16)), (1, .int b)] := hl
  refine lv_aload_n hx hb dL_sentTo_0 rfl (lv_at hl 0 rfl) ?_
  refine lv_iload_n hx hb dL_sentTo_1 rfl (lv_at hl 1 rfl) ?_
  refine qb_readG hP (vx_runV (As := [.int b]) (rest := []) ⟨hx, hb, hml, hown, hts⟩ (c_X0_sentTo l hl0 D cA cZ cL ad f g b nR nB hI) (cwV 1 hts gL_sentTo_X0_sentTo rfl rfl rfl (by decide +kernel) ⟨Nat.le_of_ble_eq_true rfl, Nat.le_of_ble_eq_true rfl⟩) ⟨qPreT_blind, va_recv hK hP (ci := 0) (q0 := 0) rfl rfl, qPreT_at hP hK hTH rfl⟩ rfl rfl hl.1 rfl (lv_room (Nat.le_of_ble_eq_true rfl)) dL_sentTo_2 ⟨Nat.le_of_ble_eq_true rfl, Nat.le_of_ble_eq_true rfl⟩) hS (fun E ce q9 H locs hE hg hP hS hcell hcv hcl => ?_) (fun rv hu => ?_)
  · obtain ⟨rfl, hc⟩ := hE
    refine vx_catch (name := eIO) hown [] (⟨0, 6, 9, 14⟩ : ExceptionTableEntry) [] (by rw [hTab]; rfl) (fun _ h => nomatch h) (by decide) (by decide) (hts _ (List.mem_cons_of_mem _ (List.mem_append_left _ (List.mem_append_left _ (List.mem_of_getElem? (i := 0) rfl))))) (va_Nw.use rfl (hTH.2.2.2.1 eIO (by decide))) hcell hcv hcl ?_
    refine lv_astore_n (lv' := [(3, .ref q9), (0, .ref (ad 16)), (1, .int b)]) hx hb dL_sentTo_9 rfl hl (by decide) rfl (fun ls hl => ?_)
    refine lv_sipush (v := -7100) hx hb dL_sentTo_10 (by decide) ?_
    exact W.iret (v := (-7100)) hx hb hr (fun t ht hW => ⟨(-7100), rfl, by first | (rw [ht]; done) | (rw [ht]; exact hS.1), fun q hq => by first | (rw [ht]; done) | (rw [ht]; exact hS.2.1 q hq (fun h => h)), fun hbad => by rw [ht]; exact hg⟩) hS.2.2 dL_sentTo_13
  · skip
    refine lv_istore_n (lv' := [(2, .int rv), (0, .ref (ad 16)), (1, .int b)]) hx hb dL_sentTo_5 rfl hl (by decide) rfl (fun ls hl => ?_)
    refine lv_goto (tgt := 14) hx hb dL_sentTo_6 (by decide) ?_
    refine lv_iload_n hx hb dL_sentTo_14 rfl (lv_at hl 0 rfl) ?_
    exact W.iret (v := rv) hx hb hr (fun t ht hW => ⟨rv, rfl, by first | (rw [ht]; done) | (rw [ht]; exact hS.1), fun q hq => by first | (rw [ht]; done) | (rw [ht]; exact hS.2.1 q hq (fun h => h)), fun hbad => by rw [ht]; exact absurd hu.1 hbad⟩) hS.2.2 dL_sentTo_15
set_option maxHeartbeats 4000000 in
set_option maxRecDepth 100000 in
/-- the law asks join -/
theorem c_L_join (l : Launch) (hl0 : l.stackTraces = false) (D : va_G) (cA cZ cL : ClassId) (ad : Nat → Nat) (f : qFs) (g : qGs) (sz : Nat) (k : Int32) (a : Int32) (nR : Nat) (nB : Nat) (hI : xI nR nB f) : Met l yL_join wsL_join ({ frames := 8, cells := 1, slots := 6, locals := 132 } : Room) (va_Pc [.ref (ad 16), .int k, .int a] (qPreL D (qTy cA cZ cL) (xW cA ad f g) sz)) (va_Qi (fun (z : Int32) (u : (qFs × qGs) × Nat) => (u.1.1 5 = f 5 ∧ u.1.1 15 = f 15) ∧ (¬ (xKey k ∧ xAdr a) → sz + 1 ≤ u.2)) (qAtN D (va_A (xW cA ad f g) sz) (fun u : qFs × qGs => xW cA ad u.1 u.2)) (va_A (xW cA ad f g) sz)) 1 6 (va_A (xW cA ad f g) sz) := by
  refine qMet_ofWH (cc := cL_join) (maxL := 5) (ret := (some .int)) (hh := [(0, 7, 10, 14), (0, 7, 16, 16), (0, 7, 22, 18)]) (by decide) rfl ?_
  intro p e s m args below meth c s₁ B hml hv
  obtain ⟨rfl, hsz, hP, hK, hD0, hTH, hNC⟩ := hv
  have hx := B.exec
  have hb := B.bytes
  have hr := B.returns
  have hts := atoms_spec (ws := wsL_join) B.pre
  have hown : s.vm.findClass RL = some m.cls := findClass_of_methodNamed B.named
  have hlocks := B.notSynchronized
  have hTab := vx_table (x := yL_join) B (hts _ List.mem_cons_self)
  subst hsz
  have hD := hD0.self (sz := s.heap.size)
  generalize hAe : va_A (xW cA ad f g) s.heap.size = A at hD ⊢
  have hA : ∀ q : Nat, s.heap.size ≤ q → A q := fun q h => by rw [← hAe]; exact Or.inr h
  have hS : va_S A s.heap s.heap [] := va_S.rf
  have hl := lv_entry ([.ref (ad 16), .int k, .int a]) (n := 5) (Nat.le_of_ble_eq_true rfl)
  rw [lg_entry_eq]
  generalize (lg_sl ([.ref (ad 16), .int k, .int a]) ++ List.replicate (5 - (lg_sl ([.ref (ad 16), .int k, .int a])).length) Slot.unset).toArray = ls at hl ⊢
  have hl : lv_has ls 5 [(0, .ref (ad 16)), (1, .int k), (2, .int a)] := hl
  refine lv_aload_n hx hb dL_join_0 rfl (lv_at hl 0 rfl) ?_
  refine lv_iload_n hx hb dL_join_1 rfl (lv_at hl 1 rfl) ?_
  refine lv_iload_n hx hb dL_join_2 rfl (lv_at hl 2 rfl) ?_
  refine qb_calliG (ws := xW cA ad f g) hP (vx_runV (As := [.int k, .int a]) (rest := []) ⟨hx, hb, hml, hown, hts⟩ (c_X0_join l hl0 D cA cZ cL ad f g s.heap.size k a nR nB hI) (cwV 2 hts gL_join_X0_join rfl rfl rfl (by decide +kernel) ⟨Nat.le_of_ble_eq_true rfl, Nat.le_of_ble_eq_true rfl⟩) ⟨qPreX_blind, va_recv hK hP (ci := 0) (q0 := 0) rfl rfl, qPreX_at hP hK hD (fun U hU hW => qTH_at hTH hU hW)⟩ rfl rfl hl.1 rfl (lv_room (Nat.le_of_ble_eq_true rfl)) dL_join_3 ⟨Nat.le_of_ble_eq_true rfl, Nat.le_of_ble_eq_true rfl⟩) hD hS hA (fun E ce q9 H locs hE hg hP hS hcell hcv hcl => ?_) (fun rv u H locs hu hP hD hS => ?_)
  · rcases hE with ⟨rfl, hc⟩ | ⟨rfl, hc⟩ | ⟨rfl, hc⟩
    · skip
      refine vx_catch (name := eIO) hown [] (⟨0, 7, 10, 14⟩ : ExceptionTableEntry) [(⟨0, 7, 16, 16⟩ : ExceptionTableEntry), (⟨0, 7, 22, 18⟩ : ExceptionTableEntry)] (by rw [hTab]; rfl) (fun _ h => nomatch h) (by decide) (by decide) (hts _ (List.mem_cons_of_mem _ (List.mem_append_left _ (List.mem_append_left _ (List.mem_append_left _ (List.mem_append_left _ (List.mem_append_left _ (List.mem_of_getElem? (i := 0) rfl)))))))) (va_Nw.use rfl (hTH.2.2.2.1 eIO (by decide))) hcell hcv hcl ?_
      refine lv_astore (lv' := [(4, .ref q9), (0, .ref (ad 16)), (1, .int k), (2, .int a)]) hx hb dL_join_10 hl (by decide) rfl (fun ls hl => ?_)
      refine lv_sipush (v := -7100) hx hb dL_join_12 (by decide) ?_
      exact W.iret (v := (-7100)) hx hb hr (fun t ht hW => ⟨⟨(-7100), ((f, g), t.heap.size), rfl, ⟨⟨rfl, rfl⟩, fun hbad => by show s.heap.size + 1 ≤ t.heap.size; rw [ht]; exact hg⟩, ⟨⟨by rw [ht]; exact hP, hD⟩, rfl⟩⟩, hS.F ht⟩) hS.2.2 dL_join_15
    · skip
      refine vx_catch (name := eIA) hown [(⟨0, 7, 10, 14⟩ : ExceptionTableEntry)] (⟨0, 7, 16, 16⟩ : ExceptionTableEntry) [(⟨0, 7, 22, 18⟩ : ExceptionTableEntry)] (by rw [hTab]; rfl) (List.forall_mem_cons.mpr ⟨Or.inr ⟨by decide, _, (hts _ (List.mem_cons_of_mem _ (List.mem_append_left _ (List.mem_append_left _ (List.mem_append_left _ (List.mem_append_left _ (List.mem_append_left _ (List.mem_of_getElem? (i := 0) rfl)))))))), hNC.1⟩, (fun _ h => nomatch h)⟩) (by decide) (by decide) (hts _ (List.mem_cons_of_mem _ (List.mem_append_left _ (List.mem_append_left _ (List.mem_append_left _ (List.mem_append_left _ (List.mem_append_left _ (List.mem_of_getElem? (i := 1) rfl)))))))) (va_Nw.use rfl (hTH.2.2.2.1 eIA (by decide))) hcell hcv hcl ?_
      refine lv_astore (lv' := [(4, .ref q9), (0, .ref (ad 16)), (1, .int k), (2, .int a)]) hx hb dL_join_16 hl (by decide) rfl (fun ls hl => ?_)
      refine lv_sipush (v := -7200) hx hb dL_join_18 (by decide) ?_
      exact W.iret (v := (-7200)) hx hb hr (fun t ht hW => ⟨⟨(-7200), ((f, g), t.heap.size), rfl, ⟨⟨rfl, rfl⟩, fun hbad => by show s.heap.size + 1 ≤ t.heap.size; rw [ht]; exact hg⟩, ⟨⟨by rw [ht]; exact hP, hD⟩, rfl⟩⟩, hS.F ht⟩) hS.2.2 dL_join_21
    · skip
      refine vx_catch (name := eIS) hown [(⟨0, 7, 10, 14⟩ : ExceptionTableEntry), (⟨0, 7, 16, 16⟩ : ExceptionTableEntry)] (⟨0, 7, 22, 18⟩ : ExceptionTableEntry) [] (by rw [hTab]; rfl) (List.forall_mem_cons.mpr ⟨Or.inr ⟨by decide, _, (hts _ (List.mem_cons_of_mem _ (List.mem_append_left _ (List.mem_append_left _ (List.mem_append_left _ (List.mem_append_left _ (List.mem_append_left _ (List.mem_of_getElem? (i := 0) rfl)))))))), hNC.2.1⟩, (List.forall_mem_cons.mpr ⟨Or.inr ⟨by decide, _, (hts _ (List.mem_cons_of_mem _ (List.mem_append_left _ (List.mem_append_left _ (List.mem_append_left _ (List.mem_append_left _ (List.mem_append_left _ (List.mem_of_getElem? (i := 1) rfl)))))))), hNC.2.2⟩, (fun _ h => nomatch h)⟩)⟩) (by decide) (by decide) (hts _ (List.mem_cons_of_mem _ (List.mem_append_left _ (List.mem_append_left _ (List.mem_append_left _ (List.mem_append_left _ (List.mem_append_left _ (List.mem_of_getElem? (i := 2) rfl)))))))) (va_Nw.use rfl (hTH.2.2.2.1 eIS (by decide))) hcell hcv hcl ?_
      refine lv_astore (lv' := [(4, .ref q9), (0, .ref (ad 16)), (1, .int k), (2, .int a)]) hx hb dL_join_22 hl (by decide) rfl (fun ls hl => ?_)
      refine lv_sipush (v := -7300) hx hb dL_join_24 (by decide) ?_
      exact W.iret (v := (-7300)) hx hb hr (fun t ht hW => ⟨⟨(-7300), ((f, g), t.heap.size), rfl, ⟨⟨rfl, rfl⟩, fun hbad => by show s.heap.size + 1 ≤ t.heap.size; rw [ht]; exact hg⟩, ⟨⟨by rw [ht]; exact hP, hD⟩, rfl⟩⟩, hS.F ht⟩) hS.2.2 dL_join_27
  · skip
    obtain ⟨uf, ug⟩ := u
    obtain ⟨hok, -, hu1, hu2⟩ := hu
    have hu1 : uf = va_up f 1 (f 1 + 1) := hu1
    have hP : va_P D vwCl (xW cA ad uf ug) H := hP
    have hD : va_D A (xW cA ad uf ug) := hD
    refine lv_istore_n (lv' := [(3, .int rv), (0, .ref (ad 16)), (1, .int k), (2, .int a)]) hx hb dL_join_6 rfl hl (by decide) rfl (fun ls hl => ?_)
    refine lv_goto (tgt := 28) hx hb dL_join_7 (by decide) ?_
    refine lv_iload_n hx hb dL_join_28 rfl (lv_at hl 0 rfl) ?_
    exact W.iret (v := rv) hx hb hr (fun t ht hW => ⟨⟨rv, ((uf, ug), t.heap.size), rfl, ⟨⟨by show uf 5 = f 5; rw [hu1]; rfl, by show uf 15 = f 15; rw [hu1]; rfl⟩, fun hbad => by show s.heap.size + 1 ≤ t.heap.size; rw [ht]; exact absurd ⟨hok.1, hok.2.1⟩ hbad⟩, ⟨⟨by rw [ht]; exact hP, hD⟩, rfl⟩⟩, hS.F ht⟩) hS.2.2 dL_join_29
