set_option maxHeartbeats 4000000 in
set_option maxRecDepth 100000 in
/-- in -/
theorem c_X1_in (l : Launch) (v : Int32) (lo : Int32) (hi : Int32) : Met l yX1_in wsX1_in ({ frames := 0, cells := 0, slots := 0, locals := 0 } : Room) (va_Pc [.int v, .int lo, .int hi] (fun _ => True)) (vp_Si (fun z => z = bI (lo ≤ v ∧ v ≤ hi))) 0 0 (fun _ => False) := by
  refine Met.ofW (cc := cX1_in) (maxL := 3) (ret := (some .boolean)) (by decide) rfl ?_
  intro p e s m args below meth c s₁ B hml hv
  obtain ⟨rfl, -⟩ := hv
  have hx := B.exec
  have hb := B.bytes
  have hr := B.returns
  have hts := atoms_spec (ws := wsX1_in) B.pre
  have hown : s.vm.findClass RX1 = some m.cls := findClass_of_methodNamed B.named
  have hlocks := B.notSynchronized
  have hl := lv_entry ([.int v, .int lo, .int hi]) (n := 3) (Nat.le_of_ble_eq_true rfl)
  rw [lg_entry_eq]
  generalize (lg_sl ([.int v, .int lo, .int hi]) ++ List.replicate (3 - (lg_sl ([.int v, .int lo, .int hi])).length) Slot.unset).toArray = ls at hl ⊢
  have hl : lv_has ls 3 [(0, .int v), (1, .int lo), (2, .int hi)] := hl
  refine lv_iload_n hx hb dX1_in_0 rfl (lv_at hl 0 rfl) ?_
  refine lv_iload_n hx hb dX1_in_1 rfl (lv_at hl 1 rfl) ?_
  refine lv_icmp_lt (tgt := 14) hx hb dX1_in_2 (by decide) (fun c_2 => ?_) (fun c_2 => ?_)
  · skip
    refine lv_iconst (v := 0) hx hb dX1_in_14 (by decide) ?_
    exact W.zret (v := 0) hx hb hr rfl (fun t ht hW => ⟨0, rfl, (bI_f (fun q => (fa_of_lt c_2).2.1 q.1)).symm, ht⟩) (fun q h => nomatch h) dX1_in_15
  · skip
    refine lv_iload_n hx hb dX1_in_5 rfl (lv_at hl 0 rfl) ?_
    refine lv_iload_n hx hb dX1_in_6 rfl (lv_at hl 2 rfl) ?_
    refine lv_icmp_gt (tgt := 14) hx hb dX1_in_7 (by decide) (fun c_7 => ?_) (fun c_7 => ?_)
    · skip
      refine lv_iconst (v := 0) hx hb dX1_in_14 (by decide) ?_
      exact W.zret (v := 0) hx hb hr rfl (fun t ht hW => ⟨0, rfl, (bI_f (fun q => (fa_of_lt c_7).2.1 q.2)).symm, ht⟩) (fun q h => nomatch h) dX1_in_15
    · skip
      refine lv_iconst (v := 1) hx hb dX1_in_10 (by decide) ?_
      refine lv_goto (tgt := 15) hx hb dX1_in_11 (by decide) ?_
      exact W.zret (v := 1) hx hb hr rfl (fun t ht hW => ⟨1, rfl, (bI_t (⟨fa_of_nlt c_2, fa_of_nlt c_7⟩)).symm, ht⟩) (fun q h => nomatch h) dX1_in_15
set_option maxHeartbeats 4000000 in
set_option maxRecDepth 100000 in
/-- isKey -/
theorem c_X1_isKey (l : Launch) (k : Int32) : Met l yX1_isKey wsX1_isKey ({ frames := 1, cells := 0, slots := 0, locals := 22 } : Room) (va_Pc [.int k] (fun _ => True)) (vp_Si (fun z => z = bI (xKey k))) 0 0 (fun _ => False) := by
  refine Met.ofW (cc := cX1_isKey) (maxL := 1) (ret := (some .boolean)) (by decide) rfl ?_
  intro p e s m args below meth c s₁ B hml hv
  obtain ⟨rfl, -⟩ := hv
  have hx := B.exec
  have hb := B.bytes
  have hr := B.returns
  have hts := atoms_spec (ws := wsX1_isKey) B.pre
  have hown : s.vm.findClass RX1 = some m.cls := findClass_of_methodNamed B.named
  have hlocks := B.notSynchronized
  have hl := lv_entry ([.int k]) (n := 1) (Nat.le_of_ble_eq_true rfl)
  rw [lg_entry_eq]
  generalize (lg_sl ([.int k]) ++ List.replicate (1 - (lg_sl ([.int k])).length) Slot.unset).toArray = ls at hl ⊢
  have hl : lv_has ls 1 [(0, .int k)] := hl
  refine lv_iload_n hx hb dX1_isKey_0 rfl (lv_at hl 0 rfl) ?_
  refine lv_iconst (v := 0) hx hb dX1_isKey_1 (by decide) ?_
  refine lv_bipush (v := 99) hx hb dX1_isKey_2 (by decide) ?_
  refine vp_callSi (W.runS (As := [.int k, .int 0, .int 99]) (rest := []) ⟨hx, hb, hml, hown, hts⟩ (c_X1_in l k 0 99) (va_cwS 3 hts gX1_isKey_X1_in rfl rfl rfl (by decide +kernel) ⟨Nat.le_of_ble_eq_true rfl, Nat.le_of_ble_eq_true rfl⟩) ⟨qN_blind, qN_at⟩ rfl rfl hl.1 rfl (lv_room (Nat.le_of_ble_eq_true rfl)) dX1_isKey_4 ⟨Nat.le_of_ble_eq_true rfl, Nat.le_of_ble_eq_true rfl⟩) (fun z hz => ?_)
  subst hz
  refine lv_topi (fun v_4 hv_4 => ?_)
  have hv_4 : v_4 = bI (xKey k) := hv_4.trans (bI_congr (in_key k))
  subst hv_4
  exact W.zret (v := bI (xKey k)) hx hb hr bI_nar (fun t ht hW => ⟨bI (xKey k), rfl, rfl, ht⟩) (fun q h => nomatch h) dX1_isKey_7
set_option maxHeartbeats 4000000 in
set_option maxRecDepth 100000 in
/-- isShard -/
theorem c_X1_isShard (l : Launch) (k : Int32) : Met l yX1_isShard wsX1_isShard ({ frames := 1, cells := 0, slots := 0, locals := 22 } : Room) (va_Pc [.int k] (fun _ => True)) (vp_Si (fun z => z = bI (xShard k))) 0 0 (fun _ => False) := by
  refine Met.ofW (cc := cX1_isShard) (maxL := 1) (ret := (some .boolean)) (by decide) rfl ?_
  intro p e s m args below meth c s₁ B hml hv
  obtain ⟨rfl, -⟩ := hv
  have hx := B.exec
  have hb := B.bytes
  have hr := B.returns
  have hts := atoms_spec (ws := wsX1_isShard) B.pre
  have hown : s.vm.findClass RX1 = some m.cls := findClass_of_methodNamed B.named
  have hlocks := B.notSynchronized
  have hl := lv_entry ([.int k]) (n := 1) (Nat.le_of_ble_eq_true rfl)
  rw [lg_entry_eq]
  generalize (lg_sl ([.int k]) ++ List.replicate (1 - (lg_sl ([.int k])).length) Slot.unset).toArray = ls at hl ⊢
  have hl : lv_has ls 1 [(0, .int k)] := hl
  refine lv_iload_n hx hb dX1_isShard_0 rfl (lv_at hl 0 rfl) ?_
  refine lv_iconst (v := 0) hx hb dX1_isShard_1 (by decide) ?_
  refine lv_iconst (v := 3) hx hb dX1_isShard_2 (by decide) ?_
  refine vp_callSi (W.runS (As := [.int k, .int 0, .int 3]) (rest := []) ⟨hx, hb, hml, hown, hts⟩ (c_X1_in l k 0 3) (va_cwS 3 hts gX1_isShard_X1_in rfl rfl rfl (by decide +kernel) ⟨Nat.le_of_ble_eq_true rfl, Nat.le_of_ble_eq_true rfl⟩) ⟨qN_blind, qN_at⟩ rfl rfl hl.1 rfl (lv_room (Nat.le_of_ble_eq_true rfl)) dX1_isShard_3 ⟨Nat.le_of_ble_eq_true rfl, Nat.le_of_ble_eq_true rfl⟩) (fun z hz => ?_)
  subst hz
  refine lv_topi (fun v_3 hv_3 => ?_)
  have hv_3 : v_3 = bI (xShard k) := hv_3.trans (bI_congr (in_sh k))
  subst hv_3
  exact W.zret (v := bI (xShard k)) hx hb hr bI_nar (fun t ht hW => ⟨bI (xShard k), rfl, rfl, ht⟩) (fun q h => nomatch h) dX1_isShard_6
set_option maxHeartbeats 4000000 in
set_option maxRecDepth 100000 in
/-- isRange -/
theorem c_X1_isRange (l : Launch) (D : va_G) (cA cZ cL : ClassId) (ad : Nat → Nat) (f : qFs) (g : qGs) (r : Int32) (nR : Nat) (nB : Nat) (hI : mI nR nB f) : Met l yX1_isRange wsX1_isRange ({ frames := 1, cells := 0, slots := 0, locals := 22 } : Room) (va_Pc [.ref (ad 18), .int r] (qPre D (qTy cA cZ cL) (mW cA cZ ad f g))) (vp_Si (fun z => z = bI (mRange f r))) 0 0 (fun _ => False) := by
  refine Met.ofW (cc := cX1_isRange) (maxL := 2) (ret := (some .boolean)) (by decide) rfl ?_
  intro p e s m args below meth c s₁ B hml hv
  obtain ⟨rfl, hP, hK⟩ := hv
  have hx := B.exec
  have hb := B.bytes
  have hr := B.returns
  have hts := atoms_spec (ws := wsX1_isRange) B.pre
  have hown : s.vm.findClass RX1 = some m.cls := findClass_of_methodNamed B.named
  have hlocks := B.notSynchronized
  have hfin : ∀ w ∈ wsX10, w ∈ wsX1_isRange := fun w h => (List.mem_cons_of_mem _ (List.mem_append_right _ h))
  have hl := lv_entry ([.ref (ad 18), .int r]) (n := 2) (Nat.le_of_ble_eq_true rfl)
  rw [lg_entry_eq]
  generalize (lg_sl ([.ref (ad 18), .int r]) ++ List.replicate (2 - (lg_sl ([.ref (ad 18), .int r])).length) Slot.unset).toArray = ls at hl ⊢
  have hl : lv_has ls 2 [(0, .ref (ad 18)), (1, .int r)] := hl
  have hR8 := hI.2.2.1
  refine lv_iload_n hx hb dX1_isRange_0 rfl (lv_at hl 1 rfl) ?_
  refine lv_iconst (v := 0) hx hb dX1_isRange_1 (by decide) ?_
  refine lv_aload_n hx hb dX1_isRange_2 rfl (lv_at hl 0 rfl) ?_
  refine va_get (D := D) (ci := 1) (v := .int (f 3)) (C := RX1) (T := TX1) (N := 18) hx hb hts hfin hown hK hP 0 rfl rfl 3 (by decide) (hts _ (List.mem_cons_of_mem _ (List.mem_append_left _ (List.mem_of_getElem? (i := 0) rfl)))) (fun _ h9 => h9) rfl dX1_isRange_3 ?_
  refine lv_iconst (v := 1) hx hb dX1_isRange_6 (by decide) ?_
  refine lv_isub hx hb dX1_isRange_7 ?_
  refine vp_callSi (W.runS (As := [.int r, .int 0, .int ((f 3) - 1)]) (rest := []) ⟨hx, hb, hml, hown, hts⟩ (c_X1_in l r 0 ((f 3) - 1)) (va_cwS 3 hts gX1_isRange_X1_in rfl rfl rfl (by decide +kernel) ⟨Nat.le_of_ble_eq_true rfl, Nat.le_of_ble_eq_true rfl⟩) ⟨qN_blind, qN_at⟩ rfl rfl hl.1 rfl (lv_room (Nat.le_of_ble_eq_true rfl)) dX1_isRange_8 ⟨Nat.le_of_ble_eq_true rfl, Nat.le_of_ble_eq_true rfl⟩) (fun z hz => ?_)
  subst hz
  refine lv_topi (fun v_8 hv_8 => ?_)
  have hv_8 : v_8 = bI (mRange f r) := hv_8.trans (bI_congr (by unfold mRange; rw [hI.1]; exact in_nat r (by omega)))
  subst hv_8
  exact W.zret (v := bI (mRange f r)) hx hb hr bI_nar (fun t ht hW => ⟨bI (mRange f r), rfl, rfl, ht⟩) (fun q h => nomatch h) dX1_isRange_11
set_option maxHeartbeats 4000000 in
set_option maxRecDepth 100000 in
/-- isThere -/
theorem c_X1_isThere (l : Launch) (D : va_G) (cA cZ cL : ClassId) (ad : Nat → Nat) (f : qFs) (g : qGs) (k : Int32) (hk : xKey k) : Met l yX1_isThere wsX1_isThere ({ frames := 0, cells := 0, slots := 0, locals := 0 } : Room) (va_Pc [.ref (ad 18), .int k] (qPre D (qTy cA cZ cL) (mW cA cZ ad f g))) (vp_Si (fun z => z = bI (mThere g k))) 0 0 (fun _ => False) := by
  refine Met.ofW (cc := cX1_isThere) (maxL := 2) (ret := (some .boolean)) (by decide) rfl ?_
  intro p e s m args below meth c s₁ B hml hv
  obtain ⟨rfl, hP, hK⟩ := hv
  have hx := B.exec
  have hb := B.bytes
  have hr := B.returns
  have hts := atoms_spec (ws := wsX1_isThere) B.pre
  have hown : s.vm.findClass RX1 = some m.cls := findClass_of_methodNamed B.named
  have hlocks := B.notSynchronized
  have hfin : ∀ w ∈ wsX10, w ∈ wsX1_isThere := fun w h => (List.mem_cons_of_mem _ (List.mem_append_right _ h))
  have hl := lv_entry ([.ref (ad 18), .int k]) (n := 2) (Nat.le_of_ble_eq_true rfl)
  rw [lg_entry_eq]
  generalize (lg_sl ([.ref (ad 18), .int k]) ++ List.replicate (2 - (lg_sl ([.ref (ad 18), .int k])).length) Slot.unset).toArray = ls at hl ⊢
  have hl : lv_has ls 2 [(0, .ref (ad 18)), (1, .int k)] := hl
  refine lv_aload_n hx hb dX1_isThere_0 rfl (lv_at hl 0 rfl) ?_
  refine va_get (D := D) (ci := 1) (v := .ref (ad 1)) (C := RX1) (T := TX1) (N := 18) hx hb hts hfin hown hK hP 0 rfl rfl 1 (by decide) (hts _ (List.mem_cons_of_mem _ (List.mem_append_left _ (List.mem_of_getElem? (i := 0) rfl)))) (fun _ h9 => h9) rfl dX1_isThere_1 ?_
  refine lv_iload_n hx hb dX1_isThere_4 rfl (lv_at hl 1 rfl) ?_
  refine va_iald hx hb hK hP 1 0 rfl rfl (x_in100 hk) dX1_isThere_5 ?_
  refine lv_if_le (tgt := 13) hx hb dX1_isThere_6 (by decide) (fun c_6 => ?_) (fun c_6 => ?_)
  · skip
    refine lv_iconst (v := 0) hx hb dX1_isThere_13 (by decide) ?_
    exact W.zret (v := 0) hx hb hr rfl (fun t ht hW => ⟨0, rfl, (bI_f (fun q => q c_6)).symm, ht⟩) (fun q h => nomatch h) dX1_isThere_14
  · skip
    refine lv_iconst (v := 1) hx hb dX1_isThere_9 (by decide) ?_
    refine lv_goto (tgt := 14) hx hb dX1_isThere_10 (by decide) ?_
    exact W.zret (v := 1) hx hb hr rfl (fun t ht hW => ⟨1, rfl, (bI_t (c_6)).symm, ht⟩) (fun q h => nomatch h) dX1_isThere_14
set_option maxHeartbeats 4000000 in
set_option maxRecDepth 100000 in
/-- behind -/
theorem c_X1_behind (l : Launch) (D : va_G) (cA cZ cL : ClassId) (ad : Nat → Nat) (f : qFs) (g : qGs) (r : Nat) (nR : Nat) (nB : Nat) (hI : mI nR nB f) (hr8 : r < 8) : Met l yX1_behind wsX1_behind ({ frames := 0, cells := 0, slots := 0, locals := 0 } : Room) (va_Pc [.ref (ad 18), .int (nI r)] (qPre D (qTy cA cZ cL) (mW cA cZ ad f g))) (vp_Si (fun z => z = mBeh nR g r)) 0 0 (fun _ => False) := by
  refine Met.ofW (cc := cX1_behind) (maxL := 2) (ret := (some .int)) (by decide) rfl ?_
  intro p e s m args below meth c s₁ B hml hv
  obtain ⟨rfl, hP, hK⟩ := hv
  have hx := B.exec
  have hb := B.bytes
  have hr := B.returns
  have hts := atoms_spec (ws := wsX1_behind) B.pre
  have hown : s.vm.findClass RX1 = some m.cls := findClass_of_methodNamed B.named
  have hlocks := B.notSynchronized
  have hfin : ∀ w ∈ wsX10, w ∈ wsX1_behind := fun w h => (List.mem_cons_of_mem _ (List.mem_append_right _ h))
  have hl := lv_entry ([.ref (ad 18), .int (nI r)]) (n := 2) (Nat.le_of_ble_eq_true rfl)
  rw [lg_entry_eq]
  generalize (lg_sl ([.ref (ad 18), .int (nI r)]) ++ List.replicate (2 - (lg_sl ([.ref (ad 18), .int (nI r)])).length) Slot.unset).toArray = ls at hl ⊢
  have hl : lv_has ls 2 [(0, .ref (ad 18)), (1, .int (nI r))] := hl
  have hR8 := hI.2.2.1
  refine lv_iload_n hx hb dX1_behind_0 rfl (lv_at hl 1 rfl) ?_
  refine lv_iconst (v := 1) hx hb dX1_behind_1 (by decide) ?_
  refine lv_iadd hx hb dX1_behind_2 ?_
  refine lv_topi (fun v_2 hv_2 => ?_)
  have hv_2 : v_2 = nI (r + 1) := hv_2.trans (nI_1 r)
  subst hv_2
  refine lv_aload_n hx hb dX1_behind_3 rfl (lv_at hl 0 rfl) ?_
  refine va_get (D := D) (ci := 1) (v := .int (f 3)) (C := RX1) (T := TX1) (N := 18) hx hb hts hfin hown hK hP 0 rfl rfl 3 (by decide) (hts _ (List.mem_cons_of_mem _ (List.mem_append_left _ (List.mem_of_getElem? (i := 0) rfl)))) (fun _ h9 => h9) rfl dX1_behind_4 ?_
  refine lv_topi (fun v_4 hv_4 => ?_)
  have hv_4 : v_4 = nI nR := hv_4.trans (hI.1)
  subst hv_4
  refine lv_icmp_ne (tgt := 15) hx hb dX1_behind_7 (by decide) (fun c_7 => ?_) (fun c_7 => ?_)
  · skip
    refine lv_aload_n hx hb dX1_behind_15 rfl (lv_at hl 0 rfl) ?_
    refine va_get (D := D) (ci := 1) (v := .ref (ad 4)) (C := RX1) (T := TX1) (N := 18) hx hb hts hfin hown hK hP 0 rfl rfl 4 (by decide) (hts _ (List.mem_cons_of_mem _ (List.mem_append_left _ (List.mem_of_getElem? (i := 1) rfl)))) (fun _ h9 => h9) rfl dX1_behind_16 ?_
    refine lv_iload_n hx hb dX1_behind_19 rfl (lv_at hl 1 rfl) ?_
    refine lv_iconst (v := 1) hx hb dX1_behind_20 (by decide) ?_
    refine lv_iadd hx hb dX1_behind_21 ?_
    refine lv_topi (fun v_21 hv_21 => ?_)
    have hv_21 : v_21 = nI (r + 1) := hv_21.trans (nI_1 r)
    subst hv_21
    refine va_iald hx hb hK hP 2 0 rfl rfl (vp_in_nI (by omega) (by decide)) dX1_behind_22 ?_
    refine lv_topi (fun v_22 hv_22 => ?_)
    have hv_22 : v_22 = g 4 (r + 1) := hv_22.trans (by rw [nI_clamp (by omega)])
    subst hv_22
    exact W.iret (v := g 4 (r + 1)) hx hb hr (fun t ht hW => ⟨g 4 (r + 1), rfl, (by unfold mBeh; rw [if_neg (fun q => c_7 (by rw [q]))]), ht⟩) (fun q h => nomatch h) dX1_behind_23
  · skip
    refine lv_bipush (v := 100) hx hb dX1_behind_10 (by decide) ?_
    refine lv_goto (tgt := 23) hx hb dX1_behind_12 (by decide) ?_
    exact W.iret (v := 100) hx hb hr (fun t ht hW => ⟨100, rfl, (by unfold mBeh; rw [if_pos ((nI_eq (by omega) (by omega)).mp c_7)]), ht⟩) (fun q h => nomatch h) dX1_behind_23
set_option maxHeartbeats 4000000 in
set_option maxRecDepth 100000 in
/-- rangeAt -/
theorem c_X1_rangeAt (l : Launch) (D : va_G) (cA cZ cL : ClassId) (ad : Nat → Nat) (f : qFs) (g : qGs) (k : Int32) (nR : Nat) (nB : Nat) (hI : mI nR nB f) : Met l yX1_rangeAt wsX1_rangeAt ({ frames := 0, cells := 0, slots := 0, locals := 0 } : Room) (va_Pc [.ref (ad 18), .int k] (qPre D (qTy cA cZ cL) (mW cA cZ ad f g))) (vp_Si (fun z => z = nI (mAtN (g 4) k nR))) 0 0 (fun _ => False) := by
  refine Met.ofW (cc := cX1_rangeAt) (maxL := 4) (ret := (some .int)) (by decide) rfl ?_
  intro p e s m args below meth c s₁ B hml hv
  obtain ⟨rfl, hP, hK⟩ := hv
  have hx := B.exec
  have hb := B.bytes
  have hr := B.returns
  have hts := atoms_spec (ws := wsX1_rangeAt) B.pre
  have hown : s.vm.findClass RX1 = some m.cls := findClass_of_methodNamed B.named
  have hlocks := B.notSynchronized
  have hfin : ∀ w ∈ wsX10, w ∈ wsX1_rangeAt := fun w h => (List.mem_cons_of_mem _ (List.mem_append_right _ h))
  have hl := lv_entry ([.ref (ad 18), .int k]) (n := 4) (Nat.le_of_ble_eq_true rfl)
  rw [lg_entry_eq]
  generalize (lg_sl ([.ref (ad 18), .int k]) ++ List.replicate (4 - (lg_sl ([.ref (ad 18), .int k])).length) Slot.unset).toArray = ls at hl ⊢
  have hl : lv_has ls 4 [(0, .ref (ad 18)), (1, .int k)] := hl
  have hR8 := hI.2.2.1
  refine lv_iconst (v := 0) hx hb dX1_rangeAt_0 (by decide) ?_
  refine lv_istore_n (lv' := [(2, .int 0), (0, .ref (ad 18)), (1, .int k)]) hx hb dX1_rangeAt_1 rfl hl (by decide) rfl (fun ls hl => ?_)
  refine lv_iconst (v := 0) hx hb dX1_rangeAt_2 (by decide) ?_
  refine lv_istore_n (lv' := [(3, .int 0), (2, .int 0), (0, .ref (ad 18)), (1, .int k)]) hx hb dX1_rangeAt_3 rfl hl (by decide) rfl (fun ls hl => ?_)
  have hloop_4 : ∀ (nme : Nat) (i : Nat) (fo : Nat), nR - i = nme → (i ≤ nR) → (fo = mAtN (g 4) k i) → ∀ ls : Array Slot, lv_has ls 4 [(0, .ref (ad 18)), (1, .int k), (2, .int (nI fo)), (3, .int (nI i))] → W p l e (headSpec wsX1_rangeAt ({ frames := 0, cells := 0, slots := 0, locals := 0 } : Room)).room s m ([.ref (ad 18), .int k] : List Value).toArray below meth c s.heap [] 0 0 (MQ below (vp_Si (fun z => z = nI (mAtN (g 4) k nR))) ([.ref (ad 18), .int k] : List Value).toArray s 0 0 (fun _ => False)) (F0 m 4 ls []) := by
    intro nme
    induction nme using Nat.strongRecOn with
    | ind nme ih =>
      intro i fo hnme hi hf ls hl
      refine lv_iload_n hx hb dX1_rangeAt_4 rfl (lv_at hl 3 rfl) ?_
      refine lv_aload_n hx hb dX1_rangeAt_5 rfl (lv_at hl 0 rfl) ?_
      refine va_get (D := D) (ci := 1) (v := .int (f 3)) (C := RX1) (T := TX1) (N := 18) hx hb hts hfin hown hK hP 0 rfl rfl 3 (by decide) (hts _ (List.mem_cons_of_mem _ (List.mem_append_left _ (List.mem_of_getElem? (i := 0) rfl)))) (fun _ h9 => h9) rfl dX1_rangeAt_6 ?_
      refine lv_topi (fun v_6 hv_6 => ?_)
      have hv_6 : v_6 = nI nR := hv_6.trans (hI.1)
      subst hv_6
      refine lv_icmp_ge (tgt := 34) hx hb dX1_rangeAt_9 (by decide) (fun c_9 => ?_) (fun c_9 => ?_)
      · skip
        have hge : i = nR := by have := n_ge c_9 (by omega) (by omega); omega
        subst hge
        refine lv_iload_n hx hb dX1_rangeAt_34 rfl (lv_at hl 2 rfl) ?_
        exact W.iret (v := nI fo) hx hb hr (fun t ht hW => ⟨nI fo, rfl, (by rw [hf]), ht⟩) (fun q h => nomatch h) dX1_rangeAt_35
      · skip
        have hlt : i < nR := n_lt c_9 (by omega)
        refine lv_aload_n hx hb dX1_rangeAt_12 rfl (lv_at hl 0 rfl) ?_
        refine va_get (D := D) (ci := 1) (v := .ref (ad 4)) (C := RX1) (T := TX1) (N := 18) hx hb hts hfin hown hK hP 0 rfl rfl 4 (by decide) (hts _ (List.mem_cons_of_mem _ (List.mem_append_left _ (List.mem_of_getElem? (i := 1) rfl)))) (fun _ h9 => h9) rfl dX1_rangeAt_13 ?_
        refine lv_iload_n hx hb dX1_rangeAt_16 rfl (lv_at hl 3 rfl) ?_
        refine va_iald hx hb hK hP 2 0 rfl rfl (vp_in_nI (by omega) (by decide)) dX1_rangeAt_17 ?_
        refine lv_topi (fun v_17 hv_17 => ?_)
        have hv_17 : v_17 = g 4 i := hv_17.trans (by rw [nI_clamp (by omega)])
        subst hv_17
        refine lv_iload_n hx hb dX1_rangeAt_18 rfl (lv_at hl 1 rfl) ?_
        refine lv_icmp_gt (tgt := 26) hx hb dX1_rangeAt_19 (by decide) (fun c_19 => ?_) (fun c_19 => ?_)
        · skip
          refine lv_iload_n hx hb dX1_rangeAt_26 rfl (lv_at hl 2 rfl) ?_
          refine lv_istore_n (lv' := [(2, .int (nI fo)), (0, .ref (ad 18)), (1, .int k), (3, .int (nI i))]) hx hb dX1_rangeAt_27 rfl hl (by decide) rfl (fun ls hl => ?_)
          refine lv_iinc (v := nI (i + 1)) (lv' := [(3, .int (nI (i + 1))), (2, .int (nI fo)), (0, .ref (ad 18)), (1, .int k)]) hx hb dX1_rangeAt_28 hl (k := 3) rfl (nI_1 i) (by decide) rfl (fun ls hl => ?_)
          refine lv_goto (tgt := 4) hx hb dX1_rangeAt_31 (by decide) ?_
          exact ih _ (by omega) (i + 1) fo rfl (by omega) (by rw [hf]; show _ = (if _ then _ else _); rw [if_neg (fa_of_lt c_19).2.1]) _ (lv_sub hl [2, 3, 1, 0] rfl)
        · skip
          refine lv_iload_n hx hb dX1_rangeAt_22 rfl (lv_at hl 3 rfl) ?_
          refine lv_goto (tgt := 27) hx hb dX1_rangeAt_23 (by decide) ?_
          refine lv_istore_n (lv' := [(2, .int (nI i)), (0, .ref (ad 18)), (1, .int k), (3, .int (nI i))]) hx hb dX1_rangeAt_27 rfl hl (by decide) rfl (fun ls hl => ?_)
          refine lv_iinc (v := nI (i + 1)) (lv' := [(3, .int (nI (i + 1))), (2, .int (nI i)), (0, .ref (ad 18)), (1, .int k)]) hx hb dX1_rangeAt_28 hl (k := 3) rfl (nI_1 i) (by decide) rfl (fun ls hl => ?_)
          refine lv_goto (tgt := 4) hx hb dX1_rangeAt_31 (by decide) ?_
          exact ih _ (by omega) (i + 1) i rfl (by omega) (by show _ = (if _ then _ else _); rw [if_pos (fa_of_nlt c_19)]) _ (lv_sub hl [2, 3, 1, 0] rfl)
  exact hloop_4 _ 0 0 rfl (by omega) rfl _ (lv_sub hl [2, 3, 1, 0] rfl)
set_option maxHeartbeats 4000000 in
set_option maxRecDepth 100000 in
/-- many -/
theorem c_X1_many (l : Launch) (D : va_G) (cA cZ cL : ClassId) (ad : Nat → Nat) (f : qFs) (g : qGs) (r : Nat) (b : Int32) (nR : Nat) (nB : Nat) (hI : mI nR nB f) (hr8 : r < 8) (lo : Nat) (hi : Nat) (hlo : g 4 r = nI lo) (hbe : mBeh nR g r = nI hi) (hl1 : lo ≤ 100) (hh1 : hi ≤ 100) : Met l yX1_many wsX1_many ({ frames := 1, cells := 0, slots := 0, locals := 21 } : Room) (va_Pc [.ref (ad 18), .int (nI r), .int b] (qPre D (qTy cA cZ cL) (mW cA cZ ad f g))) (vp_Si (fun z => z = nI (cnt (mP g b) lo hi))) 0 0 (fun _ => False) := by
  refine Met.ofW (cc := cX1_many) (maxL := 5) (ret := (some .int)) (by decide) rfl ?_
  intro p e s m args below meth c s₁ B hml hv
  obtain ⟨rfl, hP, hK⟩ := hv
  have hx := B.exec
  have hb := B.bytes
  have hr := B.returns
  have hts := atoms_spec (ws := wsX1_many) B.pre
  have hown : s.vm.findClass RX1 = some m.cls := findClass_of_methodNamed B.named
  have hlocks := B.notSynchronized
  have hfin : ∀ w ∈ wsX10, w ∈ wsX1_many := fun w h => (List.mem_cons_of_mem _ (List.mem_append_right _ h))
  have hl := lv_entry ([.ref (ad 18), .int (nI r), .int b]) (n := 5) (Nat.le_of_ble_eq_true rfl)
  rw [lg_entry_eq]
  generalize (lg_sl ([.ref (ad 18), .int (nI r), .int b]) ++ List.replicate (5 - (lg_sl ([.ref (ad 18), .int (nI r), .int b])).length) Slot.unset).toArray = ls at hl ⊢
  have hl : lv_has ls 5 [(0, .ref (ad 18)), (1, .int (nI r)), (2, .int b)] := hl
  refine lv_iconst (v := 0) hx hb dX1_many_0 (by decide) ?_
  refine lv_istore_n (lv' := [(3, .int 0), (0, .ref (ad 18)), (1, .int (nI r)), (2, .int b)]) hx hb dX1_many_1 rfl hl (by decide) rfl (fun ls hl => ?_)
  refine lv_aload_n hx hb dX1_many_2 rfl (lv_at hl 1 rfl) ?_
  refine va_get (D := D) (ci := 1) (v := .ref (ad 4)) (C := RX1) (T := TX1) (N := 18) hx hb hts hfin hown hK hP 0 rfl rfl 4 (by decide) (hts _ (List.mem_cons_of_mem _ (List.mem_append_left _ (List.mem_of_getElem? (i := 0) rfl)))) (fun _ h9 => h9) rfl dX1_many_3 ?_
  refine lv_iload_n hx hb dX1_many_6 rfl (lv_at hl 2 rfl) ?_
  refine va_iald hx hb hK hP 2 0 rfl rfl (vp_in_nI (by omega) (by decide)) dX1_many_7 ?_
  refine lv_topi (fun v_7 hv_7 => ?_)
  have hv_7 : v_7 = nI lo := hv_7.trans (by rw [nI_clamp (by omega)]; exact hlo)
  subst hv_7
  refine lv_istore (lv' := [(4, .int (nI lo)), (3, .int 0), (0, .ref (ad 18)), (1, .int (nI r)), (2, .int b)]) hx hb dX1_many_8 hl (by decide) rfl (fun ls hl => ?_)
  have hloop_10 : ∀ (nme : Nat) (k : Nat) (acc : Nat), 100 - k = nme → (k ≤ 100) → (acc + cnt (mP g b) k hi = cnt (mP g b) lo hi) → ∀ ls : Array Slot, lv_has ls 5 [(0, .ref (ad 18)), (1, .int (nI r)), (2, .int b), (3, .int (nI acc)), (4, .int (nI k))] → W p l e (headSpec wsX1_many ({ frames := 1, cells := 0, slots := 0, locals := 21 } : Room)).room s m ([.ref (ad 18), .int (nI r), .int b] : List Value).toArray below meth c s.heap [] 0 0 (MQ below (vp_Si (fun z => z = nI (cnt (mP g b) lo hi))) ([.ref (ad 18), .int (nI r), .int b] : List Value).toArray s 0 0 (fun _ => False)) (F0 m 10 ls []) := by
    intro nme
    induction nme using Nat.strongRecOn with
    | ind nme ih =>
      intro k acc hnme hk hc ls hl
      refine lv_iload hx hb dX1_many_10 (lv_at hl 4 rfl) ?_
      refine lv_aload_n hx hb dX1_many_12 rfl (lv_at hl 0 rfl) ?_
      refine lv_iload_n hx hb dX1_many_13 rfl (lv_at hl 1 rfl) ?_
      refine vp_callSi (W.runV (As := [.int (nI r)]) (rest := [.int (nI k)]) ⟨hx, hb, hml, hown, hts⟩ (c_X1_behind l D cA cZ cL ad f g r nR nB hI hr8) (cwV 1 hts gX1_many_X1_behind rfl rfl rfl (by decide +kernel) ⟨Nat.le_of_ble_eq_true rfl, Nat.le_of_ble_eq_true rfl⟩) ⟨qPre_blind, va_recv hK hP (ci := 1) (q0 := 0) rfl rfl, qPre_at hP hK⟩ rfl rfl hl.1 rfl (lv_room (Nat.le_of_ble_eq_true rfl)) dX1_many_14 ⟨Nat.le_of_ble_eq_true rfl, Nat.le_of_ble_eq_true rfl⟩) (fun z hz => ?_)
      subst hz
      refine lv_topi (fun v_14 hv_14 => ?_)
      have hv_14 : v_14 = nI hi := hv_14.trans (hbe)
      subst hv_14
      refine lv_icmp_ge (tgt := 57) hx hb dX1_many_17 (by decide) (fun c_17 => ?_) (fun c_17 => ?_)
      · skip
        have hge : hi ≤ k := n_ge c_17 (by omega) (by omega)
        refine lv_iload_n hx hb dX1_many_57 rfl (lv_at hl 3 rfl) ?_
        exact W.iret (v := nI acc) hx hb hr (fun t ht hW => ⟨nI acc, rfl, (by rw [← hc, cnt_end hge]; rfl), ht⟩) (fun q h => nomatch h) dX1_many_58
      · skip
        have hlt : k < hi := n_lt c_17 (by omega)
        refine lv_iload_n hx hb dX1_many_20 rfl (lv_at hl 3 rfl) ?_
        refine lv_aload_n hx hb dX1_many_21 rfl (lv_at hl 0 rfl) ?_
        refine lv_iload hx hb dX1_many_22 (lv_at hl 4 rfl) ?_
        refine vp_callSi (W.runV (As := [.int (nI k)]) (rest := [.int (nI acc)]) ⟨hx, hb, hml, hown, hts⟩ (c_X1_isThere l D cA cZ cL ad f g (nI k) (nat_key (by omega))) (cwV 1 hts gX1_many_X1_isThere rfl rfl rfl (by decide +kernel) ⟨Nat.le_of_ble_eq_true rfl, Nat.le_of_ble_eq_true rfl⟩) ⟨qPre_blind, va_recv hK hP (ci := 1) (q0 := 0) rfl rfl, qPre_at hP hK⟩ rfl rfl hl.1 rfl (lv_room (Nat.le_of_ble_eq_true rfl)) dX1_many_24 ⟨Nat.le_of_ble_eq_true rfl, Nat.le_of_ble_eq_true rfl⟩) (fun z hz => ?_)
        subst hz
        refine lv_topi (fun v_24 hv_24 => ?_)
        have hv_24 : v_24 = bI (mTh g k) := hv_24.trans (bI_congr (mThere_nat g (by omega)))
        subst hv_24
        refine lv_if_eq (tgt := 48) hx hb dX1_many_27 (by decide) (fun c_27 => ?_) (fun c_27 => ?_)
        · have c_27 := bI_0.mp c_27
          refine lv_iconst (v := 0) hx hb dX1_many_48 (by decide) ?_
          refine lv_iadd hx hb dX1_many_49 ?_
          refine lv_topi (fun v_49 hv_49 => ?_)
          have hv_49 : v_49 = nI acc := hv_49.trans (Int32.add_zero _)
          subst hv_49
          refine lv_istore_n (lv' := [(3, .int (nI acc)), (0, .ref (ad 18)), (1, .int (nI r)), (2, .int b), (4, .int (nI k))]) hx hb dX1_many_50 rfl hl (by decide) rfl (fun ls hl => ?_)
          refine lv_iinc (v := nI (k + 1)) (lv' := [(4, .int (nI (k + 1))), (3, .int (nI acc)), (0, .ref (ad 18)), (1, .int (nI r)), (2, .int b)]) hx hb dX1_many_51 hl (k := 4) rfl (nI_1 k) (by decide) rfl (fun ls hl => ?_)
          refine lv_goto (tgt := 10) hx hb dX1_many_54 (by decide) ?_
          exact ih _ (by omega) (k + 1) acc rfl (by omega) (by rw [← hc, cnt_n hlt (df (fun q => c_27 q.1))]) _ (lv_sub hl [2, 3, 4, 1, 0] rfl)
        · have c_27 := bI_n.mp c_27
          refine lv_aload_n hx hb dX1_many_30 rfl (lv_at hl 0 rfl) ?_
          refine va_get (D := D) (ci := 1) (v := .ref (ad 7)) (C := RX1) (T := TX1) (N := 18) hx hb hts hfin hown hK hP 0 rfl rfl 7 (by decide) (hts _ (List.mem_cons_of_mem _ (List.mem_append_left _ (List.mem_of_getElem? (i := 1) rfl)))) (fun _ h9 => h9) rfl dX1_many_31 ?_
          refine lv_iload hx hb dX1_many_34 (lv_at hl 4 rfl) ?_
          refine va_zald hx hb hK hP 5 1 rfl rfl (vp_in_nI (by omega) (by decide)) dX1_many_36 ?_
          refine lv_topi (fun v_36 hv_36 => ?_)
          have hv_36 : v_36 = g 7 k := hv_36.trans (by rw [nI_clamp (by omega)])
          subst hv_36
          refine lv_if_ne (tgt := 44) hx hb dX1_many_37 (by decide) (fun c_37 => ?_) (fun c_37 => ?_)
          · skip
            refine lv_iconst (v := 1) hx hb dX1_many_44 (by decide) ?_
            refine lv_goto (tgt := 49) hx hb dX1_many_45 (by decide) ?_
            refine lv_iadd hx hb dX1_many_49 ?_
            refine lv_topi (fun v_49 hv_49 => ?_)
            have hv_49 : v_49 = nI (acc + 1) := hv_49.trans (nI_1 acc)
            subst hv_49
            refine lv_istore_n (lv' := [(3, .int (nI (acc + 1))), (0, .ref (ad 18)), (1, .int (nI r)), (2, .int b), (4, .int (nI k))]) hx hb dX1_many_50 rfl hl (by decide) rfl (fun ls hl => ?_)
            refine lv_iinc (v := nI (k + 1)) (lv' := [(4, .int (nI (k + 1))), (3, .int (nI (acc + 1))), (0, .ref (ad 18)), (1, .int (nI r)), (2, .int b)]) hx hb dX1_many_51 hl (k := 4) rfl (nI_1 k) (by decide) rfl (fun ls hl => ?_)
            refine lv_goto (tgt := 10) hx hb dX1_many_54 (by decide) ?_
            exact ih _ (by omega) (k + 1) (acc + 1) rfl (by omega) (by rw [← hc, cnt_y hlt (dt ⟨c_27, Or.inl c_37⟩)]; omega) _ (lv_sub hl [2, 3, 4, 1, 0] rfl)
          · skip
            refine lv_iload_n hx hb dX1_many_40 rfl (lv_at hl 2 rfl) ?_
            refine lv_if_ne (tgt := 48) hx hb dX1_many_41 (by decide) (fun c_41 => ?_) (fun c_41 => ?_)
            · skip
              refine lv_iconst (v := 0) hx hb dX1_many_48 (by decide) ?_
              refine lv_iadd hx hb dX1_many_49 ?_
              refine lv_topi (fun v_49 hv_49 => ?_)
              have hv_49 : v_49 = nI acc := hv_49.trans (Int32.add_zero _)
              subst hv_49
              refine lv_istore_n (lv' := [(3, .int (nI acc)), (0, .ref (ad 18)), (1, .int (nI r)), (2, .int b), (4, .int (nI k))]) hx hb dX1_many_50 rfl hl (by decide) rfl (fun ls hl => ?_)
              refine lv_iinc (v := nI (k + 1)) (lv' := [(4, .int (nI (k + 1))), (3, .int (nI acc)), (0, .ref (ad 18)), (1, .int (nI r)), (2, .int b)]) hx hb dX1_many_51 hl (k := 4) rfl (nI_1 k) (by decide) rfl (fun ls hl => ?_)
              refine lv_goto (tgt := 10) hx hb dX1_many_54 (by decide) ?_
              exact ih _ (by omega) (k + 1) acc rfl (by omega) (by rw [← hc, cnt_n hlt (df (fun q => q.2.elim (fun h => h c_37) c_41))]) _ (lv_sub hl [2, 3, 4, 1, 0] rfl)
            · skip
              refine lv_iconst (v := 1) hx hb dX1_many_44 (by decide) ?_
              refine lv_goto (tgt := 49) hx hb dX1_many_45 (by decide) ?_
              refine lv_iadd hx hb dX1_many_49 ?_
              refine lv_topi (fun v_49 hv_49 => ?_)
              have hv_49 : v_49 = nI (acc + 1) := hv_49.trans (nI_1 acc)
              subst hv_49
              refine lv_istore_n (lv' := [(3, .int (nI (acc + 1))), (0, .ref (ad 18)), (1, .int (nI r)), (2, .int b), (4, .int (nI k))]) hx hb dX1_many_50 rfl hl (by decide) rfl (fun ls hl => ?_)
              refine lv_iinc (v := nI (k + 1)) (lv' := [(4, .int (nI (k + 1))), (3, .int (nI (acc + 1))), (0, .ref (ad 18)), (1, .int (nI r)), (2, .int b)]) hx hb dX1_many_51 hl (k := 4) rfl (nI_1 k) (by decide) rfl (fun ls hl => ?_)
              refine lv_goto (tgt := 10) hx hb dX1_many_54 (by decide) ?_
              exact ih _ (by omega) (k + 1) (acc + 1) rfl (by omega) (by rw [← hc, cnt_y hlt (dt ⟨c_27, Or.inr c_41⟩)]; omega) _ (lv_sub hl [2, 3, 4, 1, 0] rfl)
  exact hloop_10 _ lo 0 rfl hl1 (Nat.zero_add _) _ (lv_sub hl [2, 3, 4, 1, 0] rfl)
set_option maxHeartbeats 4000000 in
set_option maxRecDepth 100000 in
/-- thrown -/
theorem c_X1_thrown (l : Launch) (D : va_G) (cA cZ cL : ClassId) (ad : Nat → Nat) (f : qFs) (g : qGs) : Met l yX1_thrown wsX1_thrown ({ frames := 0, cells := 0, slots := 0, locals := 0 } : Room) (va_Pc [.ref (ad 18)] (qPre D (qTy cA cZ cL) (mW cA cZ ad f g))) (vp_Si (fun z => z = f 0)) 0 0 (fun _ => False) := by
  refine Met.ofW (cc := cX1_thrown) (maxL := 1) (ret := (some .int)) (by decide) rfl ?_
  intro p e s m args below meth c s₁ B hml hv
  obtain ⟨rfl, hP, hK⟩ := hv
  have hx := B.exec
  have hb := B.bytes
  have hr := B.returns
  have hts := atoms_spec (ws := wsX1_thrown) B.pre
  have hown : s.vm.findClass RX1 = some m.cls := findClass_of_methodNamed B.named
  have hlocks := B.notSynchronized
  have hfin : ∀ w ∈ wsX10, w ∈ wsX1_thrown := fun w h => (List.mem_cons_of_mem _ (List.mem_append_right _ h))
  have hl := lv_entry ([.ref (ad 18)]) (n := 1) (Nat.le_of_ble_eq_true rfl)
  rw [lg_entry_eq]
  generalize (lg_sl ([.ref (ad 18)]) ++ List.replicate (1 - (lg_sl ([.ref (ad 18)])).length) Slot.unset).toArray = ls at hl ⊢
  have hl : lv_has ls 1 [(0, .ref (ad 18))] := hl
  refine lv_aload_n hx hb dX1_thrown_0 rfl (lv_at hl 0 rfl) ?_
  refine va_get (D := D) (ci := 1) (v := .int (f 0)) (C := RX1) (T := TX1) (N := 18) hx hb hts hfin hown hK hP 0 rfl rfl 0 (by decide) (hts _ (List.mem_cons_of_mem _ (List.mem_append_left _ (List.mem_of_getElem? (i := 0) rfl)))) (fun _ h9 => h9) rfl dX1_thrown_1 ?_
  exact W.iret (v := f 0) hx hb hr (fun t ht hW => ⟨f 0, rfl, rfl, ht⟩) (fun q h => nomatch h) dX1_thrown_4
