set_option maxHeartbeats 4000000 in
set_option maxRecDepth 100000 in
/-- copies -/
theorem c_X1_copies (l : Launch) (D : va_G) (cA cZ cL : ClassId) (ad : Nat → Nat) (f : qFs) (g : qGs) (sz : Nat) (i : Nat) (j : Nat) (hi9 : i < 9) (hj9 : j < 9) : Met l yX1_copies wsX1_copies ({ frames := 0, cells := 0, slots := 0, locals := 0 } : Room) (va_Pc [.ref (ad 18), .int (nI i), .int (nI j)] (qPreW D (qTy cA cZ cL) (mW cA cZ ad f g) sz)) (va_Qv (fun u : qFs × qGs => u.1 = f ∧ u.2 = mCopyG g i j) (qAt D (va_A (mW cA cZ ad f g) sz) (fun u : qFs × qGs => mW cA cZ ad u.1 u.2)) (va_A (mW cA cZ ad f g) sz)) 0 0 (va_A (mW cA cZ ad f g) sz) := by
  refine Met.ofW (cc := cX1_copies) (maxL := 3) (ret := none) (by decide) rfl ?_
  intro p e s m args below meth c s₁ B hml hv
  obtain ⟨rfl, hsz, hP, hK, hD0⟩ := hv
  have hx := B.exec
  have hb := B.bytes
  have hr := B.returns
  have hts := atoms_spec (ws := wsX1_copies) B.pre
  have hown : s.vm.findClass RX1 = some m.cls := findClass_of_methodNamed B.named
  have hlocks := B.notSynchronized
  subst hsz
  have hD := hD0.self (sz := s.heap.size)
  generalize hAe : va_A (mW cA cZ ad f g) s.heap.size = A at hD ⊢
  have hA : ∀ q : Nat, s.heap.size ≤ q → A q := fun q h => by rw [← hAe]; exact Or.inr h
  have hS : va_S A s.heap s.heap [] := va_S.rf
  have hfin : ∀ w ∈ wsX10, w ∈ wsX1_copies := fun w h => (List.mem_cons_of_mem _ (List.mem_append_right _ h))
  have hl := lv_entry ([.ref (ad 18), .int (nI i), .int (nI j)]) (n := 3) (Nat.le_of_ble_eq_true rfl)
  rw [lg_entry_eq]
  generalize (lg_sl ([.ref (ad 18), .int (nI i), .int (nI j)]) ++ List.replicate (3 - (lg_sl ([.ref (ad 18), .int (nI i), .int (nI j)])).length) Slot.unset).toArray = ls at hl ⊢
  have hl : lv_has ls 3 [(0, .ref (ad 18)), (1, .int (nI i)), (2, .int (nI j))] := hl
  refine lv_aload_n hx hb dX1_copies_0 rfl (lv_at hl 0 rfl) ?_
  refine va_get (D := D) (ci := 1) (v := .ref (ad 4)) (C := RX1) (T := TX1) (N := 18) hx hb hts hfin hown hK hP 0 rfl rfl 4 (by decide) (hts _ (List.mem_cons_of_mem _ (List.mem_append_left _ (List.mem_of_getElem? (i := 0) rfl)))) (fun _ h9 => h9) rfl dX1_copies_1 ?_
  refine lv_iload_n hx hb dX1_copies_4 rfl (lv_at hl 2 rfl) ?_
  refine lv_aload_n hx hb dX1_copies_5 rfl (lv_at hl 0 rfl) ?_
  refine va_get (D := D) (ci := 1) (v := .ref (ad 4)) (C := RX1) (T := TX1) (N := 18) hx hb hts hfin hown hK hP 0 rfl rfl 4 (by decide) (hts _ (List.mem_cons_of_mem _ (List.mem_append_left _ (List.mem_of_getElem? (i := 0) rfl)))) (fun _ h9 => h9) rfl dX1_copies_6 ?_
  refine lv_iload_n hx hb dX1_copies_9 rfl (lv_at hl 1 rfl) ?_
  refine va_iald hx hb hK hP 2 0 rfl rfl (vp_in_nI hi9 (by decide)) dX1_copies_10 ?_
  refine lv_topi (fun v_10 hv_10 => ?_)
  have hv_10 : v_10 = g 4 i := hv_10.trans (by rw [nI_clamp (by omega)])
  subst hv_10
  refine va_iast hx hb hK hP hD hS 2 0 rfl rfl (vp_in_nI hj9 (by decide)) dX1_copies_11 (fun H locs hP hD hS => ?_)
  have hix : (nI j).toNatClampNeg = j := nI_clamp (by omega)
  rw [hix] at hP hD
  have hP : va_P D vwCl (mW cA cZ ad f (va_up g 4 (upd (g 4) j (g 4 i)))) H := hP
  have hD : va_D A (mW cA cZ ad f (va_up g 4 (upd (g 4) j (g 4 i)))) := hD
  refine lv_aload_n hx hb dX1_copies_12 rfl (lv_at hl 0 rfl) ?_
  refine va_get (D := D) (ci := 1) (v := .ref (ad 5)) (C := RX1) (T := TX1) (N := 18) hx hb hts hfin hown hK hP 0 rfl rfl 5 (by decide) (hts _ (List.mem_cons_of_mem _ (List.mem_append_left _ (List.mem_of_getElem? (i := 1) rfl)))) (fun _ h9 => h9) rfl dX1_copies_13 ?_
  refine lv_iload_n hx hb dX1_copies_16 rfl (lv_at hl 2 rfl) ?_
  refine lv_aload_n hx hb dX1_copies_17 rfl (lv_at hl 0 rfl) ?_
  refine va_get (D := D) (ci := 1) (v := .ref (ad 5)) (C := RX1) (T := TX1) (N := 18) hx hb hts hfin hown hK hP 0 rfl rfl 5 (by decide) (hts _ (List.mem_cons_of_mem _ (List.mem_append_left _ (List.mem_of_getElem? (i := 1) rfl)))) (fun _ h9 => h9) rfl dX1_copies_18 ?_
  refine lv_iload_n hx hb dX1_copies_21 rfl (lv_at hl 1 rfl) ?_
  refine va_iald hx hb hK hP 3 0 rfl rfl (vp_in_nI hi9 (by decide)) dX1_copies_22 ?_
  refine lv_topi (fun v_22 hv_22 => ?_)
  have hv_22 : v_22 = g 5 i := hv_22.trans (by rw [nI_clamp (by omega)]; rfl)
  subst hv_22
  refine va_iast hx hb hK hP hD hS 3 0 rfl rfl (vp_in_nI hj9 (by decide)) dX1_copies_23 (fun H locs hP hD hS => ?_)
  have hix : (nI j).toNatClampNeg = j := nI_clamp (by omega)
  rw [hix] at hP hD
  have hP : va_P D vwCl (mW cA cZ ad f (va_up (va_up g 4 (upd (g 4) j (g 4 i))) 5 (upd (g 5) j (g 5 i)))) H := hP
  have hD : va_D A (mW cA cZ ad f (va_up (va_up g 4 (upd (g 4) j (g 4 i))) 5 (upd (g 5) j (g 5 i)))) := hD
  refine lv_aload_n hx hb dX1_copies_24 rfl (lv_at hl 0 rfl) ?_
  refine va_get (D := D) (ci := 1) (v := .ref (ad 6)) (C := RX1) (T := TX1) (N := 18) hx hb hts hfin hown hK hP 0 rfl rfl 6 (by decide) (hts _ (List.mem_cons_of_mem _ (List.mem_append_left _ (List.mem_of_getElem? (i := 2) rfl)))) (fun _ h9 => h9) rfl dX1_copies_25 ?_
  refine lv_iload_n hx hb dX1_copies_28 rfl (lv_at hl 2 rfl) ?_
  refine lv_aload_n hx hb dX1_copies_29 rfl (lv_at hl 0 rfl) ?_
  refine va_get (D := D) (ci := 1) (v := .ref (ad 6)) (C := RX1) (T := TX1) (N := 18) hx hb hts hfin hown hK hP 0 rfl rfl 6 (by decide) (hts _ (List.mem_cons_of_mem _ (List.mem_append_left _ (List.mem_of_getElem? (i := 2) rfl)))) (fun _ h9 => h9) rfl dX1_copies_30 ?_
  refine lv_iload_n hx hb dX1_copies_33 rfl (lv_at hl 1 rfl) ?_
  refine va_iald hx hb hK hP 4 0 rfl rfl (vp_in_nI hi9 (by decide)) dX1_copies_34 ?_
  refine lv_topi (fun v_34 hv_34 => ?_)
  have hv_34 : v_34 = g 6 i := hv_34.trans (by rw [nI_clamp (by omega)]; rfl)
  subst hv_34
  refine va_iast hx hb hK hP hD hS 4 0 rfl rfl (vp_in_nI hj9 (by decide)) dX1_copies_35 (fun H locs hP hD hS => ?_)
  have hix : (nI j).toNatClampNeg = j := nI_clamp (by omega)
  rw [hix] at hP hD
  have hP : va_P D vwCl (mW cA cZ ad f (va_up (va_up (va_up g 4 (upd (g 4) j (g 4 i))) 5 (upd (g 5) j (g 5 i))) 6 (upd (g 6) j (g 6 i)))) H := hP
  have hD : va_D A (mW cA cZ ad f (va_up (va_up (va_up g 4 (upd (g 4) j (g 4 i))) 5 (upd (g 5) j (g 5 i))) 6 (upd (g 6) j (g 6 i)))) := hD
  exact W.vret hx hb hr (fun t ht hW => ⟨⟨(f, (va_up (va_up (va_up g 4 (upd (g 4) j (g 4 i))) 5 (upd (g 5) j (g 5 i))) 6 (upd (g 6) j (g 6 i)))), rfl, ⟨rfl, rfl⟩, by rw [ht]; exact hP, hD⟩, hS.F ht⟩) hS.2.2 dX1_copies_36
set_option maxHeartbeats 4000000 in
set_option maxRecDepth 100000 in
/-- asksKey -/
theorem c_X1_asksKey (l : Launch) (D : va_G) (cA cZ cL : ClassId) (ad : Nat → Nat) (f : qFs) (g : qGs) (sz : Nat) (k : Int32) : Met l yX1_asksKey wsX1_asksKey ({ frames := 2, cells := 0, slots := 0, locals := 42 } : Room) (va_Pc [.ref (ad 18), .int k] (qPreW D (qTy cA cZ cL) (mW cA cZ ad f g) sz)) (va_Qi (fun (z : Int32) (u : qFs × qGs) => z = bI (xKey k) ∧ u.1 = va_up f 0 (if xKey k then 0 else 1) ∧ u.2 = g) (qAt D (va_A (mW cA cZ ad f g) sz) (fun u : qFs × qGs => mW cA cZ ad u.1 u.2)) (va_A (mW cA cZ ad f g) sz)) 0 0 (va_A (mW cA cZ ad f g) sz) := by
  refine Met.ofW (cc := cX1_asksKey) (maxL := 2) (ret := (some .boolean)) (by decide) rfl ?_
  intro p e s m args below meth c s₁ B hml hv
  obtain ⟨rfl, hsz, hP, hK, hD0⟩ := hv
  have hx := B.exec
  have hb := B.bytes
  have hr := B.returns
  have hts := atoms_spec (ws := wsX1_asksKey) B.pre
  have hown : s.vm.findClass RX1 = some m.cls := findClass_of_methodNamed B.named
  have hlocks := B.notSynchronized
  subst hsz
  have hD := hD0.self (sz := s.heap.size)
  generalize hAe : va_A (mW cA cZ ad f g) s.heap.size = A at hD ⊢
  have hA : ∀ q : Nat, s.heap.size ≤ q → A q := fun q h => by rw [← hAe]; exact Or.inr h
  have hS : va_S A s.heap s.heap [] := va_S.rf
  have hfin : ∀ w ∈ wsX10, w ∈ wsX1_asksKey := fun w h => (List.mem_cons_of_mem _ (List.mem_append_right _ h))
  have hl := lv_entry ([.ref (ad 18), .int k]) (n := 2) (Nat.le_of_ble_eq_true rfl)
  rw [lg_entry_eq]
  generalize (lg_sl ([.ref (ad 18), .int k]) ++ List.replicate (2 - (lg_sl ([.ref (ad 18), .int k])).length) Slot.unset).toArray = ls at hl ⊢
  have hl : lv_has ls 2 [(0, .ref (ad 18)), (1, .int k)] := hl
  refine lv_aload_n hx hb dX1_asksKey_0 rfl (lv_at hl 0 rfl) ?_
  refine lv_iload_n hx hb dX1_asksKey_1 rfl (lv_at hl 1 rfl) ?_
  refine vp_callSi (W.runS (As := [.int k]) (rest := [.ref (ad 18)]) ⟨hx, hb, hml, hown, hts⟩ (c_X1_isKey l k) (va_cwS 1 hts gX1_asksKey_X1_isKey rfl rfl rfl (by decide +kernel) ⟨Nat.le_of_ble_eq_true rfl, Nat.le_of_ble_eq_true rfl⟩) ⟨qN_blind, qN_at⟩ rfl rfl hl.1 rfl (lv_room (Nat.le_of_ble_eq_true rfl)) dX1_asksKey_2 ⟨Nat.le_of_ble_eq_true rfl, Nat.le_of_ble_eq_true rfl⟩) (fun z hz => ?_)
  subst hz
  refine lv_if_eq (tgt := 12) hx hb dX1_asksKey_5 (by decide) (fun c_5 => ?_) (fun c_5 => ?_)
  · have c_5 := bI_0.mp c_5
    refine lv_iconst (v := 1) hx hb dX1_asksKey_12 (by decide) ?_
    refine va_put (D := D) (ci := 1) (v := .int 1) (ty := .int) (C := RX1) (T := TX1) (N := 18) hx hb hts hfin tyX1 tyX1_ok nmX1 hown hK hP hD hS 0 rfl rfl 0 (by decide) (hts _ (List.mem_cons_of_mem _ (List.mem_append_left _ (List.mem_of_getElem? (i := 0) rfl)))) (fun _ h9 => h9) rfl (by decide +kernel) (rfl) (rfl) (Nat.le_of_ble_eq_true rfl) dX1_asksKey_13 (fun H locs hP hD hS => ?_)
    have hP : va_P D vwCl (mW cA cZ ad (va_up f 0 1) g) H := hP
    have hD : va_D A (mW cA cZ ad (va_up f 0 1) g) := hD
    refine lv_aload_n hx hb dX1_asksKey_16 rfl (lv_at hl 0 rfl) ?_
    refine va_get (D := D) (ci := 1) (v := .int 1) (C := RX1) (T := TX1) (N := 18) hx hb hts hfin hown hK hP 0 rfl rfl 0 (by decide) (hts _ (List.mem_cons_of_mem _ (List.mem_append_left _ (List.mem_of_getElem? (i := 0) rfl)))) (fun _ h9 => h9) rfl dX1_asksKey_17 ?_
    refine lv_if_ne (tgt := 27) hx hb dX1_asksKey_20 (by decide) (fun c_20 => ?_) (fun c_20 => ?_)
    · skip
      refine lv_iconst (v := 0) hx hb dX1_asksKey_27 (by decide) ?_
      exact W.zret (v := 0) hx hb hr rfl (fun t ht hW => ⟨⟨0, ((va_up f 0 1), g), rfl, ⟨(bI_f (c_5)).symm, (by rw [if_neg c_5]), rfl⟩, by rw [ht]; exact hP, hD⟩, hS.F ht⟩) hS.2.2 dX1_asksKey_28
    · skip
      exact absurd c_20 (by decide)
  · have c_5 := bI_n.mp c_5
    refine lv_iconst (v := 0) hx hb dX1_asksKey_8 (by decide) ?_
    refine lv_goto (tgt := 13) hx hb dX1_asksKey_9 (by decide) ?_
    refine va_put (D := D) (ci := 1) (v := .int 0) (ty := .int) (C := RX1) (T := TX1) (N := 18) hx hb hts hfin tyX1 tyX1_ok nmX1 hown hK hP hD hS 0 rfl rfl 0 (by decide) (hts _ (List.mem_cons_of_mem _ (List.mem_append_left _ (List.mem_of_getElem? (i := 0) rfl)))) (fun _ h9 => h9) rfl (by decide +kernel) (rfl) (rfl) (Nat.le_of_ble_eq_true rfl) dX1_asksKey_13 (fun H locs hP hD hS => ?_)
    have hP : va_P D vwCl (mW cA cZ ad (va_up f 0 0) g) H := hP
    have hD : va_D A (mW cA cZ ad (va_up f 0 0) g) := hD
    refine lv_aload_n hx hb dX1_asksKey_16 rfl (lv_at hl 0 rfl) ?_
    refine va_get (D := D) (ci := 1) (v := .int 0) (C := RX1) (T := TX1) (N := 18) hx hb hts hfin hown hK hP 0 rfl rfl 0 (by decide) (hts _ (List.mem_cons_of_mem _ (List.mem_append_left _ (List.mem_of_getElem? (i := 0) rfl)))) (fun _ h9 => h9) rfl dX1_asksKey_17 ?_
    refine lv_if_ne (tgt := 27) hx hb dX1_asksKey_20 (by decide) (fun c_20 => ?_) (fun c_20 => ?_)
    · skip
      exact absurd c_20 (by decide)
    · skip
      refine lv_iconst (v := 1) hx hb dX1_asksKey_23 (by decide) ?_
      refine lv_goto (tgt := 28) hx hb dX1_asksKey_24 (by decide) ?_
      exact W.zret (v := 1) hx hb hr rfl (fun t ht hW => ⟨⟨1, ((va_up f 0 0), g), rfl, ⟨(bI_t (c_5)).symm, (by rw [if_pos c_5]), rfl⟩, by rw [ht]; exact hP, hD⟩, hS.F ht⟩) hS.2.2 dX1_asksKey_28
set_option maxHeartbeats 4000000 in
set_option maxRecDepth 100000 in
/-- asksBallot -/
theorem c_X1_asksBallot (l : Launch) (D : va_G) (cA cZ cL : ClassId) (ad : Nat → Nat) (f : qFs) (g : qGs) (sz : Nat) (b : Int32) (nR : Nat) (nB : Nat) (hI : mI nR nB f) : Met l yX1_asksBallot wsX1_asksBallot ({ frames := 1, cells := 0, slots := 0, locals := 22 } : Room) (va_Pc [.ref (ad 18), .int b] (qPreW D (qTy cA cZ cL) (mW cA cZ ad f g) sz)) (va_Qi (fun (z : Int32) (u : qFs × qGs) => z = bI (mBallot f b) ∧ u.1 = va_up f 0 (if mBallot f b then 0 else 1) ∧ u.2 = g) (qAt D (va_A (mW cA cZ ad f g) sz) (fun u : qFs × qGs => mW cA cZ ad u.1 u.2)) (va_A (mW cA cZ ad f g) sz)) 0 0 (va_A (mW cA cZ ad f g) sz) := by
  refine Met.ofW (cc := cX1_asksBallot) (maxL := 2) (ret := (some .boolean)) (by decide) rfl ?_
  intro p e s m args below meth c s₁ B hml hv
  obtain ⟨rfl, hsz, hP, hK, hD0⟩ := hv
  have hx := B.exec
  have hb := B.bytes
  have hr := B.returns
  have hts := atoms_spec (ws := wsX1_asksBallot) B.pre
  have hown : s.vm.findClass RX1 = some m.cls := findClass_of_methodNamed B.named
  have hlocks := B.notSynchronized
  subst hsz
  have hD := hD0.self (sz := s.heap.size)
  generalize hAe : va_A (mW cA cZ ad f g) s.heap.size = A at hD ⊢
  have hA : ∀ q : Nat, s.heap.size ≤ q → A q := fun q h => by rw [← hAe]; exact Or.inr h
  have hS : va_S A s.heap s.heap [] := va_S.rf
  have hfin : ∀ w ∈ wsX10, w ∈ wsX1_asksBallot := fun w h => (List.mem_cons_of_mem _ (List.mem_append_right _ h))
  have hl := lv_entry ([.ref (ad 18), .int b]) (n := 2) (Nat.le_of_ble_eq_true rfl)
  rw [lg_entry_eq]
  generalize (lg_sl ([.ref (ad 18), .int b]) ++ List.replicate (2 - (lg_sl ([.ref (ad 18), .int b])).length) Slot.unset).toArray = ls at hl ⊢
  have hl : lv_has ls 2 [(0, .ref (ad 18)), (1, .int b)] := hl
  have hB6 := hI.2.2.2.2
  refine lv_aload_n hx hb dX1_asksBallot_0 rfl (lv_at hl 0 rfl) ?_
  refine lv_iload_n hx hb dX1_asksBallot_1 rfl (lv_at hl 1 rfl) ?_
  refine lv_iconst (v := 0) hx hb dX1_asksBallot_2 (by decide) ?_
  refine lv_aload_n hx hb dX1_asksBallot_3 rfl (lv_at hl 0 rfl) ?_
  refine va_get (D := D) (ci := 1) (v := .int (f 12)) (C := RX1) (T := TX1) (N := 18) hx hb hts hfin hown hK hP 0 rfl rfl 12 (by decide) (hts _ (List.mem_cons_of_mem _ (List.mem_append_left _ (List.mem_of_getElem? (i := 0) rfl)))) (fun _ h9 => h9) rfl dX1_asksBallot_4 ?_
  refine lv_iconst (v := 1) hx hb dX1_asksBallot_7 (by decide) ?_
  refine lv_isub hx hb dX1_asksBallot_8 ?_
  refine vp_callSi (W.runS (As := [.int b, .int 0, .int ((f 12) - 1)]) (rest := [.ref (ad 18)]) ⟨hx, hb, hml, hown, hts⟩ (c_X1_in l b 0 ((f 12) - 1)) (va_cwS 3 hts gX1_asksBallot_X1_in rfl rfl rfl (by decide +kernel) ⟨Nat.le_of_ble_eq_true rfl, Nat.le_of_ble_eq_true rfl⟩) ⟨qN_blind, qN_at⟩ rfl rfl hl.1 rfl (lv_room (Nat.le_of_ble_eq_true rfl)) dX1_asksBallot_9 ⟨Nat.le_of_ble_eq_true rfl, Nat.le_of_ble_eq_true rfl⟩) (fun z hz => ?_)
  subst hz
  refine lv_topi (fun v_9 hv_9 => ?_)
  have hv_9 : v_9 = bI (mBallot f b) := hv_9.trans (bI_congr (by unfold mBallot; rw [hI.2.2.2.1]; exact in_nat b (by omega)))
  subst hv_9
  refine lv_if_eq (tgt := 19) hx hb dX1_asksBallot_12 (by decide) (fun c_12 => ?_) (fun c_12 => ?_)
  · have c_12 := bI_0.mp c_12
    refine lv_iconst (v := 1) hx hb dX1_asksBallot_19 (by decide) ?_
    refine va_put (D := D) (ci := 1) (v := .int 1) (ty := .int) (C := RX1) (T := TX1) (N := 18) hx hb hts hfin tyX1 tyX1_ok nmX1 hown hK hP hD hS 0 rfl rfl 0 (by decide) (hts _ (List.mem_cons_of_mem _ (List.mem_append_left _ (List.mem_of_getElem? (i := 1) rfl)))) (fun _ h9 => h9) rfl (by decide +kernel) (rfl) (rfl) (Nat.le_of_ble_eq_true rfl) dX1_asksBallot_20 (fun H locs hP hD hS => ?_)
    have hP : va_P D vwCl (mW cA cZ ad (va_up f 0 1) g) H := hP
    have hD : va_D A (mW cA cZ ad (va_up f 0 1) g) := hD
    refine lv_aload_n hx hb dX1_asksBallot_23 rfl (lv_at hl 0 rfl) ?_
    refine va_get (D := D) (ci := 1) (v := .int 1) (C := RX1) (T := TX1) (N := 18) hx hb hts hfin hown hK hP 0 rfl rfl 0 (by decide) (hts _ (List.mem_cons_of_mem _ (List.mem_append_left _ (List.mem_of_getElem? (i := 1) rfl)))) (fun _ h9 => h9) rfl dX1_asksBallot_24 ?_
    refine lv_if_ne (tgt := 34) hx hb dX1_asksBallot_27 (by decide) (fun c_27 => ?_) (fun c_27 => ?_)
    · skip
      refine lv_iconst (v := 0) hx hb dX1_asksBallot_34 (by decide) ?_
      exact W.zret (v := 0) hx hb hr rfl (fun t ht hW => ⟨⟨0, ((va_up f 0 1), g), rfl, ⟨(bI_f (c_12)).symm, (by rw [if_neg c_12]), rfl⟩, by rw [ht]; exact hP, hD⟩, hS.F ht⟩) hS.2.2 dX1_asksBallot_35
    · skip
      exact absurd c_27 (by decide)
  · have c_12 := bI_n.mp c_12
    refine lv_iconst (v := 0) hx hb dX1_asksBallot_15 (by decide) ?_
    refine lv_goto (tgt := 20) hx hb dX1_asksBallot_16 (by decide) ?_
    refine va_put (D := D) (ci := 1) (v := .int 0) (ty := .int) (C := RX1) (T := TX1) (N := 18) hx hb hts hfin tyX1 tyX1_ok nmX1 hown hK hP hD hS 0 rfl rfl 0 (by decide) (hts _ (List.mem_cons_of_mem _ (List.mem_append_left _ (List.mem_of_getElem? (i := 1) rfl)))) (fun _ h9 => h9) rfl (by decide +kernel) (rfl) (rfl) (Nat.le_of_ble_eq_true rfl) dX1_asksBallot_20 (fun H locs hP hD hS => ?_)
    have hP : va_P D vwCl (mW cA cZ ad (va_up f 0 0) g) H := hP
    have hD : va_D A (mW cA cZ ad (va_up f 0 0) g) := hD
    refine lv_aload_n hx hb dX1_asksBallot_23 rfl (lv_at hl 0 rfl) ?_
    refine va_get (D := D) (ci := 1) (v := .int 0) (C := RX1) (T := TX1) (N := 18) hx hb hts hfin hown hK hP 0 rfl rfl 0 (by decide) (hts _ (List.mem_cons_of_mem _ (List.mem_append_left _ (List.mem_of_getElem? (i := 1) rfl)))) (fun _ h9 => h9) rfl dX1_asksBallot_24 ?_
    refine lv_if_ne (tgt := 34) hx hb dX1_asksBallot_27 (by decide) (fun c_27 => ?_) (fun c_27 => ?_)
    · skip
      exact absurd c_27 (by decide)
    · skip
      refine lv_iconst (v := 1) hx hb dX1_asksBallot_30 (by decide) ?_
      refine lv_goto (tgt := 35) hx hb dX1_asksBallot_31 (by decide) ?_
      exact W.zret (v := 1) hx hb hr rfl (fun t ht hW => ⟨⟨1, ((va_up f 0 0), g), rfl, ⟨(bI_t (c_12)).symm, (by rw [if_pos c_12]), rfl⟩, by rw [ht]; exact hP, hD⟩, hS.F ht⟩) hS.2.2 dX1_asksBallot_35
set_option maxHeartbeats 4000000 in
set_option maxRecDepth 100000 in
/-- asksMoved -/
theorem c_X1_asksMoved (l : Launch) (D : va_G) (cA cZ cL : ClassId) (ad : Nat → Nat) (f : qFs) (g : qGs) (sz : Nat) (r : Int32) (nR : Nat) (nB : Nat) (hI : mI nR nB f) : Met l yX1_asksMoved wsX1_asksMoved ({ frames := 2, cells := 0, slots := 0, locals := 43 } : Room) (va_Pc [.ref (ad 18), .int r] (qPreW D (qTy cA cZ cL) (mW cA cZ ad f g) sz)) (va_Qi (fun (z : Int32) (u : qFs × qGs) => z = bI (mMv f g r = 0) ∧ u.1 = va_up f 0 (mMv f g r) ∧ u.2 = g) (qAt D (va_A (mW cA cZ ad f g) sz) (fun u : qFs × qGs => mW cA cZ ad u.1 u.2)) (va_A (mW cA cZ ad f g) sz)) 0 0 (va_A (mW cA cZ ad f g) sz) := by
  refine Met.ofW (cc := cX1_asksMoved) (maxL := 2) (ret := (some .boolean)) (by decide) rfl ?_
  intro p e s m args below meth c s₁ B hml hv
  obtain ⟨rfl, hsz, hP, hK, hD0⟩ := hv
  have hx := B.exec
  have hb := B.bytes
  have hr := B.returns
  have hts := atoms_spec (ws := wsX1_asksMoved) B.pre
  have hown : s.vm.findClass RX1 = some m.cls := findClass_of_methodNamed B.named
  have hlocks := B.notSynchronized
  subst hsz
  have hD := hD0.self (sz := s.heap.size)
  generalize hAe : va_A (mW cA cZ ad f g) s.heap.size = A at hD ⊢
  have hA : ∀ q : Nat, s.heap.size ≤ q → A q := fun q h => by rw [← hAe]; exact Or.inr h
  have hS : va_S A s.heap s.heap [] := va_S.rf
  have hfin : ∀ w ∈ wsX10, w ∈ wsX1_asksMoved := fun w h => (List.mem_cons_of_mem _ (List.mem_append_right _ h))
  have hl := lv_entry ([.ref (ad 18), .int r]) (n := 2) (Nat.le_of_ble_eq_true rfl)
  rw [lg_entry_eq]
  generalize (lg_sl ([.ref (ad 18), .int r]) ++ List.replicate (2 - (lg_sl ([.ref (ad 18), .int r])).length) Slot.unset).toArray = ls at hl ⊢
  have hl : lv_has ls 2 [(0, .ref (ad 18)), (1, .int r)] := hl
  refine lv_aload_n hx hb dX1_asksMoved_0 rfl (lv_at hl 0 rfl) ?_
  refine lv_aload_n hx hb dX1_asksMoved_1 rfl (lv_at hl 0 rfl) ?_
  refine lv_iload_n hx hb dX1_asksMoved_2 rfl (lv_at hl 1 rfl) ?_
  refine vp_callSi (W.runV (As := [.int r]) (rest := [.ref (ad 18)]) ⟨hx, hb, hml, hown, hts⟩ (c_X1_isRange l D cA cZ cL ad f g r nR nB hI) (cwV 1 hts gX1_asksMoved_X1_isRange rfl rfl rfl (by decide +kernel) ⟨Nat.le_of_ble_eq_true rfl, Nat.le_of_ble_eq_true rfl⟩) ⟨qPre_blind, va_recv hK hP (ci := 1) (q0 := 0) rfl rfl, qPre_at hP hK⟩ rfl rfl hl.1 rfl (lv_room (Nat.le_of_ble_eq_true rfl)) dX1_asksMoved_3 ⟨Nat.le_of_ble_eq_true rfl, Nat.le_of_ble_eq_true rfl⟩) (fun z hz => ?_)
  subst hz
  refine lv_if_ne (tgt := 13) hx hb dX1_asksMoved_6 (by decide) (fun c_6 => ?_) (fun c_6 => ?_)
  · have c_6 := bI_n.mp c_6
    refine lv_aload_n hx hb dX1_asksMoved_13 rfl (lv_at hl 0 rfl) ?_
    refine va_get (D := D) (ci := 1) (v := .ref (ad 6)) (C := RX1) (T := TX1) (N := 18) hx hb hts hfin hown hK hP 0 rfl rfl 6 (by decide) (hts _ (List.mem_cons_of_mem _ (List.mem_append_left _ (List.mem_of_getElem? (i := 0) rfl)))) (fun _ h9 => h9) rfl dX1_asksMoved_14 ?_
    refine lv_iload_n hx hb dX1_asksMoved_17 rfl (lv_at hl 1 rfl) ?_
    refine va_iald hx hb hK hP 4 0 rfl rfl (m_in9 hI c_6) dX1_asksMoved_18 ?_
    refine lv_iconst (v := (-1)) hx hb dX1_asksMoved_19 (by decide) ?_
    refine lv_icmp_ne (tgt := 27) hx hb dX1_asksMoved_20 (by decide) (fun c_20 => ?_) (fun c_20 => ?_)
    · skip
      refine lv_iconst (v := 0) hx hb dX1_asksMoved_27 (by decide) ?_
      refine va_put (D := D) (ci := 1) (v := .int 0) (ty := .int) (C := RX1) (T := TX1) (N := 18) hx hb hts hfin tyX1 tyX1_ok nmX1 hown hK hP hD hS 0 rfl rfl 0 (by decide) (hts _ (List.mem_cons_of_mem _ (List.mem_append_left _ (List.mem_of_getElem? (i := 1) rfl)))) (fun _ h9 => h9) rfl (by decide +kernel) (rfl) (rfl) (Nat.le_of_ble_eq_true rfl) dX1_asksMoved_28 (fun H locs hP hD hS => ?_)
      have hP : va_P D vwCl (mW cA cZ ad (va_up f 0 0) g) H := hP
      have hD : va_D A (mW cA cZ ad (va_up f 0 0) g) := hD
      refine lv_aload_n hx hb dX1_asksMoved_31 rfl (lv_at hl 0 rfl) ?_
      refine va_get (D := D) (ci := 1) (v := .int 0) (C := RX1) (T := TX1) (N := 18) hx hb hts hfin hown hK hP 0 rfl rfl 0 (by decide) (hts _ (List.mem_cons_of_mem _ (List.mem_append_left _ (List.mem_of_getElem? (i := 1) rfl)))) (fun _ h9 => h9) rfl dX1_asksMoved_32 ?_
      refine lv_if_ne (tgt := 42) hx hb dX1_asksMoved_35 (by decide) (fun c_35 => ?_) (fun c_35 => ?_)
      · skip
        exact absurd c_35 (by decide)
      · skip
        refine lv_iconst (v := 1) hx hb dX1_asksMoved_38 (by decide) ?_
        refine lv_goto (tgt := 43) hx hb dX1_asksMoved_39 (by decide) ?_
        exact W.zret (v := 1) hx hb hr rfl (fun t ht hW => ⟨⟨1, ((va_up f 0 0), g), rfl, ⟨(bI_t (mMv_is c_6 c_20)).symm, (by rw [mMv_is c_6 c_20]), rfl⟩, by rw [ht]; exact hP, hD⟩, hS.F ht⟩) hS.2.2 dX1_asksMoved_43
    · skip
      refine lv_iconst (v := 2) hx hb dX1_asksMoved_23 (by decide) ?_
      refine lv_goto (tgt := 28) hx hb dX1_asksMoved_24 (by decide) ?_
      refine va_put (D := D) (ci := 1) (v := .int 2) (ty := .int) (C := RX1) (T := TX1) (N := 18) hx hb hts hfin tyX1 tyX1_ok nmX1 hown hK hP hD hS 0 rfl rfl 0 (by decide) (hts _ (List.mem_cons_of_mem _ (List.mem_append_left _ (List.mem_of_getElem? (i := 1) rfl)))) (fun _ h9 => h9) rfl (by decide +kernel) (rfl) (rfl) (Nat.le_of_ble_eq_true rfl) dX1_asksMoved_28 (fun H locs hP hD hS => ?_)
      have hP : va_P D vwCl (mW cA cZ ad (va_up f 0 2) g) H := hP
      have hD : va_D A (mW cA cZ ad (va_up f 0 2) g) := hD
      refine lv_aload_n hx hb dX1_asksMoved_31 rfl (lv_at hl 0 rfl) ?_
      refine va_get (D := D) (ci := 1) (v := .int 2) (C := RX1) (T := TX1) (N := 18) hx hb hts hfin hown hK hP 0 rfl rfl 0 (by decide) (hts _ (List.mem_cons_of_mem _ (List.mem_append_left _ (List.mem_of_getElem? (i := 1) rfl)))) (fun _ h9 => h9) rfl dX1_asksMoved_32 ?_
      refine lv_if_ne (tgt := 42) hx hb dX1_asksMoved_35 (by decide) (fun c_35 => ?_) (fun c_35 => ?_)
      · skip
        refine lv_iconst (v := 0) hx hb dX1_asksMoved_42 (by decide) ?_
        exact W.zret (v := 0) hx hb hr rfl (fun t ht hW => ⟨⟨0, ((va_up f 0 2), g), rfl, ⟨(bI_f (by rw [mMv_2 c_6 c_20]; decide)).symm, (by rw [mMv_2 c_6 c_20]), rfl⟩, by rw [ht]; exact hP, hD⟩, hS.F ht⟩) hS.2.2 dX1_asksMoved_43
      · skip
        exact absurd c_35 (by decide)
  · have c_6 := bI_0.mp c_6
    refine lv_iconst (v := 1) hx hb dX1_asksMoved_9 (by decide) ?_
    refine lv_goto (tgt := 28) hx hb dX1_asksMoved_10 (by decide) ?_
    refine va_put (D := D) (ci := 1) (v := .int 1) (ty := .int) (C := RX1) (T := TX1) (N := 18) hx hb hts hfin tyX1 tyX1_ok nmX1 hown hK hP hD hS 0 rfl rfl 0 (by decide) (hts _ (List.mem_cons_of_mem _ (List.mem_append_left _ (List.mem_of_getElem? (i := 1) rfl)))) (fun _ h9 => h9) rfl (by decide +kernel) (rfl) (rfl) (Nat.le_of_ble_eq_true rfl) dX1_asksMoved_28 (fun H locs hP hD hS => ?_)
    have hP : va_P D vwCl (mW cA cZ ad (va_up f 0 1) g) H := hP
    have hD : va_D A (mW cA cZ ad (va_up f 0 1) g) := hD
    refine lv_aload_n hx hb dX1_asksMoved_31 rfl (lv_at hl 0 rfl) ?_
    refine va_get (D := D) (ci := 1) (v := .int 1) (C := RX1) (T := TX1) (N := 18) hx hb hts hfin hown hK hP 0 rfl rfl 0 (by decide) (hts _ (List.mem_cons_of_mem _ (List.mem_append_left _ (List.mem_of_getElem? (i := 1) rfl)))) (fun _ h9 => h9) rfl dX1_asksMoved_32 ?_
    refine lv_if_ne (tgt := 42) hx hb dX1_asksMoved_35 (by decide) (fun c_35 => ?_) (fun c_35 => ?_)
    · skip
      refine lv_iconst (v := 0) hx hb dX1_asksMoved_42 (by decide) ?_
      exact W.zret (v := 0) hx hb hr rfl (fun t ht hW => ⟨⟨0, ((va_up f 0 1), g), rfl, ⟨(bI_f (by rw [mMv_1 c_6]; decide)).symm, (by rw [mMv_1 c_6]), rfl⟩, by rw [ht]; exact hP, hD⟩, hS.F ht⟩) hS.2.2 dX1_asksMoved_43
    · skip
      exact absurd c_35 (by decide)
set_option maxHeartbeats 4000000 in
set_option maxRecDepth 100000 in
/-- join -/
theorem c_X1_join (l : Launch) (D : va_G) (cA cZ cL : ClassId) (ad : Nat → Nat) (f : qFs) (g : qGs) (sz : Nat) (k : Int32) (a : Int32) : Met l yX1_join wsX1_join ({ frames := 2, cells := 0, slots := 0, locals := 42 } : Room) (va_Pc [.ref (ad 18), .int k, .int a] (qPreW D (qTy cA cZ cL) (mW cA cZ ad f g) sz)) (va_Qi (fun (z : Int32) (u : qFs × qGs) => ((¬ xKey k) ∧ u.1 = va_up f 0 1 ∧ u.2 = g) ∨ ((xKey k ∧ ¬ xAdr a) ∧ u.1 = va_up f 0 2 ∧ u.2 = g) ∨ ((xKey k ∧ xAdr a ∧ (mThere g k ∨ f 2 = 40)) ∧ u.1 = va_up f 0 3 ∧ u.2 = g) ∨ ((xKey k ∧ xAdr a ∧ ¬ mThere g k ∧ ¬ f 2 = 40) ∧ z = f 2 + 1 ∧ u.1 = va_up (va_up f 0 0) 2 (f 2 + 1) ∧ u.2 = va_up (va_up g 1 (upd (g 1) k.toNatClampNeg (a + 1))) 7 (upd (g 7) k.toNatClampNeg 1))) (qAt D (va_A (mW cA cZ ad f g) sz) (fun u : qFs × qGs => mW cA cZ ad u.1 u.2)) (va_A (mW cA cZ ad f g) sz)) 0 0 (va_A (mW cA cZ ad f g) sz) := by
  refine Met.ofW (cc := cX1_join) (maxL := 3) (ret := (some .int)) (by decide) rfl ?_
  intro p e s m args below meth c s₁ B hml hv
  obtain ⟨rfl, hsz, hP, hK, hD0⟩ := hv
  have hx := B.exec
  have hb := B.bytes
  have hr := B.returns
  have hts := atoms_spec (ws := wsX1_join) B.pre
  have hown : s.vm.findClass RX1 = some m.cls := findClass_of_methodNamed B.named
  have hlocks := B.notSynchronized
  subst hsz
  have hD := hD0.self (sz := s.heap.size)
  generalize hAe : va_A (mW cA cZ ad f g) s.heap.size = A at hD ⊢
  have hA : ∀ q : Nat, s.heap.size ≤ q → A q := fun q h => by rw [← hAe]; exact Or.inr h
  have hS : va_S A s.heap s.heap [] := va_S.rf
  have hfin : ∀ w ∈ wsX10, w ∈ wsX1_join := fun w h => (List.mem_cons_of_mem _ (List.mem_append_right _ h))
  have hl := lv_entry ([.ref (ad 18), .int k, .int a]) (n := 3) (Nat.le_of_ble_eq_true rfl)
  rw [lg_entry_eq]
  generalize (lg_sl ([.ref (ad 18), .int k, .int a]) ++ List.replicate (3 - (lg_sl ([.ref (ad 18), .int k, .int a])).length) Slot.unset).toArray = ls at hl ⊢
  have hl : lv_has ls 3 [(0, .ref (ad 18)), (1, .int k), (2, .int a)] := hl
  refine lv_aload_n hx hb dX1_join_0 rfl (lv_at hl 0 rfl) ?_
  refine lv_iload_n hx hb dX1_join_1 rfl (lv_at hl 1 rfl) ?_
  refine vp_callSi (W.runS (As := [.int k]) (rest := [.ref (ad 18)]) ⟨hx, hb, hml, hown, hts⟩ (c_X1_isKey l k) (va_cwS 1 hts gX1_join_X1_isKey rfl rfl rfl (by decide +kernel) ⟨Nat.le_of_ble_eq_true rfl, Nat.le_of_ble_eq_true rfl⟩) ⟨qN_blind, qN_at⟩ rfl rfl hl.1 rfl (lv_room (Nat.le_of_ble_eq_true rfl)) dX1_join_2 ⟨Nat.le_of_ble_eq_true rfl, Nat.le_of_ble_eq_true rfl⟩) (fun z hz => ?_)
  subst hz
  refine lv_if_ne (tgt := 12) hx hb dX1_join_5 (by decide) (fun c_5 => ?_) (fun c_5 => ?_)
  · have c_5 := bI_n.mp c_5
    refine lv_iload_n hx hb dX1_join_12 rfl (lv_at hl 2 rfl) ?_
    refine lv_iconst (v := 0) hx hb dX1_join_13 (by decide) ?_
    refine lv_bipush (v := 39) hx hb dX1_join_14 (by decide) ?_
    refine vp_callSi (W.runS (As := [.int a, .int 0, .int 39]) (rest := [.ref (ad 18)]) ⟨hx, hb, hml, hown, hts⟩ (c_X1_in l a 0 39) (va_cwS 3 hts gX1_join_X1_in rfl rfl rfl (by decide +kernel) ⟨Nat.le_of_ble_eq_true rfl, Nat.le_of_ble_eq_true rfl⟩) ⟨qN_blind, qN_at⟩ rfl rfl hl.1 rfl (lv_room (Nat.le_of_ble_eq_true rfl)) dX1_join_16 ⟨Nat.le_of_ble_eq_true rfl, Nat.le_of_ble_eq_true rfl⟩) (fun z hz => ?_)
    subst hz
    refine lv_topi (fun v_16 hv_16 => ?_)
    have hv_16 : v_16 = bI (xAdr a) := hv_16.trans (bI_congr (in_adr a))
    subst hv_16
    refine lv_if_ne (tgt := 26) hx hb dX1_join_19 (by decide) (fun c_19 => ?_) (fun c_19 => ?_)
    · have c_19 := bI_n.mp c_19
      refine lv_aload_n hx hb dX1_join_26 rfl (lv_at hl 0 rfl) ?_
      refine lv_iload_n hx hb dX1_join_27 rfl (lv_at hl 1 rfl) ?_
      refine vp_callSi (W.runV (As := [.int k]) (rest := [.ref (ad 18)]) ⟨hx, hb, hml, hown, hts⟩ (c_X1_isThere l D cA cZ cL ad f g k c_5) (cwV 1 hts gX1_join_X1_isThere rfl rfl rfl (by decide +kernel) ⟨Nat.le_of_ble_eq_true rfl, Nat.le_of_ble_eq_true rfl⟩) ⟨qPre_blind, va_recv hK hP (ci := 1) (q0 := 0) rfl rfl, qPre_at hP hK⟩ rfl rfl hl.1 rfl (lv_room (Nat.le_of_ble_eq_true rfl)) dX1_join_28 ⟨Nat.le_of_ble_eq_true rfl, Nat.le_of_ble_eq_true rfl⟩) (fun z hz => ?_)
      subst hz
      refine lv_if_ne (tgt := 43) hx hb dX1_join_31 (by decide) (fun c_31 => ?_) (fun c_31 => ?_)
      · have c_31 := bI_n.mp c_31
        refine lv_iconst (v := 3) hx hb dX1_join_43 (by decide) ?_
        refine lv_goto (tgt := 48) hx hb dX1_join_44 (by decide) ?_
        refine va_put (D := D) (ci := 1) (v := .int 3) (ty := .int) (C := RX1) (T := TX1) (N := 18) hx hb hts hfin tyX1 tyX1_ok nmX1 hown hK hP hD hS 0 rfl rfl 0 (by decide) (hts _ (List.mem_cons_of_mem _ (List.mem_append_left _ (List.mem_of_getElem? (i := 1) rfl)))) (fun _ h9 => h9) rfl (by decide +kernel) (rfl) (rfl) (Nat.le_of_ble_eq_true rfl) dX1_join_48 (fun H locs hP hD hS => ?_)
        have hP : va_P D vwCl (mW cA cZ ad (va_up f 0 3) g) H := hP
        have hD : va_D A (mW cA cZ ad (va_up f 0 3) g) := hD
        refine lv_aload_n hx hb dX1_join_51 rfl (lv_at hl 0 rfl) ?_
        refine va_get (D := D) (ci := 1) (v := .int 3) (C := RX1) (T := TX1) (N := 18) hx hb hts hfin hown hK hP 0 rfl rfl 0 (by decide) (hts _ (List.mem_cons_of_mem _ (List.mem_append_left _ (List.mem_of_getElem? (i := 1) rfl)))) (fun _ h9 => h9) rfl dX1_join_52 ?_
        refine lv_if_le (tgt := 60) hx hb dX1_join_55 (by decide) (fun c_55 => ?_) (fun c_55 => ?_)
        · skip
          exact absurd c_55 (by decide)
        · skip
          refine lv_iconst (v := 0) hx hb dX1_join_58 (by decide) ?_
          exact W.iret (v := 0) hx hb hr (fun t ht hW => ⟨⟨0, ((va_up f 0 3), g), rfl, (Or.inr (Or.inr (Or.inl (⟨⟨c_5, c_19, Or.inl c_31⟩, rfl, rfl⟩)))), by rw [ht]; exact hP, hD⟩, hS.F ht⟩) hS.2.2 dX1_join_59
      · have c_31 := bI_0.mp c_31
        refine lv_aload_n hx hb dX1_join_34 rfl (lv_at hl 0 rfl) ?_
        refine va_get (D := D) (ci := 1) (v := .int (f 2)) (C := RX1) (T := TX1) (N := 18) hx hb hts hfin hown hK hP 0 rfl rfl 2 (by decide) (hts _ (List.mem_cons_of_mem _ (List.mem_append_left _ (List.mem_of_getElem? (i := 0) rfl)))) (fun _ h9 => h9) rfl dX1_join_35 ?_
        refine lv_bipush (v := 40) hx hb dX1_join_38 (by decide) ?_
        refine lv_icmp_ne (tgt := 47) hx hb dX1_join_40 (by decide) (fun c_40 => ?_) (fun c_40 => ?_)
        · skip
          refine lv_iconst (v := 0) hx hb dX1_join_47 (by decide) ?_
          refine va_put (D := D) (ci := 1) (v := .int 0) (ty := .int) (C := RX1) (T := TX1) (N := 18) hx hb hts hfin tyX1 tyX1_ok nmX1 hown hK hP hD hS 0 rfl rfl 0 (by decide) (hts _ (List.mem_cons_of_mem _ (List.mem_append_left _ (List.mem_of_getElem? (i := 1) rfl)))) (fun _ h9 => h9) rfl (by decide +kernel) (rfl) (rfl) (Nat.le_of_ble_eq_true rfl) dX1_join_48 (fun H locs hP hD hS => ?_)
          have hP : va_P D vwCl (mW cA cZ ad (va_up f 0 0) g) H := hP
          have hD : va_D A (mW cA cZ ad (va_up f 0 0) g) := hD
          refine lv_aload_n hx hb dX1_join_51 rfl (lv_at hl 0 rfl) ?_
          refine va_get (D := D) (ci := 1) (v := .int 0) (C := RX1) (T := TX1) (N := 18) hx hb hts hfin hown hK hP 0 rfl rfl 0 (by decide) (hts _ (List.mem_cons_of_mem _ (List.mem_append_left _ (List.mem_of_getElem? (i := 1) rfl)))) (fun _ h9 => h9) rfl dX1_join_52 ?_
          refine lv_if_le (tgt := 60) hx hb dX1_join_55 (by decide) (fun c_55 => ?_) (fun c_55 => ?_)
          · skip
            refine lv_aload_n hx hb dX1_join_60 rfl (lv_at hl 0 rfl) ?_
            refine va_get (D := D) (ci := 1) (v := .ref (ad 1)) (C := RX1) (T := TX1) (N := 18) hx hb hts hfin hown hK hP 0 rfl rfl 1 (by decide) (hts _ (List.mem_cons_of_mem _ (List.mem_append_left _ (List.mem_of_getElem? (i := 2) rfl)))) (fun _ h9 => h9) rfl dX1_join_61 ?_
            refine lv_iload_n hx hb dX1_join_64 rfl (lv_at hl 1 rfl) ?_
            refine lv_iload_n hx hb dX1_join_65 rfl (lv_at hl 2 rfl) ?_
            refine lv_iconst (v := 1) hx hb dX1_join_66 (by decide) ?_
            refine lv_iadd hx hb dX1_join_67 ?_
            refine va_iast hx hb hK hP hD hS 1 0 rfl rfl (x_in100 c_5) dX1_join_68 (fun H locs hP hD hS => ?_)
            have hP : va_P D vwCl (mW cA cZ ad (va_up f 0 0) (va_up g 1 (upd (g 1) k.toNatClampNeg (a + 1)))) H := hP
            have hD : va_D A (mW cA cZ ad (va_up f 0 0) (va_up g 1 (upd (g 1) k.toNatClampNeg (a + 1)))) := hD
            refine lv_aload_n hx hb dX1_join_69 rfl (lv_at hl 0 rfl) ?_
            refine va_get (D := D) (ci := 1) (v := .ref (ad 7)) (C := RX1) (T := TX1) (N := 18) hx hb hts hfin hown hK hP 0 rfl rfl 7 (by decide) (hts _ (List.mem_cons_of_mem _ (List.mem_append_left _ (List.mem_of_getElem? (i := 3) rfl)))) (fun _ h9 => h9) rfl dX1_join_70 ?_
            refine lv_iload_n hx hb dX1_join_73 rfl (lv_at hl 1 rfl) ?_
            refine lv_iconst (v := 1) hx hb dX1_join_74 (by decide) ?_
            refine va_zast hx hb hK hP hD hS 5 1 rfl rfl (x_in100 c_5) dX1_join_75 (fun H locs hP hD hS => ?_)
            have hP : va_P D vwCl (mW cA cZ ad (va_up f 0 0) (va_up (va_up g 1 (upd (g 1) k.toNatClampNeg (a + 1))) 7 (upd (g 7) k.toNatClampNeg 1))) H := hP
            have hD : va_D A (mW cA cZ ad (va_up f 0 0) (va_up (va_up g 1 (upd (g 1) k.toNatClampNeg (a + 1))) 7 (upd (g 7) k.toNatClampNeg 1))) := hD
            refine lv_aload_n hx hb dX1_join_76 rfl (lv_at hl 0 rfl) ?_
            refine lv_dup hx hb dX1_join_77 rfl ?_
            refine va_get (D := D) (ci := 1) (v := .int (f 2)) (C := RX1) (T := TX1) (N := 18) hx hb hts hfin hown hK hP 0 rfl rfl 2 (by decide) (hts _ (List.mem_cons_of_mem _ (List.mem_append_left _ (List.mem_of_getElem? (i := 0) rfl)))) (fun _ h9 => h9) rfl dX1_join_78 ?_
            refine lv_iconst (v := 1) hx hb dX1_join_81 (by decide) ?_
            refine lv_iadd hx hb dX1_join_82 ?_
            refine va_put (D := D) (ci := 1) (v := .int ((f 2) + 1)) (ty := .int) (C := RX1) (T := TX1) (N := 18) hx hb hts hfin tyX1 tyX1_ok nmX1 hown hK hP hD hS 0 rfl rfl 2 (by decide) (hts _ (List.mem_cons_of_mem _ (List.mem_append_left _ (List.mem_of_getElem? (i := 0) rfl)))) (fun _ h9 => h9) rfl (by decide +kernel) (rfl) (rfl) (Nat.le_of_ble_eq_true rfl) dX1_join_83 (fun H locs hP hD hS => ?_)
            have hP : va_P D vwCl (mW cA cZ ad (va_up (va_up f 0 0) 2 ((f 2) + 1)) (va_up (va_up g 1 (upd (g 1) k.toNatClampNeg (a + 1))) 7 (upd (g 7) k.toNatClampNeg 1))) H := hP
            have hD : va_D A (mW cA cZ ad (va_up (va_up f 0 0) 2 ((f 2) + 1)) (va_up (va_up g 1 (upd (g 1) k.toNatClampNeg (a + 1))) 7 (upd (g 7) k.toNatClampNeg 1))) := hD
            refine lv_aload_n hx hb dX1_join_86 rfl (lv_at hl 0 rfl) ?_
            refine va_get (D := D) (ci := 1) (v := .int ((f 2) + 1)) (C := RX1) (T := TX1) (N := 18) hx hb hts hfin hown hK hP 0 rfl rfl 2 (by decide) (hts _ (List.mem_cons_of_mem _ (List.mem_append_left _ (List.mem_of_getElem? (i := 0) rfl)))) (fun _ h9 => h9) rfl dX1_join_87 ?_
            exact W.iret (v := (f 2) + 1) hx hb hr (fun t ht hW => ⟨⟨(f 2) + 1, ((va_up (va_up f 0 0) 2 ((f 2) + 1)), (va_up (va_up g 1 (upd (g 1) k.toNatClampNeg (a + 1))) 7 (upd (g 7) k.toNatClampNeg 1))), rfl, (Or.inr (Or.inr (Or.inr (⟨⟨c_5, c_19, c_31, c_40⟩, rfl, rfl, rfl⟩)))), by rw [ht]; exact hP, hD⟩, hS.F ht⟩) hS.2.2 dX1_join_90
          · skip
            exact absurd c_55 (by decide)
        · skip
          refine lv_iconst (v := 3) hx hb dX1_join_43 (by decide) ?_
          refine lv_goto (tgt := 48) hx hb dX1_join_44 (by decide) ?_
          refine va_put (D := D) (ci := 1) (v := .int 3) (ty := .int) (C := RX1) (T := TX1) (N := 18) hx hb hts hfin tyX1 tyX1_ok nmX1 hown hK hP hD hS 0 rfl rfl 0 (by decide) (hts _ (List.mem_cons_of_mem _ (List.mem_append_left _ (List.mem_of_getElem? (i := 1) rfl)))) (fun _ h9 => h9) rfl (by decide +kernel) (rfl) (rfl) (Nat.le_of_ble_eq_true rfl) dX1_join_48 (fun H locs hP hD hS => ?_)
          have hP : va_P D vwCl (mW cA cZ ad (va_up f 0 3) g) H := hP
          have hD : va_D A (mW cA cZ ad (va_up f 0 3) g) := hD
          refine lv_aload_n hx hb dX1_join_51 rfl (lv_at hl 0 rfl) ?_
          refine va_get (D := D) (ci := 1) (v := .int 3) (C := RX1) (T := TX1) (N := 18) hx hb hts hfin hown hK hP 0 rfl rfl 0 (by decide) (hts _ (List.mem_cons_of_mem _ (List.mem_append_left _ (List.mem_of_getElem? (i := 1) rfl)))) (fun _ h9 => h9) rfl dX1_join_52 ?_
          refine lv_if_le (tgt := 60) hx hb dX1_join_55 (by decide) (fun c_55 => ?_) (fun c_55 => ?_)
          · skip
            exact absurd c_55 (by decide)
          · skip
            refine lv_iconst (v := 0) hx hb dX1_join_58 (by decide) ?_
            exact W.iret (v := 0) hx hb hr (fun t ht hW => ⟨⟨0, ((va_up f 0 3), g), rfl, (Or.inr (Or.inr (Or.inl (⟨⟨c_5, c_19, Or.inr c_40⟩, rfl, rfl⟩)))), by rw [ht]; exact hP, hD⟩, hS.F ht⟩) hS.2.2 dX1_join_59
    · have c_19 := bI_0.mp c_19
      refine lv_iconst (v := 2) hx hb dX1_join_22 (by decide) ?_
      refine lv_goto (tgt := 48) hx hb dX1_join_23 (by decide) ?_
      refine va_put (D := D) (ci := 1) (v := .int 2) (ty := .int) (C := RX1) (T := TX1) (N := 18) hx hb hts hfin tyX1 tyX1_ok nmX1 hown hK hP hD hS 0 rfl rfl 0 (by decide) (hts _ (List.mem_cons_of_mem _ (List.mem_append_left _ (List.mem_of_getElem? (i := 1) rfl)))) (fun _ h9 => h9) rfl (by decide +kernel) (rfl) (rfl) (Nat.le_of_ble_eq_true rfl) dX1_join_48 (fun H locs hP hD hS => ?_)
      have hP : va_P D vwCl (mW cA cZ ad (va_up f 0 2) g) H := hP
      have hD : va_D A (mW cA cZ ad (va_up f 0 2) g) := hD
      refine lv_aload_n hx hb dX1_join_51 rfl (lv_at hl 0 rfl) ?_
      refine va_get (D := D) (ci := 1) (v := .int 2) (C := RX1) (T := TX1) (N := 18) hx hb hts hfin hown hK hP 0 rfl rfl 0 (by decide) (hts _ (List.mem_cons_of_mem _ (List.mem_append_left _ (List.mem_of_getElem? (i := 1) rfl)))) (fun _ h9 => h9) rfl dX1_join_52 ?_
      refine lv_if_le (tgt := 60) hx hb dX1_join_55 (by decide) (fun c_55 => ?_) (fun c_55 => ?_)
      · skip
        exact absurd c_55 (by decide)
      · skip
        refine lv_iconst (v := 0) hx hb dX1_join_58 (by decide) ?_
        exact W.iret (v := 0) hx hb hr (fun t ht hW => ⟨⟨0, ((va_up f 0 2), g), rfl, (Or.inr (Or.inl (⟨⟨c_5, c_19⟩, rfl, rfl⟩))), by rw [ht]; exact hP, hD⟩, hS.F ht⟩) hS.2.2 dX1_join_59
  · have c_5 := bI_0.mp c_5
    refine lv_iconst (v := 1) hx hb dX1_join_8 (by decide) ?_
    refine lv_goto (tgt := 48) hx hb dX1_join_9 (by decide) ?_
    refine va_put (D := D) (ci := 1) (v := .int 1) (ty := .int) (C := RX1) (T := TX1) (N := 18) hx hb hts hfin tyX1 tyX1_ok nmX1 hown hK hP hD hS 0 rfl rfl 0 (by decide) (hts _ (List.mem_cons_of_mem _ (List.mem_append_left _ (List.mem_of_getElem? (i := 1) rfl)))) (fun _ h9 => h9) rfl (by decide +kernel) (rfl) (rfl) (Nat.le_of_ble_eq_true rfl) dX1_join_48 (fun H locs hP hD hS => ?_)
    have hP : va_P D vwCl (mW cA cZ ad (va_up f 0 1) g) H := hP
    have hD : va_D A (mW cA cZ ad (va_up f 0 1) g) := hD
    refine lv_aload_n hx hb dX1_join_51 rfl (lv_at hl 0 rfl) ?_
    refine va_get (D := D) (ci := 1) (v := .int 1) (C := RX1) (T := TX1) (N := 18) hx hb hts hfin hown hK hP 0 rfl rfl 0 (by decide) (hts _ (List.mem_cons_of_mem _ (List.mem_append_left _ (List.mem_of_getElem? (i := 1) rfl)))) (fun _ h9 => h9) rfl dX1_join_52 ?_
    refine lv_if_le (tgt := 60) hx hb dX1_join_55 (by decide) (fun c_55 => ?_) (fun c_55 => ?_)
    · skip
      exact absurd c_55 (by decide)
    · skip
      refine lv_iconst (v := 0) hx hb dX1_join_58 (by decide) ?_
      exact W.iret (v := 0) hx hb hr (fun t ht hW => ⟨⟨0, ((va_up f 0 1), g), rfl, (Or.inl (⟨c_5, rfl, rfl⟩)), by rw [ht]; exact hP, hD⟩, hS.F ht⟩) hS.2.2 dX1_join_59
set_option maxHeartbeats 4000000 in
set_option maxRecDepth 100000 in
/-- change -/
theorem c_X1_change (l : Launch) (D : va_G) (cA cZ cL : ClassId) (ad : Nat → Nat) (f : qFs) (g : qGs) (sz : Nat) (k : Int32) (a : Int32) : Met l yX1_change wsX1_change ({ frames := 2, cells := 0, slots := 0, locals := 42 } : Room) (va_Pc [.ref (ad 18), .int k, .int a] (qPreW D (qTy cA cZ cL) (mW cA cZ ad f g) sz)) (va_Qi (fun (z : Int32) (u : qFs × qGs) => ((¬ xKey k) ∧ u.1 = va_up f 0 1 ∧ u.2 = g) ∨ ((xKey k ∧ ¬ xAdr a) ∧ u.1 = va_up f 0 2 ∧ u.2 = g) ∨ ((xKey k ∧ xAdr a ∧ ¬ mThere g k) ∧ u.1 = va_up f 0 3 ∧ u.2 = g) ∨ ((xKey k ∧ xAdr a ∧ mThere g k) ∧ z = g 1 k.toNatClampNeg - 1 ∧ u.1 = va_up f 0 0 ∧ u.2 = va_up (va_up g 1 (upd (g 1) k.toNatClampNeg (a + 1))) 7 (upd (g 7) k.toNatClampNeg 1))) (qAt D (va_A (mW cA cZ ad f g) sz) (fun u : qFs × qGs => mW cA cZ ad u.1 u.2)) (va_A (mW cA cZ ad f g) sz)) 0 0 (va_A (mW cA cZ ad f g) sz) := by
  refine Met.ofW (cc := cX1_change) (maxL := 4) (ret := (some .int)) (by decide) rfl ?_
  intro p e s m args below meth c s₁ B hml hv
  obtain ⟨rfl, hsz, hP, hK, hD0⟩ := hv
  have hx := B.exec
  have hb := B.bytes
  have hr := B.returns
  have hts := atoms_spec (ws := wsX1_change) B.pre
  have hown : s.vm.findClass RX1 = some m.cls := findClass_of_methodNamed B.named
  have hlocks := B.notSynchronized
  subst hsz
  have hD := hD0.self (sz := s.heap.size)
  generalize hAe : va_A (mW cA cZ ad f g) s.heap.size = A at hD ⊢
  have hA : ∀ q : Nat, s.heap.size ≤ q → A q := fun q h => by rw [← hAe]; exact Or.inr h
  have hS : va_S A s.heap s.heap [] := va_S.rf
  have hfin : ∀ w ∈ wsX10, w ∈ wsX1_change := fun w h => (List.mem_cons_of_mem _ (List.mem_append_right _ h))
  have hl := lv_entry ([.ref (ad 18), .int k, .int a]) (n := 4) (Nat.le_of_ble_eq_true rfl)
  rw [lg_entry_eq]
  generalize (lg_sl ([.ref (ad 18), .int k, .int a]) ++ List.replicate (4 - (lg_sl ([.ref (ad 18), .int k, .int a])).length) Slot.unset).toArray = ls at hl ⊢
  have hl : lv_has ls 4 [(0, .ref (ad 18)), (1, .int k), (2, .int a)] := hl
  refine lv_aload_n hx hb dX1_change_0 rfl (lv_at hl 0 rfl) ?_
  refine lv_iload_n hx hb dX1_change_1 rfl (lv_at hl 1 rfl) ?_
  refine vp_callSi (W.runS (As := [.int k]) (rest := [.ref (ad 18)]) ⟨hx, hb, hml, hown, hts⟩ (c_X1_isKey l k) (va_cwS 1 hts gX1_change_X1_isKey rfl rfl rfl (by decide +kernel) ⟨Nat.le_of_ble_eq_true rfl, Nat.le_of_ble_eq_true rfl⟩) ⟨qN_blind, qN_at⟩ rfl rfl hl.1 rfl (lv_room (Nat.le_of_ble_eq_true rfl)) dX1_change_2 ⟨Nat.le_of_ble_eq_true rfl, Nat.le_of_ble_eq_true rfl⟩) (fun z hz => ?_)
  subst hz
  refine lv_if_ne (tgt := 12) hx hb dX1_change_5 (by decide) (fun c_5 => ?_) (fun c_5 => ?_)
  · have c_5 := bI_n.mp c_5
    refine lv_iload_n hx hb dX1_change_12 rfl (lv_at hl 2 rfl) ?_
    refine lv_iconst (v := 0) hx hb dX1_change_13 (by decide) ?_
    refine lv_bipush (v := 39) hx hb dX1_change_14 (by decide) ?_
    refine vp_callSi (W.runS (As := [.int a, .int 0, .int 39]) (rest := [.ref (ad 18)]) ⟨hx, hb, hml, hown, hts⟩ (c_X1_in l a 0 39) (va_cwS 3 hts gX1_change_X1_in rfl rfl rfl (by decide +kernel) ⟨Nat.le_of_ble_eq_true rfl, Nat.le_of_ble_eq_true rfl⟩) ⟨qN_blind, qN_at⟩ rfl rfl hl.1 rfl (lv_room (Nat.le_of_ble_eq_true rfl)) dX1_change_16 ⟨Nat.le_of_ble_eq_true rfl, Nat.le_of_ble_eq_true rfl⟩) (fun z hz => ?_)
    subst hz
    refine lv_topi (fun v_16 hv_16 => ?_)
    have hv_16 : v_16 = bI (xAdr a) := hv_16.trans (bI_congr (in_adr a))
    subst hv_16
    refine lv_if_ne (tgt := 26) hx hb dX1_change_19 (by decide) (fun c_19 => ?_) (fun c_19 => ?_)
    · have c_19 := bI_n.mp c_19
      refine lv_aload_n hx hb dX1_change_26 rfl (lv_at hl 0 rfl) ?_
      refine lv_iload_n hx hb dX1_change_27 rfl (lv_at hl 1 rfl) ?_
      refine vp_callSi (W.runV (As := [.int k]) (rest := [.ref (ad 18)]) ⟨hx, hb, hml, hown, hts⟩ (c_X1_isThere l D cA cZ cL ad f g k c_5) (cwV 1 hts gX1_change_X1_isThere rfl rfl rfl (by decide +kernel) ⟨Nat.le_of_ble_eq_true rfl, Nat.le_of_ble_eq_true rfl⟩) ⟨qPre_blind, va_recv hK hP (ci := 1) (q0 := 0) rfl rfl, qPre_at hP hK⟩ rfl rfl hl.1 rfl (lv_room (Nat.le_of_ble_eq_true rfl)) dX1_change_28 ⟨Nat.le_of_ble_eq_true rfl, Nat.le_of_ble_eq_true rfl⟩) (fun z hz => ?_)
      subst hz
      refine lv_if_eq (tgt := 38) hx hb dX1_change_31 (by decide) (fun c_31 => ?_) (fun c_31 => ?_)
      · have c_31 := bI_0.mp c_31
        refine lv_iconst (v := 3) hx hb dX1_change_38 (by decide) ?_
        refine va_put (D := D) (ci := 1) (v := .int 3) (ty := .int) (C := RX1) (T := TX1) (N := 18) hx hb hts hfin tyX1 tyX1_ok nmX1 hown hK hP hD hS 0 rfl rfl 0 (by decide) (hts _ (List.mem_cons_of_mem _ (List.mem_append_left _ (List.mem_of_getElem? (i := 0) rfl)))) (fun _ h9 => h9) rfl (by decide +kernel) (rfl) (rfl) (Nat.le_of_ble_eq_true rfl) dX1_change_39 (fun H locs hP hD hS => ?_)
        have hP : va_P D vwCl (mW cA cZ ad (va_up f 0 3) g) H := hP
        have hD : va_D A (mW cA cZ ad (va_up f 0 3) g) := hD
        refine lv_aload_n hx hb dX1_change_42 rfl (lv_at hl 0 rfl) ?_
        refine va_get (D := D) (ci := 1) (v := .int 3) (C := RX1) (T := TX1) (N := 18) hx hb hts hfin hown hK hP 0 rfl rfl 0 (by decide) (hts _ (List.mem_cons_of_mem _ (List.mem_append_left _ (List.mem_of_getElem? (i := 0) rfl)))) (fun _ h9 => h9) rfl dX1_change_43 ?_
        refine lv_if_le (tgt := 51) hx hb dX1_change_46 (by decide) (fun c_46 => ?_) (fun c_46 => ?_)
        · skip
          exact absurd c_46 (by decide)
        · skip
          refine lv_iconst (v := 0) hx hb dX1_change_49 (by decide) ?_
          exact W.iret (v := 0) hx hb hr (fun t ht hW => ⟨⟨0, ((va_up f 0 3), g), rfl, (Or.inr (Or.inr (Or.inl (⟨⟨c_5, c_19, c_31⟩, rfl, rfl⟩)))), by rw [ht]; exact hP, hD⟩, hS.F ht⟩) hS.2.2 dX1_change_50
      · have c_31 := bI_n.mp c_31
        refine lv_iconst (v := 0) hx hb dX1_change_34 (by decide) ?_
        refine lv_goto (tgt := 39) hx hb dX1_change_35 (by decide) ?_
        refine va_put (D := D) (ci := 1) (v := .int 0) (ty := .int) (C := RX1) (T := TX1) (N := 18) hx hb hts hfin tyX1 tyX1_ok nmX1 hown hK hP hD hS 0 rfl rfl 0 (by decide) (hts _ (List.mem_cons_of_mem _ (List.mem_append_left _ (List.mem_of_getElem? (i := 0) rfl)))) (fun _ h9 => h9) rfl (by decide +kernel) (rfl) (rfl) (Nat.le_of_ble_eq_true rfl) dX1_change_39 (fun H locs hP hD hS => ?_)
        have hP : va_P D vwCl (mW cA cZ ad (va_up f 0 0) g) H := hP
        have hD : va_D A (mW cA cZ ad (va_up f 0 0) g) := hD
        refine lv_aload_n hx hb dX1_change_42 rfl (lv_at hl 0 rfl) ?_
        refine va_get (D := D) (ci := 1) (v := .int 0) (C := RX1) (T := TX1) (N := 18) hx hb hts hfin hown hK hP 0 rfl rfl 0 (by decide) (hts _ (List.mem_cons_of_mem _ (List.mem_append_left _ (List.mem_of_getElem? (i := 0) rfl)))) (fun _ h9 => h9) rfl dX1_change_43 ?_
        refine lv_if_le (tgt := 51) hx hb dX1_change_46 (by decide) (fun c_46 => ?_) (fun c_46 => ?_)
        · skip
          refine lv_aload_n hx hb dX1_change_51 rfl (lv_at hl 0 rfl) ?_
          refine va_get (D := D) (ci := 1) (v := .ref (ad 1)) (C := RX1) (T := TX1) (N := 18) hx hb hts hfin hown hK hP 0 rfl rfl 1 (by decide) (hts _ (List.mem_cons_of_mem _ (List.mem_append_left _ (List.mem_of_getElem? (i := 1) rfl)))) (fun _ h9 => h9) rfl dX1_change_52 ?_
          refine lv_iload_n hx hb dX1_change_55 rfl (lv_at hl 1 rfl) ?_
          refine va_iald hx hb hK hP 1 0 rfl rfl (x_in100 c_5) dX1_change_56 ?_
          refine lv_iconst (v := 1) hx hb dX1_change_57 (by decide) ?_
          refine lv_isub hx hb dX1_change_58 ?_
          refine lv_istore_n (lv' := [(3, .int ((g 1 k.toNatClampNeg) - 1)), (0, .ref (ad 18)), (1, .int k), (2, .int a)]) hx hb dX1_change_59 rfl hl (by decide) rfl (fun ls hl => ?_)
          refine lv_aload_n hx hb dX1_change_60 rfl (lv_at hl 1 rfl) ?_
          refine va_get (D := D) (ci := 1) (v := .ref (ad 1)) (C := RX1) (T := TX1) (N := 18) hx hb hts hfin hown hK hP 0 rfl rfl 1 (by decide) (hts _ (List.mem_cons_of_mem _ (List.mem_append_left _ (List.mem_of_getElem? (i := 1) rfl)))) (fun _ h9 => h9) rfl dX1_change_61 ?_
          refine lv_iload_n hx hb dX1_change_64 rfl (lv_at hl 2 rfl) ?_
          refine lv_iload_n hx hb dX1_change_65 rfl (lv_at hl 3 rfl) ?_
          refine lv_iconst (v := 1) hx hb dX1_change_66 (by decide) ?_
          refine lv_iadd hx hb dX1_change_67 ?_
          refine va_iast hx hb hK hP hD hS 1 0 rfl rfl (x_in100 c_5) dX1_change_68 (fun H locs hP hD hS => ?_)
          have hP : va_P D vwCl (mW cA cZ ad (va_up f 0 0) (va_up g 1 (upd (g 1) k.toNatClampNeg (a + 1)))) H := hP
          have hD : va_D A (mW cA cZ ad (va_up f 0 0) (va_up g 1 (upd (g 1) k.toNatClampNeg (a + 1)))) := hD
          refine lv_aload_n hx hb dX1_change_69 rfl (lv_at hl 1 rfl) ?_
          refine va_get (D := D) (ci := 1) (v := .ref (ad 7)) (C := RX1) (T := TX1) (N := 18) hx hb hts hfin hown hK hP 0 rfl rfl 7 (by decide) (hts _ (List.mem_cons_of_mem _ (List.mem_append_left _ (List.mem_of_getElem? (i := 2) rfl)))) (fun _ h9 => h9) rfl dX1_change_70 ?_
          refine lv_iload_n hx hb dX1_change_73 rfl (lv_at hl 2 rfl) ?_
          refine lv_iconst (v := 1) hx hb dX1_change_74 (by decide) ?_
          refine va_zast hx hb hK hP hD hS 5 1 rfl rfl (x_in100 c_5) dX1_change_75 (fun H locs hP hD hS => ?_)
          have hP : va_P D vwCl (mW cA cZ ad (va_up f 0 0) (va_up (va_up g 1 (upd (g 1) k.toNatClampNeg (a + 1))) 7 (upd (g 7) k.toNatClampNeg 1))) H := hP
          have hD : va_D A (mW cA cZ ad (va_up f 0 0) (va_up (va_up g 1 (upd (g 1) k.toNatClampNeg (a + 1))) 7 (upd (g 7) k.toNatClampNeg 1))) := hD
          refine lv_iload_n hx hb dX1_change_76 rfl (lv_at hl 0 rfl) ?_
          exact W.iret (v := (g 1 k.toNatClampNeg) - 1) hx hb hr (fun t ht hW => ⟨⟨(g 1 k.toNatClampNeg) - 1, ((va_up f 0 0), (va_up (va_up g 1 (upd (g 1) k.toNatClampNeg (a + 1))) 7 (upd (g 7) k.toNatClampNeg 1))), rfl, (Or.inr (Or.inr (Or.inr (⟨⟨c_5, c_19, c_31⟩, rfl, rfl, rfl⟩)))), by rw [ht]; exact hP, hD⟩, hS.F ht⟩) hS.2.2 dX1_change_77
        · skip
          exact absurd c_46 (by decide)
    · have c_19 := bI_0.mp c_19
      refine lv_iconst (v := 2) hx hb dX1_change_22 (by decide) ?_
      refine lv_goto (tgt := 39) hx hb dX1_change_23 (by decide) ?_
      refine va_put (D := D) (ci := 1) (v := .int 2) (ty := .int) (C := RX1) (T := TX1) (N := 18) hx hb hts hfin tyX1 tyX1_ok nmX1 hown hK hP hD hS 0 rfl rfl 0 (by decide) (hts _ (List.mem_cons_of_mem _ (List.mem_append_left _ (List.mem_of_getElem? (i := 0) rfl)))) (fun _ h9 => h9) rfl (by decide +kernel) (rfl) (rfl) (Nat.le_of_ble_eq_true rfl) dX1_change_39 (fun H locs hP hD hS => ?_)
      have hP : va_P D vwCl (mW cA cZ ad (va_up f 0 2) g) H := hP
      have hD : va_D A (mW cA cZ ad (va_up f 0 2) g) := hD
      refine lv_aload_n hx hb dX1_change_42 rfl (lv_at hl 0 rfl) ?_
      refine va_get (D := D) (ci := 1) (v := .int 2) (C := RX1) (T := TX1) (N := 18) hx hb hts hfin hown hK hP 0 rfl rfl 0 (by decide) (hts _ (List.mem_cons_of_mem _ (List.mem_append_left _ (List.mem_of_getElem? (i := 0) rfl)))) (fun _ h9 => h9) rfl dX1_change_43 ?_
      refine lv_if_le (tgt := 51) hx hb dX1_change_46 (by decide) (fun c_46 => ?_) (fun c_46 => ?_)
      · skip
        exact absurd c_46 (by decide)
      · skip
        refine lv_iconst (v := 0) hx hb dX1_change_49 (by decide) ?_
        exact W.iret (v := 0) hx hb hr (fun t ht hW => ⟨⟨0, ((va_up f 0 2), g), rfl, (Or.inr (Or.inl (⟨⟨c_5, c_19⟩, rfl, rfl⟩))), by rw [ht]; exact hP, hD⟩, hS.F ht⟩) hS.2.2 dX1_change_50
  · have c_5 := bI_0.mp c_5
    refine lv_iconst (v := 1) hx hb dX1_change_8 (by decide) ?_
    refine lv_goto (tgt := 39) hx hb dX1_change_9 (by decide) ?_
    refine va_put (D := D) (ci := 1) (v := .int 1) (ty := .int) (C := RX1) (T := TX1) (N := 18) hx hb hts hfin tyX1 tyX1_ok nmX1 hown hK hP hD hS 0 rfl rfl 0 (by decide) (hts _ (List.mem_cons_of_mem _ (List.mem_append_left _ (List.mem_of_getElem? (i := 0) rfl)))) (fun _ h9 => h9) rfl (by decide +kernel) (rfl) (rfl) (Nat.le_of_ble_eq_true rfl) dX1_change_39 (fun H locs hP hD hS => ?_)
    have hP : va_P D vwCl (mW cA cZ ad (va_up f 0 1) g) H := hP
    have hD : va_D A (mW cA cZ ad (va_up f 0 1) g) := hD
    refine lv_aload_n hx hb dX1_change_42 rfl (lv_at hl 0 rfl) ?_
    refine va_get (D := D) (ci := 1) (v := .int 1) (C := RX1) (T := TX1) (N := 18) hx hb hts hfin hown hK hP 0 rfl rfl 0 (by decide) (hts _ (List.mem_cons_of_mem _ (List.mem_append_left _ (List.mem_of_getElem? (i := 0) rfl)))) (fun _ h9 => h9) rfl dX1_change_43 ?_
    refine lv_if_le (tgt := 51) hx hb dX1_change_46 (by decide) (fun c_46 => ?_) (fun c_46 => ?_)
    · skip
      exact absurd c_46 (by decide)
    · skip
      refine lv_iconst (v := 0) hx hb dX1_change_49 (by decide) ?_
      exact W.iret (v := 0) hx hb hr (fun t ht hW => ⟨⟨0, ((va_up f 0 1), g), rfl, (Or.inl (⟨c_5, rfl, rfl⟩)), by rw [ht]; exact hP, hD⟩, hS.F ht⟩) hS.2.2 dX1_change_50
set_option maxHeartbeats 4000000 in
set_option maxRecDepth 100000 in
/-- leave -/
theorem c_X1_leave (l : Launch) (D : va_G) (cA cZ cL : ClassId) (ad : Nat → Nat) (f : qFs) (g : qGs) (sz : Nat) (k : Int32) : Met l yX1_leave wsX1_leave ({ frames := 2, cells := 0, slots := 0, locals := 42 } : Room) (va_Pc [.ref (ad 18), .int k] (qPreW D (qTy cA cZ cL) (mW cA cZ ad f g) sz)) (va_Qi (fun (z : Int32) (u : qFs × qGs) => ((¬ xKey k) ∧ u.1 = va_up f 0 1 ∧ u.2 = g) ∨ ((xKey k ∧ ¬ mThere g k) ∧ u.1 = va_up f 0 2 ∧ u.2 = g) ∨ ((xKey k ∧ mThere g k) ∧ z = g 1 k.toNatClampNeg - 1 ∧ u.1 = va_up (va_up f 0 0) 2 (f 2 - 1) ∧ u.2 = va_up g 1 (upd (g 1) k.toNatClampNeg 0))) (qAt D (va_A (mW cA cZ ad f g) sz) (fun u : qFs × qGs => mW cA cZ ad u.1 u.2)) (va_A (mW cA cZ ad f g) sz)) 0 0 (va_A (mW cA cZ ad f g) sz) := by
  refine Met.ofW (cc := cX1_leave) (maxL := 3) (ret := (some .int)) (by decide) rfl ?_
  intro p e s m args below meth c s₁ B hml hv
  obtain ⟨rfl, hsz, hP, hK, hD0⟩ := hv
  have hx := B.exec
  have hb := B.bytes
  have hr := B.returns
  have hts := atoms_spec (ws := wsX1_leave) B.pre
  have hown : s.vm.findClass RX1 = some m.cls := findClass_of_methodNamed B.named
  have hlocks := B.notSynchronized
  subst hsz
  have hD := hD0.self (sz := s.heap.size)
  generalize hAe : va_A (mW cA cZ ad f g) s.heap.size = A at hD ⊢
  have hA : ∀ q : Nat, s.heap.size ≤ q → A q := fun q h => by rw [← hAe]; exact Or.inr h
  have hS : va_S A s.heap s.heap [] := va_S.rf
  have hfin : ∀ w ∈ wsX10, w ∈ wsX1_leave := fun w h => (List.mem_cons_of_mem _ (List.mem_append_right _ h))
  have hl := lv_entry ([.ref (ad 18), .int k]) (n := 3) (Nat.le_of_ble_eq_true rfl)
  rw [lg_entry_eq]
  generalize (lg_sl ([.ref (ad 18), .int k]) ++ List.replicate (3 - (lg_sl ([.ref (ad 18), .int k])).length) Slot.unset).toArray = ls at hl ⊢
  have hl : lv_has ls 3 [(0, .ref (ad 18)), (1, .int k)] := hl
  refine lv_aload_n hx hb dX1_leave_0 rfl (lv_at hl 0 rfl) ?_
  refine lv_iload_n hx hb dX1_leave_1 rfl (lv_at hl 1 rfl) ?_
  refine vp_callSi (W.runS (As := [.int k]) (rest := [.ref (ad 18)]) ⟨hx, hb, hml, hown, hts⟩ (c_X1_isKey l k) (va_cwS 1 hts gX1_leave_X1_isKey rfl rfl rfl (by decide +kernel) ⟨Nat.le_of_ble_eq_true rfl, Nat.le_of_ble_eq_true rfl⟩) ⟨qN_blind, qN_at⟩ rfl rfl hl.1 rfl (lv_room (Nat.le_of_ble_eq_true rfl)) dX1_leave_2 ⟨Nat.le_of_ble_eq_true rfl, Nat.le_of_ble_eq_true rfl⟩) (fun z hz => ?_)
  subst hz
  refine lv_if_ne (tgt := 12) hx hb dX1_leave_5 (by decide) (fun c_5 => ?_) (fun c_5 => ?_)
  · have c_5 := bI_n.mp c_5
    refine lv_aload_n hx hb dX1_leave_12 rfl (lv_at hl 0 rfl) ?_
    refine lv_iload_n hx hb dX1_leave_13 rfl (lv_at hl 1 rfl) ?_
    refine vp_callSi (W.runV (As := [.int k]) (rest := [.ref (ad 18)]) ⟨hx, hb, hml, hown, hts⟩ (c_X1_isThere l D cA cZ cL ad f g k c_5) (cwV 1 hts gX1_leave_X1_isThere rfl rfl rfl (by decide +kernel) ⟨Nat.le_of_ble_eq_true rfl, Nat.le_of_ble_eq_true rfl⟩) ⟨qPre_blind, va_recv hK hP (ci := 1) (q0 := 0) rfl rfl, qPre_at hP hK⟩ rfl rfl hl.1 rfl (lv_room (Nat.le_of_ble_eq_true rfl)) dX1_leave_14 ⟨Nat.le_of_ble_eq_true rfl, Nat.le_of_ble_eq_true rfl⟩) (fun z hz => ?_)
    subst hz
    refine lv_if_eq (tgt := 24) hx hb dX1_leave_17 (by decide) (fun c_17 => ?_) (fun c_17 => ?_)
    · have c_17 := bI_0.mp c_17
      refine lv_iconst (v := 2) hx hb dX1_leave_24 (by decide) ?_
      refine va_put (D := D) (ci := 1) (v := .int 2) (ty := .int) (C := RX1) (T := TX1) (N := 18) hx hb hts hfin tyX1 tyX1_ok nmX1 hown hK hP hD hS 0 rfl rfl 0 (by decide) (hts _ (List.mem_cons_of_mem _ (List.mem_append_left _ (List.mem_of_getElem? (i := 0) rfl)))) (fun _ h9 => h9) rfl (by decide +kernel) (rfl) (rfl) (Nat.le_of_ble_eq_true rfl) dX1_leave_25 (fun H locs hP hD hS => ?_)
      have hP : va_P D vwCl (mW cA cZ ad (va_up f 0 2) g) H := hP
      have hD : va_D A (mW cA cZ ad (va_up f 0 2) g) := hD
      refine lv_aload_n hx hb dX1_leave_28 rfl (lv_at hl 0 rfl) ?_
      refine va_get (D := D) (ci := 1) (v := .int 2) (C := RX1) (T := TX1) (N := 18) hx hb hts hfin hown hK hP 0 rfl rfl 0 (by decide) (hts _ (List.mem_cons_of_mem _ (List.mem_append_left _ (List.mem_of_getElem? (i := 0) rfl)))) (fun _ h9 => h9) rfl dX1_leave_29 ?_
      refine lv_if_le (tgt := 37) hx hb dX1_leave_32 (by decide) (fun c_32 => ?_) (fun c_32 => ?_)
      · skip
        exact absurd c_32 (by decide)
      · skip
        refine lv_iconst (v := 0) hx hb dX1_leave_35 (by decide) ?_
        exact W.iret (v := 0) hx hb hr (fun t ht hW => ⟨⟨0, ((va_up f 0 2), g), rfl, (Or.inr (Or.inl (⟨⟨c_5, c_17⟩, rfl, rfl⟩))), by rw [ht]; exact hP, hD⟩, hS.F ht⟩) hS.2.2 dX1_leave_36
    · have c_17 := bI_n.mp c_17
      refine lv_iconst (v := 0) hx hb dX1_leave_20 (by decide) ?_
      refine lv_goto (tgt := 25) hx hb dX1_leave_21 (by decide) ?_
      refine va_put (D := D) (ci := 1) (v := .int 0) (ty := .int) (C := RX1) (T := TX1) (N := 18) hx hb hts hfin tyX1 tyX1_ok nmX1 hown hK hP hD hS 0 rfl rfl 0 (by decide) (hts _ (List.mem_cons_of_mem _ (List.mem_append_left _ (List.mem_of_getElem? (i := 0) rfl)))) (fun _ h9 => h9) rfl (by decide +kernel) (rfl) (rfl) (Nat.le_of_ble_eq_true rfl) dX1_leave_25 (fun H locs hP hD hS => ?_)
      have hP : va_P D vwCl (mW cA cZ ad (va_up f 0 0) g) H := hP
      have hD : va_D A (mW cA cZ ad (va_up f 0 0) g) := hD
      refine lv_aload_n hx hb dX1_leave_28 rfl (lv_at hl 0 rfl) ?_
      refine va_get (D := D) (ci := 1) (v := .int 0) (C := RX1) (T := TX1) (N := 18) hx hb hts hfin hown hK hP 0 rfl rfl 0 (by decide) (hts _ (List.mem_cons_of_mem _ (List.mem_append_left _ (List.mem_of_getElem? (i := 0) rfl)))) (fun _ h9 => h9) rfl dX1_leave_29 ?_
      refine lv_if_le (tgt := 37) hx hb dX1_leave_32 (by decide) (fun c_32 => ?_) (fun c_32 => ?_)
      · skip
        refine lv_aload_n hx hb dX1_leave_37 rfl (lv_at hl 0 rfl) ?_
        refine va_get (D := D) (ci := 1) (v := .ref (ad 1)) (C := RX1) (T := TX1) (N := 18) hx hb hts hfin hown hK hP 0 rfl rfl 1 (by decide) (hts _ (List.mem_cons_of_mem _ (List.mem_append_left _ (List.mem_of_getElem? (i := 1) rfl)))) (fun _ h9 => h9) rfl dX1_leave_38 ?_
        refine lv_iload_n hx hb dX1_leave_41 rfl (lv_at hl 1 rfl) ?_
        refine va_iald hx hb hK hP 1 0 rfl rfl (x_in100 c_5) dX1_leave_42 ?_
        refine lv_iconst (v := 1) hx hb dX1_leave_43 (by decide) ?_
        refine lv_isub hx hb dX1_leave_44 ?_
        refine lv_istore_n (lv' := [(2, .int ((g 1 k.toNatClampNeg) - 1)), (0, .ref (ad 18)), (1, .int k)]) hx hb dX1_leave_45 rfl hl (by decide) rfl (fun ls hl => ?_)
        refine lv_aload_n hx hb dX1_leave_46 rfl (lv_at hl 1 rfl) ?_
        refine va_get (D := D) (ci := 1) (v := .ref (ad 1)) (C := RX1) (T := TX1) (N := 18) hx hb hts hfin hown hK hP 0 rfl rfl 1 (by decide) (hts _ (List.mem_cons_of_mem _ (List.mem_append_left _ (List.mem_of_getElem? (i := 1) rfl)))) (fun _ h9 => h9) rfl dX1_leave_47 ?_
        refine lv_iload_n hx hb dX1_leave_50 rfl (lv_at hl 2 rfl) ?_
        refine lv_iconst (v := 0) hx hb dX1_leave_51 (by decide) ?_
        refine va_iast hx hb hK hP hD hS 1 0 rfl rfl (x_in100 c_5) dX1_leave_52 (fun H locs hP hD hS => ?_)
        have hP : va_P D vwCl (mW cA cZ ad (va_up f 0 0) (va_up g 1 (upd (g 1) k.toNatClampNeg 0))) H := hP
        have hD : va_D A (mW cA cZ ad (va_up f 0 0) (va_up g 1 (upd (g 1) k.toNatClampNeg 0))) := hD
        refine lv_aload_n hx hb dX1_leave_53 rfl (lv_at hl 1 rfl) ?_
        refine lv_dup hx hb dX1_leave_54 rfl ?_
        refine va_get (D := D) (ci := 1) (v := .int (f 2)) (C := RX1) (T := TX1) (N := 18) hx hb hts hfin hown hK hP 0 rfl rfl 2 (by decide) (hts _ (List.mem_cons_of_mem _ (List.mem_append_left _ (List.mem_of_getElem? (i := 2) rfl)))) (fun _ h9 => h9) rfl dX1_leave_55 ?_
        refine lv_iconst (v := 1) hx hb dX1_leave_58 (by decide) ?_
        refine lv_isub hx hb dX1_leave_59 ?_
        refine va_put (D := D) (ci := 1) (v := .int ((f 2) - 1)) (ty := .int) (C := RX1) (T := TX1) (N := 18) hx hb hts hfin tyX1 tyX1_ok nmX1 hown hK hP hD hS 0 rfl rfl 2 (by decide) (hts _ (List.mem_cons_of_mem _ (List.mem_append_left _ (List.mem_of_getElem? (i := 2) rfl)))) (fun _ h9 => h9) rfl (by decide +kernel) (rfl) (rfl) (Nat.le_of_ble_eq_true rfl) dX1_leave_60 (fun H locs hP hD hS => ?_)
        have hP : va_P D vwCl (mW cA cZ ad (va_up (va_up f 0 0) 2 ((f 2) - 1)) (va_up g 1 (upd (g 1) k.toNatClampNeg 0))) H := hP
        have hD : va_D A (mW cA cZ ad (va_up (va_up f 0 0) 2 ((f 2) - 1)) (va_up g 1 (upd (g 1) k.toNatClampNeg 0))) := hD
        refine lv_iload_n hx hb dX1_leave_63 rfl (lv_at hl 0 rfl) ?_
        exact W.iret (v := (g 1 k.toNatClampNeg) - 1) hx hb hr (fun t ht hW => ⟨⟨(g 1 k.toNatClampNeg) - 1, ((va_up (va_up f 0 0) 2 ((f 2) - 1)), (va_up g 1 (upd (g 1) k.toNatClampNeg 0))), rfl, (Or.inr (Or.inr (⟨⟨c_5, c_17⟩, rfl, rfl, rfl⟩))), by rw [ht]; exact hP, hD⟩, hS.F ht⟩) hS.2.2 dX1_leave_64
      · skip
        exact absurd c_32 (by decide)
  · have c_5 := bI_0.mp c_5
    refine lv_iconst (v := 1) hx hb dX1_leave_8 (by decide) ?_
    refine lv_goto (tgt := 25) hx hb dX1_leave_9 (by decide) ?_
    refine va_put (D := D) (ci := 1) (v := .int 1) (ty := .int) (C := RX1) (T := TX1) (N := 18) hx hb hts hfin tyX1 tyX1_ok nmX1 hown hK hP hD hS 0 rfl rfl 0 (by decide) (hts _ (List.mem_cons_of_mem _ (List.mem_append_left _ (List.mem_of_getElem? (i := 0) rfl)))) (fun _ h9 => h9) rfl (by decide +kernel) (rfl) (rfl) (Nat.le_of_ble_eq_true rfl) dX1_leave_25 (fun H locs hP hD hS => ?_)
    have hP : va_P D vwCl (mW cA cZ ad (va_up f 0 1) g) H := hP
    have hD : va_D A (mW cA cZ ad (va_up f 0 1) g) := hD
    refine lv_aload_n hx hb dX1_leave_28 rfl (lv_at hl 0 rfl) ?_
    refine va_get (D := D) (ci := 1) (v := .int 1) (C := RX1) (T := TX1) (N := 18) hx hb hts hfin hown hK hP 0 rfl rfl 0 (by decide) (hts _ (List.mem_cons_of_mem _ (List.mem_append_left _ (List.mem_of_getElem? (i := 0) rfl)))) (fun _ h9 => h9) rfl dX1_leave_29 ?_
    refine lv_if_le (tgt := 37) hx hb dX1_leave_32 (by decide) (fun c_32 => ?_) (fun c_32 => ?_)
    · skip
      exact absurd c_32 (by decide)
    · skip
      refine lv_iconst (v := 0) hx hb dX1_leave_35 (by decide) ?_
      exact W.iret (v := 0) hx hb hr (fun t ht hW => ⟨⟨0, ((va_up f 0 1), g), rfl, (Or.inl (⟨c_5, rfl, rfl⟩)), by rw [ht]; exact hP, hD⟩, hS.F ht⟩) hS.2.2 dX1_leave_36
set_option maxHeartbeats 4000000 in
set_option maxRecDepth 100000 in
/-- address -/
theorem c_X1_address (l : Launch) (D : va_G) (cA cZ cL : ClassId) (ad : Nat → Nat) (f : qFs) (g : qGs) (sz : Nat) (k : Int32) : Met l yX1_address wsX1_address ({ frames := 3, cells := 0, slots := 0, locals := 63 } : Room) (va_Pc [.ref (ad 18), .int k] (qPreW D (qTy cA cZ cL) (mW cA cZ ad f g) sz)) (va_Qi (fun (z : Int32) (u : qFs × qGs) => ((¬ (xKey k)) ∧ u.1 = va_up f 0 1 ∧ u.2 = g) ∨ ((xKey k) ∧ z = g 1 k.toNatClampNeg - 1 ∧ u.1 = va_up f 0 0 ∧ u.2 = g)) (qAt D (va_A (mW cA cZ ad f g) sz) (fun u : qFs × qGs => mW cA cZ ad u.1 u.2)) (va_A (mW cA cZ ad f g) sz)) 0 0 (va_A (mW cA cZ ad f g) sz) := by
  refine Met.ofW (cc := cX1_address) (maxL := 2) (ret := (some .int)) (by decide) rfl ?_
  intro p e s m args below meth c s₁ B hml hv
  obtain ⟨rfl, hsz, hP, hK, hD0⟩ := hv
  have hx := B.exec
  have hb := B.bytes
  have hr := B.returns
  have hts := atoms_spec (ws := wsX1_address) B.pre
  have hown : s.vm.findClass RX1 = some m.cls := findClass_of_methodNamed B.named
  have hlocks := B.notSynchronized
  subst hsz
  have hD := hD0.self (sz := s.heap.size)
  generalize hAe : va_A (mW cA cZ ad f g) s.heap.size = A at hD ⊢
  have hA : ∀ q : Nat, s.heap.size ≤ q → A q := fun q h => by rw [← hAe]; exact Or.inr h
  have hS : va_S A s.heap s.heap [] := va_S.rf
  have hfin : ∀ w ∈ wsX10, w ∈ wsX1_address := fun w h => (List.mem_cons_of_mem _ (List.mem_append_right _ h))
  have hl := lv_entry ([.ref (ad 18), .int k]) (n := 2) (Nat.le_of_ble_eq_true rfl)
  rw [lg_entry_eq]
  generalize (lg_sl ([.ref (ad 18), .int k]) ++ List.replicate (2 - (lg_sl ([.ref (ad 18), .int k])).length) Slot.unset).toArray = ls at hl ⊢
  have hl : lv_has ls 2 [(0, .ref (ad 18)), (1, .int k)] := hl
  refine lv_aload_n hx hb dX1_address_0 rfl (lv_at hl 0 rfl) ?_
  refine lv_iload_n hx hb dX1_address_1 rfl (lv_at hl 1 rfl) ?_
  refine qb_calli (va_runV (As := [.int k]) (rest := []) ⟨hx, hb, hml, hown, hts⟩ (c_X1_asksKey l D cA cZ cL ad f g s.heap.size k) (cwV 1 hts gX1_address_X1_asksKey rfl rfl rfl (by decide +kernel) ⟨Nat.le_of_ble_eq_true rfl, Nat.le_of_ble_eq_true rfl⟩) ⟨qPreW_blind, va_recv hK hP (ci := 1) (q0 := 0) rfl rfl, qPreW_at hP hK hD⟩ rfl rfl hl.1 rfl (lv_room (Nat.le_of_ble_eq_true rfl)) dX1_address_2 ⟨Nat.le_of_ble_eq_true rfl, Nat.le_of_ble_eq_true rfl⟩) hD hS hA (fun r_2 u H locs hu hP hD hS => ?_)
  obtain ⟨uf, ug⟩ := u
  obtain ⟨hr_2, hu1, hu2⟩ := hu
  have hu1 : uf = va_up f 0 (if xKey k then 0 else 1) := hu1
  have hu2 : ug = g := hu2
  have hP : va_P D vwCl (mW cA cZ ad uf ug) H := hP
  have hD : va_D A (mW cA cZ ad uf ug) := hD
  rw [hu1, hu2] at hP hD
  have hP : va_P D vwCl (mW cA cZ ad (va_up f 0 (if xKey k then 0 else 1)) g) H := hP
  have hD : va_D A (mW cA cZ ad (va_up f 0 (if xKey k then 0 else 1)) g) := hD
  have hr_2 : r_2 = bI (xKey k) := hr_2
  subst hr_2
  refine lv_if_eq (tgt := 19) hx hb dX1_address_5 (by decide) (fun c_5 => ?_) (fun c_5 => ?_)
  · have c_5 := bI_0.mp c_5
    refine lv_iconst (v := 0) hx hb dX1_address_19 (by decide) ?_
    exact W.iret (v := 0) hx hb hr (fun t ht hW => ⟨⟨0, ((va_up f 0 (if xKey k then 0 else 1)), g), rfl, (Or.inl (⟨c_5, (by rw [if_neg c_5]), rfl⟩)), by rw [ht]; exact hP, hD⟩, hS.F ht⟩) hS.2.2 dX1_address_20
  · have c_5 := bI_n.mp c_5
    refine lv_aload_n hx hb dX1_address_8 rfl (lv_at hl 0 rfl) ?_
    refine va_get (D := D) (ci := 1) (v := .ref (ad 1)) (C := RX1) (T := TX1) (N := 18) hx hb hts hfin hown hK hP 0 rfl rfl 1 (by decide) (hts _ (List.mem_cons_of_mem _ (List.mem_append_left _ (List.mem_of_getElem? (i := 0) rfl)))) (fun _ h9 => h9) rfl dX1_address_9 ?_
    refine lv_iload_n hx hb dX1_address_12 rfl (lv_at hl 1 rfl) ?_
    refine va_iald hx hb hK hP 1 0 rfl rfl (x_in100 c_5) dX1_address_13 ?_
    refine lv_iconst (v := 1) hx hb dX1_address_14 (by decide) ?_
    refine lv_isub hx hb dX1_address_15 ?_
    refine lv_goto (tgt := 20) hx hb dX1_address_16 (by decide) ?_
    exact W.iret (v := (g 1 k.toNatClampNeg) - 1) hx hb hr (fun t ht hW => ⟨⟨(g 1 k.toNatClampNeg) - 1, ((va_up f 0 (if xKey k then 0 else 1)), g), rfl, (Or.inr (⟨c_5, rfl, (by rw [if_pos c_5]), rfl⟩)), by rw [ht]; exact hP, hD⟩, hS.F ht⟩) hS.2.2 dX1_address_20
set_option maxHeartbeats 4000000 in
set_option maxRecDepth 100000 in
/-- rangeOf -/
theorem c_X1_rangeOf (l : Launch) (D : va_G) (cA cZ cL : ClassId) (ad : Nat → Nat) (f : qFs) (g : qGs) (sz : Nat) (k : Int32) (nR : Nat) (nB : Nat) (hI : mI nR nB f) : Met l yX1_rangeOf wsX1_rangeOf ({ frames := 3, cells := 0, slots := 0, locals := 63 } : Room) (va_Pc [.ref (ad 18), .int k] (qPreW D (qTy cA cZ cL) (mW cA cZ ad f g) sz)) (va_Qi (fun (z : Int32) (u : qFs × qGs) => ((¬ (xKey k)) ∧ u.1 = va_up f 0 1 ∧ u.2 = g) ∨ ((xKey k) ∧ z = nI (mAtN (g 4) k nR) ∧ u.1 = va_up f 0 0 ∧ u.2 = g)) (qAt D (va_A (mW cA cZ ad f g) sz) (fun u : qFs × qGs => mW cA cZ ad u.1 u.2)) (va_A (mW cA cZ ad f g) sz)) 0 0 (va_A (mW cA cZ ad f g) sz) := by
  refine Met.ofW (cc := cX1_rangeOf) (maxL := 2) (ret := (some .int)) (by decide) rfl ?_
  intro p e s m args below meth c s₁ B hml hv
  obtain ⟨rfl, hsz, hP, hK, hD0⟩ := hv
  have hx := B.exec
  have hb := B.bytes
  have hr := B.returns
  have hts := atoms_spec (ws := wsX1_rangeOf) B.pre
  have hown : s.vm.findClass RX1 = some m.cls := findClass_of_methodNamed B.named
  have hlocks := B.notSynchronized
  subst hsz
  have hD := hD0.self (sz := s.heap.size)
  generalize hAe : va_A (mW cA cZ ad f g) s.heap.size = A at hD ⊢
  have hA : ∀ q : Nat, s.heap.size ≤ q → A q := fun q h => by rw [← hAe]; exact Or.inr h
  have hS : va_S A s.heap s.heap [] := va_S.rf
  have hfin : ∀ w ∈ wsX10, w ∈ wsX1_rangeOf := fun w h => (List.mem_cons_of_mem _ (List.mem_append_right _ h))
  have hl := lv_entry ([.ref (ad 18), .int k]) (n := 2) (Nat.le_of_ble_eq_true rfl)
  rw [lg_entry_eq]
  generalize (lg_sl ([.ref (ad 18), .int k]) ++ List.replicate (2 - (lg_sl ([.ref (ad 18), .int k])).length) Slot.unset).toArray = ls at hl ⊢
  have hl : lv_has ls 2 [(0, .ref (ad 18)), (1, .int k)] := hl
  refine lv_aload_n hx hb dX1_rangeOf_0 rfl (lv_at hl 0 rfl) ?_
  refine lv_iload_n hx hb dX1_rangeOf_1 rfl (lv_at hl 1 rfl) ?_
  refine qb_calli (va_runV (As := [.int k]) (rest := []) ⟨hx, hb, hml, hown, hts⟩ (c_X1_asksKey l D cA cZ cL ad f g s.heap.size k) (cwV 1 hts gX1_rangeOf_X1_asksKey rfl rfl rfl (by decide +kernel) ⟨Nat.le_of_ble_eq_true rfl, Nat.le_of_ble_eq_true rfl⟩) ⟨qPreW_blind, va_recv hK hP (ci := 1) (q0 := 0) rfl rfl, qPreW_at hP hK hD⟩ rfl rfl hl.1 rfl (lv_room (Nat.le_of_ble_eq_true rfl)) dX1_rangeOf_2 ⟨Nat.le_of_ble_eq_true rfl, Nat.le_of_ble_eq_true rfl⟩) hD hS hA (fun r_2 u H locs hu hP hD hS => ?_)
  obtain ⟨uf, ug⟩ := u
  obtain ⟨hr_2, hu1, hu2⟩ := hu
  have hu1 : uf = va_up f 0 (if xKey k then 0 else 1) := hu1
  have hu2 : ug = g := hu2
  have hP : va_P D vwCl (mW cA cZ ad uf ug) H := hP
  have hD : va_D A (mW cA cZ ad uf ug) := hD
  rw [hu1, hu2] at hP hD
  have hP : va_P D vwCl (mW cA cZ ad (va_up f 0 (if xKey k then 0 else 1)) g) H := hP
  have hD : va_D A (mW cA cZ ad (va_up f 0 (if xKey k then 0 else 1)) g) := hD
  have hr_2 : r_2 = bI (xKey k) := hr_2
  subst hr_2
  refine lv_if_eq (tgt := 16) hx hb dX1_rangeOf_5 (by decide) (fun c_5 => ?_) (fun c_5 => ?_)
  · have c_5 := bI_0.mp c_5
    refine lv_iconst (v := 0) hx hb dX1_rangeOf_16 (by decide) ?_
    exact W.iret (v := 0) hx hb hr (fun t ht hW => ⟨⟨0, ((va_up f 0 (if xKey k then 0 else 1)), g), rfl, (Or.inl (⟨c_5, (by rw [if_neg c_5]), rfl⟩)), by rw [ht]; exact hP, hD⟩, hS.F ht⟩) hS.2.2 dX1_rangeOf_17
  · have c_5 := bI_n.mp c_5
    refine lv_aload_n hx hb dX1_rangeOf_8 rfl (lv_at hl 0 rfl) ?_
    refine lv_iload_n hx hb dX1_rangeOf_9 rfl (lv_at hl 1 rfl) ?_
    refine vp_callSi (W.runV (As := [.int k]) (rest := []) ⟨hx, hb, hml, hown, hts⟩ (c_X1_rangeAt l D cA cZ cL ad (va_up f 0 (if xKey k then 0 else 1)) g k nR nB hI) (cwV 1 hts gX1_rangeOf_X1_rangeAt rfl rfl rfl (by decide +kernel) ⟨Nat.le_of_ble_eq_true rfl, Nat.le_of_ble_eq_true rfl⟩) ⟨qPre_blind, va_recv hK hP (ci := 1) (q0 := 0) rfl rfl, qPre_at hP hK⟩ rfl rfl hl.1 rfl (lv_room (Nat.le_of_ble_eq_true rfl)) dX1_rangeOf_10 ⟨Nat.le_of_ble_eq_true rfl, Nat.le_of_ble_eq_true rfl⟩) (fun z hz => ?_)
    subst hz
    refine lv_goto (tgt := 17) hx hb dX1_rangeOf_13 (by decide) ?_
    exact W.iret (v := nI (mAtN (g 4) k nR)) hx hb hr (fun t ht hW => ⟨⟨nI (mAtN (g 4) k nR), ((va_up f 0 (if xKey k then 0 else 1)), g), rfl, (Or.inr (⟨c_5, rfl, (by rw [if_pos c_5]), rfl⟩)), by rw [ht]; exact hP, hD⟩, hS.F ht⟩) hS.2.2 dX1_rangeOf_17
set_option maxHeartbeats 4000000 in
set_option maxRecDepth 100000 in
/-- sentTo -/
theorem c_X1_sentTo (l : Launch) (D : va_G) (cA cZ cL : ClassId) (ad : Nat → Nat) (f : qFs) (g : qGs) (sz : Nat) (b : Int32) (nR : Nat) (nB : Nat) (hI : mI nR nB f) : Met l yX1_sentTo wsX1_sentTo ({ frames := 2, cells := 0, slots := 0, locals := 43 } : Room) (va_Pc [.ref (ad 18), .int b] (qPreW D (qTy cA cZ cL) (mW cA cZ ad f g) sz)) (va_Qi (fun (z : Int32) (u : qFs × qGs) => ((¬ (mBallot f b)) ∧ u.1 = va_up f 0 1 ∧ u.2 = g) ∨ ((mBallot f b) ∧ z = g 13 b.toNatClampNeg ∧ u.1 = va_up f 0 0 ∧ u.2 = g)) (qAt D (va_A (mW cA cZ ad f g) sz) (fun u : qFs × qGs => mW cA cZ ad u.1 u.2)) (va_A (mW cA cZ ad f g) sz)) 0 0 (va_A (mW cA cZ ad f g) sz) := by
  refine Met.ofW (cc := cX1_sentTo) (maxL := 2) (ret := (some .int)) (by decide) rfl ?_
  intro p e s m args below meth c s₁ B hml hv
  obtain ⟨rfl, hsz, hP, hK, hD0⟩ := hv
  have hx := B.exec
  have hb := B.bytes
  have hr := B.returns
  have hts := atoms_spec (ws := wsX1_sentTo) B.pre
  have hown : s.vm.findClass RX1 = some m.cls := findClass_of_methodNamed B.named
  have hlocks := B.notSynchronized
  subst hsz
  have hD := hD0.self (sz := s.heap.size)
  generalize hAe : va_A (mW cA cZ ad f g) s.heap.size = A at hD ⊢
  have hA : ∀ q : Nat, s.heap.size ≤ q → A q := fun q h => by rw [← hAe]; exact Or.inr h
  have hS : va_S A s.heap s.heap [] := va_S.rf
  have hfin : ∀ w ∈ wsX10, w ∈ wsX1_sentTo := fun w h => (List.mem_cons_of_mem _ (List.mem_append_right _ h))
  have hl := lv_entry ([.ref (ad 18), .int b]) (n := 2) (Nat.le_of_ble_eq_true rfl)
  rw [lg_entry_eq]
  generalize (lg_sl ([.ref (ad 18), .int b]) ++ List.replicate (2 - (lg_sl ([.ref (ad 18), .int b])).length) Slot.unset).toArray = ls at hl ⊢
  have hl : lv_has ls 2 [(0, .ref (ad 18)), (1, .int b)] := hl
  refine lv_aload_n hx hb dX1_sentTo_0 rfl (lv_at hl 0 rfl) ?_
  refine lv_iload_n hx hb dX1_sentTo_1 rfl (lv_at hl 1 rfl) ?_
  refine qb_calli (va_runV (As := [.int b]) (rest := []) ⟨hx, hb, hml, hown, hts⟩ (c_X1_asksBallot l D cA cZ cL ad f g s.heap.size b nR nB hI) (cwV 1 hts gX1_sentTo_X1_asksBallot rfl rfl rfl (by decide +kernel) ⟨Nat.le_of_ble_eq_true rfl, Nat.le_of_ble_eq_true rfl⟩) ⟨qPreW_blind, va_recv hK hP (ci := 1) (q0 := 0) rfl rfl, qPreW_at hP hK hD⟩ rfl rfl hl.1 rfl (lv_room (Nat.le_of_ble_eq_true rfl)) dX1_sentTo_2 ⟨Nat.le_of_ble_eq_true rfl, Nat.le_of_ble_eq_true rfl⟩) hD hS hA (fun r_2 u H locs hu hP hD hS => ?_)
  obtain ⟨uf, ug⟩ := u
  obtain ⟨hr_2, hu1, hu2⟩ := hu
  have hu1 : uf = va_up f 0 (if mBallot f b then 0 else 1) := hu1
  have hu2 : ug = g := hu2
  have hP : va_P D vwCl (mW cA cZ ad uf ug) H := hP
  have hD : va_D A (mW cA cZ ad uf ug) := hD
  rw [hu1, hu2] at hP hD
  have hP : va_P D vwCl (mW cA cZ ad (va_up f 0 (if mBallot f b then 0 else 1)) g) H := hP
  have hD : va_D A (mW cA cZ ad (va_up f 0 (if mBallot f b then 0 else 1)) g) := hD
  have hr_2 : r_2 = bI (mBallot f b) := hr_2
  subst hr_2
  refine lv_if_eq (tgt := 17) hx hb dX1_sentTo_5 (by decide) (fun c_5 => ?_) (fun c_5 => ?_)
  · have c_5 := bI_0.mp c_5
    refine lv_iconst (v := 0) hx hb dX1_sentTo_17 (by decide) ?_
    exact W.iret (v := 0) hx hb hr (fun t ht hW => ⟨⟨0, ((va_up f 0 (if mBallot f b then 0 else 1)), g), rfl, (Or.inl (⟨c_5, (by rw [if_neg c_5]), rfl⟩)), by rw [ht]; exact hP, hD⟩, hS.F ht⟩) hS.2.2 dX1_sentTo_18
  · have c_5 := bI_n.mp c_5
    refine lv_aload_n hx hb dX1_sentTo_8 rfl (lv_at hl 0 rfl) ?_
    refine va_get (D := D) (ci := 1) (v := .ref (ad 13)) (C := RX1) (T := TX1) (N := 18) hx hb hts hfin hown hK hP 0 rfl rfl 13 (by decide) (hts _ (List.mem_cons_of_mem _ (List.mem_append_left _ (List.mem_of_getElem? (i := 0) rfl)))) (fun _ h9 => h9) rfl dX1_sentTo_9 ?_
    refine lv_iload_n hx hb dX1_sentTo_12 rfl (lv_at hl 1 rfl) ?_
    refine va_iald hx hb hK hP 8 0 rfl rfl (m_in60 hI c_5) dX1_sentTo_13 ?_
    refine lv_goto (tgt := 18) hx hb dX1_sentTo_14 (by decide) ?_
    exact W.iret (v := g 13 b.toNatClampNeg) hx hb hr (fun t ht hW => ⟨⟨g 13 b.toNatClampNeg, ((va_up f 0 (if mBallot f b then 0 else 1)), g), rfl, (Or.inr (⟨c_5, rfl, (by rw [if_pos c_5]), rfl⟩)), by rw [ht]; exact hP, hD⟩, hS.F ht⟩) hS.2.2 dX1_sentTo_18
set_option maxHeartbeats 4000000 in
set_option maxRecDepth 100000 in
/-- stateOf -/
theorem c_X1_stateOf (l : Launch) (D : va_G) (cA cZ cL : ClassId) (ad : Nat → Nat) (f : qFs) (g : qGs) (sz : Nat) (b : Int32) (nR : Nat) (nB : Nat) (hI : mI nR nB f) : Met l yX1_stateOf wsX1_stateOf ({ frames := 2, cells := 0, slots := 0, locals := 43 } : Room) (va_Pc [.ref (ad 18), .int b] (qPreW D (qTy cA cZ cL) (mW cA cZ ad f g) sz)) (va_Qi (fun (z : Int32) (u : qFs × qGs) => ((¬ (mBallot f b)) ∧ u.1 = va_up f 0 1 ∧ u.2 = g) ∨ ((mBallot f b) ∧ z = g 14 b.toNatClampNeg ∧ u.1 = va_up f 0 0 ∧ u.2 = g)) (qAt D (va_A (mW cA cZ ad f g) sz) (fun u : qFs × qGs => mW cA cZ ad u.1 u.2)) (va_A (mW cA cZ ad f g) sz)) 0 0 (va_A (mW cA cZ ad f g) sz) := by
  refine Met.ofW (cc := cX1_stateOf) (maxL := 2) (ret := (some .int)) (by decide) rfl ?_
  intro p e s m args below meth c s₁ B hml hv
  obtain ⟨rfl, hsz, hP, hK, hD0⟩ := hv
  have hx := B.exec
  have hb := B.bytes
  have hr := B.returns
  have hts := atoms_spec (ws := wsX1_stateOf) B.pre
  have hown : s.vm.findClass RX1 = some m.cls := findClass_of_methodNamed B.named
  have hlocks := B.notSynchronized
  subst hsz
  have hD := hD0.self (sz := s.heap.size)
  generalize hAe : va_A (mW cA cZ ad f g) s.heap.size = A at hD ⊢
  have hA : ∀ q : Nat, s.heap.size ≤ q → A q := fun q h => by rw [← hAe]; exact Or.inr h
  have hS : va_S A s.heap s.heap [] := va_S.rf
  have hfin : ∀ w ∈ wsX10, w ∈ wsX1_stateOf := fun w h => (List.mem_cons_of_mem _ (List.mem_append_right _ h))
  have hl := lv_entry ([.ref (ad 18), .int b]) (n := 2) (Nat.le_of_ble_eq_true rfl)
  rw [lg_entry_eq]
  generalize (lg_sl ([.ref (ad 18), .int b]) ++ List.replicate (2 - (lg_sl ([.ref (ad 18), .int b])).length) Slot.unset).toArray = ls at hl ⊢
  have hl : lv_has ls 2 [(0, .ref (ad 18)), (1, .int b)] := hl
  refine lv_aload_n hx hb dX1_stateOf_0 rfl (lv_at hl 0 rfl) ?_
  refine lv_iload_n hx hb dX1_stateOf_1 rfl (lv_at hl 1 rfl) ?_
  refine qb_calli (va_runV (As := [.int b]) (rest := []) ⟨hx, hb, hml, hown, hts⟩ (c_X1_asksBallot l D cA cZ cL ad f g s.heap.size b nR nB hI) (cwV 1 hts gX1_stateOf_X1_asksBallot rfl rfl rfl (by decide +kernel) ⟨Nat.le_of_ble_eq_true rfl, Nat.le_of_ble_eq_true rfl⟩) ⟨qPreW_blind, va_recv hK hP (ci := 1) (q0 := 0) rfl rfl, qPreW_at hP hK hD⟩ rfl rfl hl.1 rfl (lv_room (Nat.le_of_ble_eq_true rfl)) dX1_stateOf_2 ⟨Nat.le_of_ble_eq_true rfl, Nat.le_of_ble_eq_true rfl⟩) hD hS hA (fun r_2 u H locs hu hP hD hS => ?_)
  obtain ⟨uf, ug⟩ := u
  obtain ⟨hr_2, hu1, hu2⟩ := hu
  have hu1 : uf = va_up f 0 (if mBallot f b then 0 else 1) := hu1
  have hu2 : ug = g := hu2
  have hP : va_P D vwCl (mW cA cZ ad uf ug) H := hP
  have hD : va_D A (mW cA cZ ad uf ug) := hD
  rw [hu1, hu2] at hP hD
  have hP : va_P D vwCl (mW cA cZ ad (va_up f 0 (if mBallot f b then 0 else 1)) g) H := hP
  have hD : va_D A (mW cA cZ ad (va_up f 0 (if mBallot f b then 0 else 1)) g) := hD
  have hr_2 : r_2 = bI (mBallot f b) := hr_2
  subst hr_2
  refine lv_if_eq (tgt := 17) hx hb dX1_stateOf_5 (by decide) (fun c_5 => ?_) (fun c_5 => ?_)
  · have c_5 := bI_0.mp c_5
    refine lv_iconst (v := 0) hx hb dX1_stateOf_17 (by decide) ?_
    exact W.iret (v := 0) hx hb hr (fun t ht hW => ⟨⟨0, ((va_up f 0 (if mBallot f b then 0 else 1)), g), rfl, (Or.inl (⟨c_5, (by rw [if_neg c_5]), rfl⟩)), by rw [ht]; exact hP, hD⟩, hS.F ht⟩) hS.2.2 dX1_stateOf_18
  · have c_5 := bI_n.mp c_5
    refine lv_aload_n hx hb dX1_stateOf_8 rfl (lv_at hl 0 rfl) ?_
    refine va_get (D := D) (ci := 1) (v := .ref (ad 14)) (C := RX1) (T := TX1) (N := 18) hx hb hts hfin hown hK hP 0 rfl rfl 14 (by decide) (hts _ (List.mem_cons_of_mem _ (List.mem_append_left _ (List.mem_of_getElem? (i := 0) rfl)))) (fun _ h9 => h9) rfl dX1_stateOf_9 ?_
    refine lv_iload_n hx hb dX1_stateOf_12 rfl (lv_at hl 1 rfl) ?_
    refine va_iald hx hb hK hP 9 0 rfl rfl (m_in60 hI c_5) dX1_stateOf_13 ?_
    refine lv_goto (tgt := 18) hx hb dX1_stateOf_14 (by decide) ?_
    exact W.iret (v := g 14 b.toNatClampNeg) hx hb hr (fun t ht hW => ⟨⟨g 14 b.toNatClampNeg, ((va_up f 0 (if mBallot f b then 0 else 1)), g), rfl, (Or.inr (⟨c_5, rfl, (by rw [if_pos c_5]), rfl⟩)), by rw [ht]; exact hP, hD⟩, hS.F ht⟩) hS.2.2 dX1_stateOf_18
set_option maxHeartbeats 4000000 in
set_option maxRecDepth 100000 in
/-- onRoll -/
theorem c_X1_onRoll (l : Launch) (D : va_G) (cA cZ cL : ClassId) (ad : Nat → Nat) (f : qFs) (g : qGs) (sz : Nat) (k : Int32) : Met l yX1_onRoll wsX1_onRoll ({ frames := 3, cells := 0, slots := 0, locals := 63 } : Room) (va_Pc [.ref (ad 18), .int k] (qPreW D (qTy cA cZ cL) (mW cA cZ ad f g) sz)) (va_Qi (fun (z : Int32) (u : qFs × qGs) => ((¬ (xKey k)) ∧ u.1 = va_up f 0 1 ∧ u.2 = g) ∨ ((xKey k) ∧ z = (if f 8 = 0 then -1 else g 10 k.toNatClampNeg - 1) ∧ u.1 = va_up f 0 0 ∧ u.2 = g)) (qAt D (va_A (mW cA cZ ad f g) sz) (fun u : qFs × qGs => mW cA cZ ad u.1 u.2)) (va_A (mW cA cZ ad f g) sz)) 0 0 (va_A (mW cA cZ ad f g) sz) := by
  refine Met.ofW (cc := cX1_onRoll) (maxL := 2) (ret := (some .int)) (by decide) rfl ?_
  intro p e s m args below meth c s₁ B hml hv
  obtain ⟨rfl, hsz, hP, hK, hD0⟩ := hv
  have hx := B.exec
  have hb := B.bytes
  have hr := B.returns
  have hts := atoms_spec (ws := wsX1_onRoll) B.pre
  have hown : s.vm.findClass RX1 = some m.cls := findClass_of_methodNamed B.named
  have hlocks := B.notSynchronized
  subst hsz
  have hD := hD0.self (sz := s.heap.size)
  generalize hAe : va_A (mW cA cZ ad f g) s.heap.size = A at hD ⊢
  have hA : ∀ q : Nat, s.heap.size ≤ q → A q := fun q h => by rw [← hAe]; exact Or.inr h
  have hS : va_S A s.heap s.heap [] := va_S.rf
  have hfin : ∀ w ∈ wsX10, w ∈ wsX1_onRoll := fun w h => (List.mem_cons_of_mem _ (List.mem_append_right _ h))
  have hl := lv_entry ([.ref (ad 18), .int k]) (n := 2) (Nat.le_of_ble_eq_true rfl)
  rw [lg_entry_eq]
  generalize (lg_sl ([.ref (ad 18), .int k]) ++ List.replicate (2 - (lg_sl ([.ref (ad 18), .int k])).length) Slot.unset).toArray = ls at hl ⊢
  have hl : lv_has ls 2 [(0, .ref (ad 18)), (1, .int k)] := hl
  refine lv_aload_n hx hb dX1_onRoll_0 rfl (lv_at hl 0 rfl) ?_
  refine lv_iload_n hx hb dX1_onRoll_1 rfl (lv_at hl 1 rfl) ?_
  refine qb_calli (va_runV (As := [.int k]) (rest := []) ⟨hx, hb, hml, hown, hts⟩ (c_X1_asksKey l D cA cZ cL ad f g s.heap.size k) (cwV 1 hts gX1_onRoll_X1_asksKey rfl rfl rfl (by decide +kernel) ⟨Nat.le_of_ble_eq_true rfl, Nat.le_of_ble_eq_true rfl⟩) ⟨qPreW_blind, va_recv hK hP (ci := 1) (q0 := 0) rfl rfl, qPreW_at hP hK hD⟩ rfl rfl hl.1 rfl (lv_room (Nat.le_of_ble_eq_true rfl)) dX1_onRoll_2 ⟨Nat.le_of_ble_eq_true rfl, Nat.le_of_ble_eq_true rfl⟩) hD hS hA (fun r_2 u H locs hu hP hD hS => ?_)
  obtain ⟨uf, ug⟩ := u
  obtain ⟨hr_2, hu1, hu2⟩ := hu
  have hu1 : uf = va_up f 0 (if xKey k then 0 else 1) := hu1
  have hu2 : ug = g := hu2
  have hP : va_P D vwCl (mW cA cZ ad uf ug) H := hP
  have hD : va_D A (mW cA cZ ad uf ug) := hD
  rw [hu1, hu2] at hP hD
  have hP : va_P D vwCl (mW cA cZ ad (va_up f 0 (if xKey k then 0 else 1)) g) H := hP
  have hD : va_D A (mW cA cZ ad (va_up f 0 (if xKey k then 0 else 1)) g) := hD
  have hr_2 : r_2 = bI (xKey k) := hr_2
  subst hr_2
  refine lv_if_ne (tgt := 12) hx hb dX1_onRoll_5 (by decide) (fun c_5 => ?_) (fun c_5 => ?_)
  · have c_5 := bI_n.mp c_5
    refine lv_aload_n hx hb dX1_onRoll_12 rfl (lv_at hl 0 rfl) ?_
    refine va_get (D := D) (ci := 1) (v := .int ((va_up f 0 (if xKey k then 0 else 1)) 8)) (C := RX1) (T := TX1) (N := 18) hx hb hts hfin hown hK hP 0 rfl rfl 8 (by decide) (hts _ (List.mem_cons_of_mem _ (List.mem_append_left _ (List.mem_of_getElem? (i := 0) rfl)))) (fun _ h9 => h9) rfl dX1_onRoll_13 ?_
    refine lv_if_eq (tgt := 30) hx hb dX1_onRoll_16 (by decide) (fun c_16 => ?_) (fun c_16 => ?_)
    · skip
      refine lv_iconst (v := (-1)) hx hb dX1_onRoll_30 (by decide) ?_
      exact W.iret (v := (-1)) hx hb hr (fun t ht hW => ⟨⟨(-1), ((va_up f 0 (if xKey k then 0 else 1)), g), rfl, (Or.inr (⟨c_5, (by rw [if_pos (show f 8 = 0 from c_16)]), (by rw [if_pos c_5]), rfl⟩)), by rw [ht]; exact hP, hD⟩, hS.F ht⟩) hS.2.2 dX1_onRoll_31
    · skip
      refine lv_aload_n hx hb dX1_onRoll_19 rfl (lv_at hl 0 rfl) ?_
      refine va_get (D := D) (ci := 1) (v := .ref (ad 10)) (C := RX1) (T := TX1) (N := 18) hx hb hts hfin hown hK hP 0 rfl rfl 10 (by decide) (hts _ (List.mem_cons_of_mem _ (List.mem_append_left _ (List.mem_of_getElem? (i := 1) rfl)))) (fun _ h9 => h9) rfl dX1_onRoll_20 ?_
      refine lv_iload_n hx hb dX1_onRoll_23 rfl (lv_at hl 1 rfl) ?_
      refine va_iald hx hb hK hP 6 0 rfl rfl (x_in100 c_5) dX1_onRoll_24 ?_
      refine lv_iconst (v := 1) hx hb dX1_onRoll_25 (by decide) ?_
      refine lv_isub hx hb dX1_onRoll_26 ?_
      refine lv_goto (tgt := 31) hx hb dX1_onRoll_27 (by decide) ?_
      exact W.iret (v := (g 10 k.toNatClampNeg) - 1) hx hb hr (fun t ht hW => ⟨⟨(g 10 k.toNatClampNeg) - 1, ((va_up f 0 (if xKey k then 0 else 1)), g), rfl, (Or.inr (⟨c_5, (by rw [if_neg (show ¬ f 8 = 0 from c_16)]), (by rw [if_pos c_5]), rfl⟩)), by rw [ht]; exact hP, hD⟩, hS.F ht⟩) hS.2.2 dX1_onRoll_31
  · have c_5 := bI_0.mp c_5
    refine lv_iconst (v := 0) hx hb dX1_onRoll_8 (by decide) ?_
    refine lv_goto (tgt := 31) hx hb dX1_onRoll_9 (by decide) ?_
    exact W.iret (v := 0) hx hb hr (fun t ht hW => ⟨⟨0, ((va_up f 0 (if xKey k then 0 else 1)), g), rfl, (Or.inl (⟨c_5, (by rw [if_neg c_5]), rfl⟩)), by rw [ht]; exact hP, hD⟩, hS.F ht⟩) hS.2.2 dX1_onRoll_31
set_option maxHeartbeats 4000000 in
set_option maxRecDepth 100000 in
/-- ranges -/
theorem c_X1_ranges (l : Launch) (D : va_G) (cA cZ cL : ClassId) (ad : Nat → Nat) (f : qFs) (g : qGs) (sz : Nat) : Met l yX1_ranges wsX1_ranges ({ frames := 0, cells := 0, slots := 0, locals := 0 } : Room) (va_Pc [.ref (ad 18)] (qPreW D (qTy cA cZ cL) (mW cA cZ ad f g) sz)) (va_Qi (fun (z : Int32) (u : qFs × qGs) => z = f 3 ∧ u.1 = va_up f 0 0 ∧ u.2 = g) (qAt D (va_A (mW cA cZ ad f g) sz) (fun u : qFs × qGs => mW cA cZ ad u.1 u.2)) (va_A (mW cA cZ ad f g) sz)) 0 0 (va_A (mW cA cZ ad f g) sz) := by
  refine Met.ofW (cc := cX1_ranges) (maxL := 1) (ret := (some .int)) (by decide) rfl ?_
  intro p e s m args below meth c s₁ B hml hv
  obtain ⟨rfl, hsz, hP, hK, hD0⟩ := hv
  have hx := B.exec
  have hb := B.bytes
  have hr := B.returns
  have hts := atoms_spec (ws := wsX1_ranges) B.pre
  have hown : s.vm.findClass RX1 = some m.cls := findClass_of_methodNamed B.named
  have hlocks := B.notSynchronized
  subst hsz
  have hD := hD0.self (sz := s.heap.size)
  generalize hAe : va_A (mW cA cZ ad f g) s.heap.size = A at hD ⊢
  have hA : ∀ q : Nat, s.heap.size ≤ q → A q := fun q h => by rw [← hAe]; exact Or.inr h
  have hS : va_S A s.heap s.heap [] := va_S.rf
  have hfin : ∀ w ∈ wsX10, w ∈ wsX1_ranges := fun w h => (List.mem_cons_of_mem _ (List.mem_append_right _ h))
  have hl := lv_entry ([.ref (ad 18)]) (n := 1) (Nat.le_of_ble_eq_true rfl)
  rw [lg_entry_eq]
  generalize (lg_sl ([.ref (ad 18)]) ++ List.replicate (1 - (lg_sl ([.ref (ad 18)])).length) Slot.unset).toArray = ls at hl ⊢
  have hl : lv_has ls 1 [(0, .ref (ad 18))] := hl
  refine lv_aload_n hx hb dX1_ranges_0 rfl (lv_at hl 0 rfl) ?_
  refine lv_iconst (v := 0) hx hb dX1_ranges_1 (by decide) ?_
  refine va_put (D := D) (ci := 1) (v := .int 0) (ty := .int) (C := RX1) (T := TX1) (N := 18) hx hb hts hfin tyX1 tyX1_ok nmX1 hown hK hP hD hS 0 rfl rfl 0 (by decide) (hts _ (List.mem_cons_of_mem _ (List.mem_append_left _ (List.mem_of_getElem? (i := 0) rfl)))) (fun _ h9 => h9) rfl (by decide +kernel) (rfl) (rfl) (Nat.le_of_ble_eq_true rfl) dX1_ranges_2 (fun H locs hP hD hS => ?_)
  have hP : va_P D vwCl (mW cA cZ ad (va_up f 0 0) g) H := hP
  have hD : va_D A (mW cA cZ ad (va_up f 0 0) g) := hD
  refine lv_aload_n hx hb dX1_ranges_5 rfl (lv_at hl 0 rfl) ?_
  refine va_get (D := D) (ci := 1) (v := .int (f 3)) (C := RX1) (T := TX1) (N := 18) hx hb hts hfin hown hK hP 0 rfl rfl 3 (by decide) (hts _ (List.mem_cons_of_mem _ (List.mem_append_left _ (List.mem_of_getElem? (i := 1) rfl)))) (fun _ h9 => h9) rfl dX1_ranges_6 ?_
  exact W.iret (v := f 3) hx hb hr (fun t ht hW => ⟨⟨f 3, ((va_up f 0 0), g), rfl, ⟨rfl, rfl, rfl⟩, by rw [ht]; exact hP, hD⟩, hS.F ht⟩) hS.2.2 dX1_ranges_9
set_option maxHeartbeats 4000000 in
set_option maxRecDepth 100000 in
/-- shardOf -/
theorem c_X1_shardOf (l : Launch) (D : va_G) (cA cZ cL : ClassId) (ad : Nat → Nat) (f : qFs) (g : qGs) (sz : Nat) (r : Int32) (nR : Nat) (nB : Nat) (hI : mI nR nB f) : Met l yX1_shardOf wsX1_shardOf ({ frames := 2, cells := 0, slots := 0, locals := 43 } : Room) (va_Pc [.ref (ad 18), .int r] (qPreW D (qTy cA cZ cL) (mW cA cZ ad f g) sz)) (va_Qi (fun (z : Int32) (u : qFs × qGs) => ((¬ (mRange f r)) ∧ u.1 = va_up f 0 1 ∧ u.2 = g) ∨ ((mRange f r) ∧ z = g 5 r.toNatClampNeg ∧ u.1 = va_up f 0 0 ∧ u.2 = g)) (qAt D (va_A (mW cA cZ ad f g) sz) (fun u : qFs × qGs => mW cA cZ ad u.1 u.2)) (va_A (mW cA cZ ad f g) sz)) 0 0 (va_A (mW cA cZ ad f g) sz) := by
  refine Met.ofW (cc := cX1_shardOf) (maxL := 2) (ret := (some .int)) (by decide) rfl ?_
  intro p e s m args below meth c s₁ B hml hv
  obtain ⟨rfl, hsz, hP, hK, hD0⟩ := hv
  have hx := B.exec
  have hb := B.bytes
  have hr := B.returns
  have hts := atoms_spec (ws := wsX1_shardOf) B.pre
  have hown : s.vm.findClass RX1 = some m.cls := findClass_of_methodNamed B.named
  have hlocks := B.notSynchronized
  subst hsz
  have hD := hD0.self (sz := s.heap.size)
  generalize hAe : va_A (mW cA cZ ad f g) s.heap.size = A at hD ⊢
  have hA : ∀ q : Nat, s.heap.size ≤ q → A q := fun q h => by rw [← hAe]; exact Or.inr h
  have hS : va_S A s.heap s.heap [] := va_S.rf
  have hfin : ∀ w ∈ wsX10, w ∈ wsX1_shardOf := fun w h => (List.mem_cons_of_mem _ (List.mem_append_right _ h))
  have hl := lv_entry ([.ref (ad 18), .int r]) (n := 2) (Nat.le_of_ble_eq_true rfl)
  rw [lg_entry_eq]
  generalize (lg_sl ([.ref (ad 18), .int r]) ++ List.replicate (2 - (lg_sl ([.ref (ad 18), .int r])).length) Slot.unset).toArray = ls at hl ⊢
  have hl : lv_has ls 2 [(0, .ref (ad 18)), (1, .int r)] := hl
  refine lv_aload_n hx hb dX1_shardOf_0 rfl (lv_at hl 0 rfl) ?_
  refine lv_aload_n hx hb dX1_shardOf_1 rfl (lv_at hl 0 rfl) ?_
  refine lv_iload_n hx hb dX1_shardOf_2 rfl (lv_at hl 1 rfl) ?_
  refine vp_callSi (W.runV (As := [.int r]) (rest := [.ref (ad 18)]) ⟨hx, hb, hml, hown, hts⟩ (c_X1_isRange l D cA cZ cL ad f g r nR nB hI) (cwV 1 hts gX1_shardOf_X1_isRange rfl rfl rfl (by decide +kernel) ⟨Nat.le_of_ble_eq_true rfl, Nat.le_of_ble_eq_true rfl⟩) ⟨qPre_blind, va_recv hK hP (ci := 1) (q0 := 0) rfl rfl, qPre_at hP hK⟩ rfl rfl hl.1 rfl (lv_room (Nat.le_of_ble_eq_true rfl)) dX1_shardOf_3 ⟨Nat.le_of_ble_eq_true rfl, Nat.le_of_ble_eq_true rfl⟩) (fun z hz => ?_)
  subst hz
  refine lv_if_eq (tgt := 13) hx hb dX1_shardOf_6 (by decide) (fun c_6 => ?_) (fun c_6 => ?_)
  · have c_6 := bI_0.mp c_6
    refine lv_iconst (v := 1) hx hb dX1_shardOf_13 (by decide) ?_
    refine va_put (D := D) (ci := 1) (v := .int 1) (ty := .int) (C := RX1) (T := TX1) (N := 18) hx hb hts hfin tyX1 tyX1_ok nmX1 hown hK hP hD hS 0 rfl rfl 0 (by decide) (hts _ (List.mem_cons_of_mem _ (List.mem_append_left _ (List.mem_of_getElem? (i := 0) rfl)))) (fun _ h9 => h9) rfl (by decide +kernel) (rfl) (rfl) (Nat.le_of_ble_eq_true rfl) dX1_shardOf_14 (fun H locs hP hD hS => ?_)
    have hP : va_P D vwCl (mW cA cZ ad (va_up f 0 1) g) H := hP
    have hD : va_D A (mW cA cZ ad (va_up f 0 1) g) := hD
    refine lv_aload_n hx hb dX1_shardOf_17 rfl (lv_at hl 0 rfl) ?_
    refine va_get (D := D) (ci := 1) (v := .int 1) (C := RX1) (T := TX1) (N := 18) hx hb hts hfin hown hK hP 0 rfl rfl 0 (by decide) (hts _ (List.mem_cons_of_mem _ (List.mem_append_left _ (List.mem_of_getElem? (i := 0) rfl)))) (fun _ h9 => h9) rfl dX1_shardOf_18 ?_
    refine lv_if_le (tgt := 28) hx hb dX1_shardOf_21 (by decide) (fun c_21 => ?_) (fun c_21 => ?_)
    · skip
      exact absurd c_21 (by decide)
    · skip
      refine lv_iconst (v := 0) hx hb dX1_shardOf_24 (by decide) ?_
      refine lv_goto (tgt := 34) hx hb dX1_shardOf_25 (by decide) ?_
      exact W.iret (v := 0) hx hb hr (fun t ht hW => ⟨⟨0, ((va_up f 0 1), g), rfl, (Or.inl (⟨c_6, rfl, rfl⟩)), by rw [ht]; exact hP, hD⟩, hS.F ht⟩) hS.2.2 dX1_shardOf_34
  · have c_6 := bI_n.mp c_6
    refine lv_iconst (v := 0) hx hb dX1_shardOf_9 (by decide) ?_
    refine lv_goto (tgt := 14) hx hb dX1_shardOf_10 (by decide) ?_
    refine va_put (D := D) (ci := 1) (v := .int 0) (ty := .int) (C := RX1) (T := TX1) (N := 18) hx hb hts hfin tyX1 tyX1_ok nmX1 hown hK hP hD hS 0 rfl rfl 0 (by decide) (hts _ (List.mem_cons_of_mem _ (List.mem_append_left _ (List.mem_of_getElem? (i := 0) rfl)))) (fun _ h9 => h9) rfl (by decide +kernel) (rfl) (rfl) (Nat.le_of_ble_eq_true rfl) dX1_shardOf_14 (fun H locs hP hD hS => ?_)
    have hP : va_P D vwCl (mW cA cZ ad (va_up f 0 0) g) H := hP
    have hD : va_D A (mW cA cZ ad (va_up f 0 0) g) := hD
    refine lv_aload_n hx hb dX1_shardOf_17 rfl (lv_at hl 0 rfl) ?_
    refine va_get (D := D) (ci := 1) (v := .int 0) (C := RX1) (T := TX1) (N := 18) hx hb hts hfin hown hK hP 0 rfl rfl 0 (by decide) (hts _ (List.mem_cons_of_mem _ (List.mem_append_left _ (List.mem_of_getElem? (i := 0) rfl)))) (fun _ h9 => h9) rfl dX1_shardOf_18 ?_
    refine lv_if_le (tgt := 28) hx hb dX1_shardOf_21 (by decide) (fun c_21 => ?_) (fun c_21 => ?_)
    · skip
      refine lv_aload_n hx hb dX1_shardOf_28 rfl (lv_at hl 0 rfl) ?_
      refine va_get (D := D) (ci := 1) (v := .ref (ad 5)) (C := RX1) (T := TX1) (N := 18) hx hb hts hfin hown hK hP 0 rfl rfl 5 (by decide) (hts _ (List.mem_cons_of_mem _ (List.mem_append_left _ (List.mem_of_getElem? (i := 1) rfl)))) (fun _ h9 => h9) rfl dX1_shardOf_29 ?_
      refine lv_iload_n hx hb dX1_shardOf_32 rfl (lv_at hl 1 rfl) ?_
      refine va_iald hx hb hK hP 3 0 rfl rfl (m_in9 hI c_6) dX1_shardOf_33 ?_
      exact W.iret (v := g 5 r.toNatClampNeg) hx hb hr (fun t ht hW => ⟨⟨g 5 r.toNatClampNeg, ((va_up f 0 0), g), rfl, (Or.inr (⟨c_6, rfl, rfl, rfl⟩)), by rw [ht]; exact hP, hD⟩, hS.F ht⟩) hS.2.2 dX1_shardOf_34
    · skip
      exact absurd c_21 (by decide)
set_option maxHeartbeats 4000000 in
set_option maxRecDepth 100000 in
/-- counted -/
theorem c_X1_counted (l : Launch) (D : va_G) (cA cZ cL : ClassId) (ad : Nat → Nat) (f : qFs) (g : qGs) (sz : Nat) (d : Int32) (ch : Int32) : Met l yX1_counted wsX1_counted ({ frames := 2, cells := 0, slots := 0, locals := 42 } : Room) (va_Pc [.ref (ad 18), .int d, .int ch] (qPreW D (qTy cA cZ cL) (mW cA cZ ad f g) sz)) (va_Qi (fun (z : Int32) (u : qFs × qGs) => ((¬ xShard d) ∧ u.1 = va_up f 0 1 ∧ u.2 = g) ∨ ((xShard d ∧ ¬ xCho ch) ∧ u.1 = va_up f 0 2 ∧ u.2 = g) ∨ ((xShard d ∧ xCho ch) ∧ z = g 17 (3 * d + ch).toNatClampNeg ∧ u.1 = va_up f 0 0 ∧ u.2 = g)) (qAt D (va_A (mW cA cZ ad f g) sz) (fun u : qFs × qGs => mW cA cZ ad u.1 u.2)) (va_A (mW cA cZ ad f g) sz)) 0 0 (va_A (mW cA cZ ad f g) sz) := by
  refine Met.ofW (cc := cX1_counted) (maxL := 3) (ret := (some .int)) (by decide) rfl ?_
  intro p e s m args below meth c s₁ B hml hv
  obtain ⟨rfl, hsz, hP, hK, hD0⟩ := hv
  have hx := B.exec
  have hb := B.bytes
  have hr := B.returns
  have hts := atoms_spec (ws := wsX1_counted) B.pre
  have hown : s.vm.findClass RX1 = some m.cls := findClass_of_methodNamed B.named
  have hlocks := B.notSynchronized
  subst hsz
  have hD := hD0.self (sz := s.heap.size)
  generalize hAe : va_A (mW cA cZ ad f g) s.heap.size = A at hD ⊢
  have hA : ∀ q : Nat, s.heap.size ≤ q → A q := fun q h => by rw [← hAe]; exact Or.inr h
  have hS : va_S A s.heap s.heap [] := va_S.rf
  have hfin : ∀ w ∈ wsX10, w ∈ wsX1_counted := fun w h => (List.mem_cons_of_mem _ (List.mem_append_right _ h))
  have hl := lv_entry ([.ref (ad 18), .int d, .int ch]) (n := 3) (Nat.le_of_ble_eq_true rfl)
  rw [lg_entry_eq]
  generalize (lg_sl ([.ref (ad 18), .int d, .int ch]) ++ List.replicate (3 - (lg_sl ([.ref (ad 18), .int d, .int ch])).length) Slot.unset).toArray = ls at hl ⊢
  have hl : lv_has ls 3 [(0, .ref (ad 18)), (1, .int d), (2, .int ch)] := hl
  refine lv_aload_n hx hb dX1_counted_0 rfl (lv_at hl 0 rfl) ?_
  refine lv_iload_n hx hb dX1_counted_1 rfl (lv_at hl 1 rfl) ?_
  refine vp_callSi (W.runS (As := [.int d]) (rest := [.ref (ad 18)]) ⟨hx, hb, hml, hown, hts⟩ (c_X1_isShard l d) (va_cwS 1 hts gX1_counted_X1_isShard rfl rfl rfl (by decide +kernel) ⟨Nat.le_of_ble_eq_true rfl, Nat.le_of_ble_eq_true rfl⟩) ⟨qN_blind, qN_at⟩ rfl rfl hl.1 rfl (lv_room (Nat.le_of_ble_eq_true rfl)) dX1_counted_2 ⟨Nat.le_of_ble_eq_true rfl, Nat.le_of_ble_eq_true rfl⟩) (fun z hz => ?_)
  subst hz
  refine lv_if_ne (tgt := 12) hx hb dX1_counted_5 (by decide) (fun c_5 => ?_) (fun c_5 => ?_)
  · have c_5 := bI_n.mp c_5
    refine lv_iload_n hx hb dX1_counted_12 rfl (lv_at hl 2 rfl) ?_
    refine lv_iconst (v := 0) hx hb dX1_counted_13 (by decide) ?_
    refine lv_iconst (v := 2) hx hb dX1_counted_14 (by decide) ?_
    refine vp_callSi (W.runS (As := [.int ch, .int 0, .int 2]) (rest := [.ref (ad 18)]) ⟨hx, hb, hml, hown, hts⟩ (c_X1_in l ch 0 2) (va_cwS 3 hts gX1_counted_X1_in rfl rfl rfl (by decide +kernel) ⟨Nat.le_of_ble_eq_true rfl, Nat.le_of_ble_eq_true rfl⟩) ⟨qN_blind, qN_at⟩ rfl rfl hl.1 rfl (lv_room (Nat.le_of_ble_eq_true rfl)) dX1_counted_15 ⟨Nat.le_of_ble_eq_true rfl, Nat.le_of_ble_eq_true rfl⟩) (fun z hz => ?_)
    subst hz
    refine lv_topi (fun v_15 hv_15 => ?_)
    have hv_15 : v_15 = bI (xCho ch) := hv_15.trans (bI_congr (in_cho ch))
    subst hv_15
    refine lv_if_eq (tgt := 25) hx hb dX1_counted_18 (by decide) (fun c_18 => ?_) (fun c_18 => ?_)
    · have c_18 := bI_0.mp c_18
      refine lv_iconst (v := 2) hx hb dX1_counted_25 (by decide) ?_
      refine va_put (D := D) (ci := 1) (v := .int 2) (ty := .int) (C := RX1) (T := TX1) (N := 18) hx hb hts hfin tyX1 tyX1_ok nmX1 hown hK hP hD hS 0 rfl rfl 0 (by decide) (hts _ (List.mem_cons_of_mem _ (List.mem_append_left _ (List.mem_of_getElem? (i := 0) rfl)))) (fun _ h9 => h9) rfl (by decide +kernel) (rfl) (rfl) (Nat.le_of_ble_eq_true rfl) dX1_counted_26 (fun H locs hP hD hS => ?_)
      have hP : va_P D vwCl (mW cA cZ ad (va_up f 0 2) g) H := hP
      have hD : va_D A (mW cA cZ ad (va_up f 0 2) g) := hD
      refine lv_aload_n hx hb dX1_counted_29 rfl (lv_at hl 0 rfl) ?_
      refine va_get (D := D) (ci := 1) (v := .int 2) (C := RX1) (T := TX1) (N := 18) hx hb hts hfin hown hK hP 0 rfl rfl 0 (by decide) (hts _ (List.mem_cons_of_mem _ (List.mem_append_left _ (List.mem_of_getElem? (i := 0) rfl)))) (fun _ h9 => h9) rfl dX1_counted_30 ?_
      refine lv_if_le (tgt := 40) hx hb dX1_counted_33 (by decide) (fun c_33 => ?_) (fun c_33 => ?_)
      · skip
        exact absurd c_33 (by decide)
      · skip
        refine lv_iconst (v := 0) hx hb dX1_counted_36 (by decide) ?_
        refine lv_goto (tgt := 50) hx hb dX1_counted_37 (by decide) ?_
        exact W.iret (v := 0) hx hb hr (fun t ht hW => ⟨⟨0, ((va_up f 0 2), g), rfl, (Or.inr (Or.inl (⟨⟨c_5, c_18⟩, rfl, rfl⟩))), by rw [ht]; exact hP, hD⟩, hS.F ht⟩) hS.2.2 dX1_counted_50
    · have c_18 := bI_n.mp c_18
      refine lv_iconst (v := 0) hx hb dX1_counted_21 (by decide) ?_
      refine lv_goto (tgt := 26) hx hb dX1_counted_22 (by decide) ?_
      refine va_put (D := D) (ci := 1) (v := .int 0) (ty := .int) (C := RX1) (T := TX1) (N := 18) hx hb hts hfin tyX1 tyX1_ok nmX1 hown hK hP hD hS 0 rfl rfl 0 (by decide) (hts _ (List.mem_cons_of_mem _ (List.mem_append_left _ (List.mem_of_getElem? (i := 0) rfl)))) (fun _ h9 => h9) rfl (by decide +kernel) (rfl) (rfl) (Nat.le_of_ble_eq_true rfl) dX1_counted_26 (fun H locs hP hD hS => ?_)
      have hP : va_P D vwCl (mW cA cZ ad (va_up f 0 0) g) H := hP
      have hD : va_D A (mW cA cZ ad (va_up f 0 0) g) := hD
      refine lv_aload_n hx hb dX1_counted_29 rfl (lv_at hl 0 rfl) ?_
      refine va_get (D := D) (ci := 1) (v := .int 0) (C := RX1) (T := TX1) (N := 18) hx hb hts hfin hown hK hP 0 rfl rfl 0 (by decide) (hts _ (List.mem_cons_of_mem _ (List.mem_append_left _ (List.mem_of_getElem? (i := 0) rfl)))) (fun _ h9 => h9) rfl dX1_counted_30 ?_
      refine lv_if_le (tgt := 40) hx hb dX1_counted_33 (by decide) (fun c_33 => ?_) (fun c_33 => ?_)
      · skip
        refine lv_aload_n hx hb dX1_counted_40 rfl (lv_at hl 0 rfl) ?_
        refine va_get (D := D) (ci := 1) (v := .ref (ad 17)) (C := RX1) (T := TX1) (N := 18) hx hb hts hfin hown hK hP 0 rfl rfl 17 (by decide) (hts _ (List.mem_cons_of_mem _ (List.mem_append_left _ (List.mem_of_getElem? (i := 1) rfl)))) (fun _ h9 => h9) rfl dX1_counted_41 ?_
        refine lv_iconst (v := 3) hx hb dX1_counted_44 (by decide) ?_
        refine lv_iload_n hx hb dX1_counted_45 rfl (lv_at hl 1 rfl) ?_
        refine lv_imul hx hb dX1_counted_46 ?_
        refine lv_iload_n hx hb dX1_counted_47 rfl (lv_at hl 2 rfl) ?_
        refine lv_iadd hx hb dX1_counted_48 ?_
        refine va_iald hx hb hK hP 12 0 rfl rfl (m_in12s c_5 c_18) dX1_counted_49 ?_
        exact W.iret (v := g 17 ((3 * d) + ch).toNatClampNeg) hx hb hr (fun t ht hW => ⟨⟨g 17 ((3 * d) + ch).toNatClampNeg, ((va_up f 0 0), g), rfl, (Or.inr (Or.inr (⟨⟨c_5, c_18⟩, rfl, rfl, rfl⟩))), by rw [ht]; exact hP, hD⟩, hS.F ht⟩) hS.2.2 dX1_counted_50
      · skip
        exact absurd c_33 (by decide)
  · have c_5 := bI_0.mp c_5
    refine lv_iconst (v := 1) hx hb dX1_counted_8 (by decide) ?_
    refine lv_goto (tgt := 26) hx hb dX1_counted_9 (by decide) ?_
    refine va_put (D := D) (ci := 1) (v := .int 1) (ty := .int) (C := RX1) (T := TX1) (N := 18) hx hb hts hfin tyX1 tyX1_ok nmX1 hown hK hP hD hS 0 rfl rfl 0 (by decide) (hts _ (List.mem_cons_of_mem _ (List.mem_append_left _ (List.mem_of_getElem? (i := 0) rfl)))) (fun _ h9 => h9) rfl (by decide +kernel) (rfl) (rfl) (Nat.le_of_ble_eq_true rfl) dX1_counted_26 (fun H locs hP hD hS => ?_)
    have hP : va_P D vwCl (mW cA cZ ad (va_up f 0 1) g) H := hP
    have hD : va_D A (mW cA cZ ad (va_up f 0 1) g) := hD
    refine lv_aload_n hx hb dX1_counted_29 rfl (lv_at hl 0 rfl) ?_
    refine va_get (D := D) (ci := 1) (v := .int 1) (C := RX1) (T := TX1) (N := 18) hx hb hts hfin hown hK hP 0 rfl rfl 0 (by decide) (hts _ (List.mem_cons_of_mem _ (List.mem_append_left _ (List.mem_of_getElem? (i := 0) rfl)))) (fun _ h9 => h9) rfl dX1_counted_30 ?_
    refine lv_if_le (tgt := 40) hx hb dX1_counted_33 (by decide) (fun c_33 => ?_) (fun c_33 => ?_)
    · skip
      exact absurd c_33 (by decide)
    · skip
      refine lv_iconst (v := 0) hx hb dX1_counted_36 (by decide) ?_
      refine lv_goto (tgt := 50) hx hb dX1_counted_37 (by decide) ?_
      exact W.iret (v := 0) hx hb hr (fun t ht hW => ⟨⟨0, ((va_up f 0 1), g), rfl, (Or.inl (⟨c_5, rfl, rfl⟩)), by rw [ht]; exact hP, hD⟩, hS.F ht⟩) hS.2.2 dX1_counted_50
set_option maxHeartbeats 4000000 in
set_option maxRecDepth 100000 in
/-- inDistrict -/
theorem c_X1_inDistrict (l : Launch) (D : va_G) (cA cZ cL : ClassId) (ad : Nat → Nat) (f : qFs) (g : qGs) (sz : Nat) (d : Int32) : Met l yX1_inDistrict wsX1_inDistrict ({ frames := 2, cells := 0, slots := 0, locals := 42 } : Room) (va_Pc [.ref (ad 18), .int d] (qPreW D (qTy cA cZ cL) (mW cA cZ ad f g) sz)) (va_Qi (fun (z : Int32) (u : qFs × qGs) => ((¬ (xShard d)) ∧ u.1 = va_up f 0 1 ∧ u.2 = g) ∨ ((xShard d) ∧ z = nI (cnt (fun j => decide (mTh g j ∧ (g 1 j - 1) / 10 = d)) 0 100) ∧ u.1 = va_up f 0 0 ∧ u.2 = g)) (qAt D (va_A (mW cA cZ ad f g) sz) (fun u : qFs × qGs => mW cA cZ ad u.1 u.2)) (va_A (mW cA cZ ad f g) sz)) 0 0 (va_A (mW cA cZ ad f g) sz) := by
  refine Met.ofW (cc := cX1_inDistrict) (maxL := 4) (ret := (some .int)) (by decide) rfl ?_
  intro p e s m args below meth c s₁ B hml hv
  obtain ⟨rfl, hsz, hP, hK, hD0⟩ := hv
  have hx := B.exec
  have hb := B.bytes
  have hr := B.returns
  have hts := atoms_spec (ws := wsX1_inDistrict) B.pre
  have hown : s.vm.findClass RX1 = some m.cls := findClass_of_methodNamed B.named
  have hlocks := B.notSynchronized
  subst hsz
  have hD := hD0.self (sz := s.heap.size)
  generalize hAe : va_A (mW cA cZ ad f g) s.heap.size = A at hD ⊢
  have hA : ∀ q : Nat, s.heap.size ≤ q → A q := fun q h => by rw [← hAe]; exact Or.inr h
  have hS : va_S A s.heap s.heap [] := va_S.rf
  have hfin : ∀ w ∈ wsX10, w ∈ wsX1_inDistrict := fun w h => (List.mem_cons_of_mem _ (List.mem_append_right _ h))
  have hl := lv_entry ([.ref (ad 18), .int d]) (n := 4) (Nat.le_of_ble_eq_true rfl)
  rw [lg_entry_eq]
  generalize (lg_sl ([.ref (ad 18), .int d]) ++ List.replicate (4 - (lg_sl ([.ref (ad 18), .int d])).length) Slot.unset).toArray = ls at hl ⊢
  have hl : lv_has ls 4 [(0, .ref (ad 18)), (1, .int d)] := hl
  refine lv_aload_n hx hb dX1_inDistrict_0 rfl (lv_at hl 0 rfl) ?_
  refine lv_iload_n hx hb dX1_inDistrict_1 rfl (lv_at hl 1 rfl) ?_
  refine vp_callSi (W.runS (As := [.int d]) (rest := [.ref (ad 18)]) ⟨hx, hb, hml, hown, hts⟩ (c_X1_isShard l d) (va_cwS 1 hts gX1_inDistrict_X1_isShard rfl rfl rfl (by decide +kernel) ⟨Nat.le_of_ble_eq_true rfl, Nat.le_of_ble_eq_true rfl⟩) ⟨qN_blind, qN_at⟩ rfl rfl hl.1 rfl (lv_room (Nat.le_of_ble_eq_true rfl)) dX1_inDistrict_2 ⟨Nat.le_of_ble_eq_true rfl, Nat.le_of_ble_eq_true rfl⟩) (fun z hz => ?_)
  subst hz
  refine lv_if_eq (tgt := 12) hx hb dX1_inDistrict_5 (by decide) (fun c_5 => ?_) (fun c_5 => ?_)
  · have c_5 := bI_0.mp c_5
    refine lv_iconst (v := 1) hx hb dX1_inDistrict_12 (by decide) ?_
    refine va_put (D := D) (ci := 1) (v := .int 1) (ty := .int) (C := RX1) (T := TX1) (N := 18) hx hb hts hfin tyX1 tyX1_ok nmX1 hown hK hP hD hS 0 rfl rfl 0 (by decide) (hts _ (List.mem_cons_of_mem _ (List.mem_append_left _ (List.mem_of_getElem? (i := 0) rfl)))) (fun _ h9 => h9) rfl (by decide +kernel) (rfl) (rfl) (Nat.le_of_ble_eq_true rfl) dX1_inDistrict_13 (fun H locs hP hD hS => ?_)
    have hP : va_P D vwCl (mW cA cZ ad (va_up f 0 1) g) H := hP
    have hD : va_D A (mW cA cZ ad (va_up f 0 1) g) := hD
    refine lv_iconst (v := 0) hx hb dX1_inDistrict_16 (by decide) ?_
    refine lv_istore_n (lv' := [(2, .int 0), (0, .ref (ad 18)), (1, .int d)]) hx hb dX1_inDistrict_17 rfl hl (by decide) rfl (fun ls hl => ?_)
    refine lv_iconst (v := 0) hx hb dX1_inDistrict_18 (by decide) ?_
    refine lv_istore_n (lv' := [(3, .int 0), (2, .int 0), (0, .ref (ad 18)), (1, .int d)]) hx hb dX1_inDistrict_19 rfl hl (by decide) rfl (fun ls hl => ?_)
    refine lv_iload_n hx hb dX1_inDistrict_20 rfl (lv_at hl 0 rfl) ?_
    refine lv_bipush (v := 100) hx hb dX1_inDistrict_21 (by decide) ?_
    refine lv_icmp_ge (tgt := 70) hx hb dX1_inDistrict_23 (by decide) (fun c_23 => ?_) (fun c_23 => ?_)
    · skip
      exact absurd c_23 (by decide)
    · skip
      refine lv_aload_n hx hb dX1_inDistrict_26 rfl (lv_at hl 2 rfl) ?_
      refine va_get (D := D) (ci := 1) (v := .int 1) (C := RX1) (T := TX1) (N := 18) hx hb hts hfin hown hK hP 0 rfl rfl 0 (by decide) (hts _ (List.mem_cons_of_mem _ (List.mem_append_left _ (List.mem_of_getElem? (i := 0) rfl)))) (fun _ h9 => h9) rfl dX1_inDistrict_27 ?_
      refine lv_if_ne (tgt := 70) hx hb dX1_inDistrict_30 (by decide) (fun c_30 => ?_) (fun c_30 => ?_)
      · skip
        refine lv_iload_n hx hb dX1_inDistrict_70 rfl (lv_at hl 1 rfl) ?_
        exact W.iret (v := 0) hx hb hr (fun t ht hW => ⟨⟨0, ((va_up f 0 1), g), rfl, (Or.inl (⟨c_5, rfl, rfl⟩)), by rw [ht]; exact hP, hD⟩, hS.F ht⟩) hS.2.2 dX1_inDistrict_71
      · skip
        exact absurd c_30 (by decide)
  · have c_5 := bI_n.mp c_5
    refine lv_iconst (v := 0) hx hb dX1_inDistrict_8 (by decide) ?_
    refine lv_goto (tgt := 13) hx hb dX1_inDistrict_9 (by decide) ?_
    refine va_put (D := D) (ci := 1) (v := .int 0) (ty := .int) (C := RX1) (T := TX1) (N := 18) hx hb hts hfin tyX1 tyX1_ok nmX1 hown hK hP hD hS 0 rfl rfl 0 (by decide) (hts _ (List.mem_cons_of_mem _ (List.mem_append_left _ (List.mem_of_getElem? (i := 0) rfl)))) (fun _ h9 => h9) rfl (by decide +kernel) (rfl) (rfl) (Nat.le_of_ble_eq_true rfl) dX1_inDistrict_13 (fun H locs hP hD hS => ?_)
    have hP : va_P D vwCl (mW cA cZ ad (va_up f 0 0) g) H := hP
    have hD : va_D A (mW cA cZ ad (va_up f 0 0) g) := hD
    refine lv_iconst (v := 0) hx hb dX1_inDistrict_16 (by decide) ?_
    refine lv_istore_n (lv' := [(2, .int 0), (0, .ref (ad 18)), (1, .int d)]) hx hb dX1_inDistrict_17 rfl hl (by decide) rfl (fun ls hl => ?_)
    refine lv_iconst (v := 0) hx hb dX1_inDistrict_18 (by decide) ?_
    refine lv_istore_n (lv' := [(3, .int 0), (2, .int 0), (0, .ref (ad 18)), (1, .int d)]) hx hb dX1_inDistrict_19 rfl hl (by decide) rfl (fun ls hl => ?_)
    have hloop_20 : ∀ (nme : Nat) (k : Nat) (acc : Nat), 100 - k = nme → (k ≤ 100) → (acc + cnt (fun j => decide (mTh g j ∧ (g 1 j - 1) / 10 = d)) k 100 = cnt (fun j => decide (mTh g j ∧ (g 1 j - 1) / 10 = d)) 0 100) → ∀ (H : Heap) (locs : List Loc), va_P D vwCl (mW cA cZ ad (va_up f 0 0) g) H → va_D A (mW cA cZ ad (va_up f 0 0) g) → va_S A s.heap H locs → ∀ ls : Array Slot, lv_has ls 4 [(0, .ref (ad 18)), (1, .int d), (2, .int (nI acc)), (3, .int (nI k))] → W p l e (headSpec wsX1_inDistrict ({ frames := 2, cells := 0, slots := 0, locals := 42 } : Room)).room s m ([.ref (ad 18), .int d] : List Value).toArray below meth c H locs 0 0 (MQ below (va_Qi (fun (z : Int32) (u : qFs × qGs) => ((¬ (xShard d)) ∧ u.1 = va_up f 0 1 ∧ u.2 = g) ∨ ((xShard d) ∧ z = nI (cnt (fun j => decide (mTh g j ∧ (g 1 j - 1) / 10 = d)) 0 100) ∧ u.1 = va_up f 0 0 ∧ u.2 = g)) (qAt D A (fun u : qFs × qGs => mW cA cZ ad u.1 u.2)) A) ([.ref (ad 18), .int d] : List Value).toArray s 0 0 A) (F0 m 20 ls []) := by
      intro nme
      induction nme using Nat.strongRecOn with
      | ind nme ih =>
        intro k acc hnme hk hc H locs hP hD hS ls hl
        refine lv_iload_n hx hb dX1_inDistrict_20 rfl (lv_at hl 3 rfl) ?_
        refine lv_bipush (v := 100) hx hb dX1_inDistrict_21 (by decide) ?_
        refine lv_icmp_ge (tgt := 70) hx hb dX1_inDistrict_23 (by decide) (fun c_23 => ?_) (fun c_23 => ?_)
        · skip
          have hge : 100 ≤ k := n_ge (b := 100) c_23 (by omega) (by decide)
          refine lv_iload_n hx hb dX1_inDistrict_70 rfl (lv_at hl 2 rfl) ?_
          exact W.iret (v := nI acc) hx hb hr (fun t ht hW => ⟨⟨nI acc, ((va_up f 0 0), g), rfl, (Or.inr (⟨c_5, (by rw [← hc, cnt_end hge]; rfl), rfl, rfl⟩)), by rw [ht]; exact hP, hD⟩, hS.F ht⟩) hS.2.2 dX1_inDistrict_71
        · skip
          have hlt : k < 100 := n_lt (b := 100) c_23 (by omega)
          refine lv_aload_n hx hb dX1_inDistrict_26 rfl (lv_at hl 0 rfl) ?_
          refine va_get (D := D) (ci := 1) (v := .int 0) (C := RX1) (T := TX1) (N := 18) hx hb hts hfin hown hK hP 0 rfl rfl 0 (by decide) (hts _ (List.mem_cons_of_mem _ (List.mem_append_left _ (List.mem_of_getElem? (i := 0) rfl)))) (fun _ h9 => h9) rfl dX1_inDistrict_27 ?_
          refine lv_if_ne (tgt := 70) hx hb dX1_inDistrict_30 (by decide) (fun c_30 => ?_) (fun c_30 => ?_)
          · skip
            exact absurd c_30 (by decide)
          · skip
            refine lv_iload_n hx hb dX1_inDistrict_33 rfl (lv_at hl 2 rfl) ?_
            refine lv_aload_n hx hb dX1_inDistrict_34 rfl (lv_at hl 0 rfl) ?_
            refine lv_iload_n hx hb dX1_inDistrict_35 rfl (lv_at hl 3 rfl) ?_
            refine vp_callSi (W.runV (As := [.int (nI k)]) (rest := [.int (nI acc)]) ⟨hx, hb, hml, hown, hts⟩ (c_X1_isThere l D cA cZ cL ad (va_up f 0 0) g (nI k) (nat_key (by omega))) (cwV 1 hts gX1_inDistrict_X1_isThere rfl rfl rfl (by decide +kernel) ⟨Nat.le_of_ble_eq_true rfl, Nat.le_of_ble_eq_true rfl⟩) ⟨qPre_blind, va_recv hK hP (ci := 1) (q0 := 0) rfl rfl, qPre_at hP hK⟩ rfl rfl hl.1 rfl (lv_room (Nat.le_of_ble_eq_true rfl)) dX1_inDistrict_36 ⟨Nat.le_of_ble_eq_true rfl, Nat.le_of_ble_eq_true rfl⟩) (fun z hz => ?_)
            subst hz
            refine lv_topi (fun v_36 hv_36 => ?_)
            have hv_36 : v_36 = bI (mTh g k) := hv_36.trans (bI_congr (mThere_nat g (by omega)))
            subst hv_36
            refine lv_if_eq (tgt := 61) hx hb dX1_inDistrict_39 (by decide) (fun c_39 => ?_) (fun c_39 => ?_)
            · have c_39 := bI_0.mp c_39
              refine lv_iconst (v := 0) hx hb dX1_inDistrict_61 (by decide) ?_
              refine lv_iadd hx hb dX1_inDistrict_62 ?_
              refine lv_topi (fun v_62 hv_62 => ?_)
              have hv_62 : v_62 = nI acc := hv_62.trans (Int32.add_zero _)
              subst hv_62
              refine lv_istore_n (lv' := [(2, .int (nI acc)), (0, .ref (ad 18)), (1, .int d), (3, .int (nI k))]) hx hb dX1_inDistrict_63 rfl hl (by decide) rfl (fun ls hl => ?_)
              refine lv_iinc (v := nI (k + 1)) (lv' := [(3, .int (nI (k + 1))), (2, .int (nI acc)), (0, .ref (ad 18)), (1, .int d)]) hx hb dX1_inDistrict_64 hl (k := 3) rfl (nI_1 k) (by decide) rfl (fun ls hl => ?_)
              refine lv_goto (tgt := 20) hx hb dX1_inDistrict_67 (by decide) ?_
              exact ih _ (by omega) (k + 1) acc rfl (by omega) (by rw [← hc, cnt_n hlt (df (fun q => c_39 q.1))]) _ _ hP hD hS _ (lv_sub hl [2, 3, 1, 0] rfl)
            · have c_39 := bI_n.mp c_39
              refine lv_aload_n hx hb dX1_inDistrict_42 rfl (lv_at hl 0 rfl) ?_
              refine va_get (D := D) (ci := 1) (v := .ref (ad 1)) (C := RX1) (T := TX1) (N := 18) hx hb hts hfin hown hK hP 0 rfl rfl 1 (by decide) (hts _ (List.mem_cons_of_mem _ (List.mem_append_left _ (List.mem_of_getElem? (i := 1) rfl)))) (fun _ h9 => h9) rfl dX1_inDistrict_43 ?_
              refine lv_iload_n hx hb dX1_inDistrict_46 rfl (lv_at hl 3 rfl) ?_
              refine va_iald hx hb hK hP 1 0 rfl rfl (vp_in_nI (by omega) (by decide)) dX1_inDistrict_47 ?_
              refine lv_topi (fun v_47 hv_47 => ?_)
              have hv_47 : v_47 = g 1 k := hv_47.trans (by rw [nI_clamp (by omega)])
              subst hv_47
              refine lv_iconst (v := 1) hx hb dX1_inDistrict_48 (by decide) ?_
              refine lv_isub hx hb dX1_inDistrict_49 ?_
              refine lv_bipush (v := 10) hx hb dX1_inDistrict_50 (by decide) ?_
              refine lv_idiv hx hb dX1_inDistrict_52 (by decide) ?_
              refine lv_iload_n hx hb dX1_inDistrict_53 rfl (lv_at hl 1 rfl) ?_
              refine lv_icmp_ne (tgt := 61) hx hb dX1_inDistrict_54 (by decide) (fun c_54 => ?_) (fun c_54 => ?_)
              · skip
                refine lv_iconst (v := 0) hx hb dX1_inDistrict_61 (by decide) ?_
                refine lv_iadd hx hb dX1_inDistrict_62 ?_
                refine lv_topi (fun v_62 hv_62 => ?_)
                have hv_62 : v_62 = nI acc := hv_62.trans (Int32.add_zero _)
                subst hv_62
                refine lv_istore_n (lv' := [(2, .int (nI acc)), (0, .ref (ad 18)), (1, .int d), (3, .int (nI k))]) hx hb dX1_inDistrict_63 rfl hl (by decide) rfl (fun ls hl => ?_)
                refine lv_iinc (v := nI (k + 1)) (lv' := [(3, .int (nI (k + 1))), (2, .int (nI acc)), (0, .ref (ad 18)), (1, .int d)]) hx hb dX1_inDistrict_64 hl (k := 3) rfl (nI_1 k) (by decide) rfl (fun ls hl => ?_)
                refine lv_goto (tgt := 20) hx hb dX1_inDistrict_67 (by decide) ?_
                exact ih _ (by omega) (k + 1) acc rfl (by omega) (by rw [← hc, cnt_n hlt (df (fun q => c_54 q.2))]) _ _ hP hD hS _ (lv_sub hl [2, 3, 1, 0] rfl)
              · skip
                refine lv_iconst (v := 1) hx hb dX1_inDistrict_57 (by decide) ?_
                refine lv_goto (tgt := 62) hx hb dX1_inDistrict_58 (by decide) ?_
                refine lv_iadd hx hb dX1_inDistrict_62 ?_
                refine lv_topi (fun v_62 hv_62 => ?_)
                have hv_62 : v_62 = nI (acc + 1) := hv_62.trans (nI_1 acc)
                subst hv_62
                refine lv_istore_n (lv' := [(2, .int (nI (acc + 1))), (0, .ref (ad 18)), (1, .int d), (3, .int (nI k))]) hx hb dX1_inDistrict_63 rfl hl (by decide) rfl (fun ls hl => ?_)
                refine lv_iinc (v := nI (k + 1)) (lv' := [(3, .int (nI (k + 1))), (2, .int (nI (acc + 1))), (0, .ref (ad 18)), (1, .int d)]) hx hb dX1_inDistrict_64 hl (k := 3) rfl (nI_1 k) (by decide) rfl (fun ls hl => ?_)
                refine lv_goto (tgt := 20) hx hb dX1_inDistrict_67 (by decide) ?_
                exact ih _ (by omega) (k + 1) (acc + 1) rfl (by omega) (by rw [← hc, cnt_y hlt (dt ⟨c_39, c_54⟩)]; omega) _ _ hP hD hS _ (lv_sub hl [2, 3, 1, 0] rfl)
    exact hloop_20 _ 0 0 rfl (by omega) (Nat.zero_add _) _ _ hP hD hS _ (lv_sub hl [2, 3, 1, 0] rfl)
