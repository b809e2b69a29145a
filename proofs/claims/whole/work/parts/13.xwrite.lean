set_option maxHeartbeats 4000000 in
set_option maxRecDepth 100000 in
/-- puts a row, if there is such a shard and key -/
theorem c_X0_putRow (l : Launch) (D : va_G) (cA cZ cL : ClassId) (ad : Nat → Nat) (f : qFs) (g : qGs) (sz : Nat) (sh : Int32) (k : Int32) (a : Int32) : Met l yX0_putRow wsX0_putRow ({ frames := 1, cells := 0, slots := 0, locals := 20 } : Room) (va_Pc [.ref (ad 16), .int sh, .int k, .int a] (qPreW D (qTy cA cZ cL) (xW cA ad f g) sz)) (va_Qv (fun u : qFs × qGs => u.1 = f ∧ u.2 = xPutG g sh k a) (qAt D (va_A (xW cA ad f g) sz) (fun u : qFs × qGs => xW cA ad u.1 u.2)) (va_A (xW cA ad f g) sz)) 0 0 (va_A (xW cA ad f g) sz) := by
  refine Met.ofW (cc := cX0_putRow) (maxL := 4) (ret := none) (by decide) rfl ?_
  intro p e s m args below meth c s₁ B hml hv
  obtain ⟨rfl, hsz, hP, hK, hD0⟩ := hv
  have hx := B.exec
  have hb := B.bytes
  have hr := B.returns
  have hts := atoms_spec (ws := wsX0_putRow) B.pre
  have hown : s.vm.findClass RX0 = some m.cls := findClass_of_methodNamed B.named
  have hlocks := B.notSynchronized
  subst hsz
  have hD := hD0.self (sz := s.heap.size)
  generalize hAe : va_A (xW cA ad f g) s.heap.size = A at hD ⊢
  have hA : ∀ q : Nat, s.heap.size ≤ q → A q := fun q h => by rw [← hAe]; exact Or.inr h
  have hS : va_S A s.heap s.heap [] := va_S.rf
  have hfin : ∀ w ∈ wsX00, w ∈ wsX0_putRow := fun w h => (List.mem_cons_of_mem _ (List.mem_append_right _ h))
  have hl := lv_entry ([.ref (ad 16), .int sh, .int k, .int a]) (n := 4) (Nat.le_of_ble_eq_true rfl)
  rw [lg_entry_eq]
  generalize (lg_sl ([.ref (ad 16), .int sh, .int k, .int a]) ++ List.replicate (4 - (lg_sl ([.ref (ad 16), .int sh, .int k, .int a])).length) Slot.unset).toArray = ls at hl ⊢
  have hl : lv_has ls 4 [(0, .ref (ad 16)), (1, .int sh), (2, .int k), (3, .int a)] := hl
  refine lv_iload_n hx hb dX0_putRow_0 rfl (lv_at hl 1 rfl) ?_
  refine vp_callSi (W.runS (As := [.int sh]) (rest := []) ⟨hx, hb, hml, hown, hts⟩ (c_X0_isShard l sh) (va_cwS 1 hts gX0_putRow_X0_isShard rfl rfl rfl (by decide +kernel) ⟨Nat.le_of_ble_eq_true rfl, Nat.le_of_ble_eq_true rfl⟩) ⟨qN_blind, qN_at⟩ rfl rfl hl.1 rfl (lv_room (Nat.le_of_ble_eq_true rfl)) dX0_putRow_1 ⟨Nat.le_of_ble_eq_true rfl, Nat.le_of_ble_eq_true rfl⟩) (fun z hz => ?_)
  subst hz
  refine lv_if_eq (tgt := 26) hx hb dX0_putRow_4 (by decide) (fun c_4 => ?_) (fun c_4 => ?_)
  · have c_4 := bI_0.mp c_4
    exact W.vret hx hb hr (fun t ht hW => ⟨⟨(f, g), rfl, ⟨rfl, (by unfold xPutG xPut; rw [if_neg (fun q => c_4 q.1), up_self])⟩, by rw [ht]; exact hP, hD⟩, hS.F ht⟩) hS.2.2 dX0_putRow_26
  · have c_4 := bI_n.mp c_4
    refine lv_iload_n hx hb dX0_putRow_7 rfl (lv_at hl 2 rfl) ?_
    refine vp_callSi (W.runS (As := [.int k]) (rest := []) ⟨hx, hb, hml, hown, hts⟩ (c_X0_isKey l k) (va_cwS 1 hts gX0_putRow_X0_isKey rfl rfl rfl (by decide +kernel) ⟨Nat.le_of_ble_eq_true rfl, Nat.le_of_ble_eq_true rfl⟩) ⟨qN_blind, qN_at⟩ rfl rfl hl.1 rfl (lv_room (Nat.le_of_ble_eq_true rfl)) dX0_putRow_8 ⟨Nat.le_of_ble_eq_true rfl, Nat.le_of_ble_eq_true rfl⟩) (fun z hz => ?_)
    subst hz
    refine lv_if_eq (tgt := 26) hx hb dX0_putRow_11 (by decide) (fun c_11 => ?_) (fun c_11 => ?_)
    · have c_11 := bI_0.mp c_11
      exact W.vret hx hb hr (fun t ht hW => ⟨⟨(f, g), rfl, ⟨rfl, (by unfold xPutG xPut; rw [if_neg (fun q => c_11 q.2), up_self])⟩, by rw [ht]; exact hP, hD⟩, hS.F ht⟩) hS.2.2 dX0_putRow_26
    · have c_11 := bI_n.mp c_11
      refine lv_aload_n hx hb dX0_putRow_14 rfl (lv_at hl 0 rfl) ?_
      refine va_get (D := D) (ci := 0) (v := .ref (ad 0)) (C := RX0) (T := TX0) (N := 16) hx hb hts hfin hown hK hP 0 rfl rfl 0 (by decide) (hts _ (List.mem_cons_of_mem _ (List.mem_append_left _ (List.mem_of_getElem? (i := 0) rfl)))) (fun _ h9 => h9) rfl dX0_putRow_15 ?_
      refine lv_iload_n hx hb dX0_putRow_18 rfl (lv_at hl 1 rfl) ?_
      refine lv_bipush (v := 100) hx hb dX0_putRow_19 (by decide) ?_
      refine lv_imul hx hb dX0_putRow_21 ?_
      refine lv_iload_n hx hb dX0_putRow_22 rfl (lv_at hl 2 rfl) ?_
      refine lv_iadd hx hb dX0_putRow_23 ?_
      refine lv_iload_n hx hb dX0_putRow_24 rfl (lv_at hl 3 rfl) ?_
      refine va_iast hx hb hK hP hD hS 1 0 rfl rfl (x_inT c_4 c_11) dX0_putRow_25 (fun H locs hP hD hS => ?_)
      have hP : va_P D vwCl (xW cA ad f (va_up g 0 (upd (g 0) ((sh * 100) + k).toNatClampNeg a))) H := hP
      have hD : va_D A (xW cA ad f (va_up g 0 (upd (g 0) ((sh * 100) + k).toNatClampNeg a))) := hD
      exact W.vret hx hb hr (fun t ht hW => ⟨⟨(f, (va_up g 0 (upd (g 0) ((sh * 100) + k).toNatClampNeg a))), rfl, ⟨rfl, (by unfold xPutG xPut; rw [if_pos ⟨c_4, c_11⟩])⟩, by rw [ht]; exact hP, hD⟩, hS.F ht⟩) hS.2.2 dX0_putRow_26
set_option maxHeartbeats 4000000 in
set_option maxRecDepth 100000 in
/-- a write, to both shards of a moved range -/
theorem c_X0_write (l : Launch) (D : va_G) (cA cZ cL : ClassId) (ad : Nat → Nat) (f : qFs) (g : qGs) (sz : Nat) (k : Int32) (a : Int32) (nR : Nat) (nB : Nat) (hI : xI nR nB f) : Met l yX0_write wsX0_write ({ frames := 3, cells := 0, slots := 0, locals := 65 } : Room) (va_Pc [.ref (ad 16), .int k, .int a] (qPreW D (qTy cA cZ cL) (xW cA ad f g) sz)) (va_Qv (fun u : qFs × qGs => u.1 = f ∧ u.2 = xWriteG nR f g k a) (qAt D (va_A (xW cA ad f g) sz) (fun u : qFs × qGs => xW cA ad u.1 u.2)) (va_A (xW cA ad f g) sz)) 0 0 (va_A (xW cA ad f g) sz) := by
  refine Met.ofW (cc := cX0_write) (maxL := 4) (ret := none) (by decide) rfl ?_
  intro p e s m args below meth c s₁ B hml hv
  obtain ⟨rfl, hsz, hP, hK, hD0⟩ := hv
  have hx := B.exec
  have hb := B.bytes
  have hr := B.returns
  have hts := atoms_spec (ws := wsX0_write) B.pre
  have hown : s.vm.findClass RX0 = some m.cls := findClass_of_methodNamed B.named
  have hlocks := B.notSynchronized
  subst hsz
  have hD := hD0.self (sz := s.heap.size)
  generalize hAe : va_A (xW cA ad f g) s.heap.size = A at hD ⊢
  have hA : ∀ q : Nat, s.heap.size ≤ q → A q := fun q h => by rw [← hAe]; exact Or.inr h
  have hS : va_S A s.heap s.heap [] := va_S.rf
  have hfin : ∀ w ∈ wsX00, w ∈ wsX0_write := fun w h => (List.mem_cons_of_mem _ (List.mem_append_right _ h))
  have hl := lv_entry ([.ref (ad 16), .int k, .int a]) (n := 4) (Nat.le_of_ble_eq_true rfl)
  rw [lg_entry_eq]
  generalize (lg_sl ([.ref (ad 16), .int k, .int a]) ++ List.replicate (4 - (lg_sl ([.ref (ad 16), .int k, .int a])).length) Slot.unset).toArray = ls at hl ⊢
  have hl : lv_has ls 4 [(0, .ref (ad 16)), (1, .int k), (2, .int a)] := hl
  refine lv_aload_n hx hb dX0_write_0 rfl (lv_at hl 0 rfl) ?_
  refine lv_iload_n hx hb dX0_write_1 rfl (lv_at hl 1 rfl) ?_
  refine vp_callSi (W.runV (As := [.int k]) (rest := []) ⟨hx, hb, hml, hown, hts⟩ (c_X0_rangeHolding l D cA cZ cL ad f g k nR nB hI) (cwV 1 hts gX0_write_X0_rangeHolding rfl rfl rfl (by decide +kernel) ⟨Nat.le_of_ble_eq_true rfl, Nat.le_of_ble_eq_true rfl⟩) ⟨qPre_blind, va_recv hK hP (ci := 0) (q0 := 0) rfl rfl, qPre_at hP hK⟩ rfl rfl hl.1 rfl (lv_room (Nat.le_of_ble_eq_true rfl)) dX0_write_2 ⟨Nat.le_of_ble_eq_true rfl, Nat.le_of_ble_eq_true rfl⟩) (fun z hz => ?_)
  subst hz
  refine lv_istore_n (lv' := [(3, .int (nI (xHold nR g k))), (0, .ref (ad 16)), (1, .int k), (2, .int a)]) hx hb dX0_write_5 rfl hl (by decide) rfl (fun ls hl => ?_)
  refine lv_aload_n hx hb dX0_write_6 rfl (lv_at hl 1 rfl) ?_
  refine lv_aload_n hx hb dX0_write_7 rfl (lv_at hl 1 rfl) ?_
  refine lv_iload_n hx hb dX0_write_8 rfl (lv_at hl 0 rfl) ?_
  refine vp_callSi (W.runV (As := [.int (nI (xHold nR g k))]) (rest := [.ref (ad 16)]) ⟨hx, hb, hml, hown, hts⟩ (c_X0_homeOf l D cA cZ cL ad f g (nI (xHold nR g k)) nR nB hI) (cwV 1 hts gX0_write_X0_homeOf rfl rfl rfl (by decide +kernel) ⟨Nat.le_of_ble_eq_true rfl, Nat.le_of_ble_eq_true rfl⟩) ⟨qPre_blind, va_recv hK hP (ci := 0) (q0 := 0) rfl rfl, qPre_at hP hK⟩ rfl rfl hl.1 rfl (lv_room (Nat.le_of_ble_eq_true rfl)) dX0_write_9 ⟨Nat.le_of_ble_eq_true rfl, Nat.le_of_ble_eq_true rfl⟩) (fun z hz => ?_)
  subst hz
  refine lv_iload_n hx hb dX0_write_12 rfl (lv_at hl 2 rfl) ?_
  refine lv_iload_n hx hb dX0_write_13 rfl (lv_at hl 3 rfl) ?_
  refine qb_callv (va_runV (As := [.int (xHome f g (nI (xHold nR g k))), .int k, .int a]) (rest := []) ⟨hx, hb, hml, hown, hts⟩ (c_X0_putRow l D cA cZ cL ad f g s.heap.size (xHome f g (nI (xHold nR g k))) k a) (cwV 3 hts gX0_write_X0_putRow rfl rfl rfl (by decide +kernel) ⟨Nat.le_of_ble_eq_true rfl, Nat.le_of_ble_eq_true rfl⟩) ⟨qPreW_blind, va_recv hK hP (ci := 0) (q0 := 0) rfl rfl, qPreW_at hP hK hD⟩ rfl rfl hl.1 rfl (lv_room (Nat.le_of_ble_eq_true rfl)) dX0_write_14 ⟨Nat.le_of_ble_eq_true rfl, Nat.le_of_ble_eq_true rfl⟩) hD hS hA (fun u H locs hu hP hD hS => ?_)
  obtain ⟨uf, ug⟩ := u
  obtain ⟨hu1, hu2⟩ := hu
  have hu1 : uf = f := hu1
  have hu2 : ug = xPutG g (xHome f g (nI (xHold nR g k))) k a := hu2
  have hP : va_P D vwCl (xW cA ad uf ug) H := hP
  have hD : va_D A (xW cA ad uf ug) := hD
  rw [hu1, hu2] at hP hD
  have hP : va_P D vwCl (xW cA ad f (xPutG g (xHome f g (nI (xHold nR g k))) k a)) H := hP
  have hD : va_D A (xW cA ad f (xPutG g (xHome f g (nI (xHold nR g k))) k a)) := hD
  refine lv_aload_n hx hb dX0_write_17 rfl (lv_at hl 1 rfl) ?_
  refine lv_aload_n hx hb dX0_write_18 rfl (lv_at hl 1 rfl) ?_
  refine lv_iload_n hx hb dX0_write_19 rfl (lv_at hl 0 rfl) ?_
  refine vp_callSi (W.runV (As := [.int (nI (xHold nR g k))]) (rest := [.ref (ad 16)]) ⟨hx, hb, hml, hown, hts⟩ (c_X0_targetOf l D cA cZ cL ad f (xPutG g (xHome f g (nI (xHold nR g k))) k a) (nI (xHold nR g k)) nR nB hI) (cwV 1 hts gX0_write_X0_targetOf rfl rfl rfl (by decide +kernel) ⟨Nat.le_of_ble_eq_true rfl, Nat.le_of_ble_eq_true rfl⟩) ⟨qPre_blind, va_recv hK hP (ci := 0) (q0 := 0) rfl rfl, qPre_at hP hK⟩ rfl rfl hl.1 rfl (lv_room (Nat.le_of_ble_eq_true rfl)) dX0_write_20 ⟨Nat.le_of_ble_eq_true rfl, Nat.le_of_ble_eq_true rfl⟩) (fun z hz => ?_)
  subst hz
  refine lv_topi (fun v_20 hv_20 => ?_)
  have hv_20 : v_20 = xTarg f g (nI (xHold nR g k)) := hv_20.trans (rfl)
  subst hv_20
  refine lv_iload_n hx hb dX0_write_23 rfl (lv_at hl 2 rfl) ?_
  refine lv_iload_n hx hb dX0_write_24 rfl (lv_at hl 3 rfl) ?_
  refine qb_callv (va_runV (As := [.int (xTarg f g (nI (xHold nR g k))), .int k, .int a]) (rest := []) ⟨hx, hb, hml, hown, hts⟩ (c_X0_putRow l D cA cZ cL ad f (xPutG g (xHome f g (nI (xHold nR g k))) k a) H.size (xTarg f g (nI (xHold nR g k))) k a) (cwV 3 hts gX0_write_X0_putRow rfl rfl rfl (by decide +kernel) ⟨Nat.le_of_ble_eq_true rfl, Nat.le_of_ble_eq_true rfl⟩) ⟨qPreW_blind, va_recv hK hP (ci := 0) (q0 := 0) rfl rfl, qPreW_at hP hK hD⟩ rfl rfl hl.1 rfl (lv_room (Nat.le_of_ble_eq_true rfl)) dX0_write_25 ⟨Nat.le_of_ble_eq_true rfl, Nat.le_of_ble_eq_true rfl⟩) hD hS hA (fun u H locs hu hP hD hS => ?_)
  obtain ⟨uf, ug⟩ := u
  obtain ⟨hu1, hu2⟩ := hu
  have hu1 : uf = f := hu1
  have hu2 : ug = xPutG (xPutG g (xHome f g (nI (xHold nR g k))) k a) (xTarg f g (nI (xHold nR g k))) k a := hu2
  have hP : va_P D vwCl (xW cA ad uf ug) H := hP
  have hD : va_D A (xW cA ad uf ug) := hD
  rw [hu1, hu2] at hP hD
  have hP : va_P D vwCl (xW cA ad f (xPutG (xPutG g (xHome f g (nI (xHold nR g k))) k a) (xTarg f g (nI (xHold nR g k))) k a)) H := hP
  have hD : va_D A (xW cA ad f (xPutG (xPutG g (xHome f g (nI (xHold nR g k))) k a) (xTarg f g (nI (xHold nR g k))) k a)) := hD
  exact W.vret hx hb hr (fun t ht hW => ⟨⟨(f, (xPutG (xPutG g (xHome f g (nI (xHold nR g k))) k a) (xTarg f g (nI (xHold nR g k))) k a)), rfl, ⟨rfl, rfl⟩, by rw [ht]; exact hP, hD⟩, hS.F ht⟩) hS.2.2 dX0_write_28
set_option maxHeartbeats 4000000 in
set_option maxRecDepth 100000 in
/-- drops the rows of a range -/
theorem c_X0_dropRows (l : Launch) (D : va_G) (cA cZ cL : ClassId) (ad : Nat → Nat) (f : qFs) (g : qGs) (sz : Nat) (sh : Int32) (r : Int32) (nR : Nat) (nB : Nat) (hI : xI nR nB f) (lo : Nat) (hlo : lo ≤ 100) (hlo2 : xFirst f g r = nI lo) : Met l yX0_dropRows wsX0_dropRows ({ frames := 3, cells := 0, slots := 0, locals := 63 } : Room) (va_Pc [.ref (ad 16), .int sh, .int r] (qPreW D (qTy cA cZ cL) (xW cA ad f g) sz)) (va_Qv (fun u : qFs × qGs => u.1 = f ∧ u.2 = xDropG f g sh r) (qAt D (va_A (xW cA ad f g) sz) (fun u : qFs × qGs => xW cA ad u.1 u.2)) (va_A (xW cA ad f g) sz)) 0 0 (va_A (xW cA ad f g) sz) := by
  refine Met.ofW (cc := cX0_dropRows) (maxL := 5) (ret := none) (by decide) rfl ?_
  intro p e s m args below meth c s₁ B hml hv
  obtain ⟨rfl, hsz, hP, hK, hD0⟩ := hv
  have hx := B.exec
  have hb := B.bytes
  have hr := B.returns
  have hts := atoms_spec (ws := wsX0_dropRows) B.pre
  have hown : s.vm.findClass RX0 = some m.cls := findClass_of_methodNamed B.named
  have hlocks := B.notSynchronized
  subst hsz
  have hD := hD0.self (sz := s.heap.size)
  generalize hAe : va_A (xW cA ad f g) s.heap.size = A at hD ⊢
  have hA : ∀ q : Nat, s.heap.size ≤ q → A q := fun q h => by rw [← hAe]; exact Or.inr h
  have hS : va_S A s.heap s.heap [] := va_S.rf
  have hfin : ∀ w ∈ wsX00, w ∈ wsX0_dropRows := fun w h => (List.mem_cons_of_mem _ (List.mem_append_right _ h))
  have hl := lv_entry ([.ref (ad 16), .int sh, .int r]) (n := 5) (Nat.le_of_ble_eq_true rfl)
  rw [lg_entry_eq]
  generalize (lg_sl ([.ref (ad 16), .int sh, .int r]) ++ List.replicate (5 - (lg_sl ([.ref (ad 16), .int sh, .int r])).length) Slot.unset).toArray = ls at hl ⊢
  have hl : lv_has ls 5 [(0, .ref (ad 16)), (1, .int sh), (2, .int r)] := hl
  have hlo3 : (xFirst f g r).toNatClampNeg = lo := by rw [hlo2]; exact nI_clamp (by omega)
  refine lv_aload_n hx hb dX0_dropRows_0 rfl (lv_at hl 0 rfl) ?_
  refine lv_iload_n hx hb dX0_dropRows_1 rfl (lv_at hl 2 rfl) ?_
  refine vp_callSi (W.runV (As := [.int r]) (rest := []) ⟨hx, hb, hml, hown, hts⟩ (c_X0_lastKeyOf l D cA cZ cL ad f g r nR nB hI) (cwV 1 hts gX0_dropRows_X0_lastKeyOf rfl rfl rfl (by decide +kernel) ⟨Nat.le_of_ble_eq_true rfl, Nat.le_of_ble_eq_true rfl⟩) ⟨qPre_blind, va_recv hK hP (ci := 0) (q0 := 0) rfl rfl, qPre_at hP hK⟩ rfl rfl hl.1 rfl (lv_room (Nat.le_of_ble_eq_true rfl)) dX0_dropRows_2 ⟨Nat.le_of_ble_eq_true rfl, Nat.le_of_ble_eq_true rfl⟩) (fun z hz => ?_)
  subst hz
  refine lv_istore_n (lv' := [(3, .int (xLast f g r)), (0, .ref (ad 16)), (1, .int sh), (2, .int r)]) hx hb dX0_dropRows_5 rfl hl (by decide) rfl (fun ls hl => ?_)
  refine lv_aload_n hx hb dX0_dropRows_6 rfl (lv_at hl 1 rfl) ?_
  refine lv_iload_n hx hb dX0_dropRows_7 rfl (lv_at hl 3 rfl) ?_
  refine vp_callSi (W.runV (As := [.int r]) (rest := []) ⟨hx, hb, hml, hown, hts⟩ (c_X0_firstKeyOf l D cA cZ cL ad f g r nR nB hI) (cwV 1 hts gX0_dropRows_X0_firstKeyOf rfl rfl rfl (by decide +kernel) ⟨Nat.le_of_ble_eq_true rfl, Nat.le_of_ble_eq_true rfl⟩) ⟨qPre_blind, va_recv hK hP (ci := 0) (q0 := 0) rfl rfl, qPre_at hP hK⟩ rfl rfl hl.1 rfl (lv_room (Nat.le_of_ble_eq_true rfl)) dX0_dropRows_8 ⟨Nat.le_of_ble_eq_true rfl, Nat.le_of_ble_eq_true rfl⟩) (fun z hz => ?_)
  subst hz
  refine lv_topi (fun v_8 hv_8 => ?_)
  have hv_8 : v_8 = nI lo := hv_8.trans (hlo2)
  subst hv_8
  refine lv_istore (lv' := [(4, .int (nI lo)), (3, .int (xLast f g r)), (0, .ref (ad 16)), (1, .int sh), (2, .int r)]) hx hb dX0_dropRows_11 hl (by decide) rfl (fun ls hl => ?_)
  have hloop_13 : ∀ (nme : Nat) (k : Nat) (g1 : qGs), 100 - k = nme → (k ≤ 100) → (xDropN sh g1 k (hiOf (xLast f g r) - k) = xDropN sh g lo (hiOf (xLast f g r) - lo)) → ∀ (H : Heap) (locs : List Loc), va_P D vwCl (xW cA ad f g1) H → va_D A (xW cA ad f g1) → va_S A s.heap H locs → ∀ ls : Array Slot, lv_has ls 5 [(0, .ref (ad 16)), (1, .int sh), (2, .int r), (3, .int (xLast f g r)), (4, .int (nI k))] → W p l e (headSpec wsX0_dropRows ({ frames := 3, cells := 0, slots := 0, locals := 63 } : Room)).room s m ([.ref (ad 16), .int sh, .int r] : List Value).toArray below meth c H locs 0 0 (MQ below (va_Qv (fun u : qFs × qGs => u.1 = f ∧ u.2 = xDropG f g sh r) (qAt D A (fun u : qFs × qGs => xW cA ad u.1 u.2)) A) ([.ref (ad 16), .int sh, .int r] : List Value).toArray s 0 0 A) (F0 m 13 ls []) := by
    intro nme
    induction nme using Nat.strongRecOn with
    | ind nme ih =>
      intro k g1 hnme hk hc H locs hP hD hS ls hl
      refine lv_iload hx hb dX0_dropRows_13 (lv_at hl 4 rfl) ?_
      refine lv_iload_n hx hb dX0_dropRows_15 rfl (lv_at hl 3 rfl) ?_
      refine lv_icmp_gt (tgt := 40) hx hb dX0_dropRows_16 (by decide) (fun c_16 => ?_) (fun c_16 => ?_)
      · skip
        have hge := hi_out c_16 (by omega)
        exact W.vret hx hb hr (fun t ht hW => ⟨⟨(f, g1), rfl, ⟨rfl, (by unfold xDropG; rw [hlo3, ← hc, xDropN_e hge])⟩, by rw [ht]; exact hP, hD⟩, hS.F ht⟩) hS.2.2 dX0_dropRows_40
      · skip
        refine lv_iload hx hb dX0_dropRows_19 (lv_at hl 4 rfl) ?_
        refine lv_bipush (v := 100) hx hb dX0_dropRows_21 (by decide) ?_
        refine lv_icmp_ge (tgt := 40) hx hb dX0_dropRows_23 (by decide) (fun c_23 => ?_) (fun c_23 => ?_)
        · skip
          have hge : hiOf (xLast f g r) ≤ k := Nat.le_trans (hi_le _) (n_ge (a := k) (b := 100) c_23 (by omega) (by decide))
          exact W.vret hx hb hr (fun t ht hW => ⟨⟨(f, g1), rfl, ⟨rfl, (by unfold xDropG; rw [hlo3, ← hc, xDropN_e hge])⟩, by rw [ht]; exact hP, hD⟩, hS.F ht⟩) hS.2.2 dX0_dropRows_40
        · skip
          have hlt := hi_in c_16 c_23 (by omega)
          have hl1 := hi_le (xLast f g r)
          refine lv_aload_n hx hb dX0_dropRows_26 rfl (lv_at hl 0 rfl) ?_
          refine lv_iload_n hx hb dX0_dropRows_27 rfl (lv_at hl 1 rfl) ?_
          refine lv_iload hx hb dX0_dropRows_28 (lv_at hl 4 rfl) ?_
          refine lv_iconst (v := (-1)) hx hb dX0_dropRows_30 (by decide) ?_
          refine qb_callv (va_runV (As := [.int sh, .int (nI k), .int (-1)]) (rest := []) ⟨hx, hb, hml, hown, hts⟩ (c_X0_putRow l D cA cZ cL ad f g1 H.size sh (nI k) (-1)) (cwV 3 hts gX0_dropRows_X0_putRow rfl rfl rfl (by decide +kernel) ⟨Nat.le_of_ble_eq_true rfl, Nat.le_of_ble_eq_true rfl⟩) ⟨qPreW_blind, va_recv hK hP (ci := 0) (q0 := 0) rfl rfl, qPreW_at hP hK hD⟩ rfl rfl hl.1 rfl (lv_room (Nat.le_of_ble_eq_true rfl)) dX0_dropRows_31 ⟨Nat.le_of_ble_eq_true rfl, Nat.le_of_ble_eq_true rfl⟩) hD hS hA (fun u H locs hu hP hD hS => ?_)
          obtain ⟨uf, ug⟩ := u
          obtain ⟨hu1, hu2⟩ := hu
          have hu1 : uf = f := hu1
          have hu2 : ug = xPutG g1 sh (nI k) (-1) := hu2
          have hP : va_P D vwCl (xW cA ad uf ug) H := hP
          have hD : va_D A (xW cA ad uf ug) := hD
          rw [hu1, hu2] at hP hD
          have hP : va_P D vwCl (xW cA ad f (xPutG g1 sh (nI k) (-1))) H := hP
          have hD : va_D A (xW cA ad f (xPutG g1 sh (nI k) (-1))) := hD
          refine lv_iinc (v := nI (k + 1)) (lv' := [(4, .int (nI (k + 1))), (0, .ref (ad 16)), (1, .int sh), (2, .int r), (3, .int (xLast f g r))]) hx hb dX0_dropRows_34 hl (k := 4) rfl (nI_1 k) (by decide) rfl (fun ls hl => ?_)
          refine lv_goto (tgt := 13) hx hb dX0_dropRows_37 (by decide) ?_
          exact ih _ (by omega) (k + 1) (xPutG g1 sh (nI k) (-1)) rfl (by omega) (by rw [← hc]; exact (xDropN_s hlt).symm) _ _ hP hD hS _ (lv_sub hl [1, 2, 3, 4, 0] rfl)
  exact hloop_13 _ lo g rfl hlo rfl _ _ hP hD hS _ (lv_sub hl [2, 3, 4, 1, 0] rfl)
set_option maxHeartbeats 4000000 in
set_option maxRecDepth 100000 in
/-- puts the last key of a range -/
theorem c_X0_putLastKey (l : Launch) (D : va_G) (cA cZ cL : ClassId) (ad : Nat → Nat) (f : qFs) (g : qGs) (sz : Nat) (r : Nat) (k : Int32) (nR : Nat) (hR : f 5 = nI nR) (hR8 : nR ≤ 8) (hrn : r < nR) : Met l yX0_putLastKey wsX0_putLastKey ({ frames := 1, cells := 0, slots := 0, locals := 21 } : Room) (va_Pc [.ref (ad 16), .int (nI r), .int k] (qPreW D (qTy cA cZ cL) (xW cA ad f g) sz)) (va_Qv (fun u : qFs × qGs => u.1 = f ∧ u.2 = va_up g 2 (upd (g 2) r k)) (qAt D (va_A (xW cA ad f g) sz) (fun u : qFs × qGs => xW cA ad u.1 u.2)) (va_A (xW cA ad f g) sz)) 0 0 (va_A (xW cA ad f g) sz) := by
  refine Met.ofW (cc := cX0_putLastKey) (maxL := 3) (ret := none) (by decide) rfl ?_
  intro p e s m args below meth c s₁ B hml hv
  obtain ⟨rfl, hsz, hP, hK, hD0⟩ := hv
  have hx := B.exec
  have hb := B.bytes
  have hr := B.returns
  have hts := atoms_spec (ws := wsX0_putLastKey) B.pre
  have hown : s.vm.findClass RX0 = some m.cls := findClass_of_methodNamed B.named
  have hlocks := B.notSynchronized
  subst hsz
  have hD := hD0.self (sz := s.heap.size)
  generalize hAe : va_A (xW cA ad f g) s.heap.size = A at hD ⊢
  have hA : ∀ q : Nat, s.heap.size ≤ q → A q := fun q h => by rw [← hAe]; exact Or.inr h
  have hS : va_S A s.heap s.heap [] := va_S.rf
  have hfin : ∀ w ∈ wsX00, w ∈ wsX0_putLastKey := fun w h => (List.mem_cons_of_mem _ (List.mem_append_right _ h))
  have hl := lv_entry ([.ref (ad 16), .int (nI r), .int k]) (n := 3) (Nat.le_of_ble_eq_true rfl)
  rw [lg_entry_eq]
  generalize (lg_sl ([.ref (ad 16), .int (nI r), .int k]) ++ List.replicate (3 - (lg_sl ([.ref (ad 16), .int (nI r), .int k])).length) Slot.unset).toArray = ls at hl ⊢
  have hl : lv_has ls 3 [(0, .ref (ad 16)), (1, .int (nI r)), (2, .int k)] := hl
  refine lv_aload_n hx hb dX0_putLastKey_0 rfl (lv_at hl 0 rfl) ?_
  refine lv_iload_n hx hb dX0_putLastKey_1 rfl (lv_at hl 1 rfl) ?_
  refine vp_callSi (W.runV (As := [.int (nI r)]) (rest := []) ⟨hx, hb, hml, hown, hts⟩ (c_X0_isRange l D cA cZ cL ad f g (nI r)) (cwV 1 hts gX0_putLastKey_X0_isRange rfl rfl rfl (by decide +kernel) ⟨Nat.le_of_ble_eq_true rfl, Nat.le_of_ble_eq_true rfl⟩) ⟨qPre_blind, va_recv hK hP (ci := 0) (q0 := 0) rfl rfl, qPre_at hP hK⟩ rfl rfl hl.1 rfl (lv_room (Nat.le_of_ble_eq_true rfl)) dX0_putLastKey_2 ⟨Nat.le_of_ble_eq_true rfl, Nat.le_of_ble_eq_true rfl⟩) (fun z hz => ?_)
  subst hz
  refine lv_if_eq (tgt := 15) hx hb dX0_putLastKey_5 (by decide) (fun c_5 => ?_) (fun c_5 => ?_)
  · have c_5 := bI_0.mp c_5
    exact (c_5 (x_rangeAt hR hR8 hrn)).elim
  · have c_5 := bI_n.mp c_5
    refine lv_aload_n hx hb dX0_putLastKey_8 rfl (lv_at hl 0 rfl) ?_
    refine va_get (D := D) (ci := 0) (v := .ref (ad 2)) (C := RX0) (T := TX0) (N := 16) hx hb hts hfin hown hK hP 0 rfl rfl 2 (by decide) (hts _ (List.mem_cons_of_mem _ (List.mem_append_left _ (List.mem_of_getElem? (i := 0) rfl)))) (fun _ h9 => h9) rfl dX0_putLastKey_9 ?_
    refine lv_iload_n hx hb dX0_putLastKey_12 rfl (lv_at hl 1 rfl) ?_
    refine lv_iload_n hx hb dX0_putLastKey_13 rfl (lv_at hl 2 rfl) ?_
    refine va_iast hx hb hK hP hD hS 2 0 rfl rfl (vp_in_nI (by omega) (by decide)) dX0_putLastKey_14 (fun H locs hP hD hS => ?_)
    have hix : (nI r).toNatClampNeg = r := nI_clamp (by omega)
    rw [hix] at hP hD
    have hP : va_P D vwCl (xW cA ad f (va_up g 2 (upd (g 2) r k))) H := hP
    have hD : va_D A (xW cA ad f (va_up g 2 (upd (g 2) r k))) := hD
    exact W.vret hx hb hr (fun t ht hW => ⟨⟨(f, (va_up g 2 (upd (g 2) r k))), rfl, ⟨rfl, rfl⟩, by rw [ht]; exact hP, hD⟩, hS.F ht⟩) hS.2.2 dX0_putLastKey_15
set_option maxHeartbeats 4000000 in
set_option maxRecDepth 100000 in
/-- copies a range -/
theorem c_X0_copyRange (l : Launch) (D : va_G) (cA cZ cL : ClassId) (ad : Nat → Nat) (f : qFs) (g : qGs) (sz : Nat) (i : Nat) (j : Nat) (nR : Nat) (hR : f 5 = nI nR) (hR8 : nR ≤ 8) (hi : i < nR) (hj : j < nR) : Met l yX0_copyRange wsX0_copyRange ({ frames := 1, cells := 0, slots := 0, locals := 21 } : Room) (va_Pc [.ref (ad 16), .int (nI i), .int (nI j)] (qPreW D (qTy cA cZ cL) (xW cA ad f g) sz)) (va_Qv (fun u : qFs × qGs => u.1 = f ∧ u.2 = xCopyG g i j) (qAt D (va_A (xW cA ad f g) sz) (fun u : qFs × qGs => xW cA ad u.1 u.2)) (va_A (xW cA ad f g) sz)) 0 0 (va_A (xW cA ad f g) sz) := by
  refine Met.ofW (cc := cX0_copyRange) (maxL := 3) (ret := none) (by decide) rfl ?_
  intro p e s m args below meth c s₁ B hml hv
  obtain ⟨rfl, hsz, hP, hK, hD0⟩ := hv
  have hx := B.exec
  have hb := B.bytes
  have hr := B.returns
  have hts := atoms_spec (ws := wsX0_copyRange) B.pre
  have hown : s.vm.findClass RX0 = some m.cls := findClass_of_methodNamed B.named
  have hlocks := B.notSynchronized
  subst hsz
  have hD := hD0.self (sz := s.heap.size)
  generalize hAe : va_A (xW cA ad f g) s.heap.size = A at hD ⊢
  have hA : ∀ q : Nat, s.heap.size ≤ q → A q := fun q h => by rw [← hAe]; exact Or.inr h
  have hS : va_S A s.heap s.heap [] := va_S.rf
  have hfin : ∀ w ∈ wsX00, w ∈ wsX0_copyRange := fun w h => (List.mem_cons_of_mem _ (List.mem_append_right _ h))
  have hl := lv_entry ([.ref (ad 16), .int (nI i), .int (nI j)]) (n := 3) (Nat.le_of_ble_eq_true rfl)
  rw [lg_entry_eq]
  generalize (lg_sl ([.ref (ad 16), .int (nI i), .int (nI j)]) ++ List.replicate (3 - (lg_sl ([.ref (ad 16), .int (nI i), .int (nI j)])).length) Slot.unset).toArray = ls at hl ⊢
  have hl : lv_has ls 3 [(0, .ref (ad 16)), (1, .int (nI i)), (2, .int (nI j))] := hl
  refine lv_aload_n hx hb dX0_copyRange_0 rfl (lv_at hl 0 rfl) ?_
  refine lv_iload_n hx hb dX0_copyRange_1 rfl (lv_at hl 1 rfl) ?_
  refine vp_callSi (W.runV (As := [.int (nI i)]) (rest := []) ⟨hx, hb, hml, hown, hts⟩ (c_X0_isRange l D cA cZ cL ad f g (nI i)) (cwV 1 hts gX0_copyRange_X0_isRange rfl rfl rfl (by decide +kernel) ⟨Nat.le_of_ble_eq_true rfl, Nat.le_of_ble_eq_true rfl⟩) ⟨qPre_blind, va_recv hK hP (ci := 0) (q0 := 0) rfl rfl, qPre_at hP hK⟩ rfl rfl hl.1 rfl (lv_room (Nat.le_of_ble_eq_true rfl)) dX0_copyRange_2 ⟨Nat.le_of_ble_eq_true rfl, Nat.le_of_ble_eq_true rfl⟩) (fun z hz => ?_)
  subst hz
  refine lv_if_eq (tgt := 52) hx hb dX0_copyRange_5 (by decide) (fun c_5 => ?_) (fun c_5 => ?_)
  · have c_5 := bI_0.mp c_5
    exact (c_5 (x_rangeAt hR hR8 hi)).elim
  · have c_5 := bI_n.mp c_5
    refine lv_aload_n hx hb dX0_copyRange_8 rfl (lv_at hl 0 rfl) ?_
    refine lv_iload_n hx hb dX0_copyRange_9 rfl (lv_at hl 2 rfl) ?_
    refine vp_callSi (W.runV (As := [.int (nI j)]) (rest := []) ⟨hx, hb, hml, hown, hts⟩ (c_X0_isRange l D cA cZ cL ad f g (nI j)) (cwV 1 hts gX0_copyRange_X0_isRange rfl rfl rfl (by decide +kernel) ⟨Nat.le_of_ble_eq_true rfl, Nat.le_of_ble_eq_true rfl⟩) ⟨qPre_blind, va_recv hK hP (ci := 0) (q0 := 0) rfl rfl, qPre_at hP hK⟩ rfl rfl hl.1 rfl (lv_room (Nat.le_of_ble_eq_true rfl)) dX0_copyRange_10 ⟨Nat.le_of_ble_eq_true rfl, Nat.le_of_ble_eq_true rfl⟩) (fun z hz => ?_)
    subst hz
    refine lv_if_eq (tgt := 52) hx hb dX0_copyRange_13 (by decide) (fun c_13 => ?_) (fun c_13 => ?_)
    · have c_13 := bI_0.mp c_13
      exact (c_13 (x_rangeAt hR hR8 hj)).elim
    · have c_13 := bI_n.mp c_13
      refine lv_aload_n hx hb dX0_copyRange_16 rfl (lv_at hl 0 rfl) ?_
      refine va_get (D := D) (ci := 0) (v := .ref (ad 2)) (C := RX0) (T := TX0) (N := 16) hx hb hts hfin hown hK hP 0 rfl rfl 2 (by decide) (hts _ (List.mem_cons_of_mem _ (List.mem_append_left _ (List.mem_of_getElem? (i := 0) rfl)))) (fun _ h9 => h9) rfl dX0_copyRange_17 ?_
      refine lv_iload_n hx hb dX0_copyRange_20 rfl (lv_at hl 2 rfl) ?_
      refine lv_aload_n hx hb dX0_copyRange_21 rfl (lv_at hl 0 rfl) ?_
      refine va_get (D := D) (ci := 0) (v := .ref (ad 2)) (C := RX0) (T := TX0) (N := 16) hx hb hts hfin hown hK hP 0 rfl rfl 2 (by decide) (hts _ (List.mem_cons_of_mem _ (List.mem_append_left _ (List.mem_of_getElem? (i := 0) rfl)))) (fun _ h9 => h9) rfl dX0_copyRange_22 ?_
      refine lv_iload_n hx hb dX0_copyRange_25 rfl (lv_at hl 1 rfl) ?_
      refine va_iald hx hb hK hP 2 0 rfl rfl (vp_in_nI (by omega) (by decide)) dX0_copyRange_26 ?_
      refine lv_topi (fun v_26 hv_26 => ?_)
      have hv_26 : v_26 = g 2 i := hv_26.trans (by rw [nI_clamp (by omega)])
      subst hv_26
      refine va_iast hx hb hK hP hD hS 2 0 rfl rfl (vp_in_nI (by omega) (by decide)) dX0_copyRange_27 (fun H locs hP hD hS => ?_)
      have hix : (nI j).toNatClampNeg = j := nI_clamp (by omega)
      rw [hix] at hP hD
      have hP : va_P D vwCl (xW cA ad f (va_up g 2 (upd (g 2) j (g 2 i)))) H := hP
      have hD : va_D A (xW cA ad f (va_up g 2 (upd (g 2) j (g 2 i)))) := hD
      refine lv_aload_n hx hb dX0_copyRange_28 rfl (lv_at hl 0 rfl) ?_
      refine va_get (D := D) (ci := 0) (v := .ref (ad 3)) (C := RX0) (T := TX0) (N := 16) hx hb hts hfin hown hK hP 0 rfl rfl 3 (by decide) (hts _ (List.mem_cons_of_mem _ (List.mem_append_left _ (List.mem_of_getElem? (i := 1) rfl)))) (fun _ h9 => h9) rfl dX0_copyRange_29 ?_
      refine lv_iload_n hx hb dX0_copyRange_32 rfl (lv_at hl 2 rfl) ?_
      refine lv_aload_n hx hb dX0_copyRange_33 rfl (lv_at hl 0 rfl) ?_
      refine va_get (D := D) (ci := 0) (v := .ref (ad 3)) (C := RX0) (T := TX0) (N := 16) hx hb hts hfin hown hK hP 0 rfl rfl 3 (by decide) (hts _ (List.mem_cons_of_mem _ (List.mem_append_left _ (List.mem_of_getElem? (i := 1) rfl)))) (fun _ h9 => h9) rfl dX0_copyRange_34 ?_
      refine lv_iload_n hx hb dX0_copyRange_37 rfl (lv_at hl 1 rfl) ?_
      refine va_iald hx hb hK hP 3 0 rfl rfl (vp_in_nI (by omega) (by decide)) dX0_copyRange_38 ?_
      refine lv_topi (fun v_38 hv_38 => ?_)
      have hv_38 : v_38 = g 3 i := hv_38.trans (by rw [nI_clamp (by omega)]; rfl)
      subst hv_38
      refine va_iast hx hb hK hP hD hS 3 0 rfl rfl (vp_in_nI (by omega) (by decide)) dX0_copyRange_39 (fun H locs hP hD hS => ?_)
      have hix : (nI j).toNatClampNeg = j := nI_clamp (by omega)
      rw [hix] at hP hD
      have hP : va_P D vwCl (xW cA ad f (va_up (va_up g 2 (upd (g 2) j (g 2 i))) 3 (upd (g 3) j (g 3 i)))) H := hP
      have hD : va_D A (xW cA ad f (va_up (va_up g 2 (upd (g 2) j (g 2 i))) 3 (upd (g 3) j (g 3 i)))) := hD
      refine lv_aload_n hx hb dX0_copyRange_40 rfl (lv_at hl 0 rfl) ?_
      refine va_get (D := D) (ci := 0) (v := .ref (ad 4)) (C := RX0) (T := TX0) (N := 16) hx hb hts hfin hown hK hP 0 rfl rfl 4 (by decide) (hts _ (List.mem_cons_of_mem _ (List.mem_append_left _ (List.mem_of_getElem? (i := 2) rfl)))) (fun _ h9 => h9) rfl dX0_copyRange_41 ?_
      refine lv_iload_n hx hb dX0_copyRange_44 rfl (lv_at hl 2 rfl) ?_
      refine lv_aload_n hx hb dX0_copyRange_45 rfl (lv_at hl 0 rfl) ?_
      refine va_get (D := D) (ci := 0) (v := .ref (ad 4)) (C := RX0) (T := TX0) (N := 16) hx hb hts hfin hown hK hP 0 rfl rfl 4 (by decide) (hts _ (List.mem_cons_of_mem _ (List.mem_append_left _ (List.mem_of_getElem? (i := 2) rfl)))) (fun _ h9 => h9) rfl dX0_copyRange_46 ?_
      refine lv_iload_n hx hb dX0_copyRange_49 rfl (lv_at hl 1 rfl) ?_
      refine va_iald hx hb hK hP 4 0 rfl rfl (vp_in_nI (by omega) (by decide)) dX0_copyRange_50 ?_
      refine lv_topi (fun v_50 hv_50 => ?_)
      have hv_50 : v_50 = g 4 i := hv_50.trans (by rw [nI_clamp (by omega)]; rfl)
      subst hv_50
      refine va_iast hx hb hK hP hD hS 4 0 rfl rfl (vp_in_nI (by omega) (by decide)) dX0_copyRange_51 (fun H locs hP hD hS => ?_)
      have hix : (nI j).toNatClampNeg = j := nI_clamp (by omega)
      rw [hix] at hP hD
      have hP : va_P D vwCl (xW cA ad f (va_up (va_up (va_up g 2 (upd (g 2) j (g 2 i))) 3 (upd (g 3) j (g 3 i))) 4 (upd (g 4) j (g 4 i)))) H := hP
      have hD : va_D A (xW cA ad f (va_up (va_up (va_up g 2 (upd (g 2) j (g 2 i))) 3 (upd (g 3) j (g 3 i))) 4 (upd (g 4) j (g 4 i)))) := hD
      exact W.vret hx hb hr (fun t ht hW => ⟨⟨(f, (va_up (va_up (va_up g 2 (upd (g 2) j (g 2 i))) 3 (upd (g 3) j (g 3 i))) 4 (upd (g 4) j (g 4 i)))), rfl, ⟨rfl, rfl⟩, by rw [ht]; exact hP, hD⟩, hS.F ht⟩) hS.2.2 dX0_copyRange_52
set_option maxHeartbeats 4000000 in
set_option maxRecDepth 100000 in
/-- the ranges behind move up by one place -/
theorem c_X0_insertCopyBehind (l : Launch) (D : va_G) (cA cZ cL : ClassId) (ad : Nat → Nat) (f : qFs) (g : qGs) (sz : Nat) (r : Nat) (nR : Nat) (hR : f 5 = nI nR) (hr : r < nR) (hR8 : nR < 8) : Met l yX0_insertCopyBehind wsX0_insertCopyBehind ({ frames := 2, cells := 0, slots := 0, locals := 43 } : Room) (va_Pc [.ref (ad 16), .int (nI r)] (qPreW D (qTy cA cZ cL) (xW cA ad f g) sz)) (va_Qv (fun u : qFs × qGs => u.1 = va_up f 5 (nI (nR + 1)) ∧ u.2 = xUpG r g (nR - r)) (qAt D (va_A (xW cA ad f g) sz) (fun u : qFs × qGs => xW cA ad u.1 u.2)) (va_A (xW cA ad f g) sz)) 0 0 (va_A (xW cA ad f g) sz) := by
  refine Met.ofW (cc := cX0_insertCopyBehind) (maxL := 3) (ret := none) (by decide) rfl ?_
  intro p e s m args below meth c s₁ B hml hv
  obtain ⟨rfl, hsz, hP, hK, hD0⟩ := hv
  have hx := B.exec
  have hb := B.bytes
  have hr := B.returns
  have hts := atoms_spec (ws := wsX0_insertCopyBehind) B.pre
  have hown : s.vm.findClass RX0 = some m.cls := findClass_of_methodNamed B.named
  have hlocks := B.notSynchronized
  subst hsz
  have hD := hD0.self (sz := s.heap.size)
  generalize hAe : va_A (xW cA ad f g) s.heap.size = A at hD ⊢
  have hA : ∀ q : Nat, s.heap.size ≤ q → A q := fun q h => by rw [← hAe]; exact Or.inr h
  have hS : va_S A s.heap s.heap [] := va_S.rf
  have hfin : ∀ w ∈ wsX00, w ∈ wsX0_insertCopyBehind := fun w h => (List.mem_cons_of_mem _ (List.mem_append_right _ h))
  have hl := lv_entry ([.ref (ad 16), .int (nI r)]) (n := 3) (Nat.le_of_ble_eq_true rfl)
  rw [lg_entry_eq]
  generalize (lg_sl ([.ref (ad 16), .int (nI r)]) ++ List.replicate (3 - (lg_sl ([.ref (ad 16), .int (nI r)])).length) Slot.unset).toArray = ls at hl ⊢
  have hl : lv_has ls 3 [(0, .ref (ad 16)), (1, .int (nI r))] := hl
  refine lv_aload_n hx hb dX0_insertCopyBehind_0 rfl (lv_at hl 0 rfl) ?_
  refine lv_dup hx hb dX0_insertCopyBehind_1 rfl ?_
  refine va_get (D := D) (ci := 0) (v := .int (f 5)) (C := RX0) (T := TX0) (N := 16) hx hb hts hfin hown hK hP 0 rfl rfl 5 (by decide) (hts _ (List.mem_cons_of_mem _ (List.mem_append_left _ (List.mem_of_getElem? (i := 0) rfl)))) (fun _ h9 => h9) rfl dX0_insertCopyBehind_2 ?_
  refine lv_topi (fun v_2 hv_2 => ?_)
  have hv_2 : v_2 = nI nR := hv_2.trans (hR)
  subst hv_2
  refine lv_iconst (v := 1) hx hb dX0_insertCopyBehind_5 (by decide) ?_
  refine lv_iadd hx hb dX0_insertCopyBehind_6 ?_
  refine lv_topi (fun v_6 hv_6 => ?_)
  have hv_6 : v_6 = nI (nR + 1) := hv_6.trans (nI_1 nR)
  subst hv_6
  refine va_put (D := D) (ci := 0) (v := .int (nI (nR + 1))) (ty := .int) (C := RX0) (T := TX0) (N := 16) hx hb hts hfin tyX0 tyX0_ok nmX0 hown hK hP hD hS 0 rfl rfl 5 (by decide) (hts _ (List.mem_cons_of_mem _ (List.mem_append_left _ (List.mem_of_getElem? (i := 0) rfl)))) (fun _ h9 => h9) rfl (by decide +kernel) (rfl) (rfl) (Nat.le_of_ble_eq_true rfl) dX0_insertCopyBehind_7 (fun H locs hP hD hS => ?_)
  have hP : va_P D vwCl (xW cA ad (va_up f 5 (nI (nR + 1))) g) H := hP
  have hD : va_D A (xW cA ad (va_up f 5 (nI (nR + 1))) g) := hD
  refine lv_aload_n hx hb dX0_insertCopyBehind_10 rfl (lv_at hl 0 rfl) ?_
  refine va_get (D := D) (ci := 0) (v := .int (nI (nR + 1))) (C := RX0) (T := TX0) (N := 16) hx hb hts hfin hown hK hP 0 rfl rfl 5 (by decide) (hts _ (List.mem_cons_of_mem _ (List.mem_append_left _ (List.mem_of_getElem? (i := 0) rfl)))) (fun _ h9 => h9) rfl dX0_insertCopyBehind_11 ?_
  refine lv_iconst (v := 1) hx hb dX0_insertCopyBehind_14 (by decide) ?_
  refine lv_isub hx hb dX0_insertCopyBehind_15 ?_
  refine lv_topi (fun v_15 hv_15 => ?_)
  have hv_15 : v_15 = nI (r + (nR - r)) := hv_15.trans ((nI_pred nR).trans (by congr 1; omega))
  subst hv_15
  refine lv_istore_n (lv' := [(2, .int (nI (r + (nR - r)))), (0, .ref (ad 16)), (1, .int (nI r))]) hx hb dX0_insertCopyBehind_16 rfl hl (by decide) rfl (fun ls hl => ?_)
  have hloop_17 : ∀ (nme : Nat) (t : Nat) (g1 : qGs), t = nme → (r + t ≤ nR) → (xUpG r g1 t = xUpG r g (nR - r)) → ∀ (H : Heap) (locs : List Loc), va_P D vwCl (xW cA ad (va_up f 5 (nI (nR + 1))) g1) H → va_D A (xW cA ad (va_up f 5 (nI (nR + 1))) g1) → va_S A s.heap H locs → ∀ ls : Array Slot, lv_has ls 3 [(0, .ref (ad 16)), (1, .int (nI r)), (2, .int (nI (r + t)))] → W p l e (headSpec wsX0_insertCopyBehind ({ frames := 2, cells := 0, slots := 0, locals := 43 } : Room)).room s m ([.ref (ad 16), .int (nI r)] : List Value).toArray below meth c H locs 0 0 (MQ below (va_Qv (fun u : qFs × qGs => u.1 = va_up f 5 (nI (nR + 1)) ∧ u.2 = xUpG r g (nR - r)) (qAt D A (fun u : qFs × qGs => xW cA ad u.1 u.2)) A) ([.ref (ad 16), .int (nI r)] : List Value).toArray s 0 0 A) (F0 m 17 ls []) := by
    intro nme
    induction nme using Nat.strongRecOn with
    | ind nme ih =>
      intro t g1 hnme ht hc H locs hP hD hS ls hl
      refine lv_iload_n hx hb dX0_insertCopyBehind_17 rfl (lv_at hl 2 rfl) ?_
      refine lv_iload_n hx hb dX0_insertCopyBehind_18 rfl (lv_at hl 1 rfl) ?_
      refine lv_icmp_le (tgt := 36) hx hb dX0_insertCopyBehind_19 (by decide) (fun c_19 => ?_) (fun c_19 => ?_)
      · skip
        have h0 : t = 0 := by have := n_ge c_19 (by omega) (by omega); omega
        subst h0
        exact W.vret hx hb hr (fun t ht hW => ⟨⟨((va_up f 5 (nI (nR + 1))), g1), rfl, ⟨rfl, hc⟩, by rw [ht]; exact hP, hD⟩, hS.F ht⟩) hS.2.2 dX0_insertCopyBehind_36
      · skip
        obtain ⟨t, rfl⟩ : ∃ q, t = q + 1 := ⟨t - 1, by have := n_lt c_19 (by omega); omega⟩
        have hl : lv_has ls 3 [(0, .ref (ad 16)), (1, .int (nI r)), (2, .int (nI (r + t + 1)))] := hl
        refine lv_aload_n hx hb dX0_insertCopyBehind_22 rfl (lv_at hl 0 rfl) ?_
        refine lv_iload_n hx hb dX0_insertCopyBehind_23 rfl (lv_at hl 2 rfl) ?_
        refine lv_iconst (v := 1) hx hb dX0_insertCopyBehind_24 (by decide) ?_
        refine lv_isub hx hb dX0_insertCopyBehind_25 ?_
        refine lv_topi (fun v_25 hv_25 => ?_)
        have hv_25 : v_25 = nI (r + t) := hv_25.trans (nI_pred (r + t))
        subst hv_25
        refine lv_iload_n hx hb dX0_insertCopyBehind_26 rfl (lv_at hl 2 rfl) ?_
        refine qb_callv (va_runV (As := [.int (nI (r + t)), .int (nI (r + t + 1))]) (rest := []) ⟨hx, hb, hml, hown, hts⟩ (c_X0_copyRange l D cA cZ cL ad (va_up f 5 (nI (nR + 1))) g1 H.size (r + t) (r + t + 1) (nR + 1) rfl (by omega) (by omega) (by omega)) (cwV 2 hts gX0_insertCopyBehind_X0_copyRange rfl rfl rfl (by decide +kernel) ⟨Nat.le_of_ble_eq_true rfl, Nat.le_of_ble_eq_true rfl⟩) ⟨qPreW_blind, va_recv hK hP (ci := 0) (q0 := 0) rfl rfl, qPreW_at hP hK hD⟩ rfl rfl hl.1 rfl (lv_room (Nat.le_of_ble_eq_true rfl)) dX0_insertCopyBehind_27 ⟨Nat.le_of_ble_eq_true rfl, Nat.le_of_ble_eq_true rfl⟩) hD hS hA (fun u H locs hu hP hD hS => ?_)
        obtain ⟨uf, ug⟩ := u
        obtain ⟨hu1, hu2⟩ := hu
        have hu1 : uf = (va_up f 5 (nI (nR + 1))) := hu1
        have hu2 : ug = xCopyG g1 (r + t) (r + t + 1) := hu2
        have hP : va_P D vwCl (xW cA ad uf ug) H := hP
        have hD : va_D A (xW cA ad uf ug) := hD
        rw [hu1, hu2] at hP hD
        have hP : va_P D vwCl (xW cA ad (va_up f 5 (nI (nR + 1))) (xCopyG g1 (r + t) (r + t + 1))) H := hP
        have hD : va_D A (xW cA ad (va_up f 5 (nI (nR + 1))) (xCopyG g1 (r + t) (r + t + 1))) := hD
        refine lv_iinc (v := nI (r + t)) (lv' := [(2, .int (nI (r + t))), (0, .ref (ad 16)), (1, .int (nI r))]) hx hb dX0_insertCopyBehind_30 hl (k := 2) rfl ((i_m1 _).trans (nI_pred (r + t))) (by decide) rfl (fun ls hl => ?_)
        refine lv_goto (tgt := 17) hx hb dX0_insertCopyBehind_33 (by decide) ?_
        exact ih _ (by omega) t (xCopyG g1 (r + t) (r + t + 1)) rfl (by omega) (by rw [← hc]; rfl) _ _ hP hD hS _ (lv_sub hl [1, 2, 0] rfl)
  exact hloop_17 _ (nR - r) g rfl (by omega) rfl _ _ hP hD hS _ (lv_sub hl [1, 2, 0] rfl)
set_option maxHeartbeats 4000000 in
set_option maxRecDepth 100000 in
/-- the ranges behind move down by one place -/
theorem c_X0_remove (l : Launch) (D : va_G) (cA cZ cL : ClassId) (ad : Nat → Nat) (f : qFs) (g : qGs) (sz : Nat) (r : Nat) (nR : Nat) (hR : f 5 = nI nR) (hr : r < nR) (hR8 : nR ≤ 8) : Met l yX0_remove wsX0_remove ({ frames := 2, cells := 0, slots := 0, locals := 43 } : Room) (va_Pc [.ref (ad 16), .int (nI r)] (qPreW D (qTy cA cZ cL) (xW cA ad f g) sz)) (va_Qv (fun u : qFs × qGs => u.1 = va_up f 5 (nI (nR - 1)) ∧ u.2 = xDnG g r (nR - 1 - r)) (qAt D (va_A (xW cA ad f g) sz) (fun u : qFs × qGs => xW cA ad u.1 u.2)) (va_A (xW cA ad f g) sz)) 0 0 (va_A (xW cA ad f g) sz) := by
  refine Met.ofW (cc := cX0_remove) (maxL := 3) (ret := none) (by decide) rfl ?_
  intro p e s m args below meth c s₁ B hml hv
  obtain ⟨rfl, hsz, hP, hK, hD0⟩ := hv
  have hx := B.exec
  have hb := B.bytes
  have hr := B.returns
  have hts := atoms_spec (ws := wsX0_remove) B.pre
  have hown : s.vm.findClass RX0 = some m.cls := findClass_of_methodNamed B.named
  have hlocks := B.notSynchronized
  subst hsz
  have hD := hD0.self (sz := s.heap.size)
  generalize hAe : va_A (xW cA ad f g) s.heap.size = A at hD ⊢
  have hA : ∀ q : Nat, s.heap.size ≤ q → A q := fun q h => by rw [← hAe]; exact Or.inr h
  have hS : va_S A s.heap s.heap [] := va_S.rf
  have hfin : ∀ w ∈ wsX00, w ∈ wsX0_remove := fun w h => (List.mem_cons_of_mem _ (List.mem_append_right _ h))
  have hl := lv_entry ([.ref (ad 16), .int (nI r)]) (n := 3) (Nat.le_of_ble_eq_true rfl)
  rw [lg_entry_eq]
  generalize (lg_sl ([.ref (ad 16), .int (nI r)]) ++ List.replicate (3 - (lg_sl ([.ref (ad 16), .int (nI r)])).length) Slot.unset).toArray = ls at hl ⊢
  have hl : lv_has ls 3 [(0, .ref (ad 16)), (1, .int (nI r))] := hl
  refine lv_iload_n hx hb dX0_remove_0 rfl (lv_at hl 1 rfl) ?_
  refine lv_istore_n (lv' := [(2, .int (nI r)), (0, .ref (ad 16)), (1, .int (nI r))]) hx hb dX0_remove_1 rfl hl (by decide) rfl (fun ls hl => ?_)
  have hloop_2 : ∀ (nme : Nat) (t : Nat) (g1 : qGs), nR - 1 - t = nme → (t ≤ nR - 1) → (xDnG g1 t (nR - 1 - t) = xDnG g r (nR - 1 - r)) → ∀ (H : Heap) (locs : List Loc), va_P D vwCl (xW cA ad f g1) H → va_D A (xW cA ad f g1) → va_S A s.heap H locs → ∀ ls : Array Slot, lv_has ls 3 [(0, .ref (ad 16)), (1, .int (nI r)), (2, .int (nI t))] → W p l e (headSpec wsX0_remove ({ frames := 2, cells := 0, slots := 0, locals := 43 } : Room)).room s m ([.ref (ad 16), .int (nI r)] : List Value).toArray below meth c H locs 0 0 (MQ below (va_Qv (fun u : qFs × qGs => u.1 = va_up f 5 (nI (nR - 1)) ∧ u.2 = xDnG g r (nR - 1 - r)) (qAt D A (fun u : qFs × qGs => xW cA ad u.1 u.2)) A) ([.ref (ad 16), .int (nI r)] : List Value).toArray s 0 0 A) (F0 m 2 ls []) := by
    intro nme
    induction nme using Nat.strongRecOn with
    | ind nme ih =>
      intro t g1 hnme ht hc H locs hP hD hS ls hl
      refine lv_iload_n hx hb dX0_remove_2 rfl (lv_at hl 2 rfl) ?_
      refine lv_aload_n hx hb dX0_remove_3 rfl (lv_at hl 0 rfl) ?_
      refine va_get (D := D) (ci := 0) (v := .int (f 5)) (C := RX0) (T := TX0) (N := 16) hx hb hts hfin hown hK hP 0 rfl rfl 5 (by decide) (hts _ (List.mem_cons_of_mem _ (List.mem_append_left _ (List.mem_of_getElem? (i := 0) rfl)))) (fun _ h9 => h9) rfl dX0_remove_4 ?_
      refine lv_topi (fun v_4 hv_4 => ?_)
      have hv_4 : v_4 = nI nR := hv_4.trans (hR)
      subst hv_4
      refine lv_iconst (v := 1) hx hb dX0_remove_7 (by decide) ?_
      refine lv_isub hx hb dX0_remove_8 ?_
      refine lv_topi (fun v_8 hv_8 => ?_)
      have hv_8 : v_8 = nI (nR - 1) := hv_8.trans (pk_sub (b := 1) (by omega))
      subst hv_8
      refine lv_icmp_ge (tgt := 26) hx hb dX0_remove_9 (by decide) (fun c_9 => ?_) (fun c_9 => ?_)
      · skip
        have hge := n_ge c_9 (by omega) (by omega)
        refine lv_aload_n hx hb dX0_remove_26 rfl (lv_at hl 0 rfl) ?_
        refine lv_dup hx hb dX0_remove_27 rfl ?_
        refine va_get (D := D) (ci := 0) (v := .int (f 5)) (C := RX0) (T := TX0) (N := 16) hx hb hts hfin hown hK hP 0 rfl rfl 5 (by decide) (hts _ (List.mem_cons_of_mem _ (List.mem_append_left _ (List.mem_of_getElem? (i := 0) rfl)))) (fun _ h9 => h9) rfl dX0_remove_28 ?_
        refine lv_topi (fun v_28 hv_28 => ?_)
        have hv_28 : v_28 = nI nR := hv_28.trans (hR)
        subst hv_28
        refine lv_iconst (v := 1) hx hb dX0_remove_31 (by decide) ?_
        refine lv_isub hx hb dX0_remove_32 ?_
        refine lv_topi (fun v_32 hv_32 => ?_)
        have hv_32 : v_32 = nI (nR - 1) := hv_32.trans (pk_sub (b := 1) (by omega))
        subst hv_32
        refine va_put (D := D) (ci := 0) (v := .int (nI (nR - 1))) (ty := .int) (C := RX0) (T := TX0) (N := 16) hx hb hts hfin tyX0 tyX0_ok nmX0 hown hK hP hD hS 0 rfl rfl 5 (by decide) (hts _ (List.mem_cons_of_mem _ (List.mem_append_left _ (List.mem_of_getElem? (i := 0) rfl)))) (fun _ h9 => h9) rfl (by decide +kernel) (rfl) (rfl) (Nat.le_of_ble_eq_true rfl) dX0_remove_33 (fun H locs hP hD hS => ?_)
        have hP : va_P D vwCl (xW cA ad (va_up f 5 (nI (nR - 1))) g1) H := hP
        have hD : va_D A (xW cA ad (va_up f 5 (nI (nR - 1))) g1) := hD
        exact W.vret hx hb hr (fun t ht hW => ⟨⟨((va_up f 5 (nI (nR - 1))), g1), rfl, ⟨rfl, (by rw [← hc, xDnG_e hge])⟩, by rw [ht]; exact hP, hD⟩, hS.F ht⟩) hS.2.2 dX0_remove_36
      · skip
        have hlt := n_lt c_9 (by omega)
        refine lv_aload_n hx hb dX0_remove_12 rfl (lv_at hl 0 rfl) ?_
        refine lv_iload_n hx hb dX0_remove_13 rfl (lv_at hl 2 rfl) ?_
        refine lv_iconst (v := 1) hx hb dX0_remove_14 (by decide) ?_
        refine lv_iadd hx hb dX0_remove_15 ?_
        refine lv_topi (fun v_15 hv_15 => ?_)
        have hv_15 : v_15 = nI (t + 1) := hv_15.trans (nI_1 t)
        subst hv_15
        refine lv_iload_n hx hb dX0_remove_16 rfl (lv_at hl 2 rfl) ?_
        refine qb_callv (va_runV (As := [.int (nI (t + 1)), .int (nI t)]) (rest := []) ⟨hx, hb, hml, hown, hts⟩ (c_X0_copyRange l D cA cZ cL ad f g1 H.size (t + 1) t nR hR hR8 (by omega) (by omega)) (cwV 2 hts gX0_remove_X0_copyRange rfl rfl rfl (by decide +kernel) ⟨Nat.le_of_ble_eq_true rfl, Nat.le_of_ble_eq_true rfl⟩) ⟨qPreW_blind, va_recv hK hP (ci := 0) (q0 := 0) rfl rfl, qPreW_at hP hK hD⟩ rfl rfl hl.1 rfl (lv_room (Nat.le_of_ble_eq_true rfl)) dX0_remove_17 ⟨Nat.le_of_ble_eq_true rfl, Nat.le_of_ble_eq_true rfl⟩) hD hS hA (fun u H locs hu hP hD hS => ?_)
        obtain ⟨uf, ug⟩ := u
        obtain ⟨hu1, hu2⟩ := hu
        have hu1 : uf = f := hu1
        have hu2 : ug = xCopyG g1 (t + 1) t := hu2
        have hP : va_P D vwCl (xW cA ad uf ug) H := hP
        have hD : va_D A (xW cA ad uf ug) := hD
        rw [hu1, hu2] at hP hD
        have hP : va_P D vwCl (xW cA ad f (xCopyG g1 (t + 1) t)) H := hP
        have hD : va_D A (xW cA ad f (xCopyG g1 (t + 1) t)) := hD
        refine lv_iinc (v := nI (t + 1)) (lv' := [(2, .int (nI (t + 1))), (0, .ref (ad 16)), (1, .int (nI r))]) hx hb dX0_remove_20 hl (k := 2) rfl (nI_1 t) (by decide) rfl (fun ls hl => ?_)
        refine lv_goto (tgt := 2) hx hb dX0_remove_23 (by decide) ?_
        exact ih _ (by omega) (t + 1) (xCopyG g1 (t + 1) t) rfl (by omega) (by rw [← hc]; exact (xDnG_s hlt).symm) _ _ hP hD hS _ (lv_sub hl [1, 2, 0] rfl)
  exact hloop_2 _ r g rfl (by omega) rfl _ _ hP hD hS _ (lv_sub hl [1, 2, 0] rfl)
