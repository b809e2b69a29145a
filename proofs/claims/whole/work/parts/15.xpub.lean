set_option maxHeartbeats 4000000 in
set_option maxRecDepth 100000 in
/-- join -/
theorem c_X0_join (l : Launch) (hl0 : l.stackTraces = false) (D : va_G) (cA cZ cL : ClassId) (ad : Nat → Nat) (f : qFs) (g : qGs) (sz : Nat) (k : Int32) (a : Int32) (nR : Nat) (nB : Nat) (hI : xI nR nB f) : vx_Met l yX0_join wsX0_join ({ frames := 7, cells := 1, slots := 6, locals := 110 } : Room) (va_Pc [.ref (ad 16), .int k, .int a] (qPreX D (qTy cA cZ cL) (xW cA ad f g) sz)) (va_Qi (fun (z : Int32) (u : qFs × qGs) => (xKey k ∧ xAdr a ∧ xRead nR f g k = -1 ∧ f 1 < 40) ∧ z = f 1 + 1 ∧ u.1 = va_up f 1 (f 1 + 1) ∧ u.2 = xWriteG nR f g k a) (qAt D (va_A (xW cA ad f g) sz) (fun u : qFs × qGs => xW cA ad u.1 u.2)) (va_A (xW cA ad f g) sz)) (qX (fun E => (E = eIO ∧ ¬ xKey k) ∨ (E = eIA ∧ xKey k ∧ ¬ xAdr a) ∨ (E = eIS ∧ xKey k ∧ xAdr a ∧ (¬ xRead nR f g k = -1 ∨ ¬ f 1 < 40)))) 1 6 (va_A (xW cA ad f g) sz) := by
  refine vx_ofW (cc := cX0_join) (maxL := 3) (ret := (some .int)) (by decide) rfl ?_
  intro p e s m args below meth c s₁ B hml hno hv
  obtain ⟨rfl, hsz, hP, hK, hD0, hTH⟩ := hv
  have hx := B.exec
  have hb := B.bytes
  have hr := B.returns
  have hts := atoms_spec (ws := wsX0_join) B.pre
  have hown : s.vm.findClass RX0 = some m.cls := findClass_of_methodNamed B.named
  have hlocks := B.notSynchronized
  subst hsz
  have hD := hD0.self (sz := s.heap.size)
  generalize hAe : va_A (xW cA ad f g) s.heap.size = A at hD ⊢
  have hA : ∀ q : Nat, s.heap.size ≤ q → A q := fun q h => by rw [← hAe]; exact Or.inr h
  have hS : va_S A s.heap s.heap [] := va_S.rf
  have hfin : ∀ w ∈ wsX00, w ∈ wsX0_join := fun w h => (List.mem_cons_of_mem _ (List.mem_append_left _ (List.mem_append_left _ (List.mem_append_left _ (List.mem_append_right _ h)))))
  have hl := lv_entry ([.ref (ad 16), .int k, .int a]) (n := 3) (Nat.le_of_ble_eq_true rfl)
  rw [lg_entry_eq]
  generalize (lg_sl ([.ref (ad 16), .int k, .int a]) ++ List.replicate (3 - (lg_sl ([.ref (ad 16), .int k, .int a])).length) Slot.unset).toArray = ls at hl ⊢
  have hl : lv_has ls 3 [(0, .ref (ad 16)), (1, .int k), (2, .int a)] := hl
  refine lv_iload_n hx hb dX0_join_0 rfl (lv_at hl 1 rfl) ?_
  refine qb_callSv (vx_runS (As := [.int k]) (rest := []) ⟨hx, hb, hml, hown, hts⟩ (c_X0_checkKey l hl0 k) (va_cwS 1 hts gX0_join_X0_checkKey rfl rfl rfl (by decide +kernel) ⟨Nat.le_of_ble_eq_true rfl, Nat.le_of_ble_eq_true rfl⟩) ⟨qTH_blind, qTH_pc hTH rfl⟩ rfl rfl hl.1 rfl (lv_room (Nat.le_of_ble_eq_true rfl)) dX0_join_1 ⟨Nat.le_of_ble_eq_true rfl, Nat.le_of_ble_eq_true rfl⟩) (fun E ce q9 st t H1 hst ht hvm hX hcell hcv hcl => vx_out (fun x h => (hno x h).elim) hlocks hcell hcv hcl (fun t2 h2 hA2 => qX_pass hX hst rfl ht h2 (Or.inl)) (fun q h => nomatch h) (by decide) (by decide)) (fun hz => ?_)
  have h_1 := hz
  refine lv_iload_n hx hb dX0_join_4 rfl (lv_at hl 2 rfl) ?_
  refine qb_callSv (vx_runS (As := [.int a]) (rest := []) ⟨hx, hb, hml, hown, hts⟩ (c_X0_checkAddress l hl0 a) (va_cwS 1 hts gX0_join_X0_checkAddress rfl rfl rfl (by decide +kernel) ⟨Nat.le_of_ble_eq_true rfl, Nat.le_of_ble_eq_true rfl⟩) ⟨qTH_blind, qTH_pc hTH rfl⟩ rfl rfl hl.1 rfl (lv_room (Nat.le_of_ble_eq_true rfl)) dX0_join_5 ⟨Nat.le_of_ble_eq_true rfl, Nat.le_of_ble_eq_true rfl⟩) (fun E ce q9 st t H1 hst ht hvm hX hcell hcv hcl => vx_out (fun x h => (hno x h).elim) hlocks hcell hcv hcl (fun t2 h2 hA2 => qX_pass hX hst rfl ht h2 (fun h => Or.inr (Or.inl ⟨h.1, h_1, h.2⟩))) (fun q h => nomatch h) (by decide) (by decide)) (fun hz => ?_)
  have h_5 := hz
  refine lv_aload_n hx hb dX0_join_8 rfl (lv_at hl 0 rfl) ?_
  refine lv_iload_n hx hb dX0_join_9 rfl (lv_at hl 1 rfl) ?_
  refine vp_callSi (W.runV (As := [.int k]) (rest := []) ⟨hx, hb, hml, hown, hts⟩ (c_X0_isMember l D cA cZ cL ad f g k nR nB hI) (cwV 1 hts gX0_join_X0_isMember rfl rfl rfl (by decide +kernel) ⟨Nat.le_of_ble_eq_true rfl, Nat.le_of_ble_eq_true rfl⟩) ⟨qPre_blind, va_recv hK hP (ci := 0) (q0 := 0) rfl rfl, qPre_at hP hK⟩ rfl rfl hl.1 rfl (lv_room (Nat.le_of_ble_eq_true rfl)) dX0_join_10 ⟨Nat.le_of_ble_eq_true rfl, Nat.le_of_ble_eq_true rfl⟩) (fun z hz => ?_)
  subst hz
  refine lv_if_eq (tgt := 26) hx hb dX0_join_13 (by decide) (fun c_13 => ?_) (fun c_13 => ?_)
  · have c_13 := bI_0.mp c_13
    refine lv_aload_n hx hb dX0_join_26 rfl (lv_at hl 0 rfl) ?_
    refine va_get (D := D) (ci := 0) (v := .int (f 1)) (C := RX0) (T := TX0) (N := 16) hx hb hts hfin hown hK hP 0 rfl rfl 1 (by decide) (hts _ (List.mem_cons_of_mem _ (List.mem_append_left _ (List.mem_append_left _ (List.mem_append_left _ (List.mem_append_left _ (List.mem_append_left _ (List.mem_of_getElem? (i := 2) rfl)))))))) (fun _ h9 => h9) rfl dX0_join_27 ?_
    refine lv_bipush (v := 40) hx hb dX0_join_30 (by decide) ?_
    refine lv_icmp_lt (tgt := 45) hx hb dX0_join_32 (by decide) (fun c_32 => ?_) (fun c_32 => ?_)
    · skip
      refine lv_aload_n hx hb dX0_join_45 rfl (lv_at hl 0 rfl) ?_
      refine lv_iload_n hx hb dX0_join_46 rfl (lv_at hl 1 rfl) ?_
      refine lv_iload_n hx hb dX0_join_47 rfl (lv_at hl 2 rfl) ?_
      refine qb_callv (va_runV (As := [.int k, .int a]) (rest := []) ⟨hx, hb, hml, hown, hts⟩ (c_X0_write l D cA cZ cL ad f g s.heap.size k a nR nB hI) (cwV 2 hts gX0_join_X0_write rfl rfl rfl (by decide +kernel) ⟨Nat.le_of_ble_eq_true rfl, Nat.le_of_ble_eq_true rfl⟩) ⟨qPreW_blind, va_recv hK hP (ci := 0) (q0 := 0) rfl rfl, qPreW_at hP hK hD⟩ rfl rfl hl.1 rfl (lv_room (Nat.le_of_ble_eq_true rfl)) dX0_join_48 ⟨Nat.le_of_ble_eq_true rfl, Nat.le_of_ble_eq_true rfl⟩) hD hS hA (fun u H locs hu hP hD hS => ?_)
      obtain ⟨uf, ug⟩ := u
      obtain ⟨hu1, hu2⟩ := hu
      have hu1 : uf = f := hu1
      have hu2 : ug = xWriteG nR f g k a := hu2
      have hP : va_P D vwCl (xW cA ad uf ug) H := hP
      have hD : va_D A (xW cA ad uf ug) := hD
      rw [hu1, hu2] at hP hD
      have hP : va_P D vwCl (xW cA ad f (xWriteG nR f g k a)) H := hP
      have hD : va_D A (xW cA ad f (xWriteG nR f g k a)) := hD
      refine lv_aload_n hx hb dX0_join_51 rfl (lv_at hl 0 rfl) ?_
      refine lv_dup hx hb dX0_join_52 rfl ?_
      refine va_get (D := D) (ci := 0) (v := .int (f 1)) (C := RX0) (T := TX0) (N := 16) hx hb hts hfin hown hK hP 0 rfl rfl 1 (by decide) (hts _ (List.mem_cons_of_mem _ (List.mem_append_left _ (List.mem_append_left _ (List.mem_append_left _ (List.mem_append_left _ (List.mem_append_left _ (List.mem_of_getElem? (i := 2) rfl)))))))) (fun _ h9 => h9) rfl dX0_join_53 ?_
      refine lv_iconst (v := 1) hx hb dX0_join_56 (by decide) ?_
      refine lv_iadd hx hb dX0_join_57 ?_
      refine va_put (D := D) (ci := 0) (v := .int ((f 1) + 1)) (ty := .int) (C := RX0) (T := TX0) (N := 16) hx hb hts hfin tyX0 tyX0_ok nmX0 hown hK hP hD hS 0 rfl rfl 1 (by decide) (hts _ (List.mem_cons_of_mem _ (List.mem_append_left _ (List.mem_append_left _ (List.mem_append_left _ (List.mem_append_left _ (List.mem_append_left _ (List.mem_of_getElem? (i := 2) rfl)))))))) (fun _ h9 => h9) rfl (by decide +kernel) (rfl) (rfl) (Nat.le_of_ble_eq_true rfl) dX0_join_58 (fun H locs hP hD hS => ?_)
      have hP : va_P D vwCl (xW cA ad (va_up f 1 ((f 1) + 1)) (xWriteG nR f g k a)) H := hP
      have hD : va_D A (xW cA ad (va_up f 1 ((f 1) + 1)) (xWriteG nR f g k a)) := hD
      refine lv_aload_n hx hb dX0_join_61 rfl (lv_at hl 0 rfl) ?_
      refine va_get (D := D) (ci := 0) (v := .int ((f 1) + 1)) (C := RX0) (T := TX0) (N := 16) hx hb hts hfin hown hK hP 0 rfl rfl 1 (by decide) (hts _ (List.mem_cons_of_mem _ (List.mem_append_left _ (List.mem_append_left _ (List.mem_append_left _ (List.mem_append_left _ (List.mem_append_left _ (List.mem_of_getElem? (i := 2) rfl)))))))) (fun _ h9 => h9) rfl dX0_join_62 ?_
      refine vx_ret ?_
      refine W.widen (k := 1) (n := 6) (by decide) (by decide) ?_
      exact W.iret (v := (f 1) + 1) hx hb hr (fun t ht hW => ⟨⟨(f 1) + 1, ((va_up f 1 ((f 1) + 1)), (xWriteG nR f g k a)), rfl, ⟨⟨h_1, h_5, Decidable.not_not.mp c_13, c_32⟩, rfl, rfl, rfl⟩, by rw [ht]; exact hP, hD⟩, hS.F ht⟩) hS.2.2 dX0_join_65
    · skip
      obtain ⟨sa, hsa⟩ := hTH.2.2.1 (74, "there are 40 members") (List.mem_of_getElem? (i := 1) rfl)
      exact vx_throwS (A := fun _ => False) (names := ["java/lang/RuntimeException", "java/lang/Exception"]) hx hb hl0 hown (by decide) (by decide) (hts _ (List.mem_cons_of_mem _ (List.mem_append_left _ (List.mem_append_left _ (List.mem_append_left _ (List.mem_append_left _ (List.mem_append_left _ (List.mem_of_getElem? (i := 0) rfl)))))))) (hts _ (List.mem_cons_of_mem _ (List.mem_append_left _ (List.mem_append_left _ (List.mem_append_left _ (List.mem_append_left _ (List.mem_append_left _ (List.mem_of_getElem? (i := 1) rfl)))))))) hsa (vx_hat (fun w h => hts w (List.mem_cons_of_mem _ (List.mem_append_left _ (List.mem_append_left _ (List.mem_append_right _ h))))) qw3 (qBad_of hTH (by decide))) qg3 hTH.1 hTH.2.1 va_S.rf (hl.1.trans hml.symm) dX0_join_35 dX0_join_38 dX0_join_39 dX0_join_41 dX0_join_44 (fun x h => (hno x h).elim) (Nat.le_of_ble_eq_true rfl) (Nat.le_of_ble_eq_true rfl) (Nat.le_of_ble_eq_true rfl) (Nat.le_of_ble_eq_true rfl) hlocks (fun t _ h1 h2 => ⟨Or.inr (Or.inr ⟨rfl, h_1, h_5, Or.inr c_32⟩), h1, h2⟩) (fun q h => nomatch h) (by decide) (by decide)
  · have c_13 := bI_n.mp c_13
    obtain ⟨sa, hsa⟩ := hTH.2.2.1 (66, "there is a member with this key") (List.mem_of_getElem? (i := 0) rfl)
    exact vx_throwS (A := fun _ => False) (names := ["java/lang/RuntimeException", "java/lang/Exception"]) hx hb hl0 hown (by decide) (by decide) (hts _ (List.mem_cons_of_mem _ (List.mem_append_left _ (List.mem_append_left _ (List.mem_append_left _ (List.mem_append_left _ (List.mem_append_left _ (List.mem_of_getElem? (i := 0) rfl)))))))) (hts _ (List.mem_cons_of_mem _ (List.mem_append_left _ (List.mem_append_left _ (List.mem_append_left _ (List.mem_append_left _ (List.mem_append_left _ (List.mem_of_getElem? (i := 1) rfl)))))))) hsa (vx_hat (fun w h => hts w (List.mem_cons_of_mem _ (List.mem_append_left _ (List.mem_append_left _ (List.mem_append_right _ h))))) qw3 (qBad_of hTH (by decide))) qg3 hTH.1 hTH.2.1 va_S.rf (hl.1.trans hml.symm) dX0_join_16 dX0_join_19 dX0_join_20 dX0_join_22 dX0_join_25 (fun x h => (hno x h).elim) (Nat.le_of_ble_eq_true rfl) (Nat.le_of_ble_eq_true rfl) (Nat.le_of_ble_eq_true rfl) (Nat.le_of_ble_eq_true rfl) hlocks (fun t _ h1 h2 => ⟨Or.inr (Or.inr ⟨rfl, h_1, h_5, Or.inl c_13⟩), h1, h2⟩) (fun q h => nomatch h) (by decide) (by decide)
set_option maxHeartbeats 4000000 in
set_option maxRecDepth 100000 in
/-- change -/
theorem c_X0_change (l : Launch) (hl0 : l.stackTraces = false) (D : va_G) (cA cZ cL : ClassId) (ad : Nat → Nat) (f : qFs) (g : qGs) (sz : Nat) (k : Int32) (a : Int32) (nR : Nat) (nB : Nat) (hI : xI nR nB f) : vx_Met l yX0_change wsX0_change ({ frames := 7, cells := 1, slots := 6, locals := 128 } : Room) (va_Pc [.ref (ad 16), .int k, .int a] (qPreX D (qTy cA cZ cL) (xW cA ad f g) sz)) (va_Qi (fun (z : Int32) (u : qFs × qGs) => (xKey k ∧ xAdr a ∧ ¬ xRead nR f g k = -1) ∧ z = xRead nR f g k ∧ u.1 = f ∧ u.2 = xWriteG nR f g k a) (qAt D (va_A (xW cA ad f g) sz) (fun u : qFs × qGs => xW cA ad u.1 u.2)) (va_A (xW cA ad f g) sz)) (qX (fun E => (E = eIO ∧ ¬ xKey k) ∨ (E = eIA ∧ xKey k ∧ ¬ xAdr a) ∨ (E = eIS ∧ xKey k ∧ xAdr a ∧ xRead nR f g k = -1))) 1 6 (va_A (xW cA ad f g) sz) := by
  refine vx_ofW (cc := cX0_change) (maxL := 4) (ret := (some .int)) (by decide) rfl ?_
  intro p e s m args below meth c s₁ B hml hno hv
  obtain ⟨rfl, hsz, hP, hK, hD0, hTH⟩ := hv
  have hx := B.exec
  have hb := B.bytes
  have hr := B.returns
  have hts := atoms_spec (ws := wsX0_change) B.pre
  have hown : s.vm.findClass RX0 = some m.cls := findClass_of_methodNamed B.named
  have hlocks := B.notSynchronized
  subst hsz
  have hD := hD0.self (sz := s.heap.size)
  generalize hAe : va_A (xW cA ad f g) s.heap.size = A at hD ⊢
  have hA : ∀ q : Nat, s.heap.size ≤ q → A q := fun q h => by rw [← hAe]; exact Or.inr h
  have hS : va_S A s.heap s.heap [] := va_S.rf
  have hfin : ∀ w ∈ wsX00, w ∈ wsX0_change := fun w h => (List.mem_cons_of_mem _ (List.mem_append_left _ (List.mem_append_left _ (List.mem_append_left _ (List.mem_append_right _ h)))))
  have hl := lv_entry ([.ref (ad 16), .int k, .int a]) (n := 4) (Nat.le_of_ble_eq_true rfl)
  rw [lg_entry_eq]
  generalize (lg_sl ([.ref (ad 16), .int k, .int a]) ++ List.replicate (4 - (lg_sl ([.ref (ad 16), .int k, .int a])).length) Slot.unset).toArray = ls at hl ⊢
  have hl : lv_has ls 4 [(0, .ref (ad 16)), (1, .int k), (2, .int a)] := hl
  refine lv_iload_n hx hb dX0_change_0 rfl (lv_at hl 1 rfl) ?_
  refine qb_callSv (vx_runS (As := [.int k]) (rest := []) ⟨hx, hb, hml, hown, hts⟩ (c_X0_checkKey l hl0 k) (va_cwS 1 hts gX0_change_X0_checkKey rfl rfl rfl (by decide +kernel) ⟨Nat.le_of_ble_eq_true rfl, Nat.le_of_ble_eq_true rfl⟩) ⟨qTH_blind, qTH_pc hTH rfl⟩ rfl rfl hl.1 rfl (lv_room (Nat.le_of_ble_eq_true rfl)) dX0_change_1 ⟨Nat.le_of_ble_eq_true rfl, Nat.le_of_ble_eq_true rfl⟩) (fun E ce q9 st t H1 hst ht hvm hX hcell hcv hcl => vx_out (fun x h => (hno x h).elim) hlocks hcell hcv hcl (fun t2 h2 hA2 => qX_pass hX hst rfl ht h2 (Or.inl)) (fun q h => nomatch h) (by decide) (by decide)) (fun hz => ?_)
  have h_1 := hz
  refine lv_iload_n hx hb dX0_change_4 rfl (lv_at hl 2 rfl) ?_
  refine qb_callSv (vx_runS (As := [.int a]) (rest := []) ⟨hx, hb, hml, hown, hts⟩ (c_X0_checkAddress l hl0 a) (va_cwS 1 hts gX0_change_X0_checkAddress rfl rfl rfl (by decide +kernel) ⟨Nat.le_of_ble_eq_true rfl, Nat.le_of_ble_eq_true rfl⟩) ⟨qTH_blind, qTH_pc hTH rfl⟩ rfl rfl hl.1 rfl (lv_room (Nat.le_of_ble_eq_true rfl)) dX0_change_5 ⟨Nat.le_of_ble_eq_true rfl, Nat.le_of_ble_eq_true rfl⟩) (fun E ce q9 st t H1 hst ht hvm hX hcell hcv hcl => vx_out (fun x h => (hno x h).elim) hlocks hcell hcv hcl (fun t2 h2 hA2 => qX_pass hX hst rfl ht h2 (fun h => Or.inr (Or.inl ⟨h.1, h_1, h.2⟩))) (fun q h => nomatch h) (by decide) (by decide)) (fun hz => ?_)
  have h_5 := hz
  refine lv_aload_n hx hb dX0_change_8 rfl (lv_at hl 0 rfl) ?_
  refine lv_iload_n hx hb dX0_change_9 rfl (lv_at hl 1 rfl) ?_
  refine qb_callSv (vx_runV (As := [.int k]) (rest := []) ⟨hx, hb, hml, hown, hts⟩ (c_X0_checkMember l hl0 D cA cZ cL ad f g k nR nB hI) (cwV 1 hts gX0_change_X0_checkMember rfl rfl rfl (by decide +kernel) ⟨Nat.le_of_ble_eq_true rfl, Nat.le_of_ble_eq_true rfl⟩) ⟨qPreT_blind, va_recv hK hP (ci := 0) (q0 := 0) rfl rfl, qPreT_at hP hK hTH rfl⟩ rfl rfl hl.1 rfl (lv_room (Nat.le_of_ble_eq_true rfl)) dX0_change_10 ⟨Nat.le_of_ble_eq_true rfl, Nat.le_of_ble_eq_true rfl⟩) (fun E ce q9 st t H1 hst ht hvm hX hcell hcv hcl => vx_out (fun x h => (hno x h).elim) hlocks hcell hcv hcl (fun t2 h2 hA2 => qX_pass hX hst rfl ht h2 (fun h => Or.inr (Or.inr ⟨h.1, h_1, h_5, Decidable.not_not.mp h.2⟩))) (fun q h => nomatch h) (by decide) (by decide)) (fun hz => ?_)
  have h_10 := hz
  refine lv_aload_n hx hb dX0_change_13 rfl (lv_at hl 0 rfl) ?_
  refine lv_iload_n hx hb dX0_change_14 rfl (lv_at hl 1 rfl) ?_
  refine vp_callSi (W.runV (As := [.int k]) (rest := []) ⟨hx, hb, hml, hown, hts⟩ (c_X0_read l D cA cZ cL ad f g k nR nB hI) (cwV 1 hts gX0_change_X0_read rfl rfl rfl (by decide +kernel) ⟨Nat.le_of_ble_eq_true rfl, Nat.le_of_ble_eq_true rfl⟩) ⟨qPre_blind, va_recv hK hP (ci := 0) (q0 := 0) rfl rfl, qPre_at hP hK⟩ rfl rfl hl.1 rfl (lv_room (Nat.le_of_ble_eq_true rfl)) dX0_change_15 ⟨Nat.le_of_ble_eq_true rfl, Nat.le_of_ble_eq_true rfl⟩) (fun z hz => ?_)
  subst hz
  refine lv_istore_n (lv' := [(3, .int (xRead nR f g k)), (0, .ref (ad 16)), (1, .int k), (2, .int a)]) hx hb dX0_change_18 rfl hl (by decide) rfl (fun ls hl => ?_)
  refine lv_aload_n hx hb dX0_change_19 rfl (lv_at hl 1 rfl) ?_
  refine lv_iload_n hx hb dX0_change_20 rfl (lv_at hl 2 rfl) ?_
  refine lv_iload_n hx hb dX0_change_21 rfl (lv_at hl 3 rfl) ?_
  refine qb_callv (va_runV (As := [.int k, .int a]) (rest := []) ⟨hx, hb, hml, hown, hts⟩ (c_X0_write l D cA cZ cL ad f g s.heap.size k a nR nB hI) (cwV 2 hts gX0_change_X0_write rfl rfl rfl (by decide +kernel) ⟨Nat.le_of_ble_eq_true rfl, Nat.le_of_ble_eq_true rfl⟩) ⟨qPreW_blind, va_recv hK hP (ci := 0) (q0 := 0) rfl rfl, qPreW_at hP hK hD⟩ rfl rfl hl.1 rfl (lv_room (Nat.le_of_ble_eq_true rfl)) dX0_change_22 ⟨Nat.le_of_ble_eq_true rfl, Nat.le_of_ble_eq_true rfl⟩) hD hS hA (fun u H locs hu hP hD hS => ?_)
  obtain ⟨uf, ug⟩ := u
  obtain ⟨hu1, hu2⟩ := hu
  have hu1 : uf = f := hu1
  have hu2 : ug = xWriteG nR f g k a := hu2
  have hP : va_P D vwCl (xW cA ad uf ug) H := hP
  have hD : va_D A (xW cA ad uf ug) := hD
  rw [hu1, hu2] at hP hD
  have hP : va_P D vwCl (xW cA ad f (xWriteG nR f g k a)) H := hP
  have hD : va_D A (xW cA ad f (xWriteG nR f g k a)) := hD
  refine lv_iload_n hx hb dX0_change_25 rfl (lv_at hl 0 rfl) ?_
  refine vx_ret ?_
  refine W.widen (k := 1) (n := 6) (by decide) (by decide) ?_
  exact W.iret (v := xRead nR f g k) hx hb hr (fun t ht hW => ⟨⟨xRead nR f g k, (f, (xWriteG nR f g k a)), rfl, ⟨⟨h_1, h_5, h_10⟩, rfl, rfl, rfl⟩, by rw [ht]; exact hP, hD⟩, hS.F ht⟩) hS.2.2 dX0_change_26
set_option maxHeartbeats 4000000 in
set_option maxRecDepth 100000 in
/-- leave -/
theorem c_X0_leave (l : Launch) (hl0 : l.stackTraces = false) (D : va_G) (cA cZ cL : ClassId) (ad : Nat → Nat) (f : qFs) (g : qGs) (sz : Nat) (k : Int32) (nR : Nat) (nB : Nat) (hI : xI nR nB f) : vx_Met l yX0_leave wsX0_leave ({ frames := 7, cells := 1, slots := 6, locals := 128 } : Room) (va_Pc [.ref (ad 16), .int k] (qPreX D (qTy cA cZ cL) (xW cA ad f g) sz)) (va_Qi (fun (z : Int32) (u : qFs × qGs) => (xKey k ∧ ¬ xRead nR f g k = -1) ∧ z = xRead nR f g k ∧ u.1 = va_up f 1 (f 1 - 1) ∧ u.2 = xWriteG nR f g k (-1)) (qAt D (va_A (xW cA ad f g) sz) (fun u : qFs × qGs => xW cA ad u.1 u.2)) (va_A (xW cA ad f g) sz)) (qX (fun E => (E = eIO ∧ ¬ xKey k) ∨ (E = eIS ∧ xKey k ∧ xRead nR f g k = -1))) 1 6 (va_A (xW cA ad f g) sz) := by
  refine vx_ofW (cc := cX0_leave) (maxL := 3) (ret := (some .int)) (by decide) rfl ?_
  intro p e s m args below meth c s₁ B hml hno hv
  obtain ⟨rfl, hsz, hP, hK, hD0, hTH⟩ := hv
  have hx := B.exec
  have hb := B.bytes
  have hr := B.returns
  have hts := atoms_spec (ws := wsX0_leave) B.pre
  have hown : s.vm.findClass RX0 = some m.cls := findClass_of_methodNamed B.named
  have hlocks := B.notSynchronized
  subst hsz
  have hD := hD0.self (sz := s.heap.size)
  generalize hAe : va_A (xW cA ad f g) s.heap.size = A at hD ⊢
  have hA : ∀ q : Nat, s.heap.size ≤ q → A q := fun q h => by rw [← hAe]; exact Or.inr h
  have hS : va_S A s.heap s.heap [] := va_S.rf
  have hfin : ∀ w ∈ wsX00, w ∈ wsX0_leave := fun w h => (List.mem_cons_of_mem _ (List.mem_append_left _ (List.mem_append_left _ (List.mem_append_right _ h))))
  have hl := lv_entry ([.ref (ad 16), .int k]) (n := 3) (Nat.le_of_ble_eq_true rfl)
  rw [lg_entry_eq]
  generalize (lg_sl ([.ref (ad 16), .int k]) ++ List.replicate (3 - (lg_sl ([.ref (ad 16), .int k])).length) Slot.unset).toArray = ls at hl ⊢
  have hl : lv_has ls 3 [(0, .ref (ad 16)), (1, .int k)] := hl
  refine lv_iload_n hx hb dX0_leave_0 rfl (lv_at hl 1 rfl) ?_
  refine qb_callSv (vx_runS (As := [.int k]) (rest := []) ⟨hx, hb, hml, hown, hts⟩ (c_X0_checkKey l hl0 k) (va_cwS 1 hts gX0_leave_X0_checkKey rfl rfl rfl (by decide +kernel) ⟨Nat.le_of_ble_eq_true rfl, Nat.le_of_ble_eq_true rfl⟩) ⟨qTH_blind, qTH_pc hTH rfl⟩ rfl rfl hl.1 rfl (lv_room (Nat.le_of_ble_eq_true rfl)) dX0_leave_1 ⟨Nat.le_of_ble_eq_true rfl, Nat.le_of_ble_eq_true rfl⟩) (fun E ce q9 st t H1 hst ht hvm hX hcell hcv hcl => vx_out (fun x h => (hno x h).elim) hlocks hcell hcv hcl (fun t2 h2 hA2 => qX_pass hX hst rfl ht h2 (Or.inl)) (fun q h => nomatch h) (by decide) (by decide)) (fun hz => ?_)
  have h_1 := hz
  refine lv_aload_n hx hb dX0_leave_4 rfl (lv_at hl 0 rfl) ?_
  refine lv_iload_n hx hb dX0_leave_5 rfl (lv_at hl 1 rfl) ?_
  refine qb_callSv (vx_runV (As := [.int k]) (rest := []) ⟨hx, hb, hml, hown, hts⟩ (c_X0_checkMember l hl0 D cA cZ cL ad f g k nR nB hI) (cwV 1 hts gX0_leave_X0_checkMember rfl rfl rfl (by decide +kernel) ⟨Nat.le_of_ble_eq_true rfl, Nat.le_of_ble_eq_true rfl⟩) ⟨qPreT_blind, va_recv hK hP (ci := 0) (q0 := 0) rfl rfl, qPreT_at hP hK hTH rfl⟩ rfl rfl hl.1 rfl (lv_room (Nat.le_of_ble_eq_true rfl)) dX0_leave_6 ⟨Nat.le_of_ble_eq_true rfl, Nat.le_of_ble_eq_true rfl⟩) (fun E ce q9 st t H1 hst ht hvm hX hcell hcv hcl => vx_out (fun x h => (hno x h).elim) hlocks hcell hcv hcl (fun t2 h2 hA2 => qX_pass hX hst rfl ht h2 (fun h => Or.inr ⟨h.1, h_1, Decidable.not_not.mp h.2⟩)) (fun q h => nomatch h) (by decide) (by decide)) (fun hz => ?_)
  have h_6 := hz
  refine lv_aload_n hx hb dX0_leave_9 rfl (lv_at hl 0 rfl) ?_
  refine lv_iload_n hx hb dX0_leave_10 rfl (lv_at hl 1 rfl) ?_
  refine vp_callSi (W.runV (As := [.int k]) (rest := []) ⟨hx, hb, hml, hown, hts⟩ (c_X0_read l D cA cZ cL ad f g k nR nB hI) (cwV 1 hts gX0_leave_X0_read rfl rfl rfl (by decide +kernel) ⟨Nat.le_of_ble_eq_true rfl, Nat.le_of_ble_eq_true rfl⟩) ⟨qPre_blind, va_recv hK hP (ci := 0) (q0 := 0) rfl rfl, qPre_at hP hK⟩ rfl rfl hl.1 rfl (lv_room (Nat.le_of_ble_eq_true rfl)) dX0_leave_11 ⟨Nat.le_of_ble_eq_true rfl, Nat.le_of_ble_eq_true rfl⟩) (fun z hz => ?_)
  subst hz
  refine lv_istore_n (lv' := [(2, .int (xRead nR f g k)), (0, .ref (ad 16)), (1, .int k)]) hx hb dX0_leave_14 rfl hl (by decide) rfl (fun ls hl => ?_)
  refine lv_aload_n hx hb dX0_leave_15 rfl (lv_at hl 1 rfl) ?_
  refine lv_iload_n hx hb dX0_leave_16 rfl (lv_at hl 2 rfl) ?_
  refine lv_iconst (v := (-1)) hx hb dX0_leave_17 (by decide) ?_
  refine qb_callv (va_runV (As := [.int k, .int (-1)]) (rest := []) ⟨hx, hb, hml, hown, hts⟩ (c_X0_write l D cA cZ cL ad f g s.heap.size k (-1) nR nB hI) (cwV 2 hts gX0_leave_X0_write rfl rfl rfl (by decide +kernel) ⟨Nat.le_of_ble_eq_true rfl, Nat.le_of_ble_eq_true rfl⟩) ⟨qPreW_blind, va_recv hK hP (ci := 0) (q0 := 0) rfl rfl, qPreW_at hP hK hD⟩ rfl rfl hl.1 rfl (lv_room (Nat.le_of_ble_eq_true rfl)) dX0_leave_18 ⟨Nat.le_of_ble_eq_true rfl, Nat.le_of_ble_eq_true rfl⟩) hD hS hA (fun u H locs hu hP hD hS => ?_)
  obtain ⟨uf, ug⟩ := u
  obtain ⟨hu1, hu2⟩ := hu
  have hu1 : uf = f := hu1
  have hu2 : ug = xWriteG nR f g k (-1) := hu2
  have hP : va_P D vwCl (xW cA ad uf ug) H := hP
  have hD : va_D A (xW cA ad uf ug) := hD
  rw [hu1, hu2] at hP hD
  have hP : va_P D vwCl (xW cA ad f (xWriteG nR f g k (-1))) H := hP
  have hD : va_D A (xW cA ad f (xWriteG nR f g k (-1))) := hD
  refine lv_aload_n hx hb dX0_leave_21 rfl (lv_at hl 1 rfl) ?_
  refine lv_dup hx hb dX0_leave_22 rfl ?_
  refine va_get (D := D) (ci := 0) (v := .int (f 1)) (C := RX0) (T := TX0) (N := 16) hx hb hts hfin hown hK hP 0 rfl rfl 1 (by decide) (hts _ (List.mem_cons_of_mem _ (List.mem_append_left _ (List.mem_append_left _ (List.mem_append_left _ (List.mem_append_left _ (List.mem_of_getElem? (i := 0) rfl))))))) (fun _ h9 => h9) rfl dX0_leave_23 ?_
  refine lv_iconst (v := 1) hx hb dX0_leave_26 (by decide) ?_
  refine lv_isub hx hb dX0_leave_27 ?_
  refine va_put (D := D) (ci := 0) (v := .int ((f 1) - 1)) (ty := .int) (C := RX0) (T := TX0) (N := 16) hx hb hts hfin tyX0 tyX0_ok nmX0 hown hK hP hD hS 0 rfl rfl 1 (by decide) (hts _ (List.mem_cons_of_mem _ (List.mem_append_left _ (List.mem_append_left _ (List.mem_append_left _ (List.mem_append_left _ (List.mem_of_getElem? (i := 0) rfl))))))) (fun _ h9 => h9) rfl (by decide +kernel) (rfl) (rfl) (Nat.le_of_ble_eq_true rfl) dX0_leave_28 (fun H locs hP hD hS => ?_)
  have hP : va_P D vwCl (xW cA ad (va_up f 1 ((f 1) - 1)) (xWriteG nR f g k (-1))) H := hP
  have hD : va_D A (xW cA ad (va_up f 1 ((f 1) - 1)) (xWriteG nR f g k (-1))) := hD
  refine lv_iload_n hx hb dX0_leave_31 rfl (lv_at hl 0 rfl) ?_
  refine vx_ret ?_
  refine W.widen (k := 1) (n := 6) (by decide) (by decide) ?_
  exact W.iret (v := xRead nR f g k) hx hb hr (fun t ht hW => ⟨⟨xRead nR f g k, ((va_up f 1 ((f 1) - 1)), (xWriteG nR f g k (-1))), rfl, ⟨⟨h_1, h_6⟩, rfl, rfl, rfl⟩, by rw [ht]; exact hP, hD⟩, hS.F ht⟩) hS.2.2 dX0_leave_32
set_option maxHeartbeats 4000000 in
set_option maxRecDepth 100000 in
/-- split -/
theorem c_X0_split (l : Launch) (hl0 : l.stackTraces = false) (D : va_G) (cA cZ cL : ClassId) (ad : Nat → Nat) (f : qFs) (g : qGs) (sz : Nat) (k : Int32) (nR : Nat) (nB : Nat) (hI : xI nR nB f) : vx_Met l yX0_split wsX0_split ({ frames := 7, cells := 1, slots := 6, locals := 110 } : Room) (va_Pc [.ref (ad 16), .int k] (qPreX D (qTy cA cZ cL) (xW cA ad f g) sz)) (va_Qi (fun (z : Int32) (u : qFs × qGs) => (xKey k ∧ ¬ k = xLast f g (nI (xHold nR g k)) ∧ xTarg f g (nI (xHold nR g k)) = -1 ∧ f 5 < 8) ∧ z = nI (xHold nR g k + 1) ∧ u.1 = va_up f 5 (nI (nR + 1)) ∧ u.2 = va_up (xUpG (xHold nR g k) g (nR - xHold nR g k)) 2 (upd (xUpG (xHold nR g k) g (nR - xHold nR g k) 2) (xHold nR g k) k)) (qAt D (va_A (xW cA ad f g) sz) (fun u : qFs × qGs => xW cA ad u.1 u.2)) (va_A (xW cA ad f g) sz)) (qX (fun E => (E = eIO ∧ ¬ xKey k) ∨ (E = eIS ∧ xKey k ∧ (k = xLast f g (nI (xHold nR g k)) ∨ ¬ xTarg f g (nI (xHold nR g k)) = -1 ∨ ¬ f 5 < 8)))) 1 6 (va_A (xW cA ad f g) sz) := by
  refine vx_ofW (cc := cX0_split) (maxL := 3) (ret := (some .int)) (by decide) rfl ?_
  intro p e s m args below meth c s₁ B hml hno hv
  obtain ⟨rfl, hsz, hP, hK, hD0, hTH⟩ := hv
  have hx := B.exec
  have hb := B.bytes
  have hr := B.returns
  have hts := atoms_spec (ws := wsX0_split) B.pre
  have hown : s.vm.findClass RX0 = some m.cls := findClass_of_methodNamed B.named
  have hlocks := B.notSynchronized
  subst hsz
  have hD := hD0.self (sz := s.heap.size)
  generalize hAe : va_A (xW cA ad f g) s.heap.size = A at hD ⊢
  have hA : ∀ q : Nat, s.heap.size ≤ q → A q := fun q h => by rw [← hAe]; exact Or.inr h
  have hS : va_S A s.heap s.heap [] := va_S.rf
  have hfin : ∀ w ∈ wsX00, w ∈ wsX0_split := fun w h => (List.mem_cons_of_mem _ (List.mem_append_left _ (List.mem_append_left _ (List.mem_append_right _ h))))
  have hl := lv_entry ([.ref (ad 16), .int k]) (n := 3) (Nat.le_of_ble_eq_true rfl)
  rw [lg_entry_eq]
  generalize (lg_sl ([.ref (ad 16), .int k]) ++ List.replicate (3 - (lg_sl ([.ref (ad 16), .int k])).length) Slot.unset).toArray = ls at hl ⊢
  have hl : lv_has ls 3 [(0, .ref (ad 16)), (1, .int k)] := hl
  have hrl := xHold_lt hI g k
  refine lv_iload_n hx hb dX0_split_0 rfl (lv_at hl 1 rfl) ?_
  refine qb_callSv (vx_runS (As := [.int k]) (rest := []) ⟨hx, hb, hml, hown, hts⟩ (c_X0_checkKey l hl0 k) (va_cwS 1 hts gX0_split_X0_checkKey rfl rfl rfl (by decide +kernel) ⟨Nat.le_of_ble_eq_true rfl, Nat.le_of_ble_eq_true rfl⟩) ⟨qTH_blind, qTH_pc hTH rfl⟩ rfl rfl hl.1 rfl (lv_room (Nat.le_of_ble_eq_true rfl)) dX0_split_1 ⟨Nat.le_of_ble_eq_true rfl, Nat.le_of_ble_eq_true rfl⟩) (fun E ce q9 st t H1 hst ht hvm hX hcell hcv hcl => vx_out (fun x h => (hno x h).elim) hlocks hcell hcv hcl (fun t2 h2 hA2 => qX_pass hX hst rfl ht h2 (Or.inl)) (fun q h => nomatch h) (by decide) (by decide)) (fun hz => ?_)
  have h_1 := hz
  refine lv_aload_n hx hb dX0_split_4 rfl (lv_at hl 0 rfl) ?_
  refine lv_iload_n hx hb dX0_split_5 rfl (lv_at hl 1 rfl) ?_
  refine vp_callSi (W.runV (As := [.int k]) (rest := []) ⟨hx, hb, hml, hown, hts⟩ (c_X0_rangeHolding l D cA cZ cL ad f g k nR nB hI) (cwV 1 hts gX0_split_X0_rangeHolding rfl rfl rfl (by decide +kernel) ⟨Nat.le_of_ble_eq_true rfl, Nat.le_of_ble_eq_true rfl⟩) ⟨qPre_blind, va_recv hK hP (ci := 0) (q0 := 0) rfl rfl, qPre_at hP hK⟩ rfl rfl hl.1 rfl (lv_room (Nat.le_of_ble_eq_true rfl)) dX0_split_6 ⟨Nat.le_of_ble_eq_true rfl, Nat.le_of_ble_eq_true rfl⟩) (fun z hz => ?_)
  subst hz
  refine lv_istore_n (lv' := [(2, .int (nI (xHold nR g k))), (0, .ref (ad 16)), (1, .int k)]) hx hb dX0_split_9 rfl hl (by decide) rfl (fun ls hl => ?_)
  refine lv_iload_n hx hb dX0_split_10 rfl (lv_at hl 2 rfl) ?_
  refine lv_aload_n hx hb dX0_split_11 rfl (lv_at hl 1 rfl) ?_
  refine lv_iload_n hx hb dX0_split_12 rfl (lv_at hl 0 rfl) ?_
  refine vp_callSi (W.runV (As := [.int (nI (xHold nR g k))]) (rest := [.int k]) ⟨hx, hb, hml, hown, hts⟩ (c_X0_lastKeyOf l D cA cZ cL ad f g (nI (xHold nR g k)) nR nB hI) (cwV 1 hts gX0_split_X0_lastKeyOf rfl rfl rfl (by decide +kernel) ⟨Nat.le_of_ble_eq_true rfl, Nat.le_of_ble_eq_true rfl⟩) ⟨qPre_blind, va_recv hK hP (ci := 0) (q0 := 0) rfl rfl, qPre_at hP hK⟩ rfl rfl hl.1 rfl (lv_room (Nat.le_of_ble_eq_true rfl)) dX0_split_13 ⟨Nat.le_of_ble_eq_true rfl, Nat.le_of_ble_eq_true rfl⟩) (fun z hz => ?_)
  subst hz
  refine lv_icmp_ne (tgt := 29) hx hb dX0_split_16 (by decide) (fun c_16 => ?_) (fun c_16 => ?_)
  · skip
    refine lv_aload_n hx hb dX0_split_29 rfl (lv_at hl 1 rfl) ?_
    refine lv_iload_n hx hb dX0_split_30 rfl (lv_at hl 0 rfl) ?_
    refine vp_callSi (W.runV (As := [.int (nI (xHold nR g k))]) (rest := []) ⟨hx, hb, hml, hown, hts⟩ (c_X0_isMoved l D cA cZ cL ad f g (nI (xHold nR g k)) nR nB hI) (cwV 1 hts gX0_split_X0_isMoved rfl rfl rfl (by decide +kernel) ⟨Nat.le_of_ble_eq_true rfl, Nat.le_of_ble_eq_true rfl⟩) ⟨qPre_blind, va_recv hK hP (ci := 0) (q0 := 0) rfl rfl, qPre_at hP hK⟩ rfl rfl hl.1 rfl (lv_room (Nat.le_of_ble_eq_true rfl)) dX0_split_31 ⟨Nat.le_of_ble_eq_true rfl, Nat.le_of_ble_eq_true rfl⟩) (fun z hz => ?_)
    subst hz
    refine lv_if_eq (tgt := 47) hx hb dX0_split_34 (by decide) (fun c_34 => ?_) (fun c_34 => ?_)
    · have c_34 := bI_0.mp c_34
      refine lv_aload_n hx hb dX0_split_47 rfl (lv_at hl 1 rfl) ?_
      refine va_get (D := D) (ci := 0) (v := .int (f 5)) (C := RX0) (T := TX0) (N := 16) hx hb hts hfin hown hK hP 0 rfl rfl 5 (by decide) (hts _ (List.mem_cons_of_mem _ (List.mem_append_left _ (List.mem_append_left _ (List.mem_append_left _ (List.mem_append_left _ (List.mem_of_getElem? (i := 2) rfl))))))) (fun _ h9 => h9) rfl dX0_split_48 ?_
      refine lv_bipush (v := 8) hx hb dX0_split_51 (by decide) ?_
      refine lv_icmp_lt (tgt := 66) hx hb dX0_split_53 (by decide) (fun c_53 => ?_) (fun c_53 => ?_)
      · skip
        have hR8 := x_R8 hI c_53
        refine lv_aload_n hx hb dX0_split_66 rfl (lv_at hl 1 rfl) ?_
        refine lv_iload_n hx hb dX0_split_67 rfl (lv_at hl 0 rfl) ?_
        refine qb_callv (va_runV (As := [.int (nI (xHold nR g k))]) (rest := []) ⟨hx, hb, hml, hown, hts⟩ (c_X0_insertCopyBehind l D cA cZ cL ad f g s.heap.size (xHold nR g k) nR hI.1 hrl hR8) (cwV 1 hts gX0_split_X0_insertCopyBehind rfl rfl rfl (by decide +kernel) ⟨Nat.le_of_ble_eq_true rfl, Nat.le_of_ble_eq_true rfl⟩) ⟨qPreW_blind, va_recv hK hP (ci := 0) (q0 := 0) rfl rfl, qPreW_at hP hK hD⟩ rfl rfl hl.1 rfl (lv_room (Nat.le_of_ble_eq_true rfl)) dX0_split_68 ⟨Nat.le_of_ble_eq_true rfl, Nat.le_of_ble_eq_true rfl⟩) hD hS hA (fun u H locs hu hP hD hS => ?_)
        obtain ⟨uf, ug⟩ := u
        obtain ⟨hu1, hu2⟩ := hu
        have hu1 : uf = va_up f 5 (nI (nR + 1)) := hu1
        have hu2 : ug = xUpG (xHold nR g k) g (nR - (xHold nR g k)) := hu2
        have hP : va_P D vwCl (xW cA ad uf ug) H := hP
        have hD : va_D A (xW cA ad uf ug) := hD
        rw [hu1, hu2] at hP hD
        have hP : va_P D vwCl (xW cA ad (va_up f 5 (nI (nR + 1))) (xUpG (xHold nR g k) g (nR - (xHold nR g k)))) H := hP
        have hD : va_D A (xW cA ad (va_up f 5 (nI (nR + 1))) (xUpG (xHold nR g k) g (nR - (xHold nR g k)))) := hD
        refine lv_aload_n hx hb dX0_split_71 rfl (lv_at hl 1 rfl) ?_
        refine lv_iload_n hx hb dX0_split_72 rfl (lv_at hl 0 rfl) ?_
        refine lv_iload_n hx hb dX0_split_73 rfl (lv_at hl 2 rfl) ?_
        refine qb_callv (va_runV (As := [.int (nI (xHold nR g k)), .int k]) (rest := []) ⟨hx, hb, hml, hown, hts⟩ (c_X0_putLastKey l D cA cZ cL ad (va_up f 5 (nI (nR + 1))) (xUpG (xHold nR g k) g (nR - (xHold nR g k))) H.size (xHold nR g k) k (nR + 1) rfl (by omega) (by omega)) (cwV 2 hts gX0_split_X0_putLastKey rfl rfl rfl (by decide +kernel) ⟨Nat.le_of_ble_eq_true rfl, Nat.le_of_ble_eq_true rfl⟩) ⟨qPreW_blind, va_recv hK hP (ci := 0) (q0 := 0) rfl rfl, qPreW_at hP hK hD⟩ rfl rfl hl.1 rfl (lv_room (Nat.le_of_ble_eq_true rfl)) dX0_split_74 ⟨Nat.le_of_ble_eq_true rfl, Nat.le_of_ble_eq_true rfl⟩) hD hS hA (fun u H locs hu hP hD hS => ?_)
        obtain ⟨uf, ug⟩ := u
        obtain ⟨hu1, hu2⟩ := hu
        have hu1 : uf = (va_up f 5 (nI (nR + 1))) := hu1
        have hu2 : ug = va_up (xUpG (xHold nR g k) g (nR - (xHold nR g k))) 2 (upd ((xUpG (xHold nR g k) g (nR - (xHold nR g k))) 2) (xHold nR g k) k) := hu2
        have hP : va_P D vwCl (xW cA ad uf ug) H := hP
        have hD : va_D A (xW cA ad uf ug) := hD
        rw [hu1, hu2] at hP hD
        have hP : va_P D vwCl (xW cA ad (va_up f 5 (nI (nR + 1))) (va_up (xUpG (xHold nR g k) g (nR - (xHold nR g k))) 2 (upd ((xUpG (xHold nR g k) g (nR - (xHold nR g k))) 2) (xHold nR g k) k))) H := hP
        have hD : va_D A (xW cA ad (va_up f 5 (nI (nR + 1))) (va_up (xUpG (xHold nR g k) g (nR - (xHold nR g k))) 2 (upd ((xUpG (xHold nR g k) g (nR - (xHold nR g k))) 2) (xHold nR g k) k))) := hD
        refine lv_iload_n hx hb dX0_split_77 rfl (lv_at hl 0 rfl) ?_
        refine lv_iconst (v := 1) hx hb dX0_split_78 (by decide) ?_
        refine lv_iadd hx hb dX0_split_79 ?_
        refine lv_topi (fun v_79 hv_79 => ?_)
        have hv_79 : v_79 = nI (xHold nR g k + 1) := hv_79.trans (nI_1 _)
        subst hv_79
        refine vx_ret ?_
        refine W.widen (k := 1) (n := 6) (by decide) (by decide) ?_
        exact W.iret (v := nI (xHold nR g k + 1)) hx hb hr (fun t ht hW => ⟨⟨nI (xHold nR g k + 1), ((va_up f 5 (nI (nR + 1))), (va_up (xUpG (xHold nR g k) g (nR - (xHold nR g k))) 2 (upd ((xUpG (xHold nR g k) g (nR - (xHold nR g k))) 2) (xHold nR g k) k))), rfl, ⟨⟨h_1, c_16, Decidable.not_not.mp c_34, c_53⟩, rfl, rfl, rfl⟩, by rw [ht]; exact hP, hD⟩, hS.F ht⟩) hS.2.2 dX0_split_80
      · skip
        obtain ⟨sa, hsa⟩ := hTH.2.2.1 (106, "there are 8 ranges") (List.mem_of_getElem? (i := 4) rfl)
        exact vx_throwS (A := fun _ => False) (names := ["java/lang/RuntimeException", "java/lang/Exception"]) hx hb hl0 hown (by decide) (by decide) (hts _ (List.mem_cons_of_mem _ (List.mem_append_left _ (List.mem_append_left _ (List.mem_append_left _ (List.mem_append_left _ (List.mem_of_getElem? (i := 0) rfl))))))) (hts _ (List.mem_cons_of_mem _ (List.mem_append_left _ (List.mem_append_left _ (List.mem_append_left _ (List.mem_append_left _ (List.mem_of_getElem? (i := 1) rfl))))))) hsa (vx_hat (fun w h => hts w (List.mem_cons_of_mem _ (List.mem_append_left _ (List.mem_append_right _ h)))) qw3 (qBad_of hTH (by decide))) qg3 hTH.1 hTH.2.1 va_S.rf (hl.1.trans hml.symm) dX0_split_56 dX0_split_59 dX0_split_60 dX0_split_62 dX0_split_65 (fun x h => (hno x h).elim) (Nat.le_of_ble_eq_true rfl) (Nat.le_of_ble_eq_true rfl) (Nat.le_of_ble_eq_true rfl) (Nat.le_of_ble_eq_true rfl) hlocks (fun t _ h1 h2 => ⟨Or.inr ⟨rfl, h_1, Or.inr (Or.inr c_53)⟩, h1, h2⟩) (fun q h => nomatch h) (by decide) (by decide)
    · have c_34 := bI_n.mp c_34
      obtain ⟨sa, hsa⟩ := hTH.2.2.1 (104, "the range is moved") (List.mem_of_getElem? (i := 3) rfl)
      exact vx_throwS (A := fun _ => False) (names := ["java/lang/RuntimeException", "java/lang/Exception"]) hx hb hl0 hown (by decide) (by decide) (hts _ (List.mem_cons_of_mem _ (List.mem_append_left _ (List.mem_append_left _ (List.mem_append_left _ (List.mem_append_left _ (List.mem_of_getElem? (i := 0) rfl))))))) (hts _ (List.mem_cons_of_mem _ (List.mem_append_left _ (List.mem_append_left _ (List.mem_append_left _ (List.mem_append_left _ (List.mem_of_getElem? (i := 1) rfl))))))) hsa (vx_hat (fun w h => hts w (List.mem_cons_of_mem _ (List.mem_append_left _ (List.mem_append_right _ h)))) qw3 (qBad_of hTH (by decide))) qg3 hTH.1 hTH.2.1 va_S.rf (hl.1.trans hml.symm) dX0_split_37 dX0_split_40 dX0_split_41 dX0_split_43 dX0_split_46 (fun x h => (hno x h).elim) (Nat.le_of_ble_eq_true rfl) (Nat.le_of_ble_eq_true rfl) (Nat.le_of_ble_eq_true rfl) (Nat.le_of_ble_eq_true rfl) hlocks (fun t _ h1 h2 => ⟨Or.inr ⟨rfl, h_1, Or.inr (Or.inl c_34)⟩, h1, h2⟩) (fun q h => nomatch h) (by decide) (by decide)
  · skip
    obtain ⟨sa, hsa⟩ := hTH.2.2.1 (99, "it is the last key of its range") (List.mem_of_getElem? (i := 2) rfl)
    exact vx_throwS (A := fun _ => False) (names := ["java/lang/RuntimeException", "java/lang/Exception"]) hx hb hl0 hown (by decide) (by decide) (hts _ (List.mem_cons_of_mem _ (List.mem_append_left _ (List.mem_append_left _ (List.mem_append_left _ (List.mem_append_left _ (List.mem_of_getElem? (i := 0) rfl))))))) (hts _ (List.mem_cons_of_mem _ (List.mem_append_left _ (List.mem_append_left _ (List.mem_append_left _ (List.mem_append_left _ (List.mem_of_getElem? (i := 1) rfl))))))) hsa (vx_hat (fun w h => hts w (List.mem_cons_of_mem _ (List.mem_append_left _ (List.mem_append_right _ h)))) qw3 (qBad_of hTH (by decide))) qg3 hTH.1 hTH.2.1 va_S.rf (hl.1.trans hml.symm) dX0_split_19 dX0_split_22 dX0_split_23 dX0_split_25 dX0_split_28 (fun x h => (hno x h).elim) (Nat.le_of_ble_eq_true rfl) (Nat.le_of_ble_eq_true rfl) (Nat.le_of_ble_eq_true rfl) (Nat.le_of_ble_eq_true rfl) hlocks (fun t _ h1 h2 => ⟨Or.inr ⟨rfl, h_1, Or.inl c_16⟩, h1, h2⟩) (fun q h => nomatch h) (by decide) (by decide)
set_option maxHeartbeats 4000000 in
set_option maxRecDepth 100000 in
/-- merge -/
theorem c_X0_merge (l : Launch) (hl0 : l.stackTraces = false) (D : va_G) (cA cZ cL : ClassId) (ad : Nat → Nat) (f : qFs) (g : qGs) (sz : Nat) (r : Int32) (nR : Nat) (nB : Nat) (hI : xI nR nB f) : vx_Met l yX0_merge wsX0_merge ({ frames := 7, cells := 1, slots := 6, locals := 111 } : Room) (va_Pc [.ref (ad 16), .int r] (qPreX D (qTy cA cZ cL) (xW cA ad f g) sz)) (va_Qi (fun (z : Int32) (u : qFs × qGs) => (xRange f r ∧ xRange f (r + 1) ∧ xHome f g r = xHome f g (r + 1) ∧ xTarg f g r = -1 ∧ xTarg f g (r + 1) = -1) ∧ z = nI (nR - 1) ∧ u.1 = va_up f 5 (nI (nR - 1)) ∧ u.2 = xDnG g r.toNatClampNeg (nR - 1 - r.toNatClampNeg)) (qAt D (va_A (xW cA ad f g) sz) (fun u : qFs × qGs => xW cA ad u.1 u.2)) (va_A (xW cA ad f g) sz)) (qX (fun E => (E = eIO ∧ ¬ xRange f r) ∨ (E = eIS ∧ xRange f r ∧ (¬ xRange f (r + 1) ∨ ¬ xHome f g r = xHome f g (r + 1) ∨ ¬ xTarg f g r = -1 ∨ ¬ xTarg f g (r + 1) = -1)))) 1 6 (va_A (xW cA ad f g) sz) := by
  refine vx_ofW (cc := cX0_merge) (maxL := 3) (ret := (some .int)) (by decide) rfl ?_
  intro p e s m args below meth c s₁ B hml hno hv
  obtain ⟨rfl, hsz, hP, hK, hD0, hTH⟩ := hv
  have hx := B.exec
  have hb := B.bytes
  have hr := B.returns
  have hts := atoms_spec (ws := wsX0_merge) B.pre
  have hown : s.vm.findClass RX0 = some m.cls := findClass_of_methodNamed B.named
  have hlocks := B.notSynchronized
  subst hsz
  have hD := hD0.self (sz := s.heap.size)
  generalize hAe : va_A (xW cA ad f g) s.heap.size = A at hD ⊢
  have hA : ∀ q : Nat, s.heap.size ≤ q → A q := fun q h => by rw [← hAe]; exact Or.inr h
  have hS : va_S A s.heap s.heap [] := va_S.rf
  have hfin : ∀ w ∈ wsX00, w ∈ wsX0_merge := fun w h => (List.mem_cons_of_mem _ (List.mem_append_left _ (List.mem_append_left _ (List.mem_append_right _ h))))
  have hl := lv_entry ([.ref (ad 16), .int r]) (n := 3) (Nat.le_of_ble_eq_true rfl)
  rw [lg_entry_eq]
  generalize (lg_sl ([.ref (ad 16), .int r]) ++ List.replicate (3 - (lg_sl ([.ref (ad 16), .int r])).length) Slot.unset).toArray = ls at hl ⊢
  have hl : lv_has ls 3 [(0, .ref (ad 16)), (1, .int r)] := hl
  have hR8 := hI.2.2.1
  refine lv_aload_n hx hb dX0_merge_0 rfl (lv_at hl 0 rfl) ?_
  refine lv_iload_n hx hb dX0_merge_1 rfl (lv_at hl 1 rfl) ?_
  refine qb_callSv (vx_runV (As := [.int r]) (rest := []) ⟨hx, hb, hml, hown, hts⟩ (c_X0_checkRange l hl0 D cA cZ cL ad f g r) (cwV 1 hts gX0_merge_X0_checkRange rfl rfl rfl (by decide +kernel) ⟨Nat.le_of_ble_eq_true rfl, Nat.le_of_ble_eq_true rfl⟩) ⟨qPreT_blind, va_recv hK hP (ci := 0) (q0 := 0) rfl rfl, qPreT_at hP hK hTH rfl⟩ rfl rfl hl.1 rfl (lv_room (Nat.le_of_ble_eq_true rfl)) dX0_merge_2 ⟨Nat.le_of_ble_eq_true rfl, Nat.le_of_ble_eq_true rfl⟩) (fun E ce q9 st t H1 hst ht hvm hX hcell hcv hcl => vx_out (fun x h => (hno x h).elim) hlocks hcell hcv hcl (fun t2 h2 hA2 => qX_pass hX hst rfl ht h2 (Or.inl)) (fun q h => nomatch h) (by decide) (by decide)) (fun hz => ?_)
  have h_2 := hz
  obtain ⟨n, hn, rfl⟩ := x_nat hI h_2
  refine lv_iload_n hx hb dX0_merge_5 rfl (lv_at hl 1 rfl) ?_
  refine lv_iconst (v := 1) hx hb dX0_merge_6 (by decide) ?_
  refine lv_iadd hx hb dX0_merge_7 ?_
  refine lv_istore_n (lv' := [(2, .int ((nI n) + 1)), (0, .ref (ad 16)), (1, .int (nI n))]) hx hb dX0_merge_8 rfl hl (by decide) rfl (fun ls hl => ?_)
  refine lv_aload_n hx hb dX0_merge_9 rfl (lv_at hl 1 rfl) ?_
  refine lv_iload_n hx hb dX0_merge_10 rfl (lv_at hl 0 rfl) ?_
  refine vp_callSi (W.runV (As := [.int ((nI n) + 1)]) (rest := []) ⟨hx, hb, hml, hown, hts⟩ (c_X0_isRange l D cA cZ cL ad f g ((nI n) + 1)) (cwV 1 hts gX0_merge_X0_isRange rfl rfl rfl (by decide +kernel) ⟨Nat.le_of_ble_eq_true rfl, Nat.le_of_ble_eq_true rfl⟩) ⟨qPre_blind, va_recv hK hP (ci := 0) (q0 := 0) rfl rfl, qPre_at hP hK⟩ rfl rfl hl.1 rfl (lv_room (Nat.le_of_ble_eq_true rfl)) dX0_merge_11 ⟨Nat.le_of_ble_eq_true rfl, Nat.le_of_ble_eq_true rfl⟩) (fun z hz => ?_)
  subst hz
  refine lv_if_ne (tgt := 27) hx hb dX0_merge_14 (by decide) (fun c_14 => ?_) (fun c_14 => ?_)
  · have c_14 := bI_n.mp c_14
    refine lv_aload_n hx hb dX0_merge_27 rfl (lv_at hl 1 rfl) ?_
    refine lv_iload_n hx hb dX0_merge_28 rfl (lv_at hl 2 rfl) ?_
    refine vp_callSi (W.runV (As := [.int (nI n)]) (rest := []) ⟨hx, hb, hml, hown, hts⟩ (c_X0_homeOf l D cA cZ cL ad f g (nI n) nR nB hI) (cwV 1 hts gX0_merge_X0_homeOf rfl rfl rfl (by decide +kernel) ⟨Nat.le_of_ble_eq_true rfl, Nat.le_of_ble_eq_true rfl⟩) ⟨qPre_blind, va_recv hK hP (ci := 0) (q0 := 0) rfl rfl, qPre_at hP hK⟩ rfl rfl hl.1 rfl (lv_room (Nat.le_of_ble_eq_true rfl)) dX0_merge_29 ⟨Nat.le_of_ble_eq_true rfl, Nat.le_of_ble_eq_true rfl⟩) (fun z hz => ?_)
    subst hz
    refine lv_aload_n hx hb dX0_merge_32 rfl (lv_at hl 1 rfl) ?_
    refine lv_iload_n hx hb dX0_merge_33 rfl (lv_at hl 0 rfl) ?_
    refine vp_callSi (W.runV (As := [.int ((nI n) + 1)]) (rest := [.int (xHome f g (nI n))]) ⟨hx, hb, hml, hown, hts⟩ (c_X0_homeOf l D cA cZ cL ad f g ((nI n) + 1) nR nB hI) (cwV 1 hts gX0_merge_X0_homeOf rfl rfl rfl (by decide +kernel) ⟨Nat.le_of_ble_eq_true rfl, Nat.le_of_ble_eq_true rfl⟩) ⟨qPre_blind, va_recv hK hP (ci := 0) (q0 := 0) rfl rfl, qPre_at hP hK⟩ rfl rfl hl.1 rfl (lv_room (Nat.le_of_ble_eq_true rfl)) dX0_merge_34 ⟨Nat.le_of_ble_eq_true rfl, Nat.le_of_ble_eq_true rfl⟩) (fun z hz => ?_)
    subst hz
    refine lv_icmp_eq (tgt := 50) hx hb dX0_merge_37 (by decide) (fun c_37 => ?_) (fun c_37 => ?_)
    · skip
      refine lv_aload_n hx hb dX0_merge_50 rfl (lv_at hl 1 rfl) ?_
      refine lv_iload_n hx hb dX0_merge_51 rfl (lv_at hl 2 rfl) ?_
      refine vp_callSi (W.runV (As := [.int (nI n)]) (rest := []) ⟨hx, hb, hml, hown, hts⟩ (c_X0_isMoved l D cA cZ cL ad f g (nI n) nR nB hI) (cwV 1 hts gX0_merge_X0_isMoved rfl rfl rfl (by decide +kernel) ⟨Nat.le_of_ble_eq_true rfl, Nat.le_of_ble_eq_true rfl⟩) ⟨qPre_blind, va_recv hK hP (ci := 0) (q0 := 0) rfl rfl, qPre_at hP hK⟩ rfl rfl hl.1 rfl (lv_room (Nat.le_of_ble_eq_true rfl)) dX0_merge_52 ⟨Nat.le_of_ble_eq_true rfl, Nat.le_of_ble_eq_true rfl⟩) (fun z hz => ?_)
      subst hz
      refine lv_if_ne (tgt := 66) hx hb dX0_merge_55 (by decide) (fun c_55 => ?_) (fun c_55 => ?_)
      · have c_55 := bI_n.mp c_55
        obtain ⟨sa, hsa⟩ := hTH.2.2.1 (127, "one of the ranges is moved") (List.mem_of_getElem? (i := 7) rfl)
        exact vx_throwS (A := fun _ => False) (names := ["java/lang/RuntimeException", "java/lang/Exception"]) hx hb hl0 hown (by decide) (by decide) (hts _ (List.mem_cons_of_mem _ (List.mem_append_left _ (List.mem_append_left _ (List.mem_append_left _ (List.mem_append_left _ (List.mem_of_getElem? (i := 0) rfl))))))) (hts _ (List.mem_cons_of_mem _ (List.mem_append_left _ (List.mem_append_left _ (List.mem_append_left _ (List.mem_append_left _ (List.mem_of_getElem? (i := 1) rfl))))))) hsa (vx_hat (fun w h => hts w (List.mem_cons_of_mem _ (List.mem_append_left _ (List.mem_append_right _ h)))) qw3 (qBad_of hTH (by decide))) qg3 hTH.1 hTH.2.1 va_S.rf (hl.1.trans hml.symm) dX0_merge_66 dX0_merge_69 dX0_merge_70 dX0_merge_72 dX0_merge_75 (fun x h => (hno x h).elim) (Nat.le_of_ble_eq_true rfl) (Nat.le_of_ble_eq_true rfl) (Nat.le_of_ble_eq_true rfl) (Nat.le_of_ble_eq_true rfl) hlocks (fun t _ h1 h2 => ⟨Or.inr ⟨rfl, h_2, Or.inr (Or.inr (Or.inl c_55))⟩, h1, h2⟩) (fun q h => nomatch h) (by decide) (by decide)
      · have c_55 := bI_0.mp c_55
        refine lv_aload_n hx hb dX0_merge_58 rfl (lv_at hl 1 rfl) ?_
        refine lv_iload_n hx hb dX0_merge_59 rfl (lv_at hl 0 rfl) ?_
        refine vp_callSi (W.runV (As := [.int ((nI n) + 1)]) (rest := []) ⟨hx, hb, hml, hown, hts⟩ (c_X0_isMoved l D cA cZ cL ad f g ((nI n) + 1) nR nB hI) (cwV 1 hts gX0_merge_X0_isMoved rfl rfl rfl (by decide +kernel) ⟨Nat.le_of_ble_eq_true rfl, Nat.le_of_ble_eq_true rfl⟩) ⟨qPre_blind, va_recv hK hP (ci := 0) (q0 := 0) rfl rfl, qPre_at hP hK⟩ rfl rfl hl.1 rfl (lv_room (Nat.le_of_ble_eq_true rfl)) dX0_merge_60 ⟨Nat.le_of_ble_eq_true rfl, Nat.le_of_ble_eq_true rfl⟩) (fun z hz => ?_)
        subst hz
        refine lv_if_eq (tgt := 76) hx hb dX0_merge_63 (by decide) (fun c_63 => ?_) (fun c_63 => ?_)
        · have c_63 := bI_0.mp c_63
          refine lv_aload_n hx hb dX0_merge_76 rfl (lv_at hl 1 rfl) ?_
          refine lv_iload_n hx hb dX0_merge_77 rfl (lv_at hl 2 rfl) ?_
          refine qb_callv (va_runV (As := [.int (nI n)]) (rest := []) ⟨hx, hb, hml, hown, hts⟩ (c_X0_remove l D cA cZ cL ad f g s.heap.size n nR hI.1 hn hR8) (cwV 1 hts gX0_merge_X0_remove rfl rfl rfl (by decide +kernel) ⟨Nat.le_of_ble_eq_true rfl, Nat.le_of_ble_eq_true rfl⟩) ⟨qPreW_blind, va_recv hK hP (ci := 0) (q0 := 0) rfl rfl, qPreW_at hP hK hD⟩ rfl rfl hl.1 rfl (lv_room (Nat.le_of_ble_eq_true rfl)) dX0_merge_78 ⟨Nat.le_of_ble_eq_true rfl, Nat.le_of_ble_eq_true rfl⟩) hD hS hA (fun u H locs hu hP hD hS => ?_)
          obtain ⟨uf, ug⟩ := u
          obtain ⟨hu1, hu2⟩ := hu
          have hu1 : uf = va_up f 5 (nI (nR - 1)) := hu1
          have hu2 : ug = xDnG g n (nR - 1 - n) := hu2
          have hP : va_P D vwCl (xW cA ad uf ug) H := hP
          have hD : va_D A (xW cA ad uf ug) := hD
          rw [hu1, hu2] at hP hD
          have hP : va_P D vwCl (xW cA ad (va_up f 5 (nI (nR - 1))) (xDnG g n (nR - 1 - n))) H := hP
          have hD : va_D A (xW cA ad (va_up f 5 (nI (nR - 1))) (xDnG g n (nR - 1 - n))) := hD
          refine lv_aload_n hx hb dX0_merge_81 rfl (lv_at hl 1 rfl) ?_
          refine va_get (D := D) (ci := 0) (v := .int ((va_up f 5 (nI (nR - 1))) 5)) (C := RX0) (T := TX0) (N := 16) hx hb hts hfin hown hK hP 0 rfl rfl 5 (by decide) (hts _ (List.mem_cons_of_mem _ (List.mem_append_left _ (List.mem_append_left _ (List.mem_append_left _ (List.mem_append_left _ (List.mem_of_getElem? (i := 2) rfl))))))) (fun _ h9 => h9) rfl dX0_merge_82 ?_
          refine vx_ret ?_
          refine W.widen (k := 1) (n := 6) (by decide) (by decide) ?_
          exact W.iret (v := (va_up f 5 (nI (nR - 1))) 5) hx hb hr (fun t ht hW => ⟨⟨(va_up f 5 (nI (nR - 1))) 5, ((va_up f 5 (nI (nR - 1))), (xDnG g n (nR - 1 - n))), rfl, ⟨⟨h_2, c_14, c_37, Decidable.not_not.mp c_55, Decidable.not_not.mp c_63⟩, rfl, rfl, (by rw [nI_clamp (by omega)])⟩, by rw [ht]; exact hP, hD⟩, hS.F ht⟩) hS.2.2 dX0_merge_85
        · have c_63 := bI_n.mp c_63
          obtain ⟨sa, hsa⟩ := hTH.2.2.1 (127, "one of the ranges is moved") (List.mem_of_getElem? (i := 7) rfl)
          exact vx_throwS (A := fun _ => False) (names := ["java/lang/RuntimeException", "java/lang/Exception"]) hx hb hl0 hown (by decide) (by decide) (hts _ (List.mem_cons_of_mem _ (List.mem_append_left _ (List.mem_append_left _ (List.mem_append_left _ (List.mem_append_left _ (List.mem_of_getElem? (i := 0) rfl))))))) (hts _ (List.mem_cons_of_mem _ (List.mem_append_left _ (List.mem_append_left _ (List.mem_append_left _ (List.mem_append_left _ (List.mem_of_getElem? (i := 1) rfl))))))) hsa (vx_hat (fun w h => hts w (List.mem_cons_of_mem _ (List.mem_append_left _ (List.mem_append_right _ h)))) qw3 (qBad_of hTH (by decide))) qg3 hTH.1 hTH.2.1 va_S.rf (hl.1.trans hml.symm) dX0_merge_66 dX0_merge_69 dX0_merge_70 dX0_merge_72 dX0_merge_75 (fun x h => (hno x h).elim) (Nat.le_of_ble_eq_true rfl) (Nat.le_of_ble_eq_true rfl) (Nat.le_of_ble_eq_true rfl) (Nat.le_of_ble_eq_true rfl) hlocks (fun t _ h1 h2 => ⟨Or.inr ⟨rfl, h_2, Or.inr (Or.inr (Or.inr c_63))⟩, h1, h2⟩) (fun q h => nomatch h) (by decide) (by decide)
    · skip
      obtain ⟨sa, hsa⟩ := hTH.2.2.1 (125, "the ranges are in different shards") (List.mem_of_getElem? (i := 6) rfl)
      exact vx_throwS (A := fun _ => False) (names := ["java/lang/RuntimeException", "java/lang/Exception"]) hx hb hl0 hown (by decide) (by decide) (hts _ (List.mem_cons_of_mem _ (List.mem_append_left _ (List.mem_append_left _ (List.mem_append_left _ (List.mem_append_left _ (List.mem_of_getElem? (i := 0) rfl))))))) (hts _ (List.mem_cons_of_mem _ (List.mem_append_left _ (List.mem_append_left _ (List.mem_append_left _ (List.mem_append_left _ (List.mem_of_getElem? (i := 1) rfl))))))) hsa (vx_hat (fun w h => hts w (List.mem_cons_of_mem _ (List.mem_append_left _ (List.mem_append_right _ h)))) qw3 (qBad_of hTH (by decide))) qg3 hTH.1 hTH.2.1 va_S.rf (hl.1.trans hml.symm) dX0_merge_40 dX0_merge_43 dX0_merge_44 dX0_merge_46 dX0_merge_49 (fun x h => (hno x h).elim) (Nat.le_of_ble_eq_true rfl) (Nat.le_of_ble_eq_true rfl) (Nat.le_of_ble_eq_true rfl) (Nat.le_of_ble_eq_true rfl) hlocks (fun t _ h1 h2 => ⟨Or.inr ⟨rfl, h_2, Or.inr (Or.inl c_37)⟩, h1, h2⟩) (fun q h => nomatch h) (by decide) (by decide)
  · have c_14 := bI_0.mp c_14
    obtain ⟨sa, hsa⟩ := hTH.2.2.1 (120, "there is no next range") (List.mem_of_getElem? (i := 5) rfl)
    exact vx_throwS (A := fun _ => False) (names := ["java/lang/RuntimeException", "java/lang/Exception"]) hx hb hl0 hown (by decide) (by decide) (hts _ (List.mem_cons_of_mem _ (List.mem_append_left _ (List.mem_append_left _ (List.mem_append_left _ (List.mem_append_left _ (List.mem_of_getElem? (i := 0) rfl))))))) (hts _ (List.mem_cons_of_mem _ (List.mem_append_left _ (List.mem_append_left _ (List.mem_append_left _ (List.mem_append_left _ (List.mem_of_getElem? (i := 1) rfl))))))) hsa (vx_hat (fun w h => hts w (List.mem_cons_of_mem _ (List.mem_append_left _ (List.mem_append_right _ h)))) qw3 (qBad_of hTH (by decide))) qg3 hTH.1 hTH.2.1 va_S.rf (hl.1.trans hml.symm) dX0_merge_17 dX0_merge_20 dX0_merge_21 dX0_merge_23 dX0_merge_26 (fun x h => (hno x h).elim) (Nat.le_of_ble_eq_true rfl) (Nat.le_of_ble_eq_true rfl) (Nat.le_of_ble_eq_true rfl) (Nat.le_of_ble_eq_true rfl) hlocks (fun t _ h1 h2 => ⟨Or.inr ⟨rfl, h_2, Or.inl c_14⟩, h1, h2⟩) (fun q h => nomatch h) (by decide) (by decide)
set_option maxHeartbeats 4000000 in
set_option maxRecDepth 100000 in
/-- move -/
theorem c_X0_move (l : Launch) (hl0 : l.stackTraces = false) (D : va_G) (cA cZ cL : ClassId) (ad : Nat → Nat) (f : qFs) (g : qGs) (sz : Nat) (r : Int32) (sh : Int32) (nR : Nat) (nB : Nat) (hI : xI nR nB f) (hL : xL nR g) : vx_Met l yX0_move wsX0_move ({ frames := 7, cells := 1, slots := 6, locals := 111 } : Room) (va_Pc [.ref (ad 16), .int r, .int sh] (qPreX D (qTy cA cZ cL) (xW cA ad f g) sz)) (va_Qi (fun (z : Int32) (u : qFs × qGs) => (xRange f r ∧ xShard sh ∧ xTarg f g r = -1 ∧ ¬ xHome f g r = sh) ∧ z = xMany f g (xHome f g r) r ∧ u.1 = f ∧ u.2 = va_up g 4 (upd (g 4) r.toNatClampNeg sh)) (qAt D (va_A (xW cA ad f g) sz) (fun u : qFs × qGs => xW cA ad u.1 u.2)) (va_A (xW cA ad f g) sz)) (qX (fun E => (E = eIO ∧ ¬ (xRange f r ∧ xShard sh)) ∨ (E = eIS ∧ (xRange f r ∧ xShard sh) ∧ (¬ xTarg f g r = -1 ∨ xHome f g r = sh)))) 1 6 (va_A (xW cA ad f g) sz) := by
  refine vx_ofW (cc := cX0_move) (maxL := 3) (ret := (some .int)) (by decide) rfl ?_
  intro p e s m args below meth c s₁ B hml hno hv
  obtain ⟨rfl, hsz, hP, hK, hD0, hTH⟩ := hv
  have hx := B.exec
  have hb := B.bytes
  have hr := B.returns
  have hts := atoms_spec (ws := wsX0_move) B.pre
  have hown : s.vm.findClass RX0 = some m.cls := findClass_of_methodNamed B.named
  have hlocks := B.notSynchronized
  subst hsz
  have hD := hD0.self (sz := s.heap.size)
  generalize hAe : va_A (xW cA ad f g) s.heap.size = A at hD ⊢
  have hA : ∀ q : Nat, s.heap.size ≤ q → A q := fun q h => by rw [← hAe]; exact Or.inr h
  have hS : va_S A s.heap s.heap [] := va_S.rf
  have hfin : ∀ w ∈ wsX00, w ∈ wsX0_move := fun w h => (List.mem_cons_of_mem _ (List.mem_append_left _ (List.mem_append_left _ (List.mem_append_right _ h))))
  have hl := lv_entry ([.ref (ad 16), .int r, .int sh]) (n := 3) (Nat.le_of_ble_eq_true rfl)
  rw [lg_entry_eq]
  generalize (lg_sl ([.ref (ad 16), .int r, .int sh]) ++ List.replicate (3 - (lg_sl ([.ref (ad 16), .int r, .int sh])).length) Slot.unset).toArray = ls at hl ⊢
  have hl : lv_has ls 3 [(0, .ref (ad 16)), (1, .int r), (2, .int sh)] := hl
  refine lv_aload_n hx hb dX0_move_0 rfl (lv_at hl 0 rfl) ?_
  refine lv_iload_n hx hb dX0_move_1 rfl (lv_at hl 1 rfl) ?_
  refine qb_callSv (vx_runV (As := [.int r]) (rest := []) ⟨hx, hb, hml, hown, hts⟩ (c_X0_checkRange l hl0 D cA cZ cL ad f g r) (cwV 1 hts gX0_move_X0_checkRange rfl rfl rfl (by decide +kernel) ⟨Nat.le_of_ble_eq_true rfl, Nat.le_of_ble_eq_true rfl⟩) ⟨qPreT_blind, va_recv hK hP (ci := 0) (q0 := 0) rfl rfl, qPreT_at hP hK hTH rfl⟩ rfl rfl hl.1 rfl (lv_room (Nat.le_of_ble_eq_true rfl)) dX0_move_2 ⟨Nat.le_of_ble_eq_true rfl, Nat.le_of_ble_eq_true rfl⟩) (fun E ce q9 st t H1 hst ht hvm hX hcell hcv hcl => vx_out (fun x h => (hno x h).elim) hlocks hcell hcv hcl (fun t2 h2 hA2 => qX_pass hX hst rfl ht h2 (fun h => Or.inl ⟨h.1, fun q => h.2 q.1⟩)) (fun q h => nomatch h) (by decide) (by decide)) (fun hz => ?_)
  have h_2 := hz
  obtain ⟨lo, hlo, hlo2⟩ := x_first hI hL h_2
  refine lv_iload_n hx hb dX0_move_5 rfl (lv_at hl 2 rfl) ?_
  refine qb_callSv (vx_runS (As := [.int sh]) (rest := []) ⟨hx, hb, hml, hown, hts⟩ (c_X0_checkShard l hl0 sh) (va_cwS 1 hts gX0_move_X0_checkShard rfl rfl rfl (by decide +kernel) ⟨Nat.le_of_ble_eq_true rfl, Nat.le_of_ble_eq_true rfl⟩) ⟨qTH_blind, qTH_pc hTH rfl⟩ rfl rfl hl.1 rfl (lv_room (Nat.le_of_ble_eq_true rfl)) dX0_move_6 ⟨Nat.le_of_ble_eq_true rfl, Nat.le_of_ble_eq_true rfl⟩) (fun E ce q9 st t H1 hst ht hvm hX hcell hcv hcl => vx_out (fun x h => (hno x h).elim) hlocks hcell hcv hcl (fun t2 h2 hA2 => qX_pass hX hst rfl ht h2 (fun h => Or.inl ⟨h.1, fun q => h.2 q.2⟩)) (fun q h => nomatch h) (by decide) (by decide)) (fun hz => ?_)
  have h_6 := hz
  refine lv_aload_n hx hb dX0_move_9 rfl (lv_at hl 0 rfl) ?_
  refine lv_iload_n hx hb dX0_move_10 rfl (lv_at hl 1 rfl) ?_
  refine vp_callSi (W.runV (As := [.int r]) (rest := []) ⟨hx, hb, hml, hown, hts⟩ (c_X0_isMoved l D cA cZ cL ad f g r nR nB hI) (cwV 1 hts gX0_move_X0_isMoved rfl rfl rfl (by decide +kernel) ⟨Nat.le_of_ble_eq_true rfl, Nat.le_of_ble_eq_true rfl⟩) ⟨qPre_blind, va_recv hK hP (ci := 0) (q0 := 0) rfl rfl, qPre_at hP hK⟩ rfl rfl hl.1 rfl (lv_room (Nat.le_of_ble_eq_true rfl)) dX0_move_11 ⟨Nat.le_of_ble_eq_true rfl, Nat.le_of_ble_eq_true rfl⟩) (fun z hz => ?_)
  subst hz
  refine lv_if_eq (tgt := 27) hx hb dX0_move_14 (by decide) (fun c_14 => ?_) (fun c_14 => ?_)
  · have c_14 := bI_0.mp c_14
    refine lv_aload_n hx hb dX0_move_27 rfl (lv_at hl 0 rfl) ?_
    refine va_get (D := D) (ci := 0) (v := .ref (ad 3)) (C := RX0) (T := TX0) (N := 16) hx hb hts hfin hown hK hP 0 rfl rfl 3 (by decide) (hts _ (List.mem_cons_of_mem _ (List.mem_append_left _ (List.mem_append_left _ (List.mem_append_left _ (List.mem_append_left _ (List.mem_of_getElem? (i := 2) rfl))))))) (fun _ h9 => h9) rfl dX0_move_28 ?_
    refine lv_iload_n hx hb dX0_move_31 rfl (lv_at hl 1 rfl) ?_
    refine va_iald hx hb hK hP 3 0 rfl rfl (x_in8 hI h_2) dX0_move_32 ?_
    refine lv_topi (fun v_32 hv_32 => ?_)
    have hv_32 : v_32 = xHome f g r := hv_32.trans ((xHome_of h_2).symm)
    subst hv_32
    refine lv_iload_n hx hb dX0_move_33 rfl (lv_at hl 2 rfl) ?_
    refine lv_icmp_ne (tgt := 47) hx hb dX0_move_34 (by decide) (fun c_34 => ?_) (fun c_34 => ?_)
    · skip
      refine lv_aload_n hx hb dX0_move_47 rfl (lv_at hl 0 rfl) ?_
      refine va_get (D := D) (ci := 0) (v := .ref (ad 4)) (C := RX0) (T := TX0) (N := 16) hx hb hts hfin hown hK hP 0 rfl rfl 4 (by decide) (hts _ (List.mem_cons_of_mem _ (List.mem_append_left _ (List.mem_append_left _ (List.mem_append_left _ (List.mem_append_left _ (List.mem_of_getElem? (i := 3) rfl))))))) (fun _ h9 => h9) rfl dX0_move_48 ?_
      refine lv_iload_n hx hb dX0_move_51 rfl (lv_at hl 1 rfl) ?_
      refine lv_iload_n hx hb dX0_move_52 rfl (lv_at hl 2 rfl) ?_
      refine va_iast hx hb hK hP hD hS 4 0 rfl rfl (x_in8 hI h_2) dX0_move_53 (fun H locs hP hD hS => ?_)
      have hP : va_P D vwCl (xW cA ad f (va_up g 4 (upd (g 4) r.toNatClampNeg sh))) H := hP
      have hD : va_D A (xW cA ad f (va_up g 4 (upd (g 4) r.toNatClampNeg sh))) := hD
      refine lv_aload_n hx hb dX0_move_54 rfl (lv_at hl 0 rfl) ?_
      refine lv_aload_n hx hb dX0_move_55 rfl (lv_at hl 0 rfl) ?_
      refine va_get (D := D) (ci := 0) (v := .ref (ad 3)) (C := RX0) (T := TX0) (N := 16) hx hb hts hfin hown hK hP 0 rfl rfl 3 (by decide) (hts _ (List.mem_cons_of_mem _ (List.mem_append_left _ (List.mem_append_left _ (List.mem_append_left _ (List.mem_append_left _ (List.mem_of_getElem? (i := 2) rfl))))))) (fun _ h9 => h9) rfl dX0_move_56 ?_
      refine lv_iload_n hx hb dX0_move_59 rfl (lv_at hl 1 rfl) ?_
      refine va_iald hx hb hK hP 3 0 rfl rfl (x_in8 hI h_2) dX0_move_60 ?_
      refine lv_topi (fun v_60 hv_60 => ?_)
      have hv_60 : v_60 = xHome f g r := hv_60.trans ((xHome_of h_2).symm)
      subst hv_60
      refine lv_aload_n hx hb dX0_move_61 rfl (lv_at hl 0 rfl) ?_
      refine lv_iload_n hx hb dX0_move_62 rfl (lv_at hl 1 rfl) ?_
      refine vp_callSi (W.runV (As := [.int r]) (rest := [.int (xHome f g r), .ref (ad 16)]) ⟨hx, hb, hml, hown, hts⟩ (c_X0_firstKeyOf l D cA cZ cL ad f (va_up g 4 (upd (g 4) r.toNatClampNeg sh)) r nR nB hI) (cwV 1 hts gX0_move_X0_firstKeyOf rfl rfl rfl (by decide +kernel) ⟨Nat.le_of_ble_eq_true rfl, Nat.le_of_ble_eq_true rfl⟩) ⟨qPre_blind, va_recv hK hP (ci := 0) (q0 := 0) rfl rfl, qPre_at hP hK⟩ rfl rfl hl.1 rfl (lv_room (Nat.le_of_ble_eq_true rfl)) dX0_move_63 ⟨Nat.le_of_ble_eq_true rfl, Nat.le_of_ble_eq_true rfl⟩) (fun z hz => ?_)
      subst hz
      refine lv_topi (fun v_63 hv_63 => ?_)
      have hv_63 : v_63 = nI lo := hv_63.trans (hlo2)
      subst hv_63
      refine lv_aload_n hx hb dX0_move_66 rfl (lv_at hl 0 rfl) ?_
      refine lv_iload_n hx hb dX0_move_67 rfl (lv_at hl 1 rfl) ?_
      refine vp_callSi (W.runV (As := [.int r]) (rest := [.int (nI lo), .int (xHome f g r), .ref (ad 16)]) ⟨hx, hb, hml, hown, hts⟩ (c_X0_lastKeyOf l D cA cZ cL ad f (va_up g 4 (upd (g 4) r.toNatClampNeg sh)) r nR nB hI) (cwV 1 hts gX0_move_X0_lastKeyOf rfl rfl rfl (by decide +kernel) ⟨Nat.le_of_ble_eq_true rfl, Nat.le_of_ble_eq_true rfl⟩) ⟨qPre_blind, va_recv hK hP (ci := 0) (q0 := 0) rfl rfl, qPre_at hP hK⟩ rfl rfl hl.1 rfl (lv_room (Nat.le_of_ble_eq_true rfl)) dX0_move_68 ⟨Nat.le_of_ble_eq_true rfl, Nat.le_of_ble_eq_true rfl⟩) (fun z hz => ?_)
      subst hz
      refine vp_callSi (W.runV (As := [.int (xHome f g r), .int (nI lo), .int (xLast f (va_up g 4 (upd (g 4) r.toNatClampNeg sh)) r)]) (rest := []) ⟨hx, hb, hml, hown, hts⟩ (c_X0_countRows l D cA cZ cL ad f (va_up g 4 (upd (g 4) r.toNatClampNeg sh)) (xHome f g r) (xLast f (va_up g 4 (upd (g 4) r.toNatClampNeg sh)) r) lo hlo) (cwV 3 hts gX0_move_X0_countRows rfl rfl rfl (by decide +kernel) ⟨Nat.le_of_ble_eq_true rfl, Nat.le_of_ble_eq_true rfl⟩) ⟨qPre_blind, va_recv hK hP (ci := 0) (q0 := 0) rfl rfl, qPre_at hP hK⟩ rfl rfl hl.1 rfl (lv_room (Nat.le_of_ble_eq_true rfl)) dX0_move_71 ⟨Nat.le_of_ble_eq_true rfl, Nat.le_of_ble_eq_true rfl⟩) (fun z hz => ?_)
      subst hz
      refine vx_ret ?_
      refine W.widen (k := 1) (n := 6) (by decide) (by decide) ?_
      exact W.iret (v := nI (cnt (xRowP (va_up g 4 (upd (g 4) r.toNatClampNeg sh)) (xHome f g r)) lo (hiOf (xLast f (va_up g 4 (upd (g 4) r.toNatClampNeg sh)) r)))) hx hb hr (fun t ht hW => ⟨⟨nI (cnt (xRowP (va_up g 4 (upd (g 4) r.toNatClampNeg sh)) (xHome f g r)) lo (hiOf (xLast f (va_up g 4 (upd (g 4) r.toNatClampNeg sh)) r))), (f, (va_up g 4 (upd (g 4) r.toNatClampNeg sh))), rfl, ⟨⟨h_2, h_6, Decidable.not_not.mp c_14, c_34⟩, (by unfold xMany; rw [hlo2, nI_clamp (by omega)]; rfl), rfl, rfl⟩, by rw [ht]; exact hP, hD⟩, hS.F ht⟩) hS.2.2 dX0_move_74
    · skip
      obtain ⟨sa, hsa⟩ := hTH.2.2.1 (137, "the range is in this shard") (List.mem_of_getElem? (i := 9) rfl)
      exact vx_throwS (A := fun _ => False) (names := ["java/lang/RuntimeException", "java/lang/Exception"]) hx hb hl0 hown (by decide) (by decide) (hts _ (List.mem_cons_of_mem _ (List.mem_append_left _ (List.mem_append_left _ (List.mem_append_left _ (List.mem_append_left _ (List.mem_of_getElem? (i := 0) rfl))))))) (hts _ (List.mem_cons_of_mem _ (List.mem_append_left _ (List.mem_append_left _ (List.mem_append_left _ (List.mem_append_left _ (List.mem_of_getElem? (i := 1) rfl))))))) hsa (vx_hat (fun w h => hts w (List.mem_cons_of_mem _ (List.mem_append_left _ (List.mem_append_right _ h)))) qw3 (qBad_of hTH (by decide))) qg3 hTH.1 hTH.2.1 va_S.rf (hl.1.trans hml.symm) dX0_move_37 dX0_move_40 dX0_move_41 dX0_move_43 dX0_move_46 (fun x h => (hno x h).elim) (Nat.le_of_ble_eq_true rfl) (Nat.le_of_ble_eq_true rfl) (Nat.le_of_ble_eq_true rfl) (Nat.le_of_ble_eq_true rfl) hlocks (fun t _ h1 h2 => ⟨Or.inr ⟨rfl, ⟨h_2, h_6⟩, Or.inr c_34⟩, h1, h2⟩) (fun q h => nomatch h) (by decide) (by decide)
  · have c_14 := bI_n.mp c_14
    obtain ⟨sa, hsa⟩ := hTH.2.2.1 (135, "the range is moved already") (List.mem_of_getElem? (i := 8) rfl)
    exact vx_throwS (A := fun _ => False) (names := ["java/lang/RuntimeException", "java/lang/Exception"]) hx hb hl0 hown (by decide) (by decide) (hts _ (List.mem_cons_of_mem _ (List.mem_append_left _ (List.mem_append_left _ (List.mem_append_left _ (List.mem_append_left _ (List.mem_of_getElem? (i := 0) rfl))))))) (hts _ (List.mem_cons_of_mem _ (List.mem_append_left _ (List.mem_append_left _ (List.mem_append_left _ (List.mem_append_left _ (List.mem_of_getElem? (i := 1) rfl))))))) hsa (vx_hat (fun w h => hts w (List.mem_cons_of_mem _ (List.mem_append_left _ (List.mem_append_right _ h)))) qw3 (qBad_of hTH (by decide))) qg3 hTH.1 hTH.2.1 va_S.rf (hl.1.trans hml.symm) dX0_move_17 dX0_move_20 dX0_move_21 dX0_move_23 dX0_move_26 (fun x h => (hno x h).elim) (Nat.le_of_ble_eq_true rfl) (Nat.le_of_ble_eq_true rfl) (Nat.le_of_ble_eq_true rfl) (Nat.le_of_ble_eq_true rfl) hlocks (fun t _ h1 h2 => ⟨Or.inr ⟨rfl, ⟨h_2, h_6⟩, Or.inl c_14⟩, h1, h2⟩) (fun q h => nomatch h) (by decide) (by decide)
set_option maxHeartbeats 4000000 in
set_option maxRecDepth 100000 in
/-- step -/
theorem c_X0_step (l : Launch) (hl0 : l.stackTraces = false) (D : va_G) (cA cZ cL : ClassId) (ad : Nat → Nat) (f : qFs) (g : qGs) (sz : Nat) (r : Int32) (nR : Nat) (nB : Nat) (hI : xI nR nB f) (hL : xL nR g) : vx_Met l yX0_step wsX0_step ({ frames := 7, cells := 1, slots := 6, locals := 111 } : Room) (va_Pc [.ref (ad 16), .int r] (qPreX D (qTy cA cZ cL) (xW cA ad f g) sz)) (va_Qi (fun (z : Int32) (u : qFs × qGs) => (xRange f r ∧ ¬ xTarg f g r = -1) ∧ z = xStepK f g r ∧ u.1 = f ∧ u.2 = xStepG f g r) (qAt D (va_A (xW cA ad f g) sz) (fun u : qFs × qGs => xW cA ad u.1 u.2)) (va_A (xW cA ad f g) sz)) (qX (fun E => (E = eIO ∧ ¬ xRange f r) ∨ (E = eIS ∧ xRange f r ∧ xTarg f g r = -1))) 1 6 (va_A (xW cA ad f g) sz) := by
  refine vx_ofW (cc := cX0_step) (maxL := 5) (ret := (some .int)) (by decide) rfl ?_
  intro p e s m args below meth c s₁ B hml hno hv
  obtain ⟨rfl, hsz, hP, hK, hD0, hTH⟩ := hv
  have hx := B.exec
  have hb := B.bytes
  have hr := B.returns
  have hts := atoms_spec (ws := wsX0_step) B.pre
  have hown : s.vm.findClass RX0 = some m.cls := findClass_of_methodNamed B.named
  have hlocks := B.notSynchronized
  subst hsz
  have hD := hD0.self (sz := s.heap.size)
  generalize hAe : va_A (xW cA ad f g) s.heap.size = A at hD ⊢
  have hA : ∀ q : Nat, s.heap.size ≤ q → A q := fun q h => by rw [← hAe]; exact Or.inr h
  have hS : va_S A s.heap s.heap [] := va_S.rf
  have hfin : ∀ w ∈ wsX00, w ∈ wsX0_step := fun w h => (List.mem_cons_of_mem _ (List.mem_append_left _ (List.mem_append_left _ (List.mem_append_right _ h))))
  have hl := lv_entry ([.ref (ad 16), .int r]) (n := 5) (Nat.le_of_ble_eq_true rfl)
  rw [lg_entry_eq]
  generalize (lg_sl ([.ref (ad 16), .int r]) ++ List.replicate (5 - (lg_sl ([.ref (ad 16), .int r])).length) Slot.unset).toArray = ls at hl ⊢
  have hl : lv_has ls 5 [(0, .ref (ad 16)), (1, .int r)] := hl
  refine lv_aload_n hx hb dX0_step_0 rfl (lv_at hl 0 rfl) ?_
  refine lv_iload_n hx hb dX0_step_1 rfl (lv_at hl 1 rfl) ?_
  refine qb_callSv (vx_runV (As := [.int r]) (rest := []) ⟨hx, hb, hml, hown, hts⟩ (c_X0_checkRange l hl0 D cA cZ cL ad f g r) (cwV 1 hts gX0_step_X0_checkRange rfl rfl rfl (by decide +kernel) ⟨Nat.le_of_ble_eq_true rfl, Nat.le_of_ble_eq_true rfl⟩) ⟨qPreT_blind, va_recv hK hP (ci := 0) (q0 := 0) rfl rfl, qPreT_at hP hK hTH rfl⟩ rfl rfl hl.1 rfl (lv_room (Nat.le_of_ble_eq_true rfl)) dX0_step_2 ⟨Nat.le_of_ble_eq_true rfl, Nat.le_of_ble_eq_true rfl⟩) (fun E ce q9 st t H1 hst ht hvm hX hcell hcv hcl => vx_out (fun x h => (hno x h).elim) hlocks hcell hcv hcl (fun t2 h2 hA2 => qX_pass hX hst rfl ht h2 (Or.inl)) (fun q h => nomatch h) (by decide) (by decide)) (fun hz => ?_)
  have h_2 := hz
  obtain ⟨lo, hlo, hlo2⟩ := x_first hI hL h_2
  refine lv_aload_n hx hb dX0_step_5 rfl (lv_at hl 0 rfl) ?_
  refine lv_iload_n hx hb dX0_step_6 rfl (lv_at hl 1 rfl) ?_
  refine qb_callSv (vx_runV (As := [.int r]) (rest := []) ⟨hx, hb, hml, hown, hts⟩ (c_X0_checkMoved l hl0 D cA cZ cL ad f g r nR nB hI) (cwV 1 hts gX0_step_X0_checkMoved rfl rfl rfl (by decide +kernel) ⟨Nat.le_of_ble_eq_true rfl, Nat.le_of_ble_eq_true rfl⟩) ⟨qPreT_blind, va_recv hK hP (ci := 0) (q0 := 0) rfl rfl, qPreT_at hP hK hTH rfl⟩ rfl rfl hl.1 rfl (lv_room (Nat.le_of_ble_eq_true rfl)) dX0_step_7 ⟨Nat.le_of_ble_eq_true rfl, Nat.le_of_ble_eq_true rfl⟩) (fun E ce q9 st t H1 hst ht hvm hX hcell hcv hcl => vx_out (fun x h => (hno x h).elim) hlocks hcell hcv hcl (fun t2 h2 hA2 => qX_pass hX hst rfl ht h2 (fun h => Or.inr ⟨h.1, h_2, Decidable.not_not.mp h.2⟩)) (fun q h => nomatch h) (by decide) (by decide)) (fun hz => ?_)
  have h_7 := hz
  refine lv_aload_n hx hb dX0_step_10 rfl (lv_at hl 0 rfl) ?_
  refine va_get (D := D) (ci := 0) (v := .ref (ad 3)) (C := RX0) (T := TX0) (N := 16) hx hb hts hfin hown hK hP 0 rfl rfl 3 (by decide) (hts _ (List.mem_cons_of_mem _ (List.mem_append_left _ (List.mem_append_left _ (List.mem_append_left _ (List.mem_append_left _ (List.mem_of_getElem? (i := 0) rfl))))))) (fun _ h9 => h9) rfl dX0_step_11 ?_
  refine lv_iload_n hx hb dX0_step_14 rfl (lv_at hl 1 rfl) ?_
  refine va_iald hx hb hK hP 3 0 rfl rfl (x_in8 hI h_2) dX0_step_15 ?_
  refine lv_topi (fun v_15 hv_15 => ?_)
  have hv_15 : v_15 = xHome f g r := hv_15.trans ((xHome_of h_2).symm)
  subst hv_15
  refine lv_istore_n (lv' := [(2, .int (xHome f g r)), (0, .ref (ad 16)), (1, .int r)]) hx hb dX0_step_16 rfl hl (by decide) rfl (fun ls hl => ?_)
  refine lv_aload_n hx hb dX0_step_17 rfl (lv_at hl 1 rfl) ?_
  refine va_get (D := D) (ci := 0) (v := .ref (ad 4)) (C := RX0) (T := TX0) (N := 16) hx hb hts hfin hown hK hP 0 rfl rfl 4 (by decide) (hts _ (List.mem_cons_of_mem _ (List.mem_append_left _ (List.mem_append_left _ (List.mem_append_left _ (List.mem_append_left _ (List.mem_of_getElem? (i := 1) rfl))))))) (fun _ h9 => h9) rfl dX0_step_18 ?_
  refine lv_iload_n hx hb dX0_step_21 rfl (lv_at hl 2 rfl) ?_
  refine va_iald hx hb hK hP 4 0 rfl rfl (x_in8 hI h_2) dX0_step_22 ?_
  refine lv_topi (fun v_22 hv_22 => ?_)
  have hv_22 : v_22 = xTarg f g r := hv_22.trans ((xTarg_of h_2).symm)
  subst hv_22
  refine lv_istore_n (lv' := [(3, .int (xTarg f g r)), (2, .int (xHome f g r)), (0, .ref (ad 16)), (1, .int r)]) hx hb dX0_step_23 rfl hl (by decide) rfl (fun ls hl => ?_)
  refine lv_aload_n hx hb dX0_step_24 rfl (lv_at hl 2 rfl) ?_
  refine lv_iload_n hx hb dX0_step_25 rfl (lv_at hl 3 rfl) ?_
  refine vp_callSi (W.runV (As := [.int r]) (rest := []) ⟨hx, hb, hml, hown, hts⟩ (c_X0_lowestKeyNotBrought l D cA cZ cL ad f g r nR nB hI lo hlo hlo2) (cwV 1 hts gX0_step_X0_lowestKeyNotBrought rfl rfl rfl (by decide +kernel) ⟨Nat.le_of_ble_eq_true rfl, Nat.le_of_ble_eq_true rfl⟩) ⟨qPre_blind, va_recv hK hP (ci := 0) (q0 := 0) rfl rfl, qPre_at hP hK⟩ rfl rfl hl.1 rfl (lv_room (Nat.le_of_ble_eq_true rfl)) dX0_step_26 ⟨Nat.le_of_ble_eq_true rfl, Nat.le_of_ble_eq_true rfl⟩) (fun z hz => ?_)
  subst hz
  refine lv_istore (lv' := [(4, .int (xStepK f g r)), (3, .int (xTarg f g r)), (2, .int (xHome f g r)), (0, .ref (ad 16)), (1, .int r)]) hx hb dX0_step_29 hl (by decide) rfl (fun ls hl => ?_)
  refine lv_iload hx hb dX0_step_31 (lv_at hl 0 rfl) ?_
  refine lv_iconst (v := (-1)) hx hb dX0_step_33 (by decide) ?_
  refine lv_icmp_eq (tgt := 54) hx hb dX0_step_34 (by decide) (fun c_34 => ?_) (fun c_34 => ?_)
  · skip
    refine lv_aload_n hx hb dX0_step_54 rfl (lv_at hl 3 rfl) ?_
    refine lv_iload_n hx hb dX0_step_55 rfl (lv_at hl 2 rfl) ?_
    refine lv_iload_n hx hb dX0_step_56 rfl (lv_at hl 4 rfl) ?_
    refine qb_callv (va_runV (As := [.int (xHome f g r), .int r]) (rest := []) ⟨hx, hb, hml, hown, hts⟩ (c_X0_dropRows l D cA cZ cL ad f g s.heap.size (xHome f g r) r nR nB hI lo hlo hlo2) (cwV 2 hts gX0_step_X0_dropRows rfl rfl rfl (by decide +kernel) ⟨Nat.le_of_ble_eq_true rfl, Nat.le_of_ble_eq_true rfl⟩) ⟨qPreW_blind, va_recv hK hP (ci := 0) (q0 := 0) rfl rfl, qPreW_at hP hK hD⟩ rfl rfl hl.1 rfl (lv_room (Nat.le_of_ble_eq_true rfl)) dX0_step_57 ⟨Nat.le_of_ble_eq_true rfl, Nat.le_of_ble_eq_true rfl⟩) hD hS hA (fun u H locs hu hP hD hS => ?_)
    obtain ⟨uf, ug⟩ := u
    obtain ⟨hu1, hu2⟩ := hu
    have hu1 : uf = f := hu1
    have hu2 : ug = xDropG f g (xHome f g r) r := hu2
    have hP : va_P D vwCl (xW cA ad uf ug) H := hP
    have hD : va_D A (xW cA ad uf ug) := hD
    rw [hu1, hu2] at hP hD
    have hP : va_P D vwCl (xW cA ad f (xDropG f g (xHome f g r) r)) H := hP
    have hD : va_D A (xW cA ad f (xDropG f g (xHome f g r) r)) := hD
    refine lv_aload_n hx hb dX0_step_60 rfl (lv_at hl 3 rfl) ?_
    refine va_get (D := D) (ci := 0) (v := .ref (ad 3)) (C := RX0) (T := TX0) (N := 16) hx hb hts hfin hown hK hP 0 rfl rfl 3 (by decide) (hts _ (List.mem_cons_of_mem _ (List.mem_append_left _ (List.mem_append_left _ (List.mem_append_left _ (List.mem_append_left _ (List.mem_of_getElem? (i := 0) rfl))))))) (fun _ h9 => h9) rfl dX0_step_61 ?_
    refine lv_iload_n hx hb dX0_step_64 rfl (lv_at hl 4 rfl) ?_
    refine lv_iload_n hx hb dX0_step_65 rfl (lv_at hl 1 rfl) ?_
    refine va_iast hx hb hK hP hD hS 3 0 rfl rfl (x_in8 hI h_2) dX0_step_66 (fun H locs hP hD hS => ?_)
    have hP : va_P D vwCl (xW cA ad f (va_up (xDropG f g (xHome f g r) r) 3 (upd ((xDropG f g (xHome f g r) r) 3) r.toNatClampNeg (xTarg f g r)))) H := hP
    have hD : va_D A (xW cA ad f (va_up (xDropG f g (xHome f g r) r) 3 (upd ((xDropG f g (xHome f g r) r) 3) r.toNatClampNeg (xTarg f g r)))) := hD
    refine lv_aload_n hx hb dX0_step_67 rfl (lv_at hl 3 rfl) ?_
    refine va_get (D := D) (ci := 0) (v := .ref (ad 4)) (C := RX0) (T := TX0) (N := 16) hx hb hts hfin hown hK hP 0 rfl rfl 4 (by decide) (hts _ (List.mem_cons_of_mem _ (List.mem_append_left _ (List.mem_append_left _ (List.mem_append_left _ (List.mem_append_left _ (List.mem_of_getElem? (i := 1) rfl))))))) (fun _ h9 => h9) rfl dX0_step_68 ?_
    refine lv_iload_n hx hb dX0_step_71 rfl (lv_at hl 4 rfl) ?_
    refine lv_iconst (v := (-1)) hx hb dX0_step_72 (by decide) ?_
    refine va_iast hx hb hK hP hD hS 4 0 rfl rfl (x_in8 hI h_2) dX0_step_73 (fun H locs hP hD hS => ?_)
    have hP : va_P D vwCl (xW cA ad f (va_up (va_up (xDropG f g (xHome f g r) r) 3 (upd ((xDropG f g (xHome f g r) r) 3) r.toNatClampNeg (xTarg f g r))) 4 (upd ((xDropG f g (xHome f g r) r) 4) r.toNatClampNeg (-1)))) H := hP
    have hD : va_D A (xW cA ad f (va_up (va_up (xDropG f g (xHome f g r) r) 3 (upd ((xDropG f g (xHome f g r) r) 3) r.toNatClampNeg (xTarg f g r))) 4 (upd ((xDropG f g (xHome f g r) r) 4) r.toNatClampNeg (-1)))) := hD
    refine lv_iconst (v := (-1)) hx hb dX0_step_74 (by decide) ?_
    refine vx_ret ?_
    refine W.widen (k := 1) (n := 6) (by decide) (by decide) ?_
    exact W.iret (v := (-1)) hx hb hr (fun t ht hW => ⟨⟨(-1), (f, (va_up (va_up (xDropG f g (xHome f g r) r) 3 (upd ((xDropG f g (xHome f g r) r) 3) r.toNatClampNeg (xTarg f g r))) 4 (upd ((xDropG f g (xHome f g r) r) 4) r.toNatClampNeg (-1)))), rfl, ⟨⟨h_2, h_7⟩, c_34.symm, rfl, (by unfold xStepG; rw [if_pos c_34])⟩, by rw [ht]; exact hP, hD⟩, hS.F ht⟩) hS.2.2 dX0_step_75
  · skip
    refine lv_aload_n hx hb dX0_step_37 rfl (lv_at hl 3 rfl) ?_
    refine lv_iload_n hx hb dX0_step_38 rfl (lv_at hl 1 rfl) ?_
    refine lv_iload hx hb dX0_step_39 (lv_at hl 0 rfl) ?_
    refine lv_aload_n hx hb dX0_step_41 rfl (lv_at hl 3 rfl) ?_
    refine lv_iload_n hx hb dX0_step_42 rfl (lv_at hl 2 rfl) ?_
    refine lv_iload hx hb dX0_step_43 (lv_at hl 0 rfl) ?_
    refine vp_callSi (W.runV (As := [.int (xHome f g r), .int (xStepK f g r)]) (rest := [.int (xStepK f g r), .int (xTarg f g r), .ref (ad 16)]) ⟨hx, hb, hml, hown, hts⟩ (c_X0_rowOf l D cA cZ cL ad f g (xHome f g r) (xStepK f g r)) (cwV 2 hts gX0_step_X0_rowOf rfl rfl rfl (by decide +kernel) ⟨Nat.le_of_ble_eq_true rfl, Nat.le_of_ble_eq_true rfl⟩) ⟨qPre_blind, va_recv hK hP (ci := 0) (q0 := 0) rfl rfl, qPre_at hP hK⟩ rfl rfl hl.1 rfl (lv_room (Nat.le_of_ble_eq_true rfl)) dX0_step_45 ⟨Nat.le_of_ble_eq_true rfl, Nat.le_of_ble_eq_true rfl⟩) (fun z hz => ?_)
    subst hz
    refine qb_callv (va_runV (As := [.int (xTarg f g r), .int (xStepK f g r), .int (xRowOf g (xHome f g r) (xStepK f g r))]) (rest := []) ⟨hx, hb, hml, hown, hts⟩ (c_X0_putRow l D cA cZ cL ad f g s.heap.size (xTarg f g r) (xStepK f g r) (xRowOf g (xHome f g r) (xStepK f g r))) (cwV 3 hts gX0_step_X0_putRow rfl rfl rfl (by decide +kernel) ⟨Nat.le_of_ble_eq_true rfl, Nat.le_of_ble_eq_true rfl⟩) ⟨qPreW_blind, va_recv hK hP (ci := 0) (q0 := 0) rfl rfl, qPreW_at hP hK hD⟩ rfl rfl hl.1 rfl (lv_room (Nat.le_of_ble_eq_true rfl)) dX0_step_48 ⟨Nat.le_of_ble_eq_true rfl, Nat.le_of_ble_eq_true rfl⟩) hD hS hA (fun u H locs hu hP hD hS => ?_)
    obtain ⟨uf, ug⟩ := u
    obtain ⟨hu1, hu2⟩ := hu
    have hu1 : uf = f := hu1
    have hu2 : ug = xPutG g (xTarg f g r) (xStepK f g r) (xRowOf g (xHome f g r) (xStepK f g r)) := hu2
    have hP : va_P D vwCl (xW cA ad uf ug) H := hP
    have hD : va_D A (xW cA ad uf ug) := hD
    rw [hu1, hu2] at hP hD
    have hP : va_P D vwCl (xW cA ad f (xPutG g (xTarg f g r) (xStepK f g r) (xRowOf g (xHome f g r) (xStepK f g r)))) H := hP
    have hD : va_D A (xW cA ad f (xPutG g (xTarg f g r) (xStepK f g r) (xRowOf g (xHome f g r) (xStepK f g r)))) := hD
    refine lv_iload hx hb dX0_step_51 (lv_at hl 0 rfl) ?_
    refine vx_ret ?_
    refine W.widen (k := 1) (n := 6) (by decide) (by decide) ?_
    exact W.iret (v := xStepK f g r) hx hb hr (fun t ht hW => ⟨⟨xStepK f g r, (f, (xPutG g (xTarg f g r) (xStepK f g r) (xRowOf g (xHome f g r) (xStepK f g r)))), rfl, ⟨⟨h_2, h_7⟩, rfl, rfl, (by unfold xStepG; rw [if_neg c_34])⟩, by rw [ht]; exact hP, hD⟩, hS.F ht⟩) hS.2.2 dX0_step_53
set_option maxHeartbeats 4000000 in
set_option maxRecDepth 100000 in
/-- giveUp -/
theorem c_X0_giveUp (l : Launch) (hl0 : l.stackTraces = false) (D : va_G) (cA cZ cL : ClassId) (ad : Nat → Nat) (f : qFs) (g : qGs) (sz : Nat) (r : Int32) (nR : Nat) (nB : Nat) (hI : xI nR nB f) (hL : xL nR g) : vx_Met l yX0_giveUp wsX0_giveUp ({ frames := 7, cells := 1, slots := 6, locals := 111 } : Room) (va_Pc [.ref (ad 16), .int r] (qPreX D (qTy cA cZ cL) (xW cA ad f g) sz)) (va_Qi (fun (z : Int32) (u : qFs × qGs) => (xRange f r ∧ ¬ xTarg f g r = -1) ∧ z = xMany f g (xTarg f g r) r ∧ u.1 = f ∧ u.2 = va_up (xDropG f g (xTarg f g r) r) 4 (upd (xDropG f g (xTarg f g r) r 4) r.toNatClampNeg (-1))) (qAt D (va_A (xW cA ad f g) sz) (fun u : qFs × qGs => xW cA ad u.1 u.2)) (va_A (xW cA ad f g) sz)) (qX (fun E => (E = eIO ∧ ¬ xRange f r) ∨ (E = eIS ∧ xRange f r ∧ xTarg f g r = -1))) 1 6 (va_A (xW cA ad f g) sz) := by
  refine vx_ofW (cc := cX0_giveUp) (maxL := 4) (ret := (some .int)) (by decide) rfl ?_
  intro p e s m args below meth c s₁ B hml hno hv
  obtain ⟨rfl, hsz, hP, hK, hD0, hTH⟩ := hv
  have hx := B.exec
  have hb := B.bytes
  have hr := B.returns
  have hts := atoms_spec (ws := wsX0_giveUp) B.pre
  have hown : s.vm.findClass RX0 = some m.cls := findClass_of_methodNamed B.named
  have hlocks := B.notSynchronized
  subst hsz
  have hD := hD0.self (sz := s.heap.size)
  generalize hAe : va_A (xW cA ad f g) s.heap.size = A at hD ⊢
  have hA : ∀ q : Nat, s.heap.size ≤ q → A q := fun q h => by rw [← hAe]; exact Or.inr h
  have hS : va_S A s.heap s.heap [] := va_S.rf
  have hfin : ∀ w ∈ wsX00, w ∈ wsX0_giveUp := fun w h => (List.mem_cons_of_mem _ (List.mem_append_left _ (List.mem_append_left _ (List.mem_append_right _ h))))
  have hl := lv_entry ([.ref (ad 16), .int r]) (n := 4) (Nat.le_of_ble_eq_true rfl)
  rw [lg_entry_eq]
  generalize (lg_sl ([.ref (ad 16), .int r]) ++ List.replicate (4 - (lg_sl ([.ref (ad 16), .int r])).length) Slot.unset).toArray = ls at hl ⊢
  have hl : lv_has ls 4 [(0, .ref (ad 16)), (1, .int r)] := hl
  refine lv_aload_n hx hb dX0_giveUp_0 rfl (lv_at hl 0 rfl) ?_
  refine lv_iload_n hx hb dX0_giveUp_1 rfl (lv_at hl 1 rfl) ?_
  refine qb_callSv (vx_runV (As := [.int r]) (rest := []) ⟨hx, hb, hml, hown, hts⟩ (c_X0_checkRange l hl0 D cA cZ cL ad f g r) (cwV 1 hts gX0_giveUp_X0_checkRange rfl rfl rfl (by decide +kernel) ⟨Nat.le_of_ble_eq_true rfl, Nat.le_of_ble_eq_true rfl⟩) ⟨qPreT_blind, va_recv hK hP (ci := 0) (q0 := 0) rfl rfl, qPreT_at hP hK hTH rfl⟩ rfl rfl hl.1 rfl (lv_room (Nat.le_of_ble_eq_true rfl)) dX0_giveUp_2 ⟨Nat.le_of_ble_eq_true rfl, Nat.le_of_ble_eq_true rfl⟩) (fun E ce q9 st t H1 hst ht hvm hX hcell hcv hcl => vx_out (fun x h => (hno x h).elim) hlocks hcell hcv hcl (fun t2 h2 hA2 => qX_pass hX hst rfl ht h2 (Or.inl)) (fun q h => nomatch h) (by decide) (by decide)) (fun hz => ?_)
  have h_2 := hz
  obtain ⟨lo, hlo, hlo2⟩ := x_first hI hL h_2
  refine lv_aload_n hx hb dX0_giveUp_5 rfl (lv_at hl 0 rfl) ?_
  refine lv_iload_n hx hb dX0_giveUp_6 rfl (lv_at hl 1 rfl) ?_
  refine qb_callSv (vx_runV (As := [.int r]) (rest := []) ⟨hx, hb, hml, hown, hts⟩ (c_X0_checkMoved l hl0 D cA cZ cL ad f g r nR nB hI) (cwV 1 hts gX0_giveUp_X0_checkMoved rfl rfl rfl (by decide +kernel) ⟨Nat.le_of_ble_eq_true rfl, Nat.le_of_ble_eq_true rfl⟩) ⟨qPreT_blind, va_recv hK hP (ci := 0) (q0 := 0) rfl rfl, qPreT_at hP hK hTH rfl⟩ rfl rfl hl.1 rfl (lv_room (Nat.le_of_ble_eq_true rfl)) dX0_giveUp_7 ⟨Nat.le_of_ble_eq_true rfl, Nat.le_of_ble_eq_true rfl⟩) (fun E ce q9 st t H1 hst ht hvm hX hcell hcv hcl => vx_out (fun x h => (hno x h).elim) hlocks hcell hcv hcl (fun t2 h2 hA2 => qX_pass hX hst rfl ht h2 (fun h => Or.inr ⟨h.1, h_2, Decidable.not_not.mp h.2⟩)) (fun q h => nomatch h) (by decide) (by decide)) (fun hz => ?_)
  have h_7 := hz
  refine lv_aload_n hx hb dX0_giveUp_10 rfl (lv_at hl 0 rfl) ?_
  refine va_get (D := D) (ci := 0) (v := .ref (ad 4)) (C := RX0) (T := TX0) (N := 16) hx hb hts hfin hown hK hP 0 rfl rfl 4 (by decide) (hts _ (List.mem_cons_of_mem _ (List.mem_append_left _ (List.mem_append_left _ (List.mem_append_left _ (List.mem_append_left _ (List.mem_of_getElem? (i := 0) rfl))))))) (fun _ h9 => h9) rfl dX0_giveUp_11 ?_
  refine lv_iload_n hx hb dX0_giveUp_14 rfl (lv_at hl 1 rfl) ?_
  refine va_iald hx hb hK hP 4 0 rfl rfl (x_in8 hI h_2) dX0_giveUp_15 ?_
  refine lv_topi (fun v_15 hv_15 => ?_)
  have hv_15 : v_15 = xTarg f g r := hv_15.trans ((xTarg_of h_2).symm)
  subst hv_15
  refine lv_istore_n (lv' := [(2, .int (xTarg f g r)), (0, .ref (ad 16)), (1, .int r)]) hx hb dX0_giveUp_16 rfl hl (by decide) rfl (fun ls hl => ?_)
  refine lv_aload_n hx hb dX0_giveUp_17 rfl (lv_at hl 1 rfl) ?_
  refine lv_iload_n hx hb dX0_giveUp_18 rfl (lv_at hl 0 rfl) ?_
  refine lv_aload_n hx hb dX0_giveUp_19 rfl (lv_at hl 1 rfl) ?_
  refine lv_iload_n hx hb dX0_giveUp_20 rfl (lv_at hl 2 rfl) ?_
  refine vp_callSi (W.runV (As := [.int r]) (rest := [.int (xTarg f g r), .ref (ad 16)]) ⟨hx, hb, hml, hown, hts⟩ (c_X0_firstKeyOf l D cA cZ cL ad f g r nR nB hI) (cwV 1 hts gX0_giveUp_X0_firstKeyOf rfl rfl rfl (by decide +kernel) ⟨Nat.le_of_ble_eq_true rfl, Nat.le_of_ble_eq_true rfl⟩) ⟨qPre_blind, va_recv hK hP (ci := 0) (q0 := 0) rfl rfl, qPre_at hP hK⟩ rfl rfl hl.1 rfl (lv_room (Nat.le_of_ble_eq_true rfl)) dX0_giveUp_21 ⟨Nat.le_of_ble_eq_true rfl, Nat.le_of_ble_eq_true rfl⟩) (fun z hz => ?_)
  subst hz
  refine lv_topi (fun v_21 hv_21 => ?_)
  have hv_21 : v_21 = nI lo := hv_21.trans (hlo2)
  subst hv_21
  refine lv_aload_n hx hb dX0_giveUp_24 rfl (lv_at hl 1 rfl) ?_
  refine lv_iload_n hx hb dX0_giveUp_25 rfl (lv_at hl 2 rfl) ?_
  refine vp_callSi (W.runV (As := [.int r]) (rest := [.int (nI lo), .int (xTarg f g r), .ref (ad 16)]) ⟨hx, hb, hml, hown, hts⟩ (c_X0_lastKeyOf l D cA cZ cL ad f g r nR nB hI) (cwV 1 hts gX0_giveUp_X0_lastKeyOf rfl rfl rfl (by decide +kernel) ⟨Nat.le_of_ble_eq_true rfl, Nat.le_of_ble_eq_true rfl⟩) ⟨qPre_blind, va_recv hK hP (ci := 0) (q0 := 0) rfl rfl, qPre_at hP hK⟩ rfl rfl hl.1 rfl (lv_room (Nat.le_of_ble_eq_true rfl)) dX0_giveUp_26 ⟨Nat.le_of_ble_eq_true rfl, Nat.le_of_ble_eq_true rfl⟩) (fun z hz => ?_)
  subst hz
  refine vp_callSi (W.runV (As := [.int (xTarg f g r), .int (nI lo), .int (xLast f g r)]) (rest := []) ⟨hx, hb, hml, hown, hts⟩ (c_X0_countRows l D cA cZ cL ad f g (xTarg f g r) (xLast f g r) lo hlo) (cwV 3 hts gX0_giveUp_X0_countRows rfl rfl rfl (by decide +kernel) ⟨Nat.le_of_ble_eq_true rfl, Nat.le_of_ble_eq_true rfl⟩) ⟨qPre_blind, va_recv hK hP (ci := 0) (q0 := 0) rfl rfl, qPre_at hP hK⟩ rfl rfl hl.1 rfl (lv_room (Nat.le_of_ble_eq_true rfl)) dX0_giveUp_29 ⟨Nat.le_of_ble_eq_true rfl, Nat.le_of_ble_eq_true rfl⟩) (fun z hz => ?_)
  subst hz
  refine lv_istore_n (lv' := [(3, .int (nI (cnt (xRowP g (xTarg f g r)) lo (hiOf (xLast f g r))))), (2, .int (xTarg f g r)), (0, .ref (ad 16)), (1, .int r)]) hx hb dX0_giveUp_32 rfl hl (by decide) rfl (fun ls hl => ?_)
  refine lv_aload_n hx hb dX0_giveUp_33 rfl (lv_at hl 2 rfl) ?_
  refine lv_iload_n hx hb dX0_giveUp_34 rfl (lv_at hl 1 rfl) ?_
  refine lv_iload_n hx hb dX0_giveUp_35 rfl (lv_at hl 3 rfl) ?_
  refine qb_callv (va_runV (As := [.int (xTarg f g r), .int r]) (rest := []) ⟨hx, hb, hml, hown, hts⟩ (c_X0_dropRows l D cA cZ cL ad f g s.heap.size (xTarg f g r) r nR nB hI lo hlo hlo2) (cwV 2 hts gX0_giveUp_X0_dropRows rfl rfl rfl (by decide +kernel) ⟨Nat.le_of_ble_eq_true rfl, Nat.le_of_ble_eq_true rfl⟩) ⟨qPreW_blind, va_recv hK hP (ci := 0) (q0 := 0) rfl rfl, qPreW_at hP hK hD⟩ rfl rfl hl.1 rfl (lv_room (Nat.le_of_ble_eq_true rfl)) dX0_giveUp_36 ⟨Nat.le_of_ble_eq_true rfl, Nat.le_of_ble_eq_true rfl⟩) hD hS hA (fun u H locs hu hP hD hS => ?_)
  obtain ⟨uf, ug⟩ := u
  obtain ⟨hu1, hu2⟩ := hu
  have hu1 : uf = f := hu1
  have hu2 : ug = xDropG f g (xTarg f g r) r := hu2
  have hP : va_P D vwCl (xW cA ad uf ug) H := hP
  have hD : va_D A (xW cA ad uf ug) := hD
  rw [hu1, hu2] at hP hD
  have hP : va_P D vwCl (xW cA ad f (xDropG f g (xTarg f g r) r)) H := hP
  have hD : va_D A (xW cA ad f (xDropG f g (xTarg f g r) r)) := hD
  refine lv_aload_n hx hb dX0_giveUp_39 rfl (lv_at hl 2 rfl) ?_
  refine va_get (D := D) (ci := 0) (v := .ref (ad 4)) (C := RX0) (T := TX0) (N := 16) hx hb hts hfin hown hK hP 0 rfl rfl 4 (by decide) (hts _ (List.mem_cons_of_mem _ (List.mem_append_left _ (List.mem_append_left _ (List.mem_append_left _ (List.mem_append_left _ (List.mem_of_getElem? (i := 0) rfl))))))) (fun _ h9 => h9) rfl dX0_giveUp_40 ?_
  refine lv_iload_n hx hb dX0_giveUp_43 rfl (lv_at hl 3 rfl) ?_
  refine lv_iconst (v := (-1)) hx hb dX0_giveUp_44 (by decide) ?_
  refine va_iast hx hb hK hP hD hS 4 0 rfl rfl (x_in8 hI h_2) dX0_giveUp_45 (fun H locs hP hD hS => ?_)
  have hP : va_P D vwCl (xW cA ad f (va_up (xDropG f g (xTarg f g r) r) 4 (upd ((xDropG f g (xTarg f g r) r) 4) r.toNatClampNeg (-1)))) H := hP
  have hD : va_D A (xW cA ad f (va_up (xDropG f g (xTarg f g r) r) 4 (upd ((xDropG f g (xTarg f g r) r) 4) r.toNatClampNeg (-1)))) := hD
  refine lv_iload_n hx hb dX0_giveUp_46 rfl (lv_at hl 0 rfl) ?_
  refine vx_ret ?_
  refine W.widen (k := 1) (n := 6) (by decide) (by decide) ?_
  exact W.iret (v := nI (cnt (xRowP g (xTarg f g r)) lo (hiOf (xLast f g r)))) hx hb hr (fun t ht hW => ⟨⟨nI (cnt (xRowP g (xTarg f g r)) lo (hiOf (xLast f g r))), (f, (va_up (xDropG f g (xTarg f g r) r) 4 (upd ((xDropG f g (xTarg f g r) r) 4) r.toNatClampNeg (-1)))), rfl, ⟨⟨h_2, h_7⟩, (by unfold xMany; rw [hlo2, nI_clamp (by omega)]), rfl, rfl⟩, by rw [ht]; exact hP, hD⟩, hS.F ht⟩) hS.2.2 dX0_giveUp_47
set_option maxHeartbeats 4000000 in
set_option maxRecDepth 100000 in
/-- fix -/
theorem c_X0_fix (l : Launch) (hl0 : l.stackTraces = false) (D : va_G) (cA cZ cL : ClassId) (ad : Nat → Nat) (f : qFs) (g : qGs) (sz : Nat) (nR : Nat) (nB : Nat) (hI : xI nR nB f) : vx_Met l yX0_fix wsX0_fix ({ frames := 6, cells := 1, slots := 6, locals := 90 } : Room) (va_Pc [.ref (ad 16)] (qPreX D (qTy cA cZ cL) (xW cA ad f g) sz)) (va_Qi (fun (z : Int32) (u : qFs × qGs) => f 7 = 0 ∧ z = f 1 ∧ u.1 = va_up (va_up f 7 1) 8 (f 8 + 1) ∧ u.2 = va_up g 6 (fun j => if j < 100 then xDist (xRead nR f g (nI j)) else g 6 j)) (qAt D (va_A (xW cA ad f g) sz) (fun u : qFs × qGs => xW cA ad u.1 u.2)) (va_A (xW cA ad f g) sz)) (qX (fun E => E = eIS ∧ ¬ f 7 = 0)) 1 6 (va_A (xW cA ad f g) sz) := by
  refine vx_ofW (cc := cX0_fix) (maxL := 2) (ret := (some .int)) (by decide) rfl ?_
  intro p e s m args below meth c s₁ B hml hno hv
  obtain ⟨rfl, hsz, hP, hK, hD0, hTH⟩ := hv
  have hx := B.exec
  have hb := B.bytes
  have hr := B.returns
  have hts := atoms_spec (ws := wsX0_fix) B.pre
  have hown : s.vm.findClass RX0 = some m.cls := findClass_of_methodNamed B.named
  have hlocks := B.notSynchronized
  subst hsz
  have hD := hD0.self (sz := s.heap.size)
  generalize hAe : va_A (xW cA ad f g) s.heap.size = A at hD ⊢
  have hA : ∀ q : Nat, s.heap.size ≤ q → A q := fun q h => by rw [← hAe]; exact Or.inr h
  have hS : va_S A s.heap s.heap [] := va_S.rf
  have hfin : ∀ w ∈ wsX00, w ∈ wsX0_fix := fun w h => (List.mem_cons_of_mem _ (List.mem_append_left _ (List.mem_append_right _ h)))
  have hl := lv_entry ([.ref (ad 16)]) (n := 2) (Nat.le_of_ble_eq_true rfl)
  rw [lg_entry_eq]
  generalize (lg_sl ([.ref (ad 16)]) ++ List.replicate (2 - (lg_sl ([.ref (ad 16)])).length) Slot.unset).toArray = ls at hl ⊢
  have hl : lv_has ls 2 [(0, .ref (ad 16))] := hl
  refine lv_aload_n hx hb dX0_fix_0 rfl (lv_at hl 0 rfl) ?_
  refine va_get (D := D) (ci := 0) (v := .int (f 7)) (C := RX0) (T := TX0) (N := 16) hx hb hts hfin hown hK hP 0 rfl rfl 7 (by decide) (hts _ (List.mem_cons_of_mem _ (List.mem_append_left _ (List.mem_append_left _ (List.mem_append_left _ (List.mem_of_getElem? (i := 2) rfl)))))) (fun _ h9 => h9) rfl dX0_fix_1 ?_
  refine lv_if_eq (tgt := 17) hx hb dX0_fix_4 (by decide) (fun c_4 => ?_) (fun c_4 => ?_)
  · skip
    refine lv_iconst (v := 0) hx hb dX0_fix_17 (by decide) ?_
    refine lv_istore_n (lv' := [(1, .int 0), (0, .ref (ad 16))]) hx hb dX0_fix_18 rfl hl (by decide) rfl (fun ls hl => ?_)
    have hloop_19 : ∀ (nme : Nat) (k : Nat) (rw : Nat → Int32), 100 - k = nme → (k ≤ 100) → (rw = fun j => if j < k then xDist (xRead nR f g (nI j)) else g 6 j) → ∀ (H : Heap) (locs : List Loc), va_P D vwCl (xW cA ad f (va_up g 6 rw)) H → va_D A (xW cA ad f (va_up g 6 rw)) → va_S A s.heap H locs → ∀ ls : Array Slot, lv_has ls 2 [(0, .ref (ad 16)), (1, .int (nI k))] → W p l e (headSpec wsX0_fix ({ frames := 6, cells := 1, slots := 6, locals := 90 } : Room)).room s m ([.ref (ad 16)] : List Value).toArray below meth c H locs 0 0 (vx_MQ below (va_Qi (fun (z : Int32) (u : qFs × qGs) => f 7 = 0 ∧ z = f 1 ∧ u.1 = va_up (va_up f 7 1) 8 (f 8 + 1) ∧ u.2 = va_up g 6 (fun j => if j < 100 then xDist (xRead nR f g (nI j)) else g 6 j)) (qAt D A (fun u : qFs × qGs => xW cA ad u.1 u.2)) A) (qX (fun E => E = eIS ∧ ¬ f 7 = 0)) ([.ref (ad 16)] : List Value).toArray s 1 6 A) (F0 m 19 ls []) := by
      intro nme
      induction nme using Nat.strongRecOn with
      | ind nme ih =>
        intro k rw hnme hk hc H locs hP hD hS ls hl
        refine lv_iload_n hx hb dX0_fix_19 rfl (lv_at hl 1 rfl) ?_
        refine lv_bipush (v := 100) hx hb dX0_fix_20 (by decide) ?_
        refine lv_icmp_ge (tgt := 45) hx hb dX0_fix_22 (by decide) (fun c_22 => ?_) (fun c_22 => ?_)
        · skip
          have hge : k = 100 := by have := n_ge (b := 100) c_22 (by omega) (by decide); omega
          subst hge
          refine lv_aload_n hx hb dX0_fix_45 rfl (lv_at hl 0 rfl) ?_
          refine lv_iconst (v := 1) hx hb dX0_fix_46 (by decide) ?_
          refine va_put (D := D) (ci := 0) (v := .int 1) (ty := .boolean) (C := RX0) (T := TX0) (N := 16) hx hb hts hfin tyX0 tyX0_ok nmX0 hown hK hP hD hS 0 rfl rfl 7 (by decide) (hts _ (List.mem_cons_of_mem _ (List.mem_append_left _ (List.mem_append_left _ (List.mem_append_left _ (List.mem_of_getElem? (i := 2) rfl)))))) (fun _ h9 => h9) rfl (by decide +kernel) (rfl) (rfl) (Nat.le_of_ble_eq_true rfl) dX0_fix_47 (fun H locs hP hD hS => ?_)
          have hP : va_P D vwCl (xW cA ad (va_up f 7 1) (va_up g 6 rw)) H := hP
          have hD : va_D A (xW cA ad (va_up f 7 1) (va_up g 6 rw)) := hD
          refine lv_aload_n hx hb dX0_fix_50 rfl (lv_at hl 0 rfl) ?_
          refine lv_dup hx hb dX0_fix_51 rfl ?_
          refine va_get (D := D) (ci := 0) (v := .int (f 8)) (C := RX0) (T := TX0) (N := 16) hx hb hts hfin hown hK hP 0 rfl rfl 8 (by decide) (hts _ (List.mem_cons_of_mem _ (List.mem_append_left _ (List.mem_append_left _ (List.mem_append_left _ (List.mem_of_getElem? (i := 4) rfl)))))) (fun _ h9 => h9) rfl dX0_fix_52 ?_
          refine lv_iconst (v := 1) hx hb dX0_fix_55 (by decide) ?_
          refine lv_iadd hx hb dX0_fix_56 ?_
          refine va_put (D := D) (ci := 0) (v := .int ((f 8) + 1)) (ty := .int) (C := RX0) (T := TX0) (N := 16) hx hb hts hfin tyX0 tyX0_ok nmX0 hown hK hP hD hS 0 rfl rfl 8 (by decide) (hts _ (List.mem_cons_of_mem _ (List.mem_append_left _ (List.mem_append_left _ (List.mem_append_left _ (List.mem_of_getElem? (i := 4) rfl)))))) (fun _ h9 => h9) rfl (by decide +kernel) (rfl) (rfl) (Nat.le_of_ble_eq_true rfl) dX0_fix_57 (fun H locs hP hD hS => ?_)
          have hP : va_P D vwCl (xW cA ad (va_up (va_up f 7 1) 8 ((f 8) + 1)) (va_up g 6 rw)) H := hP
          have hD : va_D A (xW cA ad (va_up (va_up f 7 1) 8 ((f 8) + 1)) (va_up g 6 rw)) := hD
          refine lv_aload_n hx hb dX0_fix_60 rfl (lv_at hl 0 rfl) ?_
          refine va_get (D := D) (ci := 0) (v := .int (f 1)) (C := RX0) (T := TX0) (N := 16) hx hb hts hfin hown hK hP 0 rfl rfl 1 (by decide) (hts _ (List.mem_cons_of_mem _ (List.mem_append_left _ (List.mem_append_left _ (List.mem_append_left _ (List.mem_of_getElem? (i := 5) rfl)))))) (fun _ h9 => h9) rfl dX0_fix_61 ?_
          refine vx_ret ?_
          refine W.widen (k := 1) (n := 6) (by decide) (by decide) ?_
          exact W.iret (v := f 1) hx hb hr (fun t ht hW => ⟨⟨f 1, ((va_up (va_up f 7 1) 8 ((f 8) + 1)), (va_up g 6 rw)), rfl, ⟨c_4, rfl, rfl, (by rw [hc])⟩, by rw [ht]; exact hP, hD⟩, hS.F ht⟩) hS.2.2 dX0_fix_64
        · skip
          have hlt : k < 100 := n_lt (b := 100) c_22 (by omega)
          refine lv_aload_n hx hb dX0_fix_25 rfl (lv_at hl 0 rfl) ?_
          refine va_get (D := D) (ci := 0) (v := .ref (ad 6)) (C := RX0) (T := TX0) (N := 16) hx hb hts hfin hown hK hP 0 rfl rfl 6 (by decide) (hts _ (List.mem_cons_of_mem _ (List.mem_append_left _ (List.mem_append_left _ (List.mem_append_left _ (List.mem_of_getElem? (i := 3) rfl)))))) (fun _ h9 => h9) rfl dX0_fix_26 ?_
          refine lv_iload_n hx hb dX0_fix_29 rfl (lv_at hl 1 rfl) ?_
          refine lv_aload_n hx hb dX0_fix_30 rfl (lv_at hl 0 rfl) ?_
          refine lv_iload_n hx hb dX0_fix_31 rfl (lv_at hl 1 rfl) ?_
          refine vp_callSi (W.runV (As := [.int (nI k)]) (rest := [.int (nI k), .ref (ad 6)]) ⟨hx, hb, hml, hown, hts⟩ (c_X0_read l D cA cZ cL ad f (va_up g 6 rw) (nI k) nR nB hI) (cwV 1 hts gX0_fix_X0_read rfl rfl rfl (by decide +kernel) ⟨Nat.le_of_ble_eq_true rfl, Nat.le_of_ble_eq_true rfl⟩) ⟨qPre_blind, va_recv hK hP (ci := 0) (q0 := 0) rfl rfl, qPre_at hP hK⟩ rfl rfl hl.1 rfl (lv_room (Nat.le_of_ble_eq_true rfl)) dX0_fix_32 ⟨Nat.le_of_ble_eq_true rfl, Nat.le_of_ble_eq_true rfl⟩) (fun z hz => ?_)
          subst hz
          refine lv_topi (fun v_32 hv_32 => ?_)
          have hv_32 : v_32 = xRead nR f g (nI k) := hv_32.trans (rfl)
          subst hv_32
          refine vp_callSi (W.runS (As := [.int (xRead nR f g (nI k))]) (rest := [.int (nI k), .ref (ad 6)]) ⟨hx, hb, hml, hown, hts⟩ (c_X0_districtOf l (xRead nR f g (nI k))) (va_cwS 1 hts gX0_fix_X0_districtOf rfl rfl rfl (by decide +kernel) ⟨Nat.le_of_ble_eq_true rfl, Nat.le_of_ble_eq_true rfl⟩) ⟨qN_blind, qN_at⟩ rfl rfl hl.1 rfl (lv_room (Nat.le_of_ble_eq_true rfl)) dX0_fix_35 ⟨Nat.le_of_ble_eq_true rfl, Nat.le_of_ble_eq_true rfl⟩) (fun z hz => ?_)
          subst hz
          refine va_iast hx hb hK hP hD hS 5 0 rfl rfl (vp_in_nI (by omega) (by decide)) dX0_fix_38 (fun H locs hP hD hS => ?_)
          have hix : (nI k).toNatClampNeg = k := nI_clamp (by omega)
          rw [hix] at hP hD
          have hP : va_P D vwCl (xW cA ad f (va_up g 6 (upd rw k (xDist (xRead nR f g (nI k)))))) H := hP
          have hD : va_D A (xW cA ad f (va_up g 6 (upd rw k (xDist (xRead nR f g (nI k)))))) := hD
          refine lv_iinc (v := nI (k + 1)) (lv' := [(1, .int (nI (k + 1))), (0, .ref (ad 16))]) hx hb dX0_fix_39 hl (k := 1) rfl (nI_1 k) (by decide) rfl (fun ls hl => ?_)
          refine lv_goto (tgt := 19) hx hb dX0_fix_42 (by decide) ?_
          exact ih _ (by omega) (k + 1) (upd rw k (xDist (xRead nR f g (nI k)))) rfl (by omega) (by rw [hc]; exact fix_step k _ _) _ _ hP hD hS _ (lv_sub hl [1, 0] rfl)
    exact hloop_19 _ 0 (g 6) rfl (by omega) (by funext j; rw [if_neg (by omega)]) _ _ hP hD hS _ (lv_sub hl [1, 0] rfl)
  · skip
    obtain ⟨sa, hsa⟩ := hTH.2.2.1 (167, "a roll is laid") (List.mem_of_getElem? (i := 10) rfl)
    exact vx_throwS (A := fun _ => False) (names := ["java/lang/RuntimeException", "java/lang/Exception"]) hx hb hl0 hown (by decide) (by decide) (hts _ (List.mem_cons_of_mem _ (List.mem_append_left _ (List.mem_append_left _ (List.mem_append_left _ (List.mem_of_getElem? (i := 0) rfl)))))) (hts _ (List.mem_cons_of_mem _ (List.mem_append_left _ (List.mem_append_left _ (List.mem_append_left _ (List.mem_of_getElem? (i := 1) rfl)))))) hsa (vx_hat (fun w h => hts w (List.mem_cons_of_mem _ (List.mem_append_right _ h))) qw3 (qBad_of hTH (by decide))) qg3 hTH.1 hTH.2.1 va_S.rf (hl.1.trans hml.symm) dX0_fix_7 dX0_fix_10 dX0_fix_11 dX0_fix_13 dX0_fix_16 (fun x h => (hno x h).elim) (Nat.le_of_ble_eq_true rfl) (Nat.le_of_ble_eq_true rfl) (Nat.le_of_ble_eq_true rfl) (Nat.le_of_ble_eq_true rfl) hlocks (fun t _ h1 h2 => ⟨⟨rfl, c_4⟩, h1, h2⟩) (fun q h => nomatch h) (by decide) (by decide)
set_option maxHeartbeats 4000000 in
set_option maxRecDepth 100000 in
/-- send -/
theorem c_X0_send (l : Launch) (hl0 : l.stackTraces = false) (D : va_G) (cA cZ cL : ClassId) (ad : Nat → Nat) (f : qFs) (g : qGs) (sz : Nat) (k : Int32) (nR : Nat) (nB : Nat) (hI : xI nR nB f) : vx_Met l yX0_send wsX0_send ({ frames := 7, cells := 1, slots := 6, locals := 128 } : Room) (va_Pc [.ref (ad 16), .int k] (qPreX D (qTy cA cZ cL) (xW cA ad f g) sz)) (va_Qi (fun (z : Int32) (u : qFs × qGs) => (xKey k ∧ ¬ f 7 = 0 ∧ ¬ g 6 k.toNatClampNeg = -1 ∧ ¬ xRead nR f g k = -1 ∧ ¬ (xBallot f (xSendL f g nB k) ∧ g 13 (xSendL f g nB k).toNatClampNeg = 2) ∧ f 15 < 60) ∧ z = nI nB ∧ u.1 = va_up f 15 (nI (nB + 1)) ∧ u.2 = va_up (va_up (va_up (va_up (va_up g 9 (upd (g 9) nB k)) 10 (upd (g 10) nB (f 8))) 11 (upd (g 11) nB (xRead nR f g k))) 12 (upd (g 12) nB (g 6 k.toNatClampNeg))) 13 (upd (xSendS f g nB k) nB 0)) (qAt D (va_A (xW cA ad f g) sz) (fun u : qFs × qGs => xW cA ad u.1 u.2)) (va_A (xW cA ad f g) sz)) (qX (fun E => (E = eIO ∧ ¬ xKey k) ∨ (E = eIS ∧ xKey k ∧ (f 7 = 0 ∨ g 6 k.toNatClampNeg = -1 ∨ xRead nR f g k = -1 ∨ (xBallot f (xSendL f g nB k) ∧ g 13 (xSendL f g nB k).toNatClampNeg = 2) ∨ ¬ f 15 < 60)))) 1 6 (va_A (xW cA ad f g) sz) := by
  refine vx_ofW (cc := cX0_send) (maxL := 4) (ret := (some .int)) (by decide) rfl ?_
  intro p e s m args below meth c s₁ B hml hno hv
  obtain ⟨rfl, hsz, hP, hK, hD0, hTH⟩ := hv
  have hx := B.exec
  have hb := B.bytes
  have hr := B.returns
  have hts := atoms_spec (ws := wsX0_send) B.pre
  have hown : s.vm.findClass RX0 = some m.cls := findClass_of_methodNamed B.named
  have hlocks := B.notSynchronized
  subst hsz
  have hD := hD0.self (sz := s.heap.size)
  generalize hAe : va_A (xW cA ad f g) s.heap.size = A at hD ⊢
  have hA : ∀ q : Nat, s.heap.size ≤ q → A q := fun q h => by rw [← hAe]; exact Or.inr h
  have hS : va_S A s.heap s.heap [] := va_S.rf
  have hfin : ∀ w ∈ wsX00, w ∈ wsX0_send := fun w h => (List.mem_cons_of_mem _ (List.mem_append_left _ (List.mem_append_left _ (List.mem_append_right _ h))))
  have hl := lv_entry ([.ref (ad 16), .int k]) (n := 4) (Nat.le_of_ble_eq_true rfl)
  rw [lg_entry_eq]
  generalize (lg_sl ([.ref (ad 16), .int k]) ++ List.replicate (4 - (lg_sl ([.ref (ad 16), .int k])).length) Slot.unset).toArray = ls at hl ⊢
  have hl : lv_has ls 4 [(0, .ref (ad 16)), (1, .int k)] := hl
  have hB6 := hI.2.2.2.2
  refine lv_iload_n hx hb dX0_send_0 rfl (lv_at hl 1 rfl) ?_
  refine qb_callSv (vx_runS (As := [.int k]) (rest := []) ⟨hx, hb, hml, hown, hts⟩ (c_X0_checkKey l hl0 k) (va_cwS 1 hts gX0_send_X0_checkKey rfl rfl rfl (by decide +kernel) ⟨Nat.le_of_ble_eq_true rfl, Nat.le_of_ble_eq_true rfl⟩) ⟨qTH_blind, qTH_pc hTH rfl⟩ rfl rfl hl.1 rfl (lv_room (Nat.le_of_ble_eq_true rfl)) dX0_send_1 ⟨Nat.le_of_ble_eq_true rfl, Nat.le_of_ble_eq_true rfl⟩) (fun E ce q9 st t H1 hst ht hvm hX hcell hcv hcl => vx_out (fun x h => (hno x h).elim) hlocks hcell hcv hcl (fun t2 h2 hA2 => qX_pass hX hst rfl ht h2 (Or.inl)) (fun q h => nomatch h) (by decide) (by decide)) (fun hz => ?_)
  have h_1 := hz
  refine lv_aload_n hx hb dX0_send_4 rfl (lv_at hl 0 rfl) ?_
  refine va_get (D := D) (ci := 0) (v := .int (f 7)) (C := RX0) (T := TX0) (N := 16) hx hb hts hfin hown hK hP 0 rfl rfl 7 (by decide) (hts _ (List.mem_cons_of_mem _ (List.mem_append_left _ (List.mem_append_left _ (List.mem_append_left _ (List.mem_append_left _ (List.mem_of_getElem? (i := 2) rfl))))))) (fun _ h9 => h9) rfl dX0_send_5 ?_
  refine lv_if_eq (tgt := 21) hx hb dX0_send_8 (by decide) (fun c_8 => ?_) (fun c_8 => ?_)
  · skip
    obtain ⟨sa, hsa⟩ := hTH.2.2.1 (172, "the key is not on a roll that is laid") (List.mem_of_getElem? (i := 11) rfl)
    exact vx_throwS (A := fun _ => False) (names := ["java/lang/RuntimeException", "java/lang/Exception"]) hx hb hl0 hown (by decide) (by decide) (hts _ (List.mem_cons_of_mem _ (List.mem_append_left _ (List.mem_append_left _ (List.mem_append_left _ (List.mem_append_left _ (List.mem_of_getElem? (i := 0) rfl))))))) (hts _ (List.mem_cons_of_mem _ (List.mem_append_left _ (List.mem_append_left _ (List.mem_append_left _ (List.mem_append_left _ (List.mem_of_getElem? (i := 1) rfl))))))) hsa (vx_hat (fun w h => hts w (List.mem_cons_of_mem _ (List.mem_append_left _ (List.mem_append_right _ h)))) qw3 (qBad_of hTH (by decide))) qg3 hTH.1 hTH.2.1 va_S.rf (hl.1.trans hml.symm) dX0_send_21 dX0_send_24 dX0_send_25 dX0_send_27 dX0_send_30 (fun x h => (hno x h).elim) (Nat.le_of_ble_eq_true rfl) (Nat.le_of_ble_eq_true rfl) (Nat.le_of_ble_eq_true rfl) (Nat.le_of_ble_eq_true rfl) hlocks (fun t _ h1 h2 => ⟨Or.inr ⟨rfl, h_1, Or.inl c_8⟩, h1, h2⟩) (fun q h => nomatch h) (by decide) (by decide)
  · skip
    refine lv_aload_n hx hb dX0_send_11 rfl (lv_at hl 0 rfl) ?_
    refine va_get (D := D) (ci := 0) (v := .ref (ad 6)) (C := RX0) (T := TX0) (N := 16) hx hb hts hfin hown hK hP 0 rfl rfl 6 (by decide) (hts _ (List.mem_cons_of_mem _ (List.mem_append_left _ (List.mem_append_left _ (List.mem_append_left _ (List.mem_append_left _ (List.mem_of_getElem? (i := 3) rfl))))))) (fun _ h9 => h9) rfl dX0_send_12 ?_
    refine lv_iload_n hx hb dX0_send_15 rfl (lv_at hl 1 rfl) ?_
    refine va_iald hx hb hK hP 5 0 rfl rfl (x_in100 h_1) dX0_send_16 ?_
    refine lv_iconst (v := (-1)) hx hb dX0_send_17 (by decide) ?_
    refine lv_icmp_ne (tgt := 31) hx hb dX0_send_18 (by decide) (fun c_18 => ?_) (fun c_18 => ?_)
    · skip
      refine lv_aload_n hx hb dX0_send_31 rfl (lv_at hl 0 rfl) ?_
      refine lv_iload_n hx hb dX0_send_32 rfl (lv_at hl 1 rfl) ?_
      refine qb_callSv (vx_runV (As := [.int k]) (rest := []) ⟨hx, hb, hml, hown, hts⟩ (c_X0_checkMember l hl0 D cA cZ cL ad f g k nR nB hI) (cwV 1 hts gX0_send_X0_checkMember rfl rfl rfl (by decide +kernel) ⟨Nat.le_of_ble_eq_true rfl, Nat.le_of_ble_eq_true rfl⟩) ⟨qPreT_blind, va_recv hK hP (ci := 0) (q0 := 0) rfl rfl, qPreT_at hP hK hTH rfl⟩ rfl rfl hl.1 rfl (lv_room (Nat.le_of_ble_eq_true rfl)) dX0_send_33 ⟨Nat.le_of_ble_eq_true rfl, Nat.le_of_ble_eq_true rfl⟩) (fun E ce q9 st t H1 hst ht hvm hX hcell hcv hcl => vx_out (fun x h => (hno x h).elim) hlocks hcell hcv hcl (fun t2 h2 hA2 => qX_pass hX hst rfl ht h2 (fun h => Or.inr ⟨h.1, h_1, Or.inr (Or.inr (Or.inl (Decidable.not_not.mp h.2)))⟩)) (fun q h => nomatch h) (by decide) (by decide)) (fun hz => ?_)
      have h_33 := hz
      refine lv_aload_n hx hb dX0_send_36 rfl (lv_at hl 0 rfl) ?_
      refine lv_iload_n hx hb dX0_send_37 rfl (lv_at hl 1 rfl) ?_
      refine vp_callSi (W.runV (As := [.int k]) (rest := []) ⟨hx, hb, hml, hown, hts⟩ (c_X0_latestBallotTo l D cA cZ cL ad f g k nR nB hI) (cwV 1 hts gX0_send_X0_latestBallotTo rfl rfl rfl (by decide +kernel) ⟨Nat.le_of_ble_eq_true rfl, Nat.le_of_ble_eq_true rfl⟩) ⟨qPre_blind, va_recv hK hP (ci := 0) (q0 := 0) rfl rfl, qPre_at hP hK⟩ rfl rfl hl.1 rfl (lv_room (Nat.le_of_ble_eq_true rfl)) dX0_send_38 ⟨Nat.le_of_ble_eq_true rfl, Nat.le_of_ble_eq_true rfl⟩) (fun z hz => ?_)
      subst hz
      refine lv_topi (fun v_38 hv_38 => ?_)
      have hv_38 : v_38 = xSendL f g nB k := hv_38.trans (rfl)
      subst hv_38
      refine lv_istore_n (lv' := [(2, .int (xSendL f g nB k)), (0, .ref (ad 16)), (1, .int k)]) hx hb dX0_send_41 rfl hl (by decide) rfl (fun ls hl => ?_)
      refine lv_aload_n hx hb dX0_send_42 rfl (lv_at hl 1 rfl) ?_
      refine lv_iload_n hx hb dX0_send_43 rfl (lv_at hl 0 rfl) ?_
      refine vp_callSi (W.runV (As := [.int (xSendL f g nB k)]) (rest := []) ⟨hx, hb, hml, hown, hts⟩ (c_X0_isBallot l D cA cZ cL ad f g (xSendL f g nB k)) (cwV 1 hts gX0_send_X0_isBallot rfl rfl rfl (by decide +kernel) ⟨Nat.le_of_ble_eq_true rfl, Nat.le_of_ble_eq_true rfl⟩) ⟨qPre_blind, va_recv hK hP (ci := 0) (q0 := 0) rfl rfl, qPre_at hP hK⟩ rfl rfl hl.1 rfl (lv_room (Nat.le_of_ble_eq_true rfl)) dX0_send_44 ⟨Nat.le_of_ble_eq_true rfl, Nat.le_of_ble_eq_true rfl⟩) (fun z hz => ?_)
      subst hz
      refine lv_if_eq (tgt := 70) hx hb dX0_send_47 (by decide) (fun c_47 => ?_) (fun c_47 => ?_)
      · have c_47 := bI_0.mp c_47
        refine lv_aload_n hx hb dX0_send_70 rfl (lv_at hl 1 rfl) ?_
        refine va_get (D := D) (ci := 0) (v := .int (f 15)) (C := RX0) (T := TX0) (N := 16) hx hb hts hfin hown hK hP 0 rfl rfl 15 (by decide) (hts _ (List.mem_cons_of_mem _ (List.mem_append_left _ (List.mem_append_left _ (List.mem_append_left _ (List.mem_append_left _ (List.mem_of_getElem? (i := 5) rfl))))))) (fun _ h9 => h9) rfl dX0_send_71 ?_
        refine lv_bipush (v := 60) hx hb dX0_send_74 (by decide) ?_
        refine lv_icmp_lt (tgt := 89) hx hb dX0_send_76 (by decide) (fun c_76 => ?_) (fun c_76 => ?_)
        · skip
          have hB := x_B60 hI c_76
          refine lv_aload_n hx hb dX0_send_89 rfl (lv_at hl 1 rfl) ?_
          refine lv_iload_n hx hb dX0_send_90 rfl (lv_at hl 0 rfl) ?_
          refine vp_callSi (W.runV (As := [.int (xSendL f g nB k)]) (rest := []) ⟨hx, hb, hml, hown, hts⟩ (c_X0_isBallot l D cA cZ cL ad f g (xSendL f g nB k)) (cwV 1 hts gX0_send_X0_isBallot rfl rfl rfl (by decide +kernel) ⟨Nat.le_of_ble_eq_true rfl, Nat.le_of_ble_eq_true rfl⟩) ⟨qPre_blind, va_recv hK hP (ci := 0) (q0 := 0) rfl rfl, qPre_at hP hK⟩ rfl rfl hl.1 rfl (lv_room (Nat.le_of_ble_eq_true rfl)) dX0_send_91 ⟨Nat.le_of_ble_eq_true rfl, Nat.le_of_ble_eq_true rfl⟩) (fun z hz => ?_)
          subst hz
          refine lv_if_eq (tgt := 104) hx hb dX0_send_94 (by decide) (fun c_94 => ?_) (fun c_94 => ?_)
          · have c_94 := bI_0.mp c_94
            refine lv_aload_n hx hb dX0_send_104 rfl (lv_at hl 1 rfl) ?_
            refine va_get (D := D) (ci := 0) (v := .int (f 15)) (C := RX0) (T := TX0) (N := 16) hx hb hts hfin hown hK hP 0 rfl rfl 15 (by decide) (hts _ (List.mem_cons_of_mem _ (List.mem_append_left _ (List.mem_append_left _ (List.mem_append_left _ (List.mem_append_left _ (List.mem_of_getElem? (i := 5) rfl))))))) (fun _ h9 => h9) rfl dX0_send_105 ?_
            refine lv_topi (fun v_105 hv_105 => ?_)
            have hv_105 : v_105 = nI nB := hv_105.trans (hI.2.2.2.1)
            subst hv_105
            refine lv_istore_n (lv' := [(3, .int (nI nB)), (2, .int (xSendL f g nB k)), (0, .ref (ad 16)), (1, .int k)]) hx hb dX0_send_108 rfl hl (by decide) rfl (fun ls hl => ?_)
            refine lv_aload_n hx hb dX0_send_109 rfl (lv_at hl 2 rfl) ?_
            refine va_get (D := D) (ci := 0) (v := .ref (ad 9)) (C := RX0) (T := TX0) (N := 16) hx hb hts hfin hown hK hP 0 rfl rfl 9 (by decide) (hts _ (List.mem_cons_of_mem _ (List.mem_append_left _ (List.mem_append_left _ (List.mem_append_left _ (List.mem_append_left _ (List.mem_of_getElem? (i := 6) rfl))))))) (fun _ h9 => h9) rfl dX0_send_110 ?_
            refine lv_iload_n hx hb dX0_send_113 rfl (lv_at hl 0 rfl) ?_
            refine lv_iload_n hx hb dX0_send_114 rfl (lv_at hl 3 rfl) ?_
            refine va_iast hx hb hK hP hD hS 6 0 rfl rfl (vp_in_nI hB (by decide)) dX0_send_115 (fun H locs hP hD hS => ?_)
            have hix : (nI nB).toNatClampNeg = nB := nI_clamp (by omega)
            rw [hix] at hP hD
            have hP : va_P D vwCl (xW cA ad f (va_up g 9 (upd (g 9) nB k))) H := hP
            have hD : va_D A (xW cA ad f (va_up g 9 (upd (g 9) nB k))) := hD
            refine lv_aload_n hx hb dX0_send_116 rfl (lv_at hl 2 rfl) ?_
            refine va_get (D := D) (ci := 0) (v := .ref (ad 10)) (C := RX0) (T := TX0) (N := 16) hx hb hts hfin hown hK hP 0 rfl rfl 10 (by decide) (hts _ (List.mem_cons_of_mem _ (List.mem_append_left _ (List.mem_append_left _ (List.mem_append_left _ (List.mem_append_left _ (List.mem_of_getElem? (i := 7) rfl))))))) (fun _ h9 => h9) rfl dX0_send_117 ?_
            refine lv_iload_n hx hb dX0_send_120 rfl (lv_at hl 0 rfl) ?_
            refine lv_aload_n hx hb dX0_send_121 rfl (lv_at hl 2 rfl) ?_
            refine va_get (D := D) (ci := 0) (v := .int (f 8)) (C := RX0) (T := TX0) (N := 16) hx hb hts hfin hown hK hP 0 rfl rfl 8 (by decide) (hts _ (List.mem_cons_of_mem _ (List.mem_append_left _ (List.mem_append_left _ (List.mem_append_left _ (List.mem_append_left _ (List.mem_of_getElem? (i := 8) rfl))))))) (fun _ h9 => h9) rfl dX0_send_122 ?_
            refine va_iast hx hb hK hP hD hS 7 0 rfl rfl (vp_in_nI hB (by decide)) dX0_send_125 (fun H locs hP hD hS => ?_)
            have hix : (nI nB).toNatClampNeg = nB := nI_clamp (by omega)
            rw [hix] at hP hD
            have hP : va_P D vwCl (xW cA ad f (va_up (va_up g 9 (upd (g 9) nB k)) 10 (upd (g 10) nB (f 8)))) H := hP
            have hD : va_D A (xW cA ad f (va_up (va_up g 9 (upd (g 9) nB k)) 10 (upd (g 10) nB (f 8)))) := hD
            refine lv_aload_n hx hb dX0_send_126 rfl (lv_at hl 2 rfl) ?_
            refine va_get (D := D) (ci := 0) (v := .ref (ad 11)) (C := RX0) (T := TX0) (N := 16) hx hb hts hfin hown hK hP 0 rfl rfl 11 (by decide) (hts _ (List.mem_cons_of_mem _ (List.mem_append_left _ (List.mem_append_left _ (List.mem_append_left _ (List.mem_append_left _ (List.mem_of_getElem? (i := 9) rfl))))))) (fun _ h9 => h9) rfl dX0_send_127 ?_
            refine lv_iload_n hx hb dX0_send_130 rfl (lv_at hl 0 rfl) ?_
            refine lv_aload_n hx hb dX0_send_131 rfl (lv_at hl 2 rfl) ?_
            refine lv_iload_n hx hb dX0_send_132 rfl (lv_at hl 3 rfl) ?_
            refine vp_callSi (W.runV (As := [.int k]) (rest := [.int (nI nB), .ref (ad 11)]) ⟨hx, hb, hml, hown, hts⟩ (c_X0_read l D cA cZ cL ad f (va_up (va_up g 9 (upd (g 9) nB k)) 10 (upd (g 10) nB (f 8))) k nR nB hI) (cwV 1 hts gX0_send_X0_read rfl rfl rfl (by decide +kernel) ⟨Nat.le_of_ble_eq_true rfl, Nat.le_of_ble_eq_true rfl⟩) ⟨qPre_blind, va_recv hK hP (ci := 0) (q0 := 0) rfl rfl, qPre_at hP hK⟩ rfl rfl hl.1 rfl (lv_room (Nat.le_of_ble_eq_true rfl)) dX0_send_133 ⟨Nat.le_of_ble_eq_true rfl, Nat.le_of_ble_eq_true rfl⟩) (fun z hz => ?_)
            subst hz
            refine lv_topi (fun v_133 hv_133 => ?_)
            have hv_133 : v_133 = xRead nR f g k := hv_133.trans (rfl)
            subst hv_133
            refine va_iast hx hb hK hP hD hS 8 0 rfl rfl (vp_in_nI hB (by decide)) dX0_send_136 (fun H locs hP hD hS => ?_)
            have hix : (nI nB).toNatClampNeg = nB := nI_clamp (by omega)
            rw [hix] at hP hD
            have hP : va_P D vwCl (xW cA ad f (va_up (va_up (va_up g 9 (upd (g 9) nB k)) 10 (upd (g 10) nB (f 8))) 11 (upd (g 11) nB (xRead nR f g k)))) H := hP
            have hD : va_D A (xW cA ad f (va_up (va_up (va_up g 9 (upd (g 9) nB k)) 10 (upd (g 10) nB (f 8))) 11 (upd (g 11) nB (xRead nR f g k)))) := hD
            refine lv_aload_n hx hb dX0_send_137 rfl (lv_at hl 2 rfl) ?_
            refine va_get (D := D) (ci := 0) (v := .ref (ad 12)) (C := RX0) (T := TX0) (N := 16) hx hb hts hfin hown hK hP 0 rfl rfl 12 (by decide) (hts _ (List.mem_cons_of_mem _ (List.mem_append_left _ (List.mem_append_left _ (List.mem_append_left _ (List.mem_append_left _ (List.mem_of_getElem? (i := 10) rfl))))))) (fun _ h9 => h9) rfl dX0_send_138 ?_
            refine lv_iload_n hx hb dX0_send_141 rfl (lv_at hl 0 rfl) ?_
            refine lv_aload_n hx hb dX0_send_142 rfl (lv_at hl 2 rfl) ?_
            refine va_get (D := D) (ci := 0) (v := .ref (ad 6)) (C := RX0) (T := TX0) (N := 16) hx hb hts hfin hown hK hP 0 rfl rfl 6 (by decide) (hts _ (List.mem_cons_of_mem _ (List.mem_append_left _ (List.mem_append_left _ (List.mem_append_left _ (List.mem_append_left _ (List.mem_of_getElem? (i := 3) rfl))))))) (fun _ h9 => h9) rfl dX0_send_143 ?_
            refine lv_iload_n hx hb dX0_send_146 rfl (lv_at hl 3 rfl) ?_
            refine va_iald hx hb hK hP 5 0 rfl rfl (x_in100 h_1) dX0_send_147 ?_
            refine va_iast hx hb hK hP hD hS 9 0 rfl rfl (vp_in_nI hB (by decide)) dX0_send_148 (fun H locs hP hD hS => ?_)
            have hix : (nI nB).toNatClampNeg = nB := nI_clamp (by omega)
            rw [hix] at hP hD
            have hP : va_P D vwCl (xW cA ad f (va_up (va_up (va_up (va_up g 9 (upd (g 9) nB k)) 10 (upd (g 10) nB (f 8))) 11 (upd (g 11) nB (xRead nR f g k))) 12 (upd (g 12) nB (g 6 k.toNatClampNeg)))) H := hP
            have hD : va_D A (xW cA ad f (va_up (va_up (va_up (va_up g 9 (upd (g 9) nB k)) 10 (upd (g 10) nB (f 8))) 11 (upd (g 11) nB (xRead nR f g k))) 12 (upd (g 12) nB (g 6 k.toNatClampNeg)))) := hD
            refine lv_aload_n hx hb dX0_send_149 rfl (lv_at hl 2 rfl) ?_
            refine va_get (D := D) (ci := 0) (v := .ref (ad 13)) (C := RX0) (T := TX0) (N := 16) hx hb hts hfin hown hK hP 0 rfl rfl 13 (by decide) (hts _ (List.mem_cons_of_mem _ (List.mem_append_left _ (List.mem_append_left _ (List.mem_append_left _ (List.mem_append_left _ (List.mem_of_getElem? (i := 4) rfl))))))) (fun _ h9 => h9) rfl dX0_send_150 ?_
            refine lv_iload_n hx hb dX0_send_153 rfl (lv_at hl 0 rfl) ?_
            refine lv_iconst (v := 0) hx hb dX0_send_154 (by decide) ?_
            refine va_iast hx hb hK hP hD hS 10 0 rfl rfl (vp_in_nI hB (by decide)) dX0_send_155 (fun H locs hP hD hS => ?_)
            have hix : (nI nB).toNatClampNeg = nB := nI_clamp (by omega)
            rw [hix] at hP hD
            have hP : va_P D vwCl (xW cA ad f (va_up (va_up (va_up (va_up (va_up g 9 (upd (g 9) nB k)) 10 (upd (g 10) nB (f 8))) 11 (upd (g 11) nB (xRead nR f g k))) 12 (upd (g 12) nB (g 6 k.toNatClampNeg))) 13 (upd (g 13) nB 0))) H := hP
            have hD : va_D A (xW cA ad f (va_up (va_up (va_up (va_up (va_up g 9 (upd (g 9) nB k)) 10 (upd (g 10) nB (f 8))) 11 (upd (g 11) nB (xRead nR f g k))) 12 (upd (g 12) nB (g 6 k.toNatClampNeg))) 13 (upd (g 13) nB 0))) := hD
            refine lv_aload_n hx hb dX0_send_156 rfl (lv_at hl 2 rfl) ?_
            refine lv_dup hx hb dX0_send_157 rfl ?_
            refine va_get (D := D) (ci := 0) (v := .int (f 15)) (C := RX0) (T := TX0) (N := 16) hx hb hts hfin hown hK hP 0 rfl rfl 15 (by decide) (hts _ (List.mem_cons_of_mem _ (List.mem_append_left _ (List.mem_append_left _ (List.mem_append_left _ (List.mem_append_left _ (List.mem_of_getElem? (i := 5) rfl))))))) (fun _ h9 => h9) rfl dX0_send_158 ?_
            refine lv_topi (fun v_158 hv_158 => ?_)
            have hv_158 : v_158 = nI nB := hv_158.trans (hI.2.2.2.1)
            subst hv_158
            refine lv_iconst (v := 1) hx hb dX0_send_161 (by decide) ?_
            refine lv_iadd hx hb dX0_send_162 ?_
            refine lv_topi (fun v_162 hv_162 => ?_)
            have hv_162 : v_162 = nI (nB + 1) := hv_162.trans (nI_1 nB)
            subst hv_162
            refine va_put (D := D) (ci := 0) (v := .int (nI (nB + 1))) (ty := .int) (C := RX0) (T := TX0) (N := 16) hx hb hts hfin tyX0 tyX0_ok nmX0 hown hK hP hD hS 0 rfl rfl 15 (by decide) (hts _ (List.mem_cons_of_mem _ (List.mem_append_left _ (List.mem_append_left _ (List.mem_append_left _ (List.mem_append_left _ (List.mem_of_getElem? (i := 5) rfl))))))) (fun _ h9 => h9) rfl (by decide +kernel) (rfl) (rfl) (Nat.le_of_ble_eq_true rfl) dX0_send_163 (fun H locs hP hD hS => ?_)
            have hP : va_P D vwCl (xW cA ad (va_up f 15 (nI (nB + 1))) (va_up (va_up (va_up (va_up (va_up g 9 (upd (g 9) nB k)) 10 (upd (g 10) nB (f 8))) 11 (upd (g 11) nB (xRead nR f g k))) 12 (upd (g 12) nB (g 6 k.toNatClampNeg))) 13 (upd (g 13) nB 0))) H := hP
            have hD : va_D A (xW cA ad (va_up f 15 (nI (nB + 1))) (va_up (va_up (va_up (va_up (va_up g 9 (upd (g 9) nB k)) 10 (upd (g 10) nB (f 8))) 11 (upd (g 11) nB (xRead nR f g k))) 12 (upd (g 12) nB (g 6 k.toNatClampNeg))) 13 (upd (g 13) nB 0))) := hD
            refine lv_iload_n hx hb dX0_send_166 rfl (lv_at hl 0 rfl) ?_
            refine vx_ret ?_
            refine W.widen (k := 1) (n := 6) (by decide) (by decide) ?_
            exact W.iret (v := nI nB) hx hb hr (fun t ht hW => ⟨⟨nI nB, ((va_up f 15 (nI (nB + 1))), (va_up (va_up (va_up (va_up (va_up g 9 (upd (g 9) nB k)) 10 (upd (g 10) nB (f 8))) 11 (upd (g 11) nB (xRead nR f g k))) 12 (upd (g 12) nB (g 6 k.toNatClampNeg))) 13 (upd (g 13) nB 0))), rfl, ⟨⟨h_1, c_8, c_18, h_33, (fun q => c_47 q.1), c_76⟩, rfl, rfl, (by unfold xSendS; rw [if_neg c_47])⟩, by rw [ht]; exact hP, hD⟩, hS.F ht⟩) hS.2.2 dX0_send_167
          · have c_94 := bI_n.mp c_94
            exact (c_47 c_94).elim
        · skip
          obtain ⟨sa, hsa⟩ := hTH.2.2.1 (185, "there are 60 ballots") (List.mem_of_getElem? (i := 13) rfl)
          exact vx_throwS (A := fun _ => False) (names := ["java/lang/RuntimeException", "java/lang/Exception"]) hx hb hl0 hown (by decide) (by decide) (hts _ (List.mem_cons_of_mem _ (List.mem_append_left _ (List.mem_append_left _ (List.mem_append_left _ (List.mem_append_left _ (List.mem_of_getElem? (i := 0) rfl))))))) (hts _ (List.mem_cons_of_mem _ (List.mem_append_left _ (List.mem_append_left _ (List.mem_append_left _ (List.mem_append_left _ (List.mem_of_getElem? (i := 1) rfl))))))) hsa (vx_hat (fun w h => hts w (List.mem_cons_of_mem _ (List.mem_append_left _ (List.mem_append_right _ h)))) qw3 (qBad_of hTH (by decide))) qg3 hTH.1 hTH.2.1 va_S.rf (hl.1.trans hml.symm) dX0_send_79 dX0_send_82 dX0_send_83 dX0_send_85 dX0_send_88 (fun x h => (hno x h).elim) (Nat.le_of_ble_eq_true rfl) (Nat.le_of_ble_eq_true rfl) (Nat.le_of_ble_eq_true rfl) (Nat.le_of_ble_eq_true rfl) hlocks (fun t _ h1 h2 => ⟨Or.inr ⟨rfl, h_1, Or.inr (Or.inr (Or.inr (Or.inr c_76)))⟩, h1, h2⟩) (fun q h => nomatch h) (by decide) (by decide)
      · have c_47 := bI_n.mp c_47
        refine lv_aload_n hx hb dX0_send_50 rfl (lv_at hl 1 rfl) ?_
        refine va_get (D := D) (ci := 0) (v := .ref (ad 13)) (C := RX0) (T := TX0) (N := 16) hx hb hts hfin hown hK hP 0 rfl rfl 13 (by decide) (hts _ (List.mem_cons_of_mem _ (List.mem_append_left _ (List.mem_append_left _ (List.mem_append_left _ (List.mem_append_left _ (List.mem_of_getElem? (i := 4) rfl))))))) (fun _ h9 => h9) rfl dX0_send_51 ?_
        refine lv_iload_n hx hb dX0_send_54 rfl (lv_at hl 0 rfl) ?_
        refine va_iald hx hb hK hP 10 0 rfl rfl (x_in60 hI c_47) dX0_send_55 ?_
        refine lv_iconst (v := 2) hx hb dX0_send_56 (by decide) ?_
        refine lv_icmp_ne (tgt := 70) hx hb dX0_send_57 (by decide) (fun c_57 => ?_) (fun c_57 => ?_)
        · skip
          refine lv_aload_n hx hb dX0_send_70 rfl (lv_at hl 1 rfl) ?_
          refine va_get (D := D) (ci := 0) (v := .int (f 15)) (C := RX0) (T := TX0) (N := 16) hx hb hts hfin hown hK hP 0 rfl rfl 15 (by decide) (hts _ (List.mem_cons_of_mem _ (List.mem_append_left _ (List.mem_append_left _ (List.mem_append_left _ (List.mem_append_left _ (List.mem_of_getElem? (i := 5) rfl))))))) (fun _ h9 => h9) rfl dX0_send_71 ?_
          refine lv_bipush (v := 60) hx hb dX0_send_74 (by decide) ?_
          refine lv_icmp_lt (tgt := 89) hx hb dX0_send_76 (by decide) (fun c_76 => ?_) (fun c_76 => ?_)
          · skip
            have hB := x_B60 hI c_76
            refine lv_aload_n hx hb dX0_send_89 rfl (lv_at hl 1 rfl) ?_
            refine lv_iload_n hx hb dX0_send_90 rfl (lv_at hl 0 rfl) ?_
            refine vp_callSi (W.runV (As := [.int (xSendL f g nB k)]) (rest := []) ⟨hx, hb, hml, hown, hts⟩ (c_X0_isBallot l D cA cZ cL ad f g (xSendL f g nB k)) (cwV 1 hts gX0_send_X0_isBallot rfl rfl rfl (by decide +kernel) ⟨Nat.le_of_ble_eq_true rfl, Nat.le_of_ble_eq_true rfl⟩) ⟨qPre_blind, va_recv hK hP (ci := 0) (q0 := 0) rfl rfl, qPre_at hP hK⟩ rfl rfl hl.1 rfl (lv_room (Nat.le_of_ble_eq_true rfl)) dX0_send_91 ⟨Nat.le_of_ble_eq_true rfl, Nat.le_of_ble_eq_true rfl⟩) (fun z hz => ?_)
            subst hz
            refine lv_if_eq (tgt := 104) hx hb dX0_send_94 (by decide) (fun c_94 => ?_) (fun c_94 => ?_)
            · have c_94 := bI_0.mp c_94
              exact (c_94 c_47).elim
            · have c_94 := bI_n.mp c_94
              refine lv_aload_n hx hb dX0_send_97 rfl (lv_at hl 1 rfl) ?_
              refine va_get (D := D) (ci := 0) (v := .ref (ad 13)) (C := RX0) (T := TX0) (N := 16) hx hb hts hfin hown hK hP 0 rfl rfl 13 (by decide) (hts _ (List.mem_cons_of_mem _ (List.mem_append_left _ (List.mem_append_left _ (List.mem_append_left _ (List.mem_append_left _ (List.mem_of_getElem? (i := 4) rfl))))))) (fun _ h9 => h9) rfl dX0_send_98 ?_
              refine lv_iload_n hx hb dX0_send_101 rfl (lv_at hl 0 rfl) ?_
              refine lv_iconst (v := 1) hx hb dX0_send_102 (by decide) ?_
              refine va_iast hx hb hK hP hD hS 10 0 rfl rfl (x_in60 hI c_94) dX0_send_103 (fun H locs hP hD hS => ?_)
              have hP : va_P D vwCl (xW cA ad f (va_up g 13 (upd (g 13) (xSendL f g nB k).toNatClampNeg 1))) H := hP
              have hD : va_D A (xW cA ad f (va_up g 13 (upd (g 13) (xSendL f g nB k).toNatClampNeg 1))) := hD
              refine lv_aload_n hx hb dX0_send_104 rfl (lv_at hl 1 rfl) ?_
              refine va_get (D := D) (ci := 0) (v := .int (f 15)) (C := RX0) (T := TX0) (N := 16) hx hb hts hfin hown hK hP 0 rfl rfl 15 (by decide) (hts _ (List.mem_cons_of_mem _ (List.mem_append_left _ (List.mem_append_left _ (List.mem_append_left _ (List.mem_append_left _ (List.mem_of_getElem? (i := 5) rfl))))))) (fun _ h9 => h9) rfl dX0_send_105 ?_
              refine lv_topi (fun v_105 hv_105 => ?_)
              have hv_105 : v_105 = nI nB := hv_105.trans (hI.2.2.2.1)
              subst hv_105
              refine lv_istore_n (lv' := [(3, .int (nI nB)), (2, .int (xSendL f g nB k)), (0, .ref (ad 16)), (1, .int k)]) hx hb dX0_send_108 rfl hl (by decide) rfl (fun ls hl => ?_)
              refine lv_aload_n hx hb dX0_send_109 rfl (lv_at hl 2 rfl) ?_
              refine va_get (D := D) (ci := 0) (v := .ref (ad 9)) (C := RX0) (T := TX0) (N := 16) hx hb hts hfin hown hK hP 0 rfl rfl 9 (by decide) (hts _ (List.mem_cons_of_mem _ (List.mem_append_left _ (List.mem_append_left _ (List.mem_append_left _ (List.mem_append_left _ (List.mem_of_getElem? (i := 6) rfl))))))) (fun _ h9 => h9) rfl dX0_send_110 ?_
              refine lv_iload_n hx hb dX0_send_113 rfl (lv_at hl 0 rfl) ?_
              refine lv_iload_n hx hb dX0_send_114 rfl (lv_at hl 3 rfl) ?_
              refine va_iast hx hb hK hP hD hS 6 0 rfl rfl (vp_in_nI hB (by decide)) dX0_send_115 (fun H locs hP hD hS => ?_)
              have hix : (nI nB).toNatClampNeg = nB := nI_clamp (by omega)
              rw [hix] at hP hD
              have hP : va_P D vwCl (xW cA ad f (va_up (va_up g 13 (upd (g 13) (xSendL f g nB k).toNatClampNeg 1)) 9 (upd (g 9) nB k))) H := hP
              have hD : va_D A (xW cA ad f (va_up (va_up g 13 (upd (g 13) (xSendL f g nB k).toNatClampNeg 1)) 9 (upd (g 9) nB k))) := hD
              refine lv_aload_n hx hb dX0_send_116 rfl (lv_at hl 2 rfl) ?_
              refine va_get (D := D) (ci := 0) (v := .ref (ad 10)) (C := RX0) (T := TX0) (N := 16) hx hb hts hfin hown hK hP 0 rfl rfl 10 (by decide) (hts _ (List.mem_cons_of_mem _ (List.mem_append_left _ (List.mem_append_left _ (List.mem_append_left _ (List.mem_append_left _ (List.mem_of_getElem? (i := 7) rfl))))))) (fun _ h9 => h9) rfl dX0_send_117 ?_
              refine lv_iload_n hx hb dX0_send_120 rfl (lv_at hl 0 rfl) ?_
              refine lv_aload_n hx hb dX0_send_121 rfl (lv_at hl 2 rfl) ?_
              refine va_get (D := D) (ci := 0) (v := .int (f 8)) (C := RX0) (T := TX0) (N := 16) hx hb hts hfin hown hK hP 0 rfl rfl 8 (by decide) (hts _ (List.mem_cons_of_mem _ (List.mem_append_left _ (List.mem_append_left _ (List.mem_append_left _ (List.mem_append_left _ (List.mem_of_getElem? (i := 8) rfl))))))) (fun _ h9 => h9) rfl dX0_send_122 ?_
              refine va_iast hx hb hK hP hD hS 7 0 rfl rfl (vp_in_nI hB (by decide)) dX0_send_125 (fun H locs hP hD hS => ?_)
              have hix : (nI nB).toNatClampNeg = nB := nI_clamp (by omega)
              rw [hix] at hP hD
              have hP : va_P D vwCl (xW cA ad f (va_up (va_up (va_up g 13 (upd (g 13) (xSendL f g nB k).toNatClampNeg 1)) 9 (upd (g 9) nB k)) 10 (upd (g 10) nB (f 8)))) H := hP
              have hD : va_D A (xW cA ad f (va_up (va_up (va_up g 13 (upd (g 13) (xSendL f g nB k).toNatClampNeg 1)) 9 (upd (g 9) nB k)) 10 (upd (g 10) nB (f 8)))) := hD
              refine lv_aload_n hx hb dX0_send_126 rfl (lv_at hl 2 rfl) ?_
              refine va_get (D := D) (ci := 0) (v := .ref (ad 11)) (C := RX0) (T := TX0) (N := 16) hx hb hts hfin hown hK hP 0 rfl rfl 11 (by decide) (hts _ (List.mem_cons_of_mem _ (List.mem_append_left _ (List.mem_append_left _ (List.mem_append_left _ (List.mem_append_left _ (List.mem_of_getElem? (i := 9) rfl))))))) (fun _ h9 => h9) rfl dX0_send_127 ?_
              refine lv_iload_n hx hb dX0_send_130 rfl (lv_at hl 0 rfl) ?_
              refine lv_aload_n hx hb dX0_send_131 rfl (lv_at hl 2 rfl) ?_
              refine lv_iload_n hx hb dX0_send_132 rfl (lv_at hl 3 rfl) ?_
              refine vp_callSi (W.runV (As := [.int k]) (rest := [.int (nI nB), .ref (ad 11)]) ⟨hx, hb, hml, hown, hts⟩ (c_X0_read l D cA cZ cL ad f (va_up (va_up (va_up g 13 (upd (g 13) (xSendL f g nB k).toNatClampNeg 1)) 9 (upd (g 9) nB k)) 10 (upd (g 10) nB (f 8))) k nR nB hI) (cwV 1 hts gX0_send_X0_read rfl rfl rfl (by decide +kernel) ⟨Nat.le_of_ble_eq_true rfl, Nat.le_of_ble_eq_true rfl⟩) ⟨qPre_blind, va_recv hK hP (ci := 0) (q0 := 0) rfl rfl, qPre_at hP hK⟩ rfl rfl hl.1 rfl (lv_room (Nat.le_of_ble_eq_true rfl)) dX0_send_133 ⟨Nat.le_of_ble_eq_true rfl, Nat.le_of_ble_eq_true rfl⟩) (fun z hz => ?_)
              subst hz
              refine lv_topi (fun v_133 hv_133 => ?_)
              have hv_133 : v_133 = xRead nR f g k := hv_133.trans (rfl)
              subst hv_133
              refine va_iast hx hb hK hP hD hS 8 0 rfl rfl (vp_in_nI hB (by decide)) dX0_send_136 (fun H locs hP hD hS => ?_)
              have hix : (nI nB).toNatClampNeg = nB := nI_clamp (by omega)
              rw [hix] at hP hD
              have hP : va_P D vwCl (xW cA ad f (va_up (va_up (va_up (va_up g 13 (upd (g 13) (xSendL f g nB k).toNatClampNeg 1)) 9 (upd (g 9) nB k)) 10 (upd (g 10) nB (f 8))) 11 (upd (g 11) nB (xRead nR f g k)))) H := hP
              have hD : va_D A (xW cA ad f (va_up (va_up (va_up (va_up g 13 (upd (g 13) (xSendL f g nB k).toNatClampNeg 1)) 9 (upd (g 9) nB k)) 10 (upd (g 10) nB (f 8))) 11 (upd (g 11) nB (xRead nR f g k)))) := hD
              refine lv_aload_n hx hb dX0_send_137 rfl (lv_at hl 2 rfl) ?_
              refine va_get (D := D) (ci := 0) (v := .ref (ad 12)) (C := RX0) (T := TX0) (N := 16) hx hb hts hfin hown hK hP 0 rfl rfl 12 (by decide) (hts _ (List.mem_cons_of_mem _ (List.mem_append_left _ (List.mem_append_left _ (List.mem_append_left _ (List.mem_append_left _ (List.mem_of_getElem? (i := 10) rfl))))))) (fun _ h9 => h9) rfl dX0_send_138 ?_
              refine lv_iload_n hx hb dX0_send_141 rfl (lv_at hl 0 rfl) ?_
              refine lv_aload_n hx hb dX0_send_142 rfl (lv_at hl 2 rfl) ?_
              refine va_get (D := D) (ci := 0) (v := .ref (ad 6)) (C := RX0) (T := TX0) (N := 16) hx hb hts hfin hown hK hP 0 rfl rfl 6 (by decide) (hts _ (List.mem_cons_of_mem _ (List.mem_append_left _ (List.mem_append_left _ (List.mem_append_left _ (List.mem_append_left _ (List.mem_of_getElem? (i := 3) rfl))))))) (fun _ h9 => h9) rfl dX0_send_143 ?_
              refine lv_iload_n hx hb dX0_send_146 rfl (lv_at hl 3 rfl) ?_
              refine va_iald hx hb hK hP 5 0 rfl rfl (x_in100 h_1) dX0_send_147 ?_
              refine va_iast hx hb hK hP hD hS 9 0 rfl rfl (vp_in_nI hB (by decide)) dX0_send_148 (fun H locs hP hD hS => ?_)
              have hix : (nI nB).toNatClampNeg = nB := nI_clamp (by omega)
              rw [hix] at hP hD
              have hP : va_P D vwCl (xW cA ad f (va_up (va_up (va_up (va_up (va_up g 13 (upd (g 13) (xSendL f g nB k).toNatClampNeg 1)) 9 (upd (g 9) nB k)) 10 (upd (g 10) nB (f 8))) 11 (upd (g 11) nB (xRead nR f g k))) 12 (upd (g 12) nB (g 6 k.toNatClampNeg)))) H := hP
              have hD : va_D A (xW cA ad f (va_up (va_up (va_up (va_up (va_up g 13 (upd (g 13) (xSendL f g nB k).toNatClampNeg 1)) 9 (upd (g 9) nB k)) 10 (upd (g 10) nB (f 8))) 11 (upd (g 11) nB (xRead nR f g k))) 12 (upd (g 12) nB (g 6 k.toNatClampNeg)))) := hD
              refine lv_aload_n hx hb dX0_send_149 rfl (lv_at hl 2 rfl) ?_
              refine va_get (D := D) (ci := 0) (v := .ref (ad 13)) (C := RX0) (T := TX0) (N := 16) hx hb hts hfin hown hK hP 0 rfl rfl 13 (by decide) (hts _ (List.mem_cons_of_mem _ (List.mem_append_left _ (List.mem_append_left _ (List.mem_append_left _ (List.mem_append_left _ (List.mem_of_getElem? (i := 4) rfl))))))) (fun _ h9 => h9) rfl dX0_send_150 ?_
              refine lv_iload_n hx hb dX0_send_153 rfl (lv_at hl 0 rfl) ?_
              refine lv_iconst (v := 0) hx hb dX0_send_154 (by decide) ?_
              refine va_iast hx hb hK hP hD hS 10 0 rfl rfl (vp_in_nI hB (by decide)) dX0_send_155 (fun H locs hP hD hS => ?_)
              have hix : (nI nB).toNatClampNeg = nB := nI_clamp (by omega)
              rw [hix] at hP hD
              have hP : va_P D vwCl (xW cA ad f (va_up (va_up (va_up (va_up (va_up g 13 (upd (upd (g 13) (xSendL f g nB k).toNatClampNeg 1) nB 0)) 9 (upd (g 9) nB k)) 10 (upd (g 10) nB (f 8))) 11 (upd (g 11) nB (xRead nR f g k))) 12 (upd (g 12) nB (g 6 k.toNatClampNeg)))) H := hP
              have hD : va_D A (xW cA ad f (va_up (va_up (va_up (va_up (va_up g 13 (upd (upd (g 13) (xSendL f g nB k).toNatClampNeg 1) nB 0)) 9 (upd (g 9) nB k)) 10 (upd (g 10) nB (f 8))) 11 (upd (g 11) nB (xRead nR f g k))) 12 (upd (g 12) nB (g 6 k.toNatClampNeg)))) := hD
              refine lv_aload_n hx hb dX0_send_156 rfl (lv_at hl 2 rfl) ?_
              refine lv_dup hx hb dX0_send_157 rfl ?_
              refine va_get (D := D) (ci := 0) (v := .int (f 15)) (C := RX0) (T := TX0) (N := 16) hx hb hts hfin hown hK hP 0 rfl rfl 15 (by decide) (hts _ (List.mem_cons_of_mem _ (List.mem_append_left _ (List.mem_append_left _ (List.mem_append_left _ (List.mem_append_left _ (List.mem_of_getElem? (i := 5) rfl))))))) (fun _ h9 => h9) rfl dX0_send_158 ?_
              refine lv_topi (fun v_158 hv_158 => ?_)
              have hv_158 : v_158 = nI nB := hv_158.trans (hI.2.2.2.1)
              subst hv_158
              refine lv_iconst (v := 1) hx hb dX0_send_161 (by decide) ?_
              refine lv_iadd hx hb dX0_send_162 ?_
              refine lv_topi (fun v_162 hv_162 => ?_)
              have hv_162 : v_162 = nI (nB + 1) := hv_162.trans (nI_1 nB)
              subst hv_162
              refine va_put (D := D) (ci := 0) (v := .int (nI (nB + 1))) (ty := .int) (C := RX0) (T := TX0) (N := 16) hx hb hts hfin tyX0 tyX0_ok nmX0 hown hK hP hD hS 0 rfl rfl 15 (by decide) (hts _ (List.mem_cons_of_mem _ (List.mem_append_left _ (List.mem_append_left _ (List.mem_append_left _ (List.mem_append_left _ (List.mem_of_getElem? (i := 5) rfl))))))) (fun _ h9 => h9) rfl (by decide +kernel) (rfl) (rfl) (Nat.le_of_ble_eq_true rfl) dX0_send_163 (fun H locs hP hD hS => ?_)
              have hP : va_P D vwCl (xW cA ad (va_up f 15 (nI (nB + 1))) (va_up (va_up (va_up (va_up (va_up g 13 (upd (upd (g 13) (xSendL f g nB k).toNatClampNeg 1) nB 0)) 9 (upd (g 9) nB k)) 10 (upd (g 10) nB (f 8))) 11 (upd (g 11) nB (xRead nR f g k))) 12 (upd (g 12) nB (g 6 k.toNatClampNeg)))) H := hP
              have hD : va_D A (xW cA ad (va_up f 15 (nI (nB + 1))) (va_up (va_up (va_up (va_up (va_up g 13 (upd (upd (g 13) (xSendL f g nB k).toNatClampNeg 1) nB 0)) 9 (upd (g 9) nB k)) 10 (upd (g 10) nB (f 8))) 11 (upd (g 11) nB (xRead nR f g k))) 12 (upd (g 12) nB (g 6 k.toNatClampNeg)))) := hD
              refine lv_iload_n hx hb dX0_send_166 rfl (lv_at hl 0 rfl) ?_
              refine vx_ret ?_
              refine W.widen (k := 1) (n := 6) (by decide) (by decide) ?_
              exact W.iret (v := nI nB) hx hb hr (fun t ht hW => ⟨⟨nI nB, ((va_up f 15 (nI (nB + 1))), (va_up (va_up (va_up (va_up (va_up g 13 (upd (upd (g 13) (xSendL f g nB k).toNatClampNeg 1) nB 0)) 9 (upd (g 9) nB k)) 10 (upd (g 10) nB (f 8))) 11 (upd (g 11) nB (xRead nR f g k))) 12 (upd (g 12) nB (g 6 k.toNatClampNeg)))), rfl, ⟨⟨h_1, c_8, c_18, h_33, (fun q => c_57 q.2), c_76⟩, rfl, rfl, (by unfold xSendS; rw [if_pos c_47]; exact send_perm2 _ _ _ _ _ _)⟩, by rw [ht]; exact hP, hD⟩, hS.F ht⟩) hS.2.2 dX0_send_167
          · skip
            obtain ⟨sa, hsa⟩ := hTH.2.2.1 (185, "there are 60 ballots") (List.mem_of_getElem? (i := 13) rfl)
            exact vx_throwS (A := fun _ => False) (names := ["java/lang/RuntimeException", "java/lang/Exception"]) hx hb hl0 hown (by decide) (by decide) (hts _ (List.mem_cons_of_mem _ (List.mem_append_left _ (List.mem_append_left _ (List.mem_append_left _ (List.mem_append_left _ (List.mem_of_getElem? (i := 0) rfl))))))) (hts _ (List.mem_cons_of_mem _ (List.mem_append_left _ (List.mem_append_left _ (List.mem_append_left _ (List.mem_append_left _ (List.mem_of_getElem? (i := 1) rfl))))))) hsa (vx_hat (fun w h => hts w (List.mem_cons_of_mem _ (List.mem_append_left _ (List.mem_append_right _ h)))) qw3 (qBad_of hTH (by decide))) qg3 hTH.1 hTH.2.1 va_S.rf (hl.1.trans hml.symm) dX0_send_79 dX0_send_82 dX0_send_83 dX0_send_85 dX0_send_88 (fun x h => (hno x h).elim) (Nat.le_of_ble_eq_true rfl) (Nat.le_of_ble_eq_true rfl) (Nat.le_of_ble_eq_true rfl) (Nat.le_of_ble_eq_true rfl) hlocks (fun t _ h1 h2 => ⟨Or.inr ⟨rfl, h_1, Or.inr (Or.inr (Or.inr (Or.inr c_76)))⟩, h1, h2⟩) (fun q h => nomatch h) (by decide) (by decide)
        · skip
          obtain ⟨sa, hsa⟩ := hTH.2.2.1 (180, "the latest ballot was returned") (List.mem_of_getElem? (i := 12) rfl)
          exact vx_throwS (A := fun _ => False) (names := ["java/lang/RuntimeException", "java/lang/Exception"]) hx hb hl0 hown (by decide) (by decide) (hts _ (List.mem_cons_of_mem _ (List.mem_append_left _ (List.mem_append_left _ (List.mem_append_left _ (List.mem_append_left _ (List.mem_of_getElem? (i := 0) rfl))))))) (hts _ (List.mem_cons_of_mem _ (List.mem_append_left _ (List.mem_append_left _ (List.mem_append_left _ (List.mem_append_left _ (List.mem_of_getElem? (i := 1) rfl))))))) hsa (vx_hat (fun w h => hts w (List.mem_cons_of_mem _ (List.mem_append_left _ (List.mem_append_right _ h)))) qw3 (qBad_of hTH (by decide))) qg3 hTH.1 hTH.2.1 va_S.rf (hl.1.trans hml.symm) dX0_send_60 dX0_send_63 dX0_send_64 dX0_send_66 dX0_send_69 (fun x h => (hno x h).elim) (Nat.le_of_ble_eq_true rfl) (Nat.le_of_ble_eq_true rfl) (Nat.le_of_ble_eq_true rfl) (Nat.le_of_ble_eq_true rfl) hlocks (fun t _ h1 h2 => ⟨Or.inr ⟨rfl, h_1, Or.inr (Or.inr (Or.inr (Or.inl ⟨c_47, c_57⟩)))⟩, h1, h2⟩) (fun q h => nomatch h) (by decide) (by decide)
    · skip
      obtain ⟨sa, hsa⟩ := hTH.2.2.1 (172, "the key is not on a roll that is laid") (List.mem_of_getElem? (i := 11) rfl)
      exact vx_throwS (A := fun _ => False) (names := ["java/lang/RuntimeException", "java/lang/Exception"]) hx hb hl0 hown (by decide) (by decide) (hts _ (List.mem_cons_of_mem _ (List.mem_append_left _ (List.mem_append_left _ (List.mem_append_left _ (List.mem_append_left _ (List.mem_of_getElem? (i := 0) rfl))))))) (hts _ (List.mem_cons_of_mem _ (List.mem_append_left _ (List.mem_append_left _ (List.mem_append_left _ (List.mem_append_left _ (List.mem_of_getElem? (i := 1) rfl))))))) hsa (vx_hat (fun w h => hts w (List.mem_cons_of_mem _ (List.mem_append_left _ (List.mem_append_right _ h)))) qw3 (qBad_of hTH (by decide))) qg3 hTH.1 hTH.2.1 va_S.rf (hl.1.trans hml.symm) dX0_send_21 dX0_send_24 dX0_send_25 dX0_send_27 dX0_send_30 (fun x h => (hno x h).elim) (Nat.le_of_ble_eq_true rfl) (Nat.le_of_ble_eq_true rfl) (Nat.le_of_ble_eq_true rfl) (Nat.le_of_ble_eq_true rfl) hlocks (fun t _ h1 h2 => ⟨Or.inr ⟨rfl, h_1, Or.inr (Or.inl c_18)⟩, h1, h2⟩) (fun q h => nomatch h) (by decide) (by decide)
set_option maxHeartbeats 4000000 in
set_option maxRecDepth 100000 in
/-- giveBack -/
theorem c_X0_giveBack (l : Launch) (hl0 : l.stackTraces = false) (D : va_G) (cA cZ cL : ClassId) (ad : Nat → Nat) (f : qFs) (g : qGs) (sz : Nat) (b : Int32) (ch : Int32) (nR : Nat) (nB : Nat) (hI : xI nR nB f) : vx_Met l yX0_giveBack wsX0_giveBack ({ frames := 7, cells := 1, slots := 6, locals := 111 } : Room) (va_Pc [.ref (ad 16), .int b, .int ch] (qPreX D (qTy cA cZ cL) (xW cA ad f g) sz)) (va_Qi (fun (z : Int32) (u : qFs × qGs) => (xBallot f b ∧ xCho ch ∧ g 13 b.toNatClampNeg = 0 ∧ xOpen f g b) ∧ z = g 12 b.toNatClampNeg ∧ u.1 = f ∧ u.2 = va_up (va_up g 13 (upd (g 13) b.toNatClampNeg 2)) 14 (upd (g 14) b.toNatClampNeg ch)) (qAt D (va_A (xW cA ad f g) sz) (fun u : qFs × qGs => xW cA ad u.1 u.2)) (va_A (xW cA ad f g) sz)) (qX (fun E => (E = eIO ∧ ¬ xBallot f b) ∨ (E = eIA ∧ xBallot f b ∧ ¬ xCho ch) ∨ (E = eIS ∧ xBallot f b ∧ xCho ch ∧ (¬ g 13 b.toNatClampNeg = 0 ∨ ¬ xOpen f g b)))) 1 6 (va_A (xW cA ad f g) sz) := by
  refine vx_ofW (cc := cX0_giveBack) (maxL := 3) (ret := (some .int)) (by decide) rfl ?_
  intro p e s m args below meth c s₁ B hml hno hv
  obtain ⟨rfl, hsz, hP, hK, hD0, hTH⟩ := hv
  have hx := B.exec
  have hb := B.bytes
  have hr := B.returns
  have hts := atoms_spec (ws := wsX0_giveBack) B.pre
  have hown : s.vm.findClass RX0 = some m.cls := findClass_of_methodNamed B.named
  have hlocks := B.notSynchronized
  subst hsz
  have hD := hD0.self (sz := s.heap.size)
  generalize hAe : va_A (xW cA ad f g) s.heap.size = A at hD ⊢
  have hA : ∀ q : Nat, s.heap.size ≤ q → A q := fun q h => by rw [← hAe]; exact Or.inr h
  have hS : va_S A s.heap s.heap [] := va_S.rf
  have hfin : ∀ w ∈ wsX00, w ∈ wsX0_giveBack := fun w h => (List.mem_cons_of_mem _ (List.mem_append_left _ (List.mem_append_left _ (List.mem_append_left _ (List.mem_append_right _ h)))))
  have hl := lv_entry ([.ref (ad 16), .int b, .int ch]) (n := 3) (Nat.le_of_ble_eq_true rfl)
  rw [lg_entry_eq]
  generalize (lg_sl ([.ref (ad 16), .int b, .int ch]) ++ List.replicate (3 - (lg_sl ([.ref (ad 16), .int b, .int ch])).length) Slot.unset).toArray = ls at hl ⊢
  have hl : lv_has ls 3 [(0, .ref (ad 16)), (1, .int b), (2, .int ch)] := hl
  refine lv_aload_n hx hb dX0_giveBack_0 rfl (lv_at hl 0 rfl) ?_
  refine lv_iload_n hx hb dX0_giveBack_1 rfl (lv_at hl 1 rfl) ?_
  refine qb_callSv (vx_runV (As := [.int b]) (rest := []) ⟨hx, hb, hml, hown, hts⟩ (c_X0_checkBallot l hl0 D cA cZ cL ad f g b) (cwV 1 hts gX0_giveBack_X0_checkBallot rfl rfl rfl (by decide +kernel) ⟨Nat.le_of_ble_eq_true rfl, Nat.le_of_ble_eq_true rfl⟩) ⟨qPreT_blind, va_recv hK hP (ci := 0) (q0 := 0) rfl rfl, qPreT_at hP hK hTH rfl⟩ rfl rfl hl.1 rfl (lv_room (Nat.le_of_ble_eq_true rfl)) dX0_giveBack_2 ⟨Nat.le_of_ble_eq_true rfl, Nat.le_of_ble_eq_true rfl⟩) (fun E ce q9 st t H1 hst ht hvm hX hcell hcv hcl => vx_out (fun x h => (hno x h).elim) hlocks hcell hcv hcl (fun t2 h2 hA2 => qX_pass hX hst rfl ht h2 (Or.inl)) (fun q h => nomatch h) (by decide) (by decide)) (fun hz => ?_)
  have h_2 := hz
  refine lv_iload_n hx hb dX0_giveBack_5 rfl (lv_at hl 2 rfl) ?_
  refine qb_callSv (vx_runS (As := [.int ch]) (rest := []) ⟨hx, hb, hml, hown, hts⟩ (c_X0_checkChoice l hl0 ch) (va_cwS 1 hts gX0_giveBack_X0_checkChoice rfl rfl rfl (by decide +kernel) ⟨Nat.le_of_ble_eq_true rfl, Nat.le_of_ble_eq_true rfl⟩) ⟨qTH_blind, qTH_pc hTH rfl⟩ rfl rfl hl.1 rfl (lv_room (Nat.le_of_ble_eq_true rfl)) dX0_giveBack_6 ⟨Nat.le_of_ble_eq_true rfl, Nat.le_of_ble_eq_true rfl⟩) (fun E ce q9 st t H1 hst ht hvm hX hcell hcv hcl => vx_out (fun x h => (hno x h).elim) hlocks hcell hcv hcl (fun t2 h2 hA2 => qX_pass hX hst rfl ht h2 (fun h => Or.inr (Or.inl ⟨h.1, h_2, h.2⟩))) (fun q h => nomatch h) (by decide) (by decide)) (fun hz => ?_)
  have h_6 := hz
  refine lv_aload_n hx hb dX0_giveBack_9 rfl (lv_at hl 0 rfl) ?_
  refine va_get (D := D) (ci := 0) (v := .ref (ad 13)) (C := RX0) (T := TX0) (N := 16) hx hb hts hfin hown hK hP 0 rfl rfl 13 (by decide) (hts _ (List.mem_cons_of_mem _ (List.mem_append_left _ (List.mem_append_left _ (List.mem_append_left _ (List.mem_append_left _ (List.mem_append_left _ (List.mem_of_getElem? (i := 2) rfl)))))))) (fun _ h9 => h9) rfl dX0_giveBack_10 ?_
  refine lv_iload_n hx hb dX0_giveBack_13 rfl (lv_at hl 1 rfl) ?_
  refine va_iald hx hb hK hP 10 0 rfl rfl (x_in60 hI h_2) dX0_giveBack_14 ?_
  refine lv_if_eq (tgt := 28) hx hb dX0_giveBack_15 (by decide) (fun c_15 => ?_) (fun c_15 => ?_)
  · skip
    refine lv_aload_n hx hb dX0_giveBack_28 rfl (lv_at hl 0 rfl) ?_
    refine lv_iload_n hx hb dX0_giveBack_29 rfl (lv_at hl 1 rfl) ?_
    refine vp_callSi (W.runV (As := [.int b]) (rest := []) ⟨hx, hb, hml, hown, hts⟩ (c_X0_isOfOpenVote l D cA cZ cL ad f g b nR nB hI) (cwV 1 hts gX0_giveBack_X0_isOfOpenVote rfl rfl rfl (by decide +kernel) ⟨Nat.le_of_ble_eq_true rfl, Nat.le_of_ble_eq_true rfl⟩) ⟨qPre_blind, va_recv hK hP (ci := 0) (q0 := 0) rfl rfl, qPre_at hP hK⟩ rfl rfl hl.1 rfl (lv_room (Nat.le_of_ble_eq_true rfl)) dX0_giveBack_30 ⟨Nat.le_of_ble_eq_true rfl, Nat.le_of_ble_eq_true rfl⟩) (fun z hz => ?_)
    subst hz
    refine lv_if_ne (tgt := 46) hx hb dX0_giveBack_33 (by decide) (fun c_33 => ?_) (fun c_33 => ?_)
    · have c_33 := bI_n.mp c_33
      refine lv_aload_n hx hb dX0_giveBack_46 rfl (lv_at hl 0 rfl) ?_
      refine va_get (D := D) (ci := 0) (v := .ref (ad 13)) (C := RX0) (T := TX0) (N := 16) hx hb hts hfin hown hK hP 0 rfl rfl 13 (by decide) (hts _ (List.mem_cons_of_mem _ (List.mem_append_left _ (List.mem_append_left _ (List.mem_append_left _ (List.mem_append_left _ (List.mem_append_left _ (List.mem_of_getElem? (i := 2) rfl)))))))) (fun _ h9 => h9) rfl dX0_giveBack_47 ?_
      refine lv_iload_n hx hb dX0_giveBack_50 rfl (lv_at hl 1 rfl) ?_
      refine lv_iconst (v := 2) hx hb dX0_giveBack_51 (by decide) ?_
      refine va_iast hx hb hK hP hD hS 10 0 rfl rfl (x_in60 hI h_2) dX0_giveBack_52 (fun H locs hP hD hS => ?_)
      have hP : va_P D vwCl (xW cA ad f (va_up g 13 (upd (g 13) b.toNatClampNeg 2))) H := hP
      have hD : va_D A (xW cA ad f (va_up g 13 (upd (g 13) b.toNatClampNeg 2))) := hD
      refine lv_aload_n hx hb dX0_giveBack_53 rfl (lv_at hl 0 rfl) ?_
      refine va_get (D := D) (ci := 0) (v := .ref (ad 14)) (C := RX0) (T := TX0) (N := 16) hx hb hts hfin hown hK hP 0 rfl rfl 14 (by decide) (hts _ (List.mem_cons_of_mem _ (List.mem_append_left _ (List.mem_append_left _ (List.mem_append_left _ (List.mem_append_left _ (List.mem_append_left _ (List.mem_of_getElem? (i := 3) rfl)))))))) (fun _ h9 => h9) rfl dX0_giveBack_54 ?_
      refine lv_iload_n hx hb dX0_giveBack_57 rfl (lv_at hl 1 rfl) ?_
      refine lv_iload_n hx hb dX0_giveBack_58 rfl (lv_at hl 2 rfl) ?_
      refine va_iast hx hb hK hP hD hS 11 0 rfl rfl (x_in60 hI h_2) dX0_giveBack_59 (fun H locs hP hD hS => ?_)
      have hP : va_P D vwCl (xW cA ad f (va_up (va_up g 13 (upd (g 13) b.toNatClampNeg 2)) 14 (upd (g 14) b.toNatClampNeg ch))) H := hP
      have hD : va_D A (xW cA ad f (va_up (va_up g 13 (upd (g 13) b.toNatClampNeg 2)) 14 (upd (g 14) b.toNatClampNeg ch))) := hD
      refine lv_aload_n hx hb dX0_giveBack_60 rfl (lv_at hl 0 rfl) ?_
      refine va_get (D := D) (ci := 0) (v := .ref (ad 12)) (C := RX0) (T := TX0) (N := 16) hx hb hts hfin hown hK hP 0 rfl rfl 12 (by decide) (hts _ (List.mem_cons_of_mem _ (List.mem_append_left _ (List.mem_append_left _ (List.mem_append_left _ (List.mem_append_left _ (List.mem_append_left _ (List.mem_of_getElem? (i := 4) rfl)))))))) (fun _ h9 => h9) rfl dX0_giveBack_61 ?_
      refine lv_iload_n hx hb dX0_giveBack_64 rfl (lv_at hl 1 rfl) ?_
      refine va_iald hx hb hK hP 9 0 rfl rfl (x_in60 hI h_2) dX0_giveBack_65 ?_
      refine vx_ret ?_
      refine W.widen (k := 1) (n := 6) (by decide) (by decide) ?_
      exact W.iret (v := g 12 b.toNatClampNeg) hx hb hr (fun t ht hW => ⟨⟨g 12 b.toNatClampNeg, (f, (va_up (va_up g 13 (upd (g 13) b.toNatClampNeg 2)) 14 (upd (g 14) b.toNatClampNeg ch))), rfl, ⟨⟨h_2, h_6, c_15, c_33⟩, rfl, rfl, rfl⟩, by rw [ht]; exact hP, hD⟩, hS.F ht⟩) hS.2.2 dX0_giveBack_66
    · have c_33 := bI_0.mp c_33
      obtain ⟨sa, hsa⟩ := hTH.2.2.1 (198, "the vote of the ballot is closed") (List.mem_of_getElem? (i := 15) rfl)
      exact vx_throwS (A := fun _ => False) (names := ["java/lang/RuntimeException", "java/lang/Exception"]) hx hb hl0 hown (by decide) (by decide) (hts _ (List.mem_cons_of_mem _ (List.mem_append_left _ (List.mem_append_left _ (List.mem_append_left _ (List.mem_append_left _ (List.mem_append_left _ (List.mem_of_getElem? (i := 0) rfl)))))))) (hts _ (List.mem_cons_of_mem _ (List.mem_append_left _ (List.mem_append_left _ (List.mem_append_left _ (List.mem_append_left _ (List.mem_append_left _ (List.mem_of_getElem? (i := 1) rfl)))))))) hsa (vx_hat (fun w h => hts w (List.mem_cons_of_mem _ (List.mem_append_left _ (List.mem_append_left _ (List.mem_append_right _ h))))) qw3 (qBad_of hTH (by decide))) qg3 hTH.1 hTH.2.1 va_S.rf (hl.1.trans hml.symm) dX0_giveBack_36 dX0_giveBack_39 dX0_giveBack_40 dX0_giveBack_42 dX0_giveBack_45 (fun x h => (hno x h).elim) (Nat.le_of_ble_eq_true rfl) (Nat.le_of_ble_eq_true rfl) (Nat.le_of_ble_eq_true rfl) (Nat.le_of_ble_eq_true rfl) hlocks (fun t _ h1 h2 => ⟨Or.inr (Or.inr ⟨rfl, h_2, h_6, Or.inr c_33⟩), h1, h2⟩) (fun q h => nomatch h) (by decide) (by decide)
  · skip
    obtain ⟨sa, hsa⟩ := hTH.2.2.1 (193, "the ballot is replaced or returned") (List.mem_of_getElem? (i := 14) rfl)
    exact vx_throwS (A := fun _ => False) (names := ["java/lang/RuntimeException", "java/lang/Exception"]) hx hb hl0 hown (by decide) (by decide) (hts _ (List.mem_cons_of_mem _ (List.mem_append_left _ (List.mem_append_left _ (List.mem_append_left _ (List.mem_append_left _ (List.mem_append_left _ (List.mem_of_getElem? (i := 0) rfl)))))))) (hts _ (List.mem_cons_of_mem _ (List.mem_append_left _ (List.mem_append_left _ (List.mem_append_left _ (List.mem_append_left _ (List.mem_append_left _ (List.mem_of_getElem? (i := 1) rfl)))))))) hsa (vx_hat (fun w h => hts w (List.mem_cons_of_mem _ (List.mem_append_left _ (List.mem_append_left _ (List.mem_append_right _ h))))) qw3 (qBad_of hTH (by decide))) qg3 hTH.1 hTH.2.1 va_S.rf (hl.1.trans hml.symm) dX0_giveBack_18 dX0_giveBack_21 dX0_giveBack_22 dX0_giveBack_24 dX0_giveBack_27 (fun x h => (hno x h).elim) (Nat.le_of_ble_eq_true rfl) (Nat.le_of_ble_eq_true rfl) (Nat.le_of_ble_eq_true rfl) (Nat.le_of_ble_eq_true rfl) hlocks (fun t _ h1 h2 => ⟨Or.inr (Or.inr ⟨rfl, h_2, h_6, Or.inl c_15⟩), h1, h2⟩) (fun q h => nomatch h) (by decide) (by decide)
set_option maxHeartbeats 4000000 in
set_option maxRecDepth 100000 in
/-- close -/
theorem c_X0_close (l : Launch) (hl0 : l.stackTraces = false) (D : va_G) (cA cZ cL : ClassId) (ad : Nat → Nat) (f : qFs) (g : qGs) (sz : Nat) (nR : Nat) (nB : Nat) (hI : xI nR nB f) : vx_Met l yX0_close wsX0_close ({ frames := 6, cells := 1, slots := 6, locals := 90 } : Room) (va_Pc [.ref (ad 16)] (qPreX D (qTy cA cZ cL) (xW cA ad f g) sz)) (va_Qi (fun (z : Int32) (u : qFs × qGs) => ¬ f 7 = 0 ∧ z = nI (cnt (fun j => decide (xOpen f g (nI j) ∧ g 13 j = 0)) 0 nB) ∧ u.1 = va_up f 7 0 ∧ u.2 = g) (qAt D (va_A (xW cA ad f g) sz) (fun u : qFs × qGs => xW cA ad u.1 u.2)) (va_A (xW cA ad f g) sz)) (qX (fun E => E = eIS ∧ f 7 = 0)) 1 6 (va_A (xW cA ad f g) sz) := by
  refine vx_ofW (cc := cX0_close) (maxL := 3) (ret := (some .int)) (by decide) rfl ?_
  intro p e s m args below meth c s₁ B hml hno hv
  obtain ⟨rfl, hsz, hP, hK, hD0, hTH⟩ := hv
  have hx := B.exec
  have hb := B.bytes
  have hr := B.returns
  have hts := atoms_spec (ws := wsX0_close) B.pre
  have hown : s.vm.findClass RX0 = some m.cls := findClass_of_methodNamed B.named
  have hlocks := B.notSynchronized
  subst hsz
  have hD := hD0.self (sz := s.heap.size)
  generalize hAe : va_A (xW cA ad f g) s.heap.size = A at hD ⊢
  have hA : ∀ q : Nat, s.heap.size ≤ q → A q := fun q h => by rw [← hAe]; exact Or.inr h
  have hS : va_S A s.heap s.heap [] := va_S.rf
  have hfin : ∀ w ∈ wsX00, w ∈ wsX0_close := fun w h => (List.mem_cons_of_mem _ (List.mem_append_left _ (List.mem_append_right _ h)))
  have hl := lv_entry ([.ref (ad 16)]) (n := 3) (Nat.le_of_ble_eq_true rfl)
  rw [lg_entry_eq]
  generalize (lg_sl ([.ref (ad 16)]) ++ List.replicate (3 - (lg_sl ([.ref (ad 16)])).length) Slot.unset).toArray = ls at hl ⊢
  have hl : lv_has ls 3 [(0, .ref (ad 16))] := hl
  have hB6 := hI.2.2.2.2
  refine lv_aload_n hx hb dX0_close_0 rfl (lv_at hl 0 rfl) ?_
  refine va_get (D := D) (ci := 0) (v := .int (f 7)) (C := RX0) (T := TX0) (N := 16) hx hb hts hfin hown hK hP 0 rfl rfl 7 (by decide) (hts _ (List.mem_cons_of_mem _ (List.mem_append_left _ (List.mem_append_left _ (List.mem_of_getElem? (i := 2) rfl))))) (fun _ h9 => h9) rfl dX0_close_1 ?_
  refine lv_if_ne (tgt := 17) hx hb dX0_close_4 (by decide) (fun c_4 => ?_) (fun c_4 => ?_)
  · skip
    refine lv_iconst (v := 0) hx hb dX0_close_17 (by decide) ?_
    refine lv_istore_n (lv' := [(1, .int 0), (0, .ref (ad 16))]) hx hb dX0_close_18 rfl hl (by decide) rfl (fun ls hl => ?_)
    refine lv_iconst (v := 0) hx hb dX0_close_19 (by decide) ?_
    refine lv_istore_n (lv' := [(2, .int 0), (1, .int 0), (0, .ref (ad 16))]) hx hb dX0_close_20 rfl hl (by decide) rfl (fun ls hl => ?_)
    have hloop_21 : ∀ (nme : Nat) (k : Nat) (acc : Nat), nB - k = nme → (k ≤ nB) → (acc + cnt (fun j => decide (xOpen f g (nI j) ∧ g 13 j = 0)) k nB = cnt (fun j => decide (xOpen f g (nI j) ∧ g 13 j = 0)) 0 nB) → ∀ (H : Heap) (locs : List Loc), va_P D vwCl (xW cA ad f g) H → va_D A (xW cA ad f g) → va_S A s.heap H locs → ∀ ls : Array Slot, lv_has ls 3 [(0, .ref (ad 16)), (1, .int (nI acc)), (2, .int (nI k))] → W p l e (headSpec wsX0_close ({ frames := 6, cells := 1, slots := 6, locals := 90 } : Room)).room s m ([.ref (ad 16)] : List Value).toArray below meth c H locs 0 0 (vx_MQ below (va_Qi (fun (z : Int32) (u : qFs × qGs) => ¬ f 7 = 0 ∧ z = nI (cnt (fun j => decide (xOpen f g (nI j) ∧ g 13 j = 0)) 0 nB) ∧ u.1 = va_up f 7 0 ∧ u.2 = g) (qAt D A (fun u : qFs × qGs => xW cA ad u.1 u.2)) A) (qX (fun E => E = eIS ∧ f 7 = 0)) ([.ref (ad 16)] : List Value).toArray s 1 6 A) (F0 m 21 ls []) := by
      intro nme
      induction nme using Nat.strongRecOn with
      | ind nme ih =>
        intro k acc hnme hk hc H locs hP hD hS ls hl
        refine lv_iload_n hx hb dX0_close_21 rfl (lv_at hl 2 rfl) ?_
        refine lv_aload_n hx hb dX0_close_22 rfl (lv_at hl 0 rfl) ?_
        refine va_get (D := D) (ci := 0) (v := .int (f 15)) (C := RX0) (T := TX0) (N := 16) hx hb hts hfin hown hK hP 0 rfl rfl 15 (by decide) (hts _ (List.mem_cons_of_mem _ (List.mem_append_left _ (List.mem_append_left _ (List.mem_of_getElem? (i := 3) rfl))))) (fun _ h9 => h9) rfl dX0_close_23 ?_
        refine lv_topi (fun v_23 hv_23 => ?_)
        have hv_23 : v_23 = nI nB := hv_23.trans (hI.2.2.2.1)
        subst hv_23
        refine lv_icmp_ge (tgt := 55) hx hb dX0_close_26 (by decide) (fun c_26 => ?_) (fun c_26 => ?_)
        · skip
          have hge : nB ≤ k := n_ge c_26 (by omega) (by omega)
          refine lv_aload_n hx hb dX0_close_55 rfl (lv_at hl 0 rfl) ?_
          refine lv_iconst (v := 0) hx hb dX0_close_56 (by decide) ?_
          refine va_put (D := D) (ci := 0) (v := .int 0) (ty := .boolean) (C := RX0) (T := TX0) (N := 16) hx hb hts hfin tyX0 tyX0_ok nmX0 hown hK hP hD hS 0 rfl rfl 7 (by decide) (hts _ (List.mem_cons_of_mem _ (List.mem_append_left _ (List.mem_append_left _ (List.mem_of_getElem? (i := 2) rfl))))) (fun _ h9 => h9) rfl (by decide +kernel) (rfl) (rfl) (Nat.le_of_ble_eq_true rfl) dX0_close_57 (fun H locs hP hD hS => ?_)
          have hP : va_P D vwCl (xW cA ad (va_up f 7 0) g) H := hP
          have hD : va_D A (xW cA ad (va_up f 7 0) g) := hD
          refine lv_iload_n hx hb dX0_close_60 rfl (lv_at hl 1 rfl) ?_
          refine vx_ret ?_
          refine W.widen (k := 1) (n := 6) (by decide) (by decide) ?_
          exact W.iret (v := nI acc) hx hb hr (fun t ht hW => ⟨⟨nI acc, ((va_up f 7 0), g), rfl, ⟨c_4, (by rw [← hc, cnt_end hge]; rfl), rfl, rfl⟩, by rw [ht]; exact hP, hD⟩, hS.F ht⟩) hS.2.2 dX0_close_61
        · skip
          have hlt : k < nB := n_lt c_26 (by omega)
          refine lv_aload_n hx hb dX0_close_29 rfl (lv_at hl 0 rfl) ?_
          refine lv_iload_n hx hb dX0_close_30 rfl (lv_at hl 2 rfl) ?_
          refine vp_callSi (W.runV (As := [.int (nI k)]) (rest := []) ⟨hx, hb, hml, hown, hts⟩ (c_X0_isOfOpenVote l D cA cZ cL ad f g (nI k) nR nB hI) (cwV 1 hts gX0_close_X0_isOfOpenVote rfl rfl rfl (by decide +kernel) ⟨Nat.le_of_ble_eq_true rfl, Nat.le_of_ble_eq_true rfl⟩) ⟨qPre_blind, va_recv hK hP (ci := 0) (q0 := 0) rfl rfl, qPre_at hP hK⟩ rfl rfl hl.1 rfl (lv_room (Nat.le_of_ble_eq_true rfl)) dX0_close_31 ⟨Nat.le_of_ble_eq_true rfl, Nat.le_of_ble_eq_true rfl⟩) (fun z hz => ?_)
          subst hz
          refine lv_if_eq (tgt := 49) hx hb dX0_close_34 (by decide) (fun c_34 => ?_) (fun c_34 => ?_)
          · have c_34 := bI_0.mp c_34
            refine lv_iinc (v := nI (k + 1)) (lv' := [(2, .int (nI (k + 1))), (0, .ref (ad 16)), (1, .int (nI acc))]) hx hb dX0_close_49 hl (k := 2) rfl (nI_1 k) (by decide) rfl (fun ls hl => ?_)
            refine lv_goto (tgt := 21) hx hb dX0_close_52 (by decide) ?_
            exact ih _ (by omega) (k + 1) acc rfl (by omega) (by rw [← hc, cnt_n hlt (df (fun q => c_34 q.1))]) _ _ hP hD hS _ (lv_sub hl [1, 2, 0] rfl)
          · have c_34 := bI_n.mp c_34
            refine lv_aload_n hx hb dX0_close_37 rfl (lv_at hl 0 rfl) ?_
            refine va_get (D := D) (ci := 0) (v := .ref (ad 13)) (C := RX0) (T := TX0) (N := 16) hx hb hts hfin hown hK hP 0 rfl rfl 13 (by decide) (hts _ (List.mem_cons_of_mem _ (List.mem_append_left _ (List.mem_append_left _ (List.mem_of_getElem? (i := 4) rfl))))) (fun _ h9 => h9) rfl dX0_close_38 ?_
            refine lv_iload_n hx hb dX0_close_41 rfl (lv_at hl 2 rfl) ?_
            refine va_iald hx hb hK hP 10 0 rfl rfl (vp_in_nI (by omega) (by decide)) dX0_close_42 ?_
            refine lv_topi (fun v_42 hv_42 => ?_)
            have hv_42 : v_42 = g 13 k := hv_42.trans (by rw [nI_clamp (by omega)])
            subst hv_42
            refine lv_if_ne (tgt := 49) hx hb dX0_close_43 (by decide) (fun c_43 => ?_) (fun c_43 => ?_)
            · skip
              refine lv_iinc (v := nI (k + 1)) (lv' := [(2, .int (nI (k + 1))), (0, .ref (ad 16)), (1, .int (nI acc))]) hx hb dX0_close_49 hl (k := 2) rfl (nI_1 k) (by decide) rfl (fun ls hl => ?_)
              refine lv_goto (tgt := 21) hx hb dX0_close_52 (by decide) ?_
              exact ih _ (by omega) (k + 1) acc rfl (by omega) (by rw [← hc, cnt_n hlt (df (fun q => c_43 q.2))]) _ _ hP hD hS _ (lv_sub hl [1, 2, 0] rfl)
            · skip
              refine lv_iinc (v := nI (acc + 1)) (lv' := [(1, .int (nI (acc + 1))), (0, .ref (ad 16)), (2, .int (nI k))]) hx hb dX0_close_46 hl (k := 1) rfl (nI_1 acc) (by decide) rfl (fun ls hl => ?_)
              refine lv_iinc (v := nI (k + 1)) (lv' := [(2, .int (nI (k + 1))), (1, .int (nI (acc + 1))), (0, .ref (ad 16))]) hx hb dX0_close_49 hl (k := 2) rfl (nI_1 k) (by decide) rfl (fun ls hl => ?_)
              refine lv_goto (tgt := 21) hx hb dX0_close_52 (by decide) ?_
              exact ih _ (by omega) (k + 1) (acc + 1) rfl (by omega) (by rw [← hc, cnt_y hlt (dt ⟨c_34, c_43⟩)]; omega) _ _ hP hD hS _ (lv_sub hl [2, 1, 0] rfl)
    exact hloop_21 _ 0 0 rfl (by omega) (Nat.zero_add _) _ _ hP hD hS _ (lv_sub hl [2, 1, 0] rfl)
  · skip
    obtain ⟨sa, hsa⟩ := hTH.2.2.1 (200, "no roll is laid") (List.mem_of_getElem? (i := 16) rfl)
    exact vx_throwS (A := fun _ => False) (names := ["java/lang/RuntimeException", "java/lang/Exception"]) hx hb hl0 hown (by decide) (by decide) (hts _ (List.mem_cons_of_mem _ (List.mem_append_left _ (List.mem_append_left _ (List.mem_of_getElem? (i := 0) rfl))))) (hts _ (List.mem_cons_of_mem _ (List.mem_append_left _ (List.mem_append_left _ (List.mem_of_getElem? (i := 1) rfl))))) hsa (vx_hat (fun w h => hts w (List.mem_cons_of_mem _ (List.mem_append_right _ h))) qw3 (qBad_of hTH (by decide))) qg3 hTH.1 hTH.2.1 va_S.rf (hl.1.trans hml.symm) dX0_close_7 dX0_close_10 dX0_close_11 dX0_close_13 dX0_close_16 (fun x h => (hno x h).elim) (Nat.le_of_ble_eq_true rfl) (Nat.le_of_ble_eq_true rfl) (Nat.le_of_ble_eq_true rfl) (Nat.le_of_ble_eq_true rfl) hlocks (fun t _ h1 h2 => ⟨⟨rfl, c_4⟩, h1, h2⟩) (fun q h => nomatch h) (by decide) (by decide)
