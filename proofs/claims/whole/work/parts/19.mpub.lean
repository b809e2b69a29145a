set_option maxHeartbeats 4000000 in
set_option maxRecDepth 100000 in
/-- split -/
theorem c_X1_split (l : Launch) (D : va_G) (cA cZ cL : ClassId) (ad : Nat → Nat) (f : qFs) (g : qGs) (sz : Nat) (k : Int32) (nR : Nat) (nB : Nat) (hI : mI nR nB f) : Met l yX1_split wsX1_split ({ frames := 3, cells := 0, slots := 0, locals := 63 } : Room) (va_Pc [.ref (ad 18), .int k] (qPreW D (qTy cA cZ cL) (mW cA cZ ad f g) sz)) (va_Qi (fun (z : Int32) (u : qFs × qGs) => ((¬ xKey k) ∧ u.1 = va_up f 0 1 ∧ u.2 = g) ∨ ((xKey k ∧ (k + 1 = mBeh nR g (mAtN (g 4) k nR) ∨ ¬ g 6 (mAtN (g 4) k nR) = -1 ∨ nR = 8)) ∧ u.1 = va_up f 0 2 ∧ u.2 = g) ∨ ((xKey k ∧ ¬ k + 1 = mBeh nR g (mAtN (g 4) k nR) ∧ g 6 (mAtN (g 4) k nR) = -1 ∧ nR < 8) ∧ z = nI (mAtN (g 4) k nR + 1) ∧ u.1 = va_up (va_up f 0 0) 3 (nI (nR + 1)) ∧ u.2 = va_up (va_up (va_up (mUpG (mAtN (g 4) k nR + 1) g (nR - (mAtN (g 4) k nR + 1))) 4 (upd ((mUpG (mAtN (g 4) k nR + 1) g (nR - (mAtN (g 4) k nR + 1))) 4) (mAtN (g 4) k nR + 1) (k + 1))) 5 (upd ((mUpG (mAtN (g 4) k nR + 1) g (nR - (mAtN (g 4) k nR + 1))) 5) (mAtN (g 4) k nR + 1) ((mUpG (mAtN (g 4) k nR + 1) g (nR - (mAtN (g 4) k nR + 1))) 5 (mAtN (g 4) k nR)))) 6 (upd ((mUpG (mAtN (g 4) k nR + 1) g (nR - (mAtN (g 4) k nR + 1))) 6) (mAtN (g 4) k nR + 1) (-1)))) (qAt D (va_A (mW cA cZ ad f g) sz) (fun u : qFs × qGs => mW cA cZ ad u.1 u.2)) (va_A (mW cA cZ ad f g) sz)) 0 0 (va_A (mW cA cZ ad f g) sz) := by
  refine Met.ofW (cc := cX1_split) (maxL := 4) (ret := (some .int)) (by decide) rfl ?_
  intro p e s m args below meth c s₁ B hml hv
  obtain ⟨rfl, hsz, hP, hK, hD0⟩ := hv
  have hx := B.exec
  have hb := B.bytes
  have hr := B.returns
  have hts := atoms_spec (ws := wsX1_split) B.pre
  have hown : s.vm.findClass RX1 = some m.cls := findClass_of_methodNamed B.named
  have hlocks := B.notSynchronized
  subst hsz
  have hD := hD0.self (sz := s.heap.size)
  generalize hAe : va_A (mW cA cZ ad f g) s.heap.size = A at hD ⊢
  have hA : ∀ q : Nat, s.heap.size ≤ q → A q := fun q h => by rw [← hAe]; exact Or.inr h
  have hS : va_S A s.heap s.heap [] := va_S.rf
  have hfin : ∀ w ∈ wsX10, w ∈ wsX1_split := fun w h => (List.mem_cons_of_mem _ (List.mem_append_right _ h))
  have hl := lv_entry ([.ref (ad 18), .int k]) (n := 4) (Nat.le_of_ble_eq_true rfl)
  rw [lg_entry_eq]
  generalize (lg_sl ([.ref (ad 18), .int k]) ++ List.replicate (4 - (lg_sl ([.ref (ad 18), .int k])).length) Slot.unset).toArray = ls at hl ⊢
  have hl : lv_has ls 4 [(0, .ref (ad 18)), (1, .int k)] := hl
  have hR8 := hI.2.2.1
  have hat := mAtN_lt (g 4) k nR hI.2.1
  refine lv_aload_n hx hb dX1_split_0 rfl (lv_at hl 0 rfl) ?_
  refine lv_iload_n hx hb dX1_split_1 rfl (lv_at hl 1 rfl) ?_
  refine qb_calli (va_runV (As := [.int k]) (rest := []) ⟨hx, hb, hml, hown, hts⟩ (c_X1_asksKey l D cA cZ cL ad f g s.heap.size k) (cwV 1 hts gX1_split_X1_asksKey rfl rfl rfl (by decide +kernel) ⟨Nat.le_of_ble_eq_true rfl, Nat.le_of_ble_eq_true rfl⟩) ⟨qPreW_blind, va_recv hK hP (ci := 1) (q0 := 0) rfl rfl, qPreW_at hP hK hD⟩ rfl rfl hl.1 rfl (lv_room (Nat.le_of_ble_eq_true rfl)) dX1_split_2 ⟨Nat.le_of_ble_eq_true rfl, Nat.le_of_ble_eq_true rfl⟩) hD hS hA (fun r_2 u H locs hu hP hD hS => ?_)
  obtain ⟨uf, ug⟩ := u
  obtain ⟨hr_2, hu1, hu2⟩ := hu
  have hu1 : uf = va_up f 0 (if xKey k then 0 else 1) := hu1
  have hu2 : ug = g := hu2
  have hP : va_P D vwCl (mW cA cZ ad uf ug) H := hP
  have hD : va_D A (mW cA cZ ad uf ug) := hD
  rw [hu1, hu2] at hP hD
  have hP : va_P D vwCl (mW cA cZ ad (va_up f 0 (if xKey k then 0 else 1)) g) H := hP
  have hD : va_D A (mW cA cZ ad (va_up f 0 (if xKey k then 0 else 1)) g) := hD
  have hr_2 : r_2 = bI (xKey k) := hr_2
  subst hr_2
  refine lv_if_ne (tgt := 10) hx hb dX1_split_5 (by decide) (fun c_5 => ?_) (fun c_5 => ?_)
  · have c_5 := bI_n.mp c_5
    refine lv_aload_n hx hb dX1_split_10 rfl (lv_at hl 0 rfl) ?_
    refine lv_iload_n hx hb dX1_split_11 rfl (lv_at hl 1 rfl) ?_
    refine vp_callSi (W.runV (As := [.int k]) (rest := []) ⟨hx, hb, hml, hown, hts⟩ (c_X1_rangeAt l D cA cZ cL ad (va_up f 0 (if xKey k then 0 else 1)) g k nR nB hI) (cwV 1 hts gX1_split_X1_rangeAt rfl rfl rfl (by decide +kernel) ⟨Nat.le_of_ble_eq_true rfl, Nat.le_of_ble_eq_true rfl⟩) ⟨qPre_blind, va_recv hK hP (ci := 1) (q0 := 0) rfl rfl, qPre_at hP hK⟩ rfl rfl hl.1 rfl (lv_room (Nat.le_of_ble_eq_true rfl)) dX1_split_12 ⟨Nat.le_of_ble_eq_true rfl, Nat.le_of_ble_eq_true rfl⟩) (fun z hz => ?_)
    subst hz
    refine lv_istore_n (lv' := [(2, .int (nI (mAtN (g 4) k nR))), (0, .ref (ad 18)), (1, .int k)]) hx hb dX1_split_15 rfl hl (by decide) rfl (fun ls hl => ?_)
    refine lv_aload_n hx hb dX1_split_16 rfl (lv_at hl 1 rfl) ?_
    refine lv_iload_n hx hb dX1_split_17 rfl (lv_at hl 2 rfl) ?_
    refine lv_iconst (v := 1) hx hb dX1_split_18 (by decide) ?_
    refine lv_iadd hx hb dX1_split_19 ?_
    refine lv_aload_n hx hb dX1_split_20 rfl (lv_at hl 1 rfl) ?_
    refine lv_iload_n hx hb dX1_split_21 rfl (lv_at hl 0 rfl) ?_
    refine vp_callSi (W.runV (As := [.int (nI (mAtN (g 4) k nR))]) (rest := [.int (k + 1), .ref (ad 18)]) ⟨hx, hb, hml, hown, hts⟩ (c_X1_behind l D cA cZ cL ad (va_up f 0 (if xKey k then 0 else 1)) g (mAtN (g 4) k nR) nR nB hI (by omega)) (cwV 1 hts gX1_split_X1_behind rfl rfl rfl (by decide +kernel) ⟨Nat.le_of_ble_eq_true rfl, Nat.le_of_ble_eq_true rfl⟩) ⟨qPre_blind, va_recv hK hP (ci := 1) (q0 := 0) rfl rfl, qPre_at hP hK⟩ rfl rfl hl.1 rfl (lv_room (Nat.le_of_ble_eq_true rfl)) dX1_split_22 ⟨Nat.le_of_ble_eq_true rfl, Nat.le_of_ble_eq_true rfl⟩) (fun z hz => ?_)
    subst hz
    refine lv_icmp_eq (tgt := 47) hx hb dX1_split_25 (by decide) (fun c_25 => ?_) (fun c_25 => ?_)
    · skip
      refine lv_iconst (v := 2) hx hb dX1_split_47 (by decide) ?_
      refine lv_goto (tgt := 52) hx hb dX1_split_48 (by decide) ?_
      refine va_put (D := D) (ci := 1) (v := .int 2) (ty := .int) (C := RX1) (T := TX1) (N := 18) hx hb hts hfin tyX1 tyX1_ok nmX1 hown hK hP hD hS 0 rfl rfl 0 (by decide) (hts _ (List.mem_cons_of_mem _ (List.mem_append_left _ (List.mem_append_left _ (List.mem_of_getElem? (i := 2) rfl))))) (fun _ h9 => h9) rfl (by decide +kernel) (rfl) (rfl) (Nat.le_of_ble_eq_true rfl) dX1_split_52 (fun H locs hP hD hS => ?_)
      have hP : va_P D vwCl (mW cA cZ ad (va_up (va_up f 0 (if xKey k then 0 else 1)) 0 2) g) H := hP
      have hD : va_D A (mW cA cZ ad (va_up (va_up f 0 (if xKey k then 0 else 1)) 0 2) g) := hD
      refine lv_aload_n hx hb dX1_split_55 rfl (lv_at hl 1 rfl) ?_
      refine va_get (D := D) (ci := 1) (v := .int 2) (C := RX1) (T := TX1) (N := 18) hx hb hts hfin hown hK hP 0 rfl rfl 0 (by decide) (hts _ (List.mem_cons_of_mem _ (List.mem_append_left _ (List.mem_append_left _ (List.mem_of_getElem? (i := 2) rfl))))) (fun _ h9 => h9) rfl dX1_split_56 ?_
      refine lv_if_le (tgt := 64) hx hb dX1_split_59 (by decide) (fun c_59 => ?_) (fun c_59 => ?_)
      · skip
        exact absurd c_59 (by decide)
      · skip
        refine lv_iconst (v := 0) hx hb dX1_split_62 (by decide) ?_
        exact W.iret (v := 0) hx hb hr (fun t ht hW => ⟨⟨0, ((va_up (va_up f 0 (if xKey k then 0 else 1)) 0 2), g), rfl, (Or.inr (Or.inl (⟨⟨c_5, Or.inl c_25⟩, (by rw [if_pos c_5, bx_uu]), rfl⟩))), by rw [ht]; exact hP, hD⟩, hS.F ht⟩) hS.2.2 dX1_split_63
    · skip
      refine lv_aload_n hx hb dX1_split_28 rfl (lv_at hl 1 rfl) ?_
      refine va_get (D := D) (ci := 1) (v := .ref (ad 6)) (C := RX1) (T := TX1) (N := 18) hx hb hts hfin hown hK hP 0 rfl rfl 6 (by decide) (hts _ (List.mem_cons_of_mem _ (List.mem_append_left _ (List.mem_append_left _ (List.mem_of_getElem? (i := 0) rfl))))) (fun _ h9 => h9) rfl dX1_split_29 ?_
      refine lv_iload_n hx hb dX1_split_32 rfl (lv_at hl 0 rfl) ?_
      refine va_iald hx hb hK hP 4 0 rfl rfl (vp_in_nI (by omega) (by decide)) dX1_split_33 ?_
      refine lv_topi (fun v_33 hv_33 => ?_)
      have hv_33 : v_33 = g 6 (mAtN (g 4) k nR) := hv_33.trans (by rw [nI_clamp (by omega)])
      subst hv_33
      refine lv_iconst (v := (-1)) hx hb dX1_split_34 (by decide) ?_
      refine lv_icmp_ne (tgt := 47) hx hb dX1_split_35 (by decide) (fun c_35 => ?_) (fun c_35 => ?_)
      · skip
        refine lv_iconst (v := 2) hx hb dX1_split_47 (by decide) ?_
        refine lv_goto (tgt := 52) hx hb dX1_split_48 (by decide) ?_
        refine va_put (D := D) (ci := 1) (v := .int 2) (ty := .int) (C := RX1) (T := TX1) (N := 18) hx hb hts hfin tyX1 tyX1_ok nmX1 hown hK hP hD hS 0 rfl rfl 0 (by decide) (hts _ (List.mem_cons_of_mem _ (List.mem_append_left _ (List.mem_append_left _ (List.mem_of_getElem? (i := 2) rfl))))) (fun _ h9 => h9) rfl (by decide +kernel) (rfl) (rfl) (Nat.le_of_ble_eq_true rfl) dX1_split_52 (fun H locs hP hD hS => ?_)
        have hP : va_P D vwCl (mW cA cZ ad (va_up (va_up f 0 (if xKey k then 0 else 1)) 0 2) g) H := hP
        have hD : va_D A (mW cA cZ ad (va_up (va_up f 0 (if xKey k then 0 else 1)) 0 2) g) := hD
        refine lv_aload_n hx hb dX1_split_55 rfl (lv_at hl 1 rfl) ?_
        refine va_get (D := D) (ci := 1) (v := .int 2) (C := RX1) (T := TX1) (N := 18) hx hb hts hfin hown hK hP 0 rfl rfl 0 (by decide) (hts _ (List.mem_cons_of_mem _ (List.mem_append_left _ (List.mem_append_left _ (List.mem_of_getElem? (i := 2) rfl))))) (fun _ h9 => h9) rfl dX1_split_56 ?_
        refine lv_if_le (tgt := 64) hx hb dX1_split_59 (by decide) (fun c_59 => ?_) (fun c_59 => ?_)
        · skip
          exact absurd c_59 (by decide)
        · skip
          refine lv_iconst (v := 0) hx hb dX1_split_62 (by decide) ?_
          exact W.iret (v := 0) hx hb hr (fun t ht hW => ⟨⟨0, ((va_up (va_up f 0 (if xKey k then 0 else 1)) 0 2), g), rfl, (Or.inr (Or.inl (⟨⟨c_5, Or.inr (Or.inl c_35)⟩, (by rw [if_pos c_5, bx_uu]), rfl⟩))), by rw [ht]; exact hP, hD⟩, hS.F ht⟩) hS.2.2 dX1_split_63
      · skip
        refine lv_aload_n hx hb dX1_split_38 rfl (lv_at hl 1 rfl) ?_
        refine va_get (D := D) (ci := 1) (v := .int ((va_up f 0 (if xKey k then 0 else 1)) 3)) (C := RX1) (T := TX1) (N := 18) hx hb hts hfin hown hK hP 0 rfl rfl 3 (by decide) (hts _ (List.mem_cons_of_mem _ (List.mem_append_left _ (List.mem_append_left _ (List.mem_of_getElem? (i := 1) rfl))))) (fun _ h9 => h9) rfl dX1_split_39 ?_
        refine lv_topi (fun v_39 hv_39 => ?_)
        have hv_39 : v_39 = nI nR := hv_39.trans (hI.1)
        subst hv_39
        refine lv_bipush (v := 8) hx hb dX1_split_42 (by decide) ?_
        refine lv_icmp_ne (tgt := 51) hx hb dX1_split_44 (by decide) (fun c_44 => ?_) (fun c_44 => ?_)
        · skip
          have hn8 : nR < 8 := by rcases Nat.lt_or_ge nR 8 with q | q; exact q; exact absurd (by rw [show nR = 8 by omega]; rfl) c_44
          refine lv_iconst (v := 0) hx hb dX1_split_51 (by decide) ?_
          refine va_put (D := D) (ci := 1) (v := .int 0) (ty := .int) (C := RX1) (T := TX1) (N := 18) hx hb hts hfin tyX1 tyX1_ok nmX1 hown hK hP hD hS 0 rfl rfl 0 (by decide) (hts _ (List.mem_cons_of_mem _ (List.mem_append_left _ (List.mem_append_left _ (List.mem_of_getElem? (i := 2) rfl))))) (fun _ h9 => h9) rfl (by decide +kernel) (rfl) (rfl) (Nat.le_of_ble_eq_true rfl) dX1_split_52 (fun H locs hP hD hS => ?_)
          have hP : va_P D vwCl (mW cA cZ ad (va_up (va_up f 0 (if xKey k then 0 else 1)) 0 0) g) H := hP
          have hD : va_D A (mW cA cZ ad (va_up (va_up f 0 (if xKey k then 0 else 1)) 0 0) g) := hD
          refine lv_aload_n hx hb dX1_split_55 rfl (lv_at hl 1 rfl) ?_
          refine va_get (D := D) (ci := 1) (v := .int 0) (C := RX1) (T := TX1) (N := 18) hx hb hts hfin hown hK hP 0 rfl rfl 0 (by decide) (hts _ (List.mem_cons_of_mem _ (List.mem_append_left _ (List.mem_append_left _ (List.mem_of_getElem? (i := 2) rfl))))) (fun _ h9 => h9) rfl dX1_split_56 ?_
          refine lv_if_le (tgt := 64) hx hb dX1_split_59 (by decide) (fun c_59 => ?_) (fun c_59 => ?_)
          · skip
            refine lv_aload_n hx hb dX1_split_64 rfl (lv_at hl 1 rfl) ?_
            refine va_get (D := D) (ci := 1) (v := .int ((va_up f 0 (if xKey k then 0 else 1)) 3)) (C := RX1) (T := TX1) (N := 18) hx hb hts hfin hown hK hP 0 rfl rfl 3 (by decide) (hts _ (List.mem_cons_of_mem _ (List.mem_append_left _ (List.mem_append_left _ (List.mem_of_getElem? (i := 1) rfl))))) (fun _ h9 => h9) rfl dX1_split_65 ?_
            refine lv_topi (fun v_65 hv_65 => ?_)
            have hv_65 : v_65 = nI (mAtN (g 4) k nR + 1 + (nR - (mAtN (g 4) k nR + 1))) := hv_65.trans (by show f 3 = _; rw [hI.1]; congr 1; omega)
            subst hv_65
            refine lv_istore_n (lv' := [(3, .int (nI (mAtN (g 4) k nR + 1 + (nR - (mAtN (g 4) k nR + 1))))), (2, .int (nI (mAtN (g 4) k nR))), (0, .ref (ad 18)), (1, .int k)]) hx hb dX1_split_68 rfl hl (by decide) rfl (fun ls hl => ?_)
            have hloop_69 : ∀ (nme : Nat) (t : Nat) (g1 : qGs), t = nme → (mAtN (g 4) k nR + 1 + t ≤ nR) → (mUpG (mAtN (g 4) k nR + 1) g1 t = mUpG (mAtN (g 4) k nR + 1) g (nR - (mAtN (g 4) k nR + 1))) → ∀ (H : Heap) (locs : List Loc), va_P D vwCl (mW cA cZ ad (va_up f 0 0) g1) H → va_D A (mW cA cZ ad (va_up f 0 0) g1) → va_S A s.heap H locs → ∀ ls : Array Slot, lv_has ls 4 [(0, .ref (ad 18)), (1, .int k), (2, .int (nI (mAtN (g 4) k nR))), (3, .int (nI (mAtN (g 4) k nR + 1 + t)))] → W p l e (headSpec wsX1_split ({ frames := 3, cells := 0, slots := 0, locals := 63 } : Room)).room s m ([.ref (ad 18), .int k] : List Value).toArray below meth c H locs 0 0 (MQ below (va_Qi (fun (z : Int32) (u : qFs × qGs) => ((¬ xKey k) ∧ u.1 = va_up f 0 1 ∧ u.2 = g) ∨ ((xKey k ∧ (k + 1 = mBeh nR g (mAtN (g 4) k nR) ∨ ¬ g 6 (mAtN (g 4) k nR) = -1 ∨ nR = 8)) ∧ u.1 = va_up f 0 2 ∧ u.2 = g) ∨ ((xKey k ∧ ¬ k + 1 = mBeh nR g (mAtN (g 4) k nR) ∧ g 6 (mAtN (g 4) k nR) = -1 ∧ nR < 8) ∧ z = nI (mAtN (g 4) k nR + 1) ∧ u.1 = va_up (va_up f 0 0) 3 (nI (nR + 1)) ∧ u.2 = va_up (va_up (va_up (mUpG (mAtN (g 4) k nR + 1) g (nR - (mAtN (g 4) k nR + 1))) 4 (upd ((mUpG (mAtN (g 4) k nR + 1) g (nR - (mAtN (g 4) k nR + 1))) 4) (mAtN (g 4) k nR + 1) (k + 1))) 5 (upd ((mUpG (mAtN (g 4) k nR + 1) g (nR - (mAtN (g 4) k nR + 1))) 5) (mAtN (g 4) k nR + 1) ((mUpG (mAtN (g 4) k nR + 1) g (nR - (mAtN (g 4) k nR + 1))) 5 (mAtN (g 4) k nR)))) 6 (upd ((mUpG (mAtN (g 4) k nR + 1) g (nR - (mAtN (g 4) k nR + 1))) 6) (mAtN (g 4) k nR + 1) (-1)))) (qAt D A (fun u : qFs × qGs => mW cA cZ ad u.1 u.2)) A) ([.ref (ad 18), .int k] : List Value).toArray s 0 0 A) (F0 m 69 ls []) := by
              intro nme
              induction nme using Nat.strongRecOn with
              | ind nme ih =>
                intro t g1 hnme ht hc H locs hP hD hS ls hl
                refine lv_iload_n hx hb dX1_split_69 rfl (lv_at hl 3 rfl) ?_
                refine lv_iload_n hx hb dX1_split_70 rfl (lv_at hl 2 rfl) ?_
                refine lv_iconst (v := 1) hx hb dX1_split_71 (by decide) ?_
                refine lv_iadd hx hb dX1_split_72 ?_
                refine lv_topi (fun v_72 hv_72 => ?_)
                have hv_72 : v_72 = nI (mAtN (g 4) k nR + 1) := hv_72.trans (nI_1 _)
                subst hv_72
                refine lv_icmp_le (tgt := 90) hx hb dX1_split_73 (by decide) (fun c_73 => ?_) (fun c_73 => ?_)
                · skip
                  have h0 : t = 0 := by have := n_ge c_73 (by omega) (by omega); omega
                  subst h0
                  have hc : g1 = (mUpG (mAtN (g 4) k nR + 1) g (nR - (mAtN (g 4) k nR + 1))) := hc
                  rw [hc] at hP hD
                  refine lv_aload_n hx hb dX1_split_90 rfl (lv_at hl 0 rfl) ?_
                  refine va_get (D := D) (ci := 1) (v := .ref (ad 4)) (C := RX1) (T := TX1) (N := 18) hx hb hts hfin hown hK hP 0 rfl rfl 4 (by decide) (hts _ (List.mem_cons_of_mem _ (List.mem_append_left _ (List.mem_append_left _ (List.mem_of_getElem? (i := 3) rfl))))) (fun _ h9 => h9) rfl dX1_split_91 ?_
                  refine lv_iload_n hx hb dX1_split_94 rfl (lv_at hl 2 rfl) ?_
                  refine lv_iconst (v := 1) hx hb dX1_split_95 (by decide) ?_
                  refine lv_iadd hx hb dX1_split_96 ?_
                  refine lv_topi (fun v_96 hv_96 => ?_)
                  have hv_96 : v_96 = nI (mAtN (g 4) k nR + 1) := hv_96.trans (nI_1 _)
                  subst hv_96
                  refine lv_iload_n hx hb dX1_split_97 rfl (lv_at hl 1 rfl) ?_
                  refine lv_iconst (v := 1) hx hb dX1_split_98 (by decide) ?_
                  refine lv_iadd hx hb dX1_split_99 ?_
                  refine va_iast hx hb hK hP hD hS 2 0 rfl rfl (vp_in_nI (by omega) (by decide)) dX1_split_100 (fun H locs hP hD hS => ?_)
                  have hix : (nI (mAtN (g 4) k nR + 1)).toNatClampNeg = mAtN (g 4) k nR + 1 := nI_clamp (by omega)
                  rw [hix] at hP hD
                  have hP : va_P D vwCl (mW cA cZ ad (va_up f 0 0) (va_up (mUpG (mAtN (g 4) k nR + 1) g (nR - (mAtN (g 4) k nR + 1))) 4 (upd ((mUpG (mAtN (g 4) k nR + 1) g (nR - (mAtN (g 4) k nR + 1))) 4) (mAtN (g 4) k nR + 1) (k + 1)))) H := hP
                  have hD : va_D A (mW cA cZ ad (va_up f 0 0) (va_up (mUpG (mAtN (g 4) k nR + 1) g (nR - (mAtN (g 4) k nR + 1))) 4 (upd ((mUpG (mAtN (g 4) k nR + 1) g (nR - (mAtN (g 4) k nR + 1))) 4) (mAtN (g 4) k nR + 1) (k + 1)))) := hD
                  refine lv_aload_n hx hb dX1_split_101 rfl (lv_at hl 0 rfl) ?_
                  refine va_get (D := D) (ci := 1) (v := .ref (ad 5)) (C := RX1) (T := TX1) (N := 18) hx hb hts hfin hown hK hP 0 rfl rfl 5 (by decide) (hts _ (List.mem_cons_of_mem _ (List.mem_append_left _ (List.mem_append_left _ (List.mem_of_getElem? (i := 4) rfl))))) (fun _ h9 => h9) rfl dX1_split_102 ?_
                  refine lv_iload_n hx hb dX1_split_105 rfl (lv_at hl 2 rfl) ?_
                  refine lv_iconst (v := 1) hx hb dX1_split_106 (by decide) ?_
                  refine lv_iadd hx hb dX1_split_107 ?_
                  refine lv_topi (fun v_107 hv_107 => ?_)
                  have hv_107 : v_107 = nI (mAtN (g 4) k nR + 1) := hv_107.trans (nI_1 _)
                  subst hv_107
                  refine lv_aload_n hx hb dX1_split_108 rfl (lv_at hl 0 rfl) ?_
                  refine va_get (D := D) (ci := 1) (v := .ref (ad 5)) (C := RX1) (T := TX1) (N := 18) hx hb hts hfin hown hK hP 0 rfl rfl 5 (by decide) (hts _ (List.mem_cons_of_mem _ (List.mem_append_left _ (List.mem_append_left _ (List.mem_of_getElem? (i := 4) rfl))))) (fun _ h9 => h9) rfl dX1_split_109 ?_
                  refine lv_iload_n hx hb dX1_split_112 rfl (lv_at hl 2 rfl) ?_
                  refine va_iald hx hb hK hP 3 0 rfl rfl (vp_in_nI (by omega) (by decide)) dX1_split_113 ?_
                  refine lv_topi (fun v_113 hv_113 => ?_)
                  have hv_113 : v_113 = (mUpG (mAtN (g 4) k nR + 1) g (nR - (mAtN (g 4) k nR + 1))) 5 (mAtN (g 4) k nR) := hv_113.trans (by rw [nI_clamp (by omega)]; rfl)
                  subst hv_113
                  refine va_iast hx hb hK hP hD hS 3 0 rfl rfl (vp_in_nI (by omega) (by decide)) dX1_split_114 (fun H locs hP hD hS => ?_)
                  have hix : (nI (mAtN (g 4) k nR + 1)).toNatClampNeg = mAtN (g 4) k nR + 1 := nI_clamp (by omega)
                  rw [hix] at hP hD
                  have hP : va_P D vwCl (mW cA cZ ad (va_up f 0 0) (va_up (va_up (mUpG (mAtN (g 4) k nR + 1) g (nR - (mAtN (g 4) k nR + 1))) 4 (upd ((mUpG (mAtN (g 4) k nR + 1) g (nR - (mAtN (g 4) k nR + 1))) 4) (mAtN (g 4) k nR + 1) (k + 1))) 5 (upd ((mUpG (mAtN (g 4) k nR + 1) g (nR - (mAtN (g 4) k nR + 1))) 5) (mAtN (g 4) k nR + 1) ((mUpG (mAtN (g 4) k nR + 1) g (nR - (mAtN (g 4) k nR + 1))) 5 (mAtN (g 4) k nR))))) H := hP
                  have hD : va_D A (mW cA cZ ad (va_up f 0 0) (va_up (va_up (mUpG (mAtN (g 4) k nR + 1) g (nR - (mAtN (g 4) k nR + 1))) 4 (upd ((mUpG (mAtN (g 4) k nR + 1) g (nR - (mAtN (g 4) k nR + 1))) 4) (mAtN (g 4) k nR + 1) (k + 1))) 5 (upd ((mUpG (mAtN (g 4) k nR + 1) g (nR - (mAtN (g 4) k nR + 1))) 5) (mAtN (g 4) k nR + 1) ((mUpG (mAtN (g 4) k nR + 1) g (nR - (mAtN (g 4) k nR + 1))) 5 (mAtN (g 4) k nR))))) := hD
                  refine lv_aload_n hx hb dX1_split_115 rfl (lv_at hl 0 rfl) ?_
                  refine va_get (D := D) (ci := 1) (v := .ref (ad 6)) (C := RX1) (T := TX1) (N := 18) hx hb hts hfin hown hK hP 0 rfl rfl 6 (by decide) (hts _ (List.mem_cons_of_mem _ (List.mem_append_left _ (List.mem_append_left _ (List.mem_of_getElem? (i := 0) rfl))))) (fun _ h9 => h9) rfl dX1_split_116 ?_
                  refine lv_iload_n hx hb dX1_split_119 rfl (lv_at hl 2 rfl) ?_
                  refine lv_iconst (v := 1) hx hb dX1_split_120 (by decide) ?_
                  refine lv_iadd hx hb dX1_split_121 ?_
                  refine lv_topi (fun v_121 hv_121 => ?_)
                  have hv_121 : v_121 = nI (mAtN (g 4) k nR + 1) := hv_121.trans (nI_1 _)
                  subst hv_121
                  refine lv_iconst (v := (-1)) hx hb dX1_split_122 (by decide) ?_
                  refine va_iast hx hb hK hP hD hS 4 0 rfl rfl (vp_in_nI (by omega) (by decide)) dX1_split_123 (fun H locs hP hD hS => ?_)
                  have hix : (nI (mAtN (g 4) k nR + 1)).toNatClampNeg = mAtN (g 4) k nR + 1 := nI_clamp (by omega)
                  rw [hix] at hP hD
                  have hP : va_P D vwCl (mW cA cZ ad (va_up f 0 0) (va_up (va_up (va_up (mUpG (mAtN (g 4) k nR + 1) g (nR - (mAtN (g 4) k nR + 1))) 4 (upd ((mUpG (mAtN (g 4) k nR + 1) g (nR - (mAtN (g 4) k nR + 1))) 4) (mAtN (g 4) k nR + 1) (k + 1))) 5 (upd ((mUpG (mAtN (g 4) k nR + 1) g (nR - (mAtN (g 4) k nR + 1))) 5) (mAtN (g 4) k nR + 1) ((mUpG (mAtN (g 4) k nR + 1) g (nR - (mAtN (g 4) k nR + 1))) 5 (mAtN (g 4) k nR)))) 6 (upd ((mUpG (mAtN (g 4) k nR + 1) g (nR - (mAtN (g 4) k nR + 1))) 6) (mAtN (g 4) k nR + 1) (-1)))) H := hP
                  have hD : va_D A (mW cA cZ ad (va_up f 0 0) (va_up (va_up (va_up (mUpG (mAtN (g 4) k nR + 1) g (nR - (mAtN (g 4) k nR + 1))) 4 (upd ((mUpG (mAtN (g 4) k nR + 1) g (nR - (mAtN (g 4) k nR + 1))) 4) (mAtN (g 4) k nR + 1) (k + 1))) 5 (upd ((mUpG (mAtN (g 4) k nR + 1) g (nR - (mAtN (g 4) k nR + 1))) 5) (mAtN (g 4) k nR + 1) ((mUpG (mAtN (g 4) k nR + 1) g (nR - (mAtN (g 4) k nR + 1))) 5 (mAtN (g 4) k nR)))) 6 (upd ((mUpG (mAtN (g 4) k nR + 1) g (nR - (mAtN (g 4) k nR + 1))) 6) (mAtN (g 4) k nR + 1) (-1)))) := hD
                  refine lv_aload_n hx hb dX1_split_124 rfl (lv_at hl 0 rfl) ?_
                  refine lv_dup hx hb dX1_split_125 rfl ?_
                  refine va_get (D := D) (ci := 1) (v := .int (f 3)) (C := RX1) (T := TX1) (N := 18) hx hb hts hfin hown hK hP 0 rfl rfl 3 (by decide) (hts _ (List.mem_cons_of_mem _ (List.mem_append_left _ (List.mem_append_left _ (List.mem_of_getElem? (i := 1) rfl))))) (fun _ h9 => h9) rfl dX1_split_126 ?_
                  refine lv_topi (fun v_126 hv_126 => ?_)
                  have hv_126 : v_126 = nI nR := hv_126.trans (hI.1)
                  subst hv_126
                  refine lv_iconst (v := 1) hx hb dX1_split_129 (by decide) ?_
                  refine lv_iadd hx hb dX1_split_130 ?_
                  refine lv_topi (fun v_130 hv_130 => ?_)
                  have hv_130 : v_130 = nI (nR + 1) := hv_130.trans (nI_1 _)
                  subst hv_130
                  refine va_put (D := D) (ci := 1) (v := .int (nI (nR + 1))) (ty := .int) (C := RX1) (T := TX1) (N := 18) hx hb hts hfin tyX1 tyX1_ok nmX1 hown hK hP hD hS 0 rfl rfl 3 (by decide) (hts _ (List.mem_cons_of_mem _ (List.mem_append_left _ (List.mem_append_left _ (List.mem_of_getElem? (i := 1) rfl))))) (fun _ h9 => h9) rfl (by decide +kernel) (rfl) (rfl) (Nat.le_of_ble_eq_true rfl) dX1_split_131 (fun H locs hP hD hS => ?_)
                  have hP : va_P D vwCl (mW cA cZ ad (va_up (va_up f 0 0) 3 (nI (nR + 1))) (va_up (va_up (va_up (mUpG (mAtN (g 4) k nR + 1) g (nR - (mAtN (g 4) k nR + 1))) 4 (upd ((mUpG (mAtN (g 4) k nR + 1) g (nR - (mAtN (g 4) k nR + 1))) 4) (mAtN (g 4) k nR + 1) (k + 1))) 5 (upd ((mUpG (mAtN (g 4) k nR + 1) g (nR - (mAtN (g 4) k nR + 1))) 5) (mAtN (g 4) k nR + 1) ((mUpG (mAtN (g 4) k nR + 1) g (nR - (mAtN (g 4) k nR + 1))) 5 (mAtN (g 4) k nR)))) 6 (upd ((mUpG (mAtN (g 4) k nR + 1) g (nR - (mAtN (g 4) k nR + 1))) 6) (mAtN (g 4) k nR + 1) (-1)))) H := hP
                  have hD : va_D A (mW cA cZ ad (va_up (va_up f 0 0) 3 (nI (nR + 1))) (va_up (va_up (va_up (mUpG (mAtN (g 4) k nR + 1) g (nR - (mAtN (g 4) k nR + 1))) 4 (upd ((mUpG (mAtN (g 4) k nR + 1) g (nR - (mAtN (g 4) k nR + 1))) 4) (mAtN (g 4) k nR + 1) (k + 1))) 5 (upd ((mUpG (mAtN (g 4) k nR + 1) g (nR - (mAtN (g 4) k nR + 1))) 5) (mAtN (g 4) k nR + 1) ((mUpG (mAtN (g 4) k nR + 1) g (nR - (mAtN (g 4) k nR + 1))) 5 (mAtN (g 4) k nR)))) 6 (upd ((mUpG (mAtN (g 4) k nR + 1) g (nR - (mAtN (g 4) k nR + 1))) 6) (mAtN (g 4) k nR + 1) (-1)))) := hD
                  refine lv_iload_n hx hb dX1_split_134 rfl (lv_at hl 2 rfl) ?_
                  refine lv_iconst (v := 1) hx hb dX1_split_135 (by decide) ?_
                  refine lv_iadd hx hb dX1_split_136 ?_
                  refine lv_topi (fun v_136 hv_136 => ?_)
                  have hv_136 : v_136 = nI (mAtN (g 4) k nR + 1) := hv_136.trans (nI_1 _)
                  subst hv_136
                  exact W.iret (v := nI (mAtN (g 4) k nR + 1)) hx hb hr (fun t ht hW => ⟨⟨nI (mAtN (g 4) k nR + 1), ((va_up (va_up f 0 0) 3 (nI (nR + 1))), (va_up (va_up (va_up (mUpG (mAtN (g 4) k nR + 1) g (nR - (mAtN (g 4) k nR + 1))) 4 (upd ((mUpG (mAtN (g 4) k nR + 1) g (nR - (mAtN (g 4) k nR + 1))) 4) (mAtN (g 4) k nR + 1) (k + 1))) 5 (upd ((mUpG (mAtN (g 4) k nR + 1) g (nR - (mAtN (g 4) k nR + 1))) 5) (mAtN (g 4) k nR + 1) ((mUpG (mAtN (g 4) k nR + 1) g (nR - (mAtN (g 4) k nR + 1))) 5 (mAtN (g 4) k nR)))) 6 (upd ((mUpG (mAtN (g 4) k nR + 1) g (nR - (mAtN (g 4) k nR + 1))) 6) (mAtN (g 4) k nR + 1) (-1)))), rfl, (Or.inr (Or.inr (⟨⟨c_5, c_25, c_35, hn8⟩, rfl, rfl, rfl⟩))), by rw [ht]; exact hP, hD⟩, hS.F ht⟩) hS.2.2 dX1_split_137
                · skip
                  obtain ⟨t, rfl⟩ : ∃ q, t = q + 1 := ⟨t - 1, by have := n_lt c_73 (by omega); omega⟩
                  have hl : lv_has ls 4 [(0, .ref (ad 18)), (1, .int k), (2, .int (nI (mAtN (g 4) k nR))), (3, .int (nI (mAtN (g 4) k nR + 1 + t + 1)))] := hl
                  refine lv_aload_n hx hb dX1_split_76 rfl (lv_at hl 0 rfl) ?_
                  refine lv_iload_n hx hb dX1_split_77 rfl (lv_at hl 3 rfl) ?_
                  refine lv_iconst (v := 1) hx hb dX1_split_78 (by decide) ?_
                  refine lv_isub hx hb dX1_split_79 ?_
                  refine lv_topi (fun v_79 hv_79 => ?_)
                  have hv_79 : v_79 = nI (mAtN (g 4) k nR + 1 + t) := hv_79.trans (nI_pred _)
                  subst hv_79
                  refine lv_iload_n hx hb dX1_split_80 rfl (lv_at hl 3 rfl) ?_
                  refine qb_callv (va_runV (As := [.int (nI (mAtN (g 4) k nR + 1 + t)), .int (nI (mAtN (g 4) k nR + 1 + t + 1))]) (rest := []) ⟨hx, hb, hml, hown, hts⟩ (c_X1_copies l D cA cZ cL ad (va_up f 0 0) g1 H.size ((mAtN (g 4) k nR + 1) + t) ((mAtN (g 4) k nR + 1) + t + 1) (by omega) (by omega)) (cwV 2 hts gX1_split_X1_copies rfl rfl rfl (by decide +kernel) ⟨Nat.le_of_ble_eq_true rfl, Nat.le_of_ble_eq_true rfl⟩) ⟨qPreW_blind, va_recv hK hP (ci := 1) (q0 := 0) rfl rfl, qPreW_at hP hK hD⟩ rfl rfl hl.1 rfl (lv_room (Nat.le_of_ble_eq_true rfl)) dX1_split_81 ⟨Nat.le_of_ble_eq_true rfl, Nat.le_of_ble_eq_true rfl⟩) hD hS hA (fun u H locs hu hP hD hS => ?_)
                  obtain ⟨uf, ug⟩ := u
                  obtain ⟨hu1, hu2⟩ := hu
                  have hu1 : uf = (va_up f 0 0) := hu1
                  have hu2 : ug = mCopyG g1 ((mAtN (g 4) k nR + 1) + t) ((mAtN (g 4) k nR + 1) + t + 1) := hu2
                  have hP : va_P D vwCl (mW cA cZ ad uf ug) H := hP
                  have hD : va_D A (mW cA cZ ad uf ug) := hD
                  rw [hu1, hu2] at hP hD
                  have hP : va_P D vwCl (mW cA cZ ad (va_up f 0 0) (mCopyG g1 ((mAtN (g 4) k nR + 1) + t) ((mAtN (g 4) k nR + 1) + t + 1))) H := hP
                  have hD : va_D A (mW cA cZ ad (va_up f 0 0) (mCopyG g1 ((mAtN (g 4) k nR + 1) + t) ((mAtN (g 4) k nR + 1) + t + 1))) := hD
                  refine lv_iinc (v := nI (mAtN (g 4) k nR + 1 + t)) (lv' := [(3, .int (nI (mAtN (g 4) k nR + 1 + t))), (0, .ref (ad 18)), (1, .int k), (2, .int (nI (mAtN (g 4) k nR)))]) hx hb dX1_split_84 hl (k := 3) rfl ((i_m1 _).trans (nI_pred _)) (by decide) rfl (fun ls hl => ?_)
                  refine lv_goto (tgt := 69) hx hb dX1_split_87 (by decide) ?_
                  exact ih _ (by omega) t (mCopyG g1 ((mAtN (g 4) k nR + 1) + t) ((mAtN (g 4) k nR + 1) + t + 1)) rfl (by omega) (by rw [← hc]; rfl) _ _ hP hD hS _ (lv_sub hl [1, 2, 3, 0] rfl)
            exact hloop_69 _ (nR - (mAtN (g 4) k nR + 1)) g rfl (by omega) rfl _ _ hP hD hS _ (lv_sub hl [2, 3, 1, 0] rfl)
          · skip
            exact absurd c_59 (by decide)
        · skip
          have hn8 : nR = 8 := (nI_eq (b := 8) (by omega) (by decide)).mp c_44
          refine lv_iconst (v := 2) hx hb dX1_split_47 (by decide) ?_
          refine lv_goto (tgt := 52) hx hb dX1_split_48 (by decide) ?_
          refine va_put (D := D) (ci := 1) (v := .int 2) (ty := .int) (C := RX1) (T := TX1) (N := 18) hx hb hts hfin tyX1 tyX1_ok nmX1 hown hK hP hD hS 0 rfl rfl 0 (by decide) (hts _ (List.mem_cons_of_mem _ (List.mem_append_left _ (List.mem_append_left _ (List.mem_of_getElem? (i := 2) rfl))))) (fun _ h9 => h9) rfl (by decide +kernel) (rfl) (rfl) (Nat.le_of_ble_eq_true rfl) dX1_split_52 (fun H locs hP hD hS => ?_)
          have hP : va_P D vwCl (mW cA cZ ad (va_up (va_up f 0 (if xKey k then 0 else 1)) 0 2) g) H := hP
          have hD : va_D A (mW cA cZ ad (va_up (va_up f 0 (if xKey k then 0 else 1)) 0 2) g) := hD
          refine lv_aload_n hx hb dX1_split_55 rfl (lv_at hl 1 rfl) ?_
          refine va_get (D := D) (ci := 1) (v := .int 2) (C := RX1) (T := TX1) (N := 18) hx hb hts hfin hown hK hP 0 rfl rfl 0 (by decide) (hts _ (List.mem_cons_of_mem _ (List.mem_append_left _ (List.mem_append_left _ (List.mem_of_getElem? (i := 2) rfl))))) (fun _ h9 => h9) rfl dX1_split_56 ?_
          refine lv_if_le (tgt := 64) hx hb dX1_split_59 (by decide) (fun c_59 => ?_) (fun c_59 => ?_)
          · skip
            exact absurd c_59 (by decide)
          · skip
            refine lv_iconst (v := 0) hx hb dX1_split_62 (by decide) ?_
            exact W.iret (v := 0) hx hb hr (fun t ht hW => ⟨⟨0, ((va_up (va_up f 0 (if xKey k then 0 else 1)) 0 2), g), rfl, (Or.inr (Or.inl (⟨⟨c_5, Or.inr (Or.inr hn8)⟩, (by rw [if_pos c_5, bx_uu]), rfl⟩))), by rw [ht]; exact hP, hD⟩, hS.F ht⟩) hS.2.2 dX1_split_63
  · have c_5 := bI_0.mp c_5
    refine lv_iconst (v := 0) hx hb dX1_split_8 (by decide) ?_
    exact W.iret (v := 0) hx hb hr (fun t ht hW => ⟨⟨0, ((va_up f 0 (if xKey k then 0 else 1)), g), rfl, (Or.inl (⟨c_5, (by rw [if_neg c_5]), rfl⟩)), by rw [ht]; exact hP, hD⟩, hS.F ht⟩) hS.2.2 dX1_split_9
set_option maxHeartbeats 4000000 in
set_option maxRecDepth 100000 in
/-- merge -/
theorem c_X1_merge (l : Launch) (D : va_G) (cA cZ cL : ClassId) (ad : Nat → Nat) (f : qFs) (g : qGs) (sz : Nat) (r : Int32) (nR : Nat) (nB : Nat) (hI : mI nR nB f) : Met l yX1_merge wsX1_merge ({ frames := 2, cells := 0, slots := 0, locals := 43 } : Room) (va_Pc [.ref (ad 18), .int r] (qPreW D (qTy cA cZ cL) (mW cA cZ ad f g) sz)) (va_Qi (fun (z : Int32) (u : qFs × qGs) => ((¬ mRange f r) ∧ u.1 = va_up f 0 1 ∧ u.2 = g) ∨ ((mRange f r ∧ ¬ (r.toNatClampNeg + 1 < nR ∧ g 5 r.toNatClampNeg = g 5 (r.toNatClampNeg + 1) ∧ g 6 r.toNatClampNeg = -1 ∧ g 6 (r.toNatClampNeg + 1) = -1)) ∧ u.1 = va_up f 0 2 ∧ u.2 = g) ∨ ((mRange f r ∧ (r.toNatClampNeg + 1 < nR ∧ g 5 r.toNatClampNeg = g 5 (r.toNatClampNeg + 1) ∧ g 6 r.toNatClampNeg = -1 ∧ g 6 (r.toNatClampNeg + 1) = -1)) ∧ z = nI (nR - 1) ∧ u.1 = va_up (va_up f 0 0) 3 (nI (nR - 1)) ∧ u.2 = va_up (mDnG g (r.toNatClampNeg + 2) (nR - (r.toNatClampNeg + 2))) 6 (upd (mDnG g (r.toNatClampNeg + 2) (nR - (r.toNatClampNeg + 2)) 6) (nR - 1) (-1)))) (qAt D (va_A (mW cA cZ ad f g) sz) (fun u : qFs × qGs => mW cA cZ ad u.1 u.2)) (va_A (mW cA cZ ad f g) sz)) 0 0 (va_A (mW cA cZ ad f g) sz) := by
  refine Met.ofW (cc := cX1_merge) (maxL := 3) (ret := (some .int)) (by decide) rfl ?_
  intro p e s m args below meth c s₁ B hml hv
  obtain ⟨rfl, hsz, hP, hK, hD0⟩ := hv
  have hx := B.exec
  have hb := B.bytes
  have hr := B.returns
  have hts := atoms_spec (ws := wsX1_merge) B.pre
  have hown : s.vm.findClass RX1 = some m.cls := findClass_of_methodNamed B.named
  have hlocks := B.notSynchronized
  subst hsz
  have hD := hD0.self (sz := s.heap.size)
  generalize hAe : va_A (mW cA cZ ad f g) s.heap.size = A at hD ⊢
  have hA : ∀ q : Nat, s.heap.size ≤ q → A q := fun q h => by rw [← hAe]; exact Or.inr h
  have hS : va_S A s.heap s.heap [] := va_S.rf
  have hfin : ∀ w ∈ wsX10, w ∈ wsX1_merge := fun w h => (List.mem_cons_of_mem _ (List.mem_append_right _ h))
  have hl := lv_entry ([.ref (ad 18), .int r]) (n := 3) (Nat.le_of_ble_eq_true rfl)
  rw [lg_entry_eq]
  generalize (lg_sl ([.ref (ad 18), .int r]) ++ List.replicate (3 - (lg_sl ([.ref (ad 18), .int r])).length) Slot.unset).toArray = ls at hl ⊢
  have hl : lv_has ls 3 [(0, .ref (ad 18)), (1, .int r)] := hl
  have hR8 := hI.2.2.1
  refine lv_aload_n hx hb dX1_merge_0 rfl (lv_at hl 0 rfl) ?_
  refine lv_aload_n hx hb dX1_merge_1 rfl (lv_at hl 0 rfl) ?_
  refine lv_iload_n hx hb dX1_merge_2 rfl (lv_at hl 1 rfl) ?_
  refine vp_callSi (W.runV (As := [.int r]) (rest := [.ref (ad 18)]) ⟨hx, hb, hml, hown, hts⟩ (c_X1_isRange l D cA cZ cL ad f g r nR nB hI) (cwV 1 hts gX1_merge_X1_isRange rfl rfl rfl (by decide +kernel) ⟨Nat.le_of_ble_eq_true rfl, Nat.le_of_ble_eq_true rfl⟩) ⟨qPre_blind, va_recv hK hP (ci := 1) (q0 := 0) rfl rfl, qPre_at hP hK⟩ rfl rfl hl.1 rfl (lv_room (Nat.le_of_ble_eq_true rfl)) dX1_merge_3 ⟨Nat.le_of_ble_eq_true rfl, Nat.le_of_ble_eq_true rfl⟩) (fun z hz => ?_)
  subst hz
  refine lv_if_eq (tgt := 13) hx hb dX1_merge_6 (by decide) (fun c_6 => ?_) (fun c_6 => ?_)
  · have c_6 := bI_0.mp c_6
    refine lv_iconst (v := 1) hx hb dX1_merge_13 (by decide) ?_
    refine va_put (D := D) (ci := 1) (v := .int 1) (ty := .int) (C := RX1) (T := TX1) (N := 18) hx hb hts hfin tyX1 tyX1_ok nmX1 hown hK hP hD hS 0 rfl rfl 0 (by decide) (hts _ (List.mem_cons_of_mem _ (List.mem_append_left _ (List.mem_of_getElem? (i := 0) rfl)))) (fun _ h9 => h9) rfl (by decide +kernel) (rfl) (rfl) (Nat.le_of_ble_eq_true rfl) dX1_merge_14 (fun H locs hP hD hS => ?_)
    have hP : va_P D vwCl (mW cA cZ ad (va_up f 0 1) g) H := hP
    have hD : va_D A (mW cA cZ ad (va_up f 0 1) g) := hD
    refine lv_aload_n hx hb dX1_merge_17 rfl (lv_at hl 0 rfl) ?_
    refine va_get (D := D) (ci := 1) (v := .int 1) (C := RX1) (T := TX1) (N := 18) hx hb hts hfin hown hK hP 0 rfl rfl 0 (by decide) (hts _ (List.mem_cons_of_mem _ (List.mem_append_left _ (List.mem_of_getElem? (i := 0) rfl)))) (fun _ h9 => h9) rfl dX1_merge_18 ?_
    refine lv_if_ne (tgt := 92) hx hb dX1_merge_21 (by decide) (fun c_21 => ?_) (fun c_21 => ?_)
    · skip
      refine lv_aload_n hx hb dX1_merge_92 rfl (lv_at hl 0 rfl) ?_
      refine va_get (D := D) (ci := 1) (v := .int 1) (C := RX1) (T := TX1) (N := 18) hx hb hts hfin hown hK hP 0 rfl rfl 0 (by decide) (hts _ (List.mem_cons_of_mem _ (List.mem_append_left _ (List.mem_of_getElem? (i := 0) rfl)))) (fun _ h9 => h9) rfl dX1_merge_93 ?_
      refine lv_if_le (tgt := 101) hx hb dX1_merge_96 (by decide) (fun c_96 => ?_) (fun c_96 => ?_)
      · skip
        exact absurd c_96 (by decide)
      · skip
        refine lv_iconst (v := 0) hx hb dX1_merge_99 (by decide) ?_
        exact W.iret (v := 0) hx hb hr (fun t ht hW => ⟨⟨0, ((va_up f 0 1), g), rfl, (Or.inl (⟨c_6, rfl, rfl⟩)), by rw [ht]; exact hP, hD⟩, hS.F ht⟩) hS.2.2 dX1_merge_100
    · skip
      exact absurd c_21 (by decide)
  · have c_6 := bI_n.mp c_6
    refine lv_iconst (v := 0) hx hb dX1_merge_9 (by decide) ?_
    refine lv_goto (tgt := 14) hx hb dX1_merge_10 (by decide) ?_
    refine va_put (D := D) (ci := 1) (v := .int 0) (ty := .int) (C := RX1) (T := TX1) (N := 18) hx hb hts hfin tyX1 tyX1_ok nmX1 hown hK hP hD hS 0 rfl rfl 0 (by decide) (hts _ (List.mem_cons_of_mem _ (List.mem_append_left _ (List.mem_of_getElem? (i := 0) rfl)))) (fun _ h9 => h9) rfl (by decide +kernel) (rfl) (rfl) (Nat.le_of_ble_eq_true rfl) dX1_merge_14 (fun H locs hP hD hS => ?_)
    have hP : va_P D vwCl (mW cA cZ ad (va_up f 0 0) g) H := hP
    have hD : va_D A (mW cA cZ ad (va_up f 0 0) g) := hD
    refine lv_aload_n hx hb dX1_merge_17 rfl (lv_at hl 0 rfl) ?_
    refine va_get (D := D) (ci := 1) (v := .int 0) (C := RX1) (T := TX1) (N := 18) hx hb hts hfin hown hK hP 0 rfl rfl 0 (by decide) (hts _ (List.mem_cons_of_mem _ (List.mem_append_left _ (List.mem_of_getElem? (i := 0) rfl)))) (fun _ h9 => h9) rfl dX1_merge_18 ?_
    refine lv_if_ne (tgt := 92) hx hb dX1_merge_21 (by decide) (fun c_21 => ?_) (fun c_21 => ?_)
    · skip
      exact absurd c_21 (by decide)
    · skip
      obtain ⟨n, hn, rfl⟩ := m_nat hI c_6
      have hcn : (nI n).toNatClampNeg = n := nI_clamp (by omega)
      refine lv_iload_n hx hb dX1_merge_24 rfl (lv_at hl 1 rfl) ?_
      refine lv_iconst (v := 1) hx hb dX1_merge_25 (by decide) ?_
      refine lv_iadd hx hb dX1_merge_26 ?_
      refine lv_topi (fun v_26 hv_26 => ?_)
      have hv_26 : v_26 = nI (n + 1) := hv_26.trans (nI_1 n)
      subst hv_26
      refine lv_aload_n hx hb dX1_merge_27 rfl (lv_at hl 0 rfl) ?_
      refine va_get (D := D) (ci := 1) (v := .int (f 3)) (C := RX1) (T := TX1) (N := 18) hx hb hts hfin hown hK hP 0 rfl rfl 3 (by decide) (hts _ (List.mem_cons_of_mem _ (List.mem_append_left _ (List.mem_of_getElem? (i := 1) rfl)))) (fun _ h9 => h9) rfl dX1_merge_28 ?_
      refine lv_topi (fun v_28 hv_28 => ?_)
      have hv_28 : v_28 = nI nR := hv_28.trans (hI.1)
      subst hv_28
      refine lv_icmp_ge (tgt := 77) hx hb dX1_merge_31 (by decide) (fun c_31 => ?_) (fun c_31 => ?_)
      · skip
        have hge0 : nR ≤ n + 1 := n_ge c_31 (by omega) (by omega)
        refine lv_iconst (v := 0) hx hb dX1_merge_77 (by decide) ?_
        refine lv_istore_n (lv' := [(2, .int 0), (0, .ref (ad 18)), (1, .int (nI n))]) hx hb dX1_merge_78 rfl hl (by decide) rfl (fun ls hl => ?_)
        refine lv_aload_n hx hb dX1_merge_79 rfl (lv_at hl 1 rfl) ?_
        refine lv_iload_n hx hb dX1_merge_80 rfl (lv_at hl 0 rfl) ?_
        refine lv_if_eq (tgt := 88) hx hb dX1_merge_81 (by decide) (fun c_81 => ?_) (fun c_81 => ?_)
        · skip
          refine lv_iconst (v := 2) hx hb dX1_merge_88 (by decide) ?_
          refine va_put (D := D) (ci := 1) (v := .int 2) (ty := .int) (C := RX1) (T := TX1) (N := 18) hx hb hts hfin tyX1 tyX1_ok nmX1 hown hK hP hD hS 0 rfl rfl 0 (by decide) (hts _ (List.mem_cons_of_mem _ (List.mem_append_left _ (List.mem_of_getElem? (i := 0) rfl)))) (fun _ h9 => h9) rfl (by decide +kernel) (rfl) (rfl) (Nat.le_of_ble_eq_true rfl) dX1_merge_89 (fun H locs hP hD hS => ?_)
          have hP : va_P D vwCl (mW cA cZ ad (va_up f 0 2) g) H := hP
          have hD : va_D A (mW cA cZ ad (va_up f 0 2) g) := hD
          refine lv_aload_n hx hb dX1_merge_92 rfl (lv_at hl 1 rfl) ?_
          refine va_get (D := D) (ci := 1) (v := .int 2) (C := RX1) (T := TX1) (N := 18) hx hb hts hfin hown hK hP 0 rfl rfl 0 (by decide) (hts _ (List.mem_cons_of_mem _ (List.mem_append_left _ (List.mem_of_getElem? (i := 0) rfl)))) (fun _ h9 => h9) rfl dX1_merge_93 ?_
          refine lv_if_le (tgt := 101) hx hb dX1_merge_96 (by decide) (fun c_96 => ?_) (fun c_96 => ?_)
          · skip
            exact absurd c_96 (by decide)
          · skip
            refine lv_iconst (v := 0) hx hb dX1_merge_99 (by decide) ?_
            exact W.iret (v := 0) hx hb hr (fun t ht hW => ⟨⟨0, ((va_up f 0 2), g), rfl, (Or.inr (Or.inl (⟨⟨c_6, by rw [hcn]; exact fun q => absurd q.1 (by omega)⟩, rfl, rfl⟩))), by rw [ht]; exact hP, hD⟩, hS.F ht⟩) hS.2.2 dX1_merge_100
        · skip
          exact absurd c_81 (by decide)
      · skip
        have hlt0 : n + 1 < nR := n_lt c_31 (by omega)
        refine lv_aload_n hx hb dX1_merge_34 rfl (lv_at hl 0 rfl) ?_
        refine va_get (D := D) (ci := 1) (v := .ref (ad 5)) (C := RX1) (T := TX1) (N := 18) hx hb hts hfin hown hK hP 0 rfl rfl 5 (by decide) (hts _ (List.mem_cons_of_mem _ (List.mem_append_left _ (List.mem_of_getElem? (i := 2) rfl)))) (fun _ h9 => h9) rfl dX1_merge_35 ?_
        refine lv_iload_n hx hb dX1_merge_38 rfl (lv_at hl 1 rfl) ?_
        refine va_iald hx hb hK hP 3 0 rfl rfl (vp_in_nI (by omega) (by decide)) dX1_merge_39 ?_
        refine lv_topi (fun v_39 hv_39 => ?_)
        have hv_39 : v_39 = g 5 n := hv_39.trans (by rw [nI_clamp (by omega)])
        subst hv_39
        refine lv_aload_n hx hb dX1_merge_40 rfl (lv_at hl 0 rfl) ?_
        refine va_get (D := D) (ci := 1) (v := .ref (ad 5)) (C := RX1) (T := TX1) (N := 18) hx hb hts hfin hown hK hP 0 rfl rfl 5 (by decide) (hts _ (List.mem_cons_of_mem _ (List.mem_append_left _ (List.mem_of_getElem? (i := 2) rfl)))) (fun _ h9 => h9) rfl dX1_merge_41 ?_
        refine lv_iload_n hx hb dX1_merge_44 rfl (lv_at hl 1 rfl) ?_
        refine lv_iconst (v := 1) hx hb dX1_merge_45 (by decide) ?_
        refine lv_iadd hx hb dX1_merge_46 ?_
        refine lv_topi (fun v_46 hv_46 => ?_)
        have hv_46 : v_46 = nI (n + 1) := hv_46.trans (nI_1 n)
        subst hv_46
        refine va_iald hx hb hK hP 3 0 rfl rfl (vp_in_nI (by omega) (by decide)) dX1_merge_47 ?_
        refine lv_topi (fun v_47 hv_47 => ?_)
        have hv_47 : v_47 = g 5 (n + 1) := hv_47.trans (by rw [nI_clamp (by omega)])
        subst hv_47
        refine lv_icmp_ne (tgt := 77) hx hb dX1_merge_48 (by decide) (fun c_48 => ?_) (fun c_48 => ?_)
        · skip
          refine lv_iconst (v := 0) hx hb dX1_merge_77 (by decide) ?_
          refine lv_istore_n (lv' := [(2, .int 0), (0, .ref (ad 18)), (1, .int (nI n))]) hx hb dX1_merge_78 rfl hl (by decide) rfl (fun ls hl => ?_)
          refine lv_aload_n hx hb dX1_merge_79 rfl (lv_at hl 1 rfl) ?_
          refine lv_iload_n hx hb dX1_merge_80 rfl (lv_at hl 0 rfl) ?_
          refine lv_if_eq (tgt := 88) hx hb dX1_merge_81 (by decide) (fun c_81 => ?_) (fun c_81 => ?_)
          · skip
            refine lv_iconst (v := 2) hx hb dX1_merge_88 (by decide) ?_
            refine va_put (D := D) (ci := 1) (v := .int 2) (ty := .int) (C := RX1) (T := TX1) (N := 18) hx hb hts hfin tyX1 tyX1_ok nmX1 hown hK hP hD hS 0 rfl rfl 0 (by decide) (hts _ (List.mem_cons_of_mem _ (List.mem_append_left _ (List.mem_of_getElem? (i := 0) rfl)))) (fun _ h9 => h9) rfl (by decide +kernel) (rfl) (rfl) (Nat.le_of_ble_eq_true rfl) dX1_merge_89 (fun H locs hP hD hS => ?_)
            have hP : va_P D vwCl (mW cA cZ ad (va_up f 0 2) g) H := hP
            have hD : va_D A (mW cA cZ ad (va_up f 0 2) g) := hD
            refine lv_aload_n hx hb dX1_merge_92 rfl (lv_at hl 1 rfl) ?_
            refine va_get (D := D) (ci := 1) (v := .int 2) (C := RX1) (T := TX1) (N := 18) hx hb hts hfin hown hK hP 0 rfl rfl 0 (by decide) (hts _ (List.mem_cons_of_mem _ (List.mem_append_left _ (List.mem_of_getElem? (i := 0) rfl)))) (fun _ h9 => h9) rfl dX1_merge_93 ?_
            refine lv_if_le (tgt := 101) hx hb dX1_merge_96 (by decide) (fun c_96 => ?_) (fun c_96 => ?_)
            · skip
              exact absurd c_96 (by decide)
            · skip
              refine lv_iconst (v := 0) hx hb dX1_merge_99 (by decide) ?_
              exact W.iret (v := 0) hx hb hr (fun t ht hW => ⟨⟨0, ((va_up f 0 2), g), rfl, (Or.inr (Or.inl (⟨⟨c_6, by rw [hcn]; exact fun q => c_48 q.2.1⟩, rfl, rfl⟩))), by rw [ht]; exact hP, hD⟩, hS.F ht⟩) hS.2.2 dX1_merge_100
          · skip
            exact absurd c_81 (by decide)
        · skip
          refine lv_aload_n hx hb dX1_merge_51 rfl (lv_at hl 0 rfl) ?_
          refine va_get (D := D) (ci := 1) (v := .ref (ad 6)) (C := RX1) (T := TX1) (N := 18) hx hb hts hfin hown hK hP 0 rfl rfl 6 (by decide) (hts _ (List.mem_cons_of_mem _ (List.mem_append_left _ (List.mem_of_getElem? (i := 3) rfl)))) (fun _ h9 => h9) rfl dX1_merge_52 ?_
          refine lv_iload_n hx hb dX1_merge_55 rfl (lv_at hl 1 rfl) ?_
          refine va_iald hx hb hK hP 4 0 rfl rfl (vp_in_nI (by omega) (by decide)) dX1_merge_56 ?_
          refine lv_topi (fun v_56 hv_56 => ?_)
          have hv_56 : v_56 = g 6 n := hv_56.trans (by rw [nI_clamp (by omega)])
          subst hv_56
          refine lv_iconst (v := (-1)) hx hb dX1_merge_57 (by decide) ?_
          refine lv_icmp_ne (tgt := 77) hx hb dX1_merge_58 (by decide) (fun c_58 => ?_) (fun c_58 => ?_)
          · skip
            refine lv_iconst (v := 0) hx hb dX1_merge_77 (by decide) ?_
            refine lv_istore_n (lv' := [(2, .int 0), (0, .ref (ad 18)), (1, .int (nI n))]) hx hb dX1_merge_78 rfl hl (by decide) rfl (fun ls hl => ?_)
            refine lv_aload_n hx hb dX1_merge_79 rfl (lv_at hl 1 rfl) ?_
            refine lv_iload_n hx hb dX1_merge_80 rfl (lv_at hl 0 rfl) ?_
            refine lv_if_eq (tgt := 88) hx hb dX1_merge_81 (by decide) (fun c_81 => ?_) (fun c_81 => ?_)
            · skip
              refine lv_iconst (v := 2) hx hb dX1_merge_88 (by decide) ?_
              refine va_put (D := D) (ci := 1) (v := .int 2) (ty := .int) (C := RX1) (T := TX1) (N := 18) hx hb hts hfin tyX1 tyX1_ok nmX1 hown hK hP hD hS 0 rfl rfl 0 (by decide) (hts _ (List.mem_cons_of_mem _ (List.mem_append_left _ (List.mem_of_getElem? (i := 0) rfl)))) (fun _ h9 => h9) rfl (by decide +kernel) (rfl) (rfl) (Nat.le_of_ble_eq_true rfl) dX1_merge_89 (fun H locs hP hD hS => ?_)
              have hP : va_P D vwCl (mW cA cZ ad (va_up f 0 2) g) H := hP
              have hD : va_D A (mW cA cZ ad (va_up f 0 2) g) := hD
              refine lv_aload_n hx hb dX1_merge_92 rfl (lv_at hl 1 rfl) ?_
              refine va_get (D := D) (ci := 1) (v := .int 2) (C := RX1) (T := TX1) (N := 18) hx hb hts hfin hown hK hP 0 rfl rfl 0 (by decide) (hts _ (List.mem_cons_of_mem _ (List.mem_append_left _ (List.mem_of_getElem? (i := 0) rfl)))) (fun _ h9 => h9) rfl dX1_merge_93 ?_
              refine lv_if_le (tgt := 101) hx hb dX1_merge_96 (by decide) (fun c_96 => ?_) (fun c_96 => ?_)
              · skip
                exact absurd c_96 (by decide)
              · skip
                refine lv_iconst (v := 0) hx hb dX1_merge_99 (by decide) ?_
                exact W.iret (v := 0) hx hb hr (fun t ht hW => ⟨⟨0, ((va_up f 0 2), g), rfl, (Or.inr (Or.inl (⟨⟨c_6, by rw [hcn]; exact fun q => c_58 q.2.2.1⟩, rfl, rfl⟩))), by rw [ht]; exact hP, hD⟩, hS.F ht⟩) hS.2.2 dX1_merge_100
            · skip
              exact absurd c_81 (by decide)
          · skip
            refine lv_aload_n hx hb dX1_merge_61 rfl (lv_at hl 0 rfl) ?_
            refine va_get (D := D) (ci := 1) (v := .ref (ad 6)) (C := RX1) (T := TX1) (N := 18) hx hb hts hfin hown hK hP 0 rfl rfl 6 (by decide) (hts _ (List.mem_cons_of_mem _ (List.mem_append_left _ (List.mem_of_getElem? (i := 3) rfl)))) (fun _ h9 => h9) rfl dX1_merge_62 ?_
            refine lv_iload_n hx hb dX1_merge_65 rfl (lv_at hl 1 rfl) ?_
            refine lv_iconst (v := 1) hx hb dX1_merge_66 (by decide) ?_
            refine lv_iadd hx hb dX1_merge_67 ?_
            refine lv_topi (fun v_67 hv_67 => ?_)
            have hv_67 : v_67 = nI (n + 1) := hv_67.trans (nI_1 n)
            subst hv_67
            refine va_iald hx hb hK hP 4 0 rfl rfl (vp_in_nI (by omega) (by decide)) dX1_merge_68 ?_
            refine lv_topi (fun v_68 hv_68 => ?_)
            have hv_68 : v_68 = g 6 (n + 1) := hv_68.trans (by rw [nI_clamp (by omega)])
            subst hv_68
            refine lv_iconst (v := (-1)) hx hb dX1_merge_69 (by decide) ?_
            refine lv_icmp_ne (tgt := 77) hx hb dX1_merge_70 (by decide) (fun c_70 => ?_) (fun c_70 => ?_)
            · skip
              refine lv_iconst (v := 0) hx hb dX1_merge_77 (by decide) ?_
              refine lv_istore_n (lv' := [(2, .int 0), (0, .ref (ad 18)), (1, .int (nI n))]) hx hb dX1_merge_78 rfl hl (by decide) rfl (fun ls hl => ?_)
              refine lv_aload_n hx hb dX1_merge_79 rfl (lv_at hl 1 rfl) ?_
              refine lv_iload_n hx hb dX1_merge_80 rfl (lv_at hl 0 rfl) ?_
              refine lv_if_eq (tgt := 88) hx hb dX1_merge_81 (by decide) (fun c_81 => ?_) (fun c_81 => ?_)
              · skip
                refine lv_iconst (v := 2) hx hb dX1_merge_88 (by decide) ?_
                refine va_put (D := D) (ci := 1) (v := .int 2) (ty := .int) (C := RX1) (T := TX1) (N := 18) hx hb hts hfin tyX1 tyX1_ok nmX1 hown hK hP hD hS 0 rfl rfl 0 (by decide) (hts _ (List.mem_cons_of_mem _ (List.mem_append_left _ (List.mem_of_getElem? (i := 0) rfl)))) (fun _ h9 => h9) rfl (by decide +kernel) (rfl) (rfl) (Nat.le_of_ble_eq_true rfl) dX1_merge_89 (fun H locs hP hD hS => ?_)
                have hP : va_P D vwCl (mW cA cZ ad (va_up f 0 2) g) H := hP
                have hD : va_D A (mW cA cZ ad (va_up f 0 2) g) := hD
                refine lv_aload_n hx hb dX1_merge_92 rfl (lv_at hl 1 rfl) ?_
                refine va_get (D := D) (ci := 1) (v := .int 2) (C := RX1) (T := TX1) (N := 18) hx hb hts hfin hown hK hP 0 rfl rfl 0 (by decide) (hts _ (List.mem_cons_of_mem _ (List.mem_append_left _ (List.mem_of_getElem? (i := 0) rfl)))) (fun _ h9 => h9) rfl dX1_merge_93 ?_
                refine lv_if_le (tgt := 101) hx hb dX1_merge_96 (by decide) (fun c_96 => ?_) (fun c_96 => ?_)
                · skip
                  exact absurd c_96 (by decide)
                · skip
                  refine lv_iconst (v := 0) hx hb dX1_merge_99 (by decide) ?_
                  exact W.iret (v := 0) hx hb hr (fun t ht hW => ⟨⟨0, ((va_up f 0 2), g), rfl, (Or.inr (Or.inl (⟨⟨c_6, by rw [hcn]; exact fun q => c_70 q.2.2.2⟩, rfl, rfl⟩))), by rw [ht]; exact hP, hD⟩, hS.F ht⟩) hS.2.2 dX1_merge_100
              · skip
                exact absurd c_81 (by decide)
            · skip
              refine lv_iconst (v := 1) hx hb dX1_merge_73 (by decide) ?_
              refine lv_goto (tgt := 78) hx hb dX1_merge_74 (by decide) ?_
              refine lv_istore_n (lv' := [(2, .int 1), (0, .ref (ad 18)), (1, .int (nI n))]) hx hb dX1_merge_78 rfl hl (by decide) rfl (fun ls hl => ?_)
              refine lv_aload_n hx hb dX1_merge_79 rfl (lv_at hl 1 rfl) ?_
              refine lv_iload_n hx hb dX1_merge_80 rfl (lv_at hl 0 rfl) ?_
              refine lv_if_eq (tgt := 88) hx hb dX1_merge_81 (by decide) (fun c_81 => ?_) (fun c_81 => ?_)
              · skip
                exact absurd c_81 (by decide)
              · skip
                refine lv_iconst (v := 0) hx hb dX1_merge_84 (by decide) ?_
                refine lv_goto (tgt := 89) hx hb dX1_merge_85 (by decide) ?_
                refine va_put (D := D) (ci := 1) (v := .int 0) (ty := .int) (C := RX1) (T := TX1) (N := 18) hx hb hts hfin tyX1 tyX1_ok nmX1 hown hK hP hD hS 0 rfl rfl 0 (by decide) (hts _ (List.mem_cons_of_mem _ (List.mem_append_left _ (List.mem_of_getElem? (i := 0) rfl)))) (fun _ h9 => h9) rfl (by decide +kernel) (rfl) (rfl) (Nat.le_of_ble_eq_true rfl) dX1_merge_89 (fun H locs hP hD hS => ?_)
                have hP : va_P D vwCl (mW cA cZ ad (va_up f 0 0) g) H := hP
                have hD : va_D A (mW cA cZ ad (va_up f 0 0) g) := hD
                refine lv_aload_n hx hb dX1_merge_92 rfl (lv_at hl 1 rfl) ?_
                refine va_get (D := D) (ci := 1) (v := .int 0) (C := RX1) (T := TX1) (N := 18) hx hb hts hfin hown hK hP 0 rfl rfl 0 (by decide) (hts _ (List.mem_cons_of_mem _ (List.mem_append_left _ (List.mem_of_getElem? (i := 0) rfl)))) (fun _ h9 => h9) rfl dX1_merge_93 ?_
                refine lv_if_le (tgt := 101) hx hb dX1_merge_96 (by decide) (fun c_96 => ?_) (fun c_96 => ?_)
                · skip
                  refine lv_iload_n hx hb dX1_merge_101 rfl (lv_at hl 2 rfl) ?_
                  refine lv_iconst (v := 2) hx hb dX1_merge_102 (by decide) ?_
                  refine lv_iadd hx hb dX1_merge_103 ?_
                  refine lv_topi (fun v_103 hv_103 => ?_)
                  have hv_103 : v_103 = nI (n + 2) := hv_103.trans (nI_add n 2)
                  subst hv_103
                  refine lv_istore_n (lv' := [(2, .int (nI (n + 2))), (0, .ref (ad 18)), (1, .int (nI n))]) hx hb dX1_merge_104 rfl hl (by decide) rfl (fun ls hl => ?_)
                  have hloop_105 : ∀ (nme : Nat) (t : Nat) (g1 : qGs), nR - t = nme → (n + 2 ≤ t ∧ t ≤ nR) → (mDnG g1 t (nR - t) = mDnG g (n + 2) (nR - (n + 2))) → ∀ (H : Heap) (locs : List Loc), va_P D vwCl (mW cA cZ ad (va_up f 0 0) g1) H → va_D A (mW cA cZ ad (va_up f 0 0) g1) → va_S A s.heap H locs → ∀ ls : Array Slot, lv_has ls 3 [(0, .ref (ad 18)), (1, .int (nI n)), (2, .int (nI t))] → W p l e (headSpec wsX1_merge ({ frames := 2, cells := 0, slots := 0, locals := 43 } : Room)).room s m ([.ref (ad 18), .int (nI n)] : List Value).toArray below meth c H locs 0 0 (MQ below (va_Qi (fun (z : Int32) (u : qFs × qGs) => ((¬ mRange f (nI n)) ∧ u.1 = va_up f 0 1 ∧ u.2 = g) ∨ ((mRange f (nI n) ∧ ¬ ((nI n).toNatClampNeg + 1 < nR ∧ g 5 (nI n).toNatClampNeg = g 5 ((nI n).toNatClampNeg + 1) ∧ g 6 (nI n).toNatClampNeg = -1 ∧ g 6 ((nI n).toNatClampNeg + 1) = -1)) ∧ u.1 = va_up f 0 2 ∧ u.2 = g) ∨ ((mRange f (nI n) ∧ ((nI n).toNatClampNeg + 1 < nR ∧ g 5 (nI n).toNatClampNeg = g 5 ((nI n).toNatClampNeg + 1) ∧ g 6 (nI n).toNatClampNeg = -1 ∧ g 6 ((nI n).toNatClampNeg + 1) = -1)) ∧ z = nI (nR - 1) ∧ u.1 = va_up (va_up f 0 0) 3 (nI (nR - 1)) ∧ u.2 = va_up (mDnG g ((nI n).toNatClampNeg + 2) (nR - ((nI n).toNatClampNeg + 2))) 6 (upd (mDnG g ((nI n).toNatClampNeg + 2) (nR - ((nI n).toNatClampNeg + 2)) 6) (nR - 1) (-1)))) (qAt D A (fun u : qFs × qGs => mW cA cZ ad u.1 u.2)) A) ([.ref (ad 18), .int (nI n)] : List Value).toArray s 0 0 A) (F0 m 105 ls []) := by
                    intro nme
                    induction nme using Nat.strongRecOn with
                    | ind nme ih =>
                      intro t g1 hnme ht hc H locs hP hD hS ls hl
                      refine lv_iload_n hx hb dX1_merge_105 rfl (lv_at hl 2 rfl) ?_
                      refine lv_aload_n hx hb dX1_merge_106 rfl (lv_at hl 0 rfl) ?_
                      refine va_get (D := D) (ci := 1) (v := .int (f 3)) (C := RX1) (T := TX1) (N := 18) hx hb hts hfin hown hK hP 0 rfl rfl 3 (by decide) (hts _ (List.mem_cons_of_mem _ (List.mem_append_left _ (List.mem_of_getElem? (i := 1) rfl)))) (fun _ h9 => h9) rfl dX1_merge_107 ?_
                      refine lv_topi (fun v_107 hv_107 => ?_)
                      have hv_107 : v_107 = nI nR := hv_107.trans (hI.1)
                      subst hv_107
                      refine lv_icmp_ge (tgt := 127) hx hb dX1_merge_110 (by decide) (fun c_110 => ?_) (fun c_110 => ?_)
                      · skip
                        have hge : nR ≤ t := n_ge c_110 (by omega) (by omega)
                        have hc : g1 = mDnG g (n + 2) (nR - (n + 2)) := by rw [← hc, mDnG_e hge]
                        rw [hc] at hP hD
                        refine lv_aload_n hx hb dX1_merge_127 rfl (lv_at hl 0 rfl) ?_
                        refine lv_dup hx hb dX1_merge_128 rfl ?_
                        refine va_get (D := D) (ci := 1) (v := .int (f 3)) (C := RX1) (T := TX1) (N := 18) hx hb hts hfin hown hK hP 0 rfl rfl 3 (by decide) (hts _ (List.mem_cons_of_mem _ (List.mem_append_left _ (List.mem_of_getElem? (i := 1) rfl)))) (fun _ h9 => h9) rfl dX1_merge_129 ?_
                        refine lv_topi (fun v_129 hv_129 => ?_)
                        have hv_129 : v_129 = nI nR := hv_129.trans (hI.1)
                        subst hv_129
                        refine lv_iconst (v := 1) hx hb dX1_merge_132 (by decide) ?_
                        refine lv_isub hx hb dX1_merge_133 ?_
                        refine lv_topi (fun v_133 hv_133 => ?_)
                        have hv_133 : v_133 = nI (nR - 1) := hv_133.trans (pk_sub (b := 1) (by omega))
                        subst hv_133
                        refine va_put (D := D) (ci := 1) (v := .int (nI (nR - 1))) (ty := .int) (C := RX1) (T := TX1) (N := 18) hx hb hts hfin tyX1 tyX1_ok nmX1 hown hK hP hD hS 0 rfl rfl 3 (by decide) (hts _ (List.mem_cons_of_mem _ (List.mem_append_left _ (List.mem_of_getElem? (i := 1) rfl)))) (fun _ h9 => h9) rfl (by decide +kernel) (rfl) (rfl) (Nat.le_of_ble_eq_true rfl) dX1_merge_134 (fun H locs hP hD hS => ?_)
                        have hP : va_P D vwCl (mW cA cZ ad (va_up (va_up f 0 0) 3 (nI (nR - 1))) (mDnG g (n + 2) (nR - (n + 2)))) H := hP
                        have hD : va_D A (mW cA cZ ad (va_up (va_up f 0 0) 3 (nI (nR - 1))) (mDnG g (n + 2) (nR - (n + 2)))) := hD
                        refine lv_aload_n hx hb dX1_merge_137 rfl (lv_at hl 0 rfl) ?_
                        refine va_get (D := D) (ci := 1) (v := .ref (ad 6)) (C := RX1) (T := TX1) (N := 18) hx hb hts hfin hown hK hP 0 rfl rfl 6 (by decide) (hts _ (List.mem_cons_of_mem _ (List.mem_append_left _ (List.mem_of_getElem? (i := 3) rfl)))) (fun _ h9 => h9) rfl dX1_merge_138 ?_
                        refine lv_aload_n hx hb dX1_merge_141 rfl (lv_at hl 0 rfl) ?_
                        refine va_get (D := D) (ci := 1) (v := .int (nI (nR - 1))) (C := RX1) (T := TX1) (N := 18) hx hb hts hfin hown hK hP 0 rfl rfl 3 (by decide) (hts _ (List.mem_cons_of_mem _ (List.mem_append_left _ (List.mem_of_getElem? (i := 1) rfl)))) (fun _ h9 => h9) rfl dX1_merge_142 ?_
                        refine lv_topi (fun v_142 hv_142 => ?_)
                        have hv_142 : v_142 = nI (nR - 1) := hv_142.trans (rfl)
                        subst hv_142
                        refine lv_iconst (v := (-1)) hx hb dX1_merge_145 (by decide) ?_
                        refine va_iast hx hb hK hP hD hS 4 0 rfl rfl (vp_in_nI (by omega) (by decide)) dX1_merge_146 (fun H locs hP hD hS => ?_)
                        have hix : (nI (nR - 1)).toNatClampNeg = nR - 1 := nI_clamp (by omega)
                        rw [hix] at hP hD
                        have hP : va_P D vwCl (mW cA cZ ad (va_up (va_up f 0 0) 3 (nI (nR - 1))) (va_up (mDnG g (n + 2) (nR - (n + 2))) 6 (upd ((mDnG g (n + 2) (nR - (n + 2))) 6) (nR - 1) (-1)))) H := hP
                        have hD : va_D A (mW cA cZ ad (va_up (va_up f 0 0) 3 (nI (nR - 1))) (va_up (mDnG g (n + 2) (nR - (n + 2))) 6 (upd ((mDnG g (n + 2) (nR - (n + 2))) 6) (nR - 1) (-1)))) := hD
                        refine lv_aload_n hx hb dX1_merge_147 rfl (lv_at hl 0 rfl) ?_
                        refine va_get (D := D) (ci := 1) (v := .int (nI (nR - 1))) (C := RX1) (T := TX1) (N := 18) hx hb hts hfin hown hK hP 0 rfl rfl 3 (by decide) (hts _ (List.mem_cons_of_mem _ (List.mem_append_left _ (List.mem_of_getElem? (i := 1) rfl)))) (fun _ h9 => h9) rfl dX1_merge_148 ?_
                        refine lv_topi (fun v_148 hv_148 => ?_)
                        have hv_148 : v_148 = nI (nR - 1) := hv_148.trans (rfl)
                        subst hv_148
                        exact W.iret (v := nI (nR - 1)) hx hb hr (fun t ht hW => ⟨⟨nI (nR - 1), ((va_up (va_up f 0 0) 3 (nI (nR - 1))), (va_up (mDnG g (n + 2) (nR - (n + 2))) 6 (upd ((mDnG g (n + 2) (nR - (n + 2))) 6) (nR - 1) (-1)))), rfl, (Or.inr (Or.inr (⟨⟨c_6, by rw [hcn]; exact ⟨hlt0, c_48, c_58, c_70⟩⟩, rfl, rfl, (by rw [hcn])⟩))), by rw [ht]; exact hP, hD⟩, hS.F ht⟩) hS.2.2 dX1_merge_151
                      · skip
                        have hlt : t < nR := n_lt c_110 (by omega)
                        refine lv_aload_n hx hb dX1_merge_113 rfl (lv_at hl 0 rfl) ?_
                        refine lv_iload_n hx hb dX1_merge_114 rfl (lv_at hl 2 rfl) ?_
                        refine lv_iload_n hx hb dX1_merge_115 rfl (lv_at hl 2 rfl) ?_
                        refine lv_iconst (v := 1) hx hb dX1_merge_116 (by decide) ?_
                        refine lv_isub hx hb dX1_merge_117 ?_
                        refine lv_topi (fun v_117 hv_117 => ?_)
                        have hv_117 : v_117 = nI (t - 1) := hv_117.trans (pk_sub (b := 1) (by omega))
                        subst hv_117
                        refine qb_callv (va_runV (As := [.int (nI t), .int (nI (t - 1))]) (rest := []) ⟨hx, hb, hml, hown, hts⟩ (c_X1_copies l D cA cZ cL ad (va_up f 0 0) g1 H.size t (t - 1) (by omega) (by omega)) (cwV 2 hts gX1_merge_X1_copies rfl rfl rfl (by decide +kernel) ⟨Nat.le_of_ble_eq_true rfl, Nat.le_of_ble_eq_true rfl⟩) ⟨qPreW_blind, va_recv hK hP (ci := 1) (q0 := 0) rfl rfl, qPreW_at hP hK hD⟩ rfl rfl hl.1 rfl (lv_room (Nat.le_of_ble_eq_true rfl)) dX1_merge_118 ⟨Nat.le_of_ble_eq_true rfl, Nat.le_of_ble_eq_true rfl⟩) hD hS hA (fun u H locs hu hP hD hS => ?_)
                        obtain ⟨uf, ug⟩ := u
                        obtain ⟨hu1, hu2⟩ := hu
                        have hu1 : uf = (va_up f 0 0) := hu1
                        have hu2 : ug = mCopyG g1 t (t - 1) := hu2
                        have hP : va_P D vwCl (mW cA cZ ad uf ug) H := hP
                        have hD : va_D A (mW cA cZ ad uf ug) := hD
                        rw [hu1, hu2] at hP hD
                        have hP : va_P D vwCl (mW cA cZ ad (va_up f 0 0) (mCopyG g1 t (t - 1))) H := hP
                        have hD : va_D A (mW cA cZ ad (va_up f 0 0) (mCopyG g1 t (t - 1))) := hD
                        refine lv_iinc (v := nI (t + 1)) (lv' := [(2, .int (nI (t + 1))), (0, .ref (ad 18)), (1, .int (nI n))]) hx hb dX1_merge_121 hl (k := 2) rfl (nI_1 t) (by decide) rfl (fun ls hl => ?_)
                        refine lv_goto (tgt := 105) hx hb dX1_merge_124 (by decide) ?_
                        exact ih _ (by omega) (t + 1) (mCopyG g1 t (t - 1)) rfl (by omega) (by rw [← hc]; exact (mDnG_s hlt).symm) _ _ hP hD hS _ (lv_sub hl [1, 2, 0] rfl)
                  exact hloop_105 _ (n + 2) g rfl (by omega) rfl _ _ hP hD hS _ (lv_sub hl [1, 2, 0] rfl)
                · skip
                  exact absurd c_96 (by decide)
set_option maxHeartbeats 4000000 in
set_option maxRecDepth 100000 in
/-- move -/
theorem c_X1_move (l : Launch) (D : va_G) (cA cZ cL : ClassId) (ad : Nat → Nat) (f : qFs) (g : qGs) (sz : Nat) (r : Int32) (sh : Int32) (nR : Nat) (nB : Nat) (hI : mI nR nB f) (hL : mL nR g) : Met l yX1_move wsX1_move ({ frames := 2, cells := 0, slots := 0, locals := 45 } : Room) (va_Pc [.ref (ad 18), .int r, .int sh] (qPreW D (qTy cA cZ cL) (mW cA cZ ad f g) sz)) (va_Qi (fun (z : Int32) (u : qFs × qGs) => ((¬ (mRange f r ∧ xShard sh)) ∧ u.1 = va_up f 0 1 ∧ u.2 = g) ∨ (((mRange f r ∧ xShard sh) ∧ (¬ g 6 r.toNatClampNeg = -1 ∨ g 5 r.toNatClampNeg = sh)) ∧ u.1 = va_up f 0 2 ∧ u.2 = g) ∨ (((mRange f r ∧ xShard sh) ∧ g 6 r.toNatClampNeg = -1 ∧ ¬ g 5 r.toNatClampNeg = sh) ∧ z = nI (cnt (fun j => decide (mTh g j)) (mLo g r.toNatClampNeg) (mHi nR g r.toNatClampNeg)) ∧ u.1 = va_up f 0 0 ∧ u.2 = va_up (va_up g 6 (upd (g 6) r.toNatClampNeg sh)) 7 (fun j => if mLo g r.toNatClampNeg ≤ j ∧ j < mHi nR g r.toNatClampNeg then 0 else g 7 j))) (qAt D (va_A (mW cA cZ ad f g) sz) (fun u : qFs × qGs => mW cA cZ ad u.1 u.2)) (va_A (mW cA cZ ad f g) sz)) 0 0 (va_A (mW cA cZ ad f g) sz) := by
  refine Met.ofW (cc := cX1_move) (maxL := 4) (ret := (some .int)) (by decide) rfl ?_
  intro p e s m args below meth c s₁ B hml hv
  obtain ⟨rfl, hsz, hP, hK, hD0⟩ := hv
  have hx := B.exec
  have hb := B.bytes
  have hr := B.returns
  have hts := atoms_spec (ws := wsX1_move) B.pre
  have hown : s.vm.findClass RX1 = some m.cls := findClass_of_methodNamed B.named
  have hlocks := B.notSynchronized
  subst hsz
  have hD := hD0.self (sz := s.heap.size)
  generalize hAe : va_A (mW cA cZ ad f g) s.heap.size = A at hD ⊢
  have hA : ∀ q : Nat, s.heap.size ≤ q → A q := fun q h => by rw [← hAe]; exact Or.inr h
  have hS : va_S A s.heap s.heap [] := va_S.rf
  have hfin : ∀ w ∈ wsX10, w ∈ wsX1_move := fun w h => (List.mem_cons_of_mem _ (List.mem_append_right _ h))
  have hl := lv_entry ([.ref (ad 18), .int r, .int sh]) (n := 4) (Nat.le_of_ble_eq_true rfl)
  rw [lg_entry_eq]
  generalize (lg_sl ([.ref (ad 18), .int r, .int sh]) ++ List.replicate (4 - (lg_sl ([.ref (ad 18), .int r, .int sh])).length) Slot.unset).toArray = ls at hl ⊢
  have hl : lv_has ls 4 [(0, .ref (ad 18)), (1, .int r), (2, .int sh)] := hl
  have hR8 := hI.2.2.1
  refine lv_aload_n hx hb dX1_move_0 rfl (lv_at hl 0 rfl) ?_
  refine lv_aload_n hx hb dX1_move_1 rfl (lv_at hl 0 rfl) ?_
  refine lv_iload_n hx hb dX1_move_2 rfl (lv_at hl 1 rfl) ?_
  refine vp_callSi (W.runV (As := [.int r]) (rest := [.ref (ad 18)]) ⟨hx, hb, hml, hown, hts⟩ (c_X1_isRange l D cA cZ cL ad f g r nR nB hI) (cwV 1 hts gX1_move_X1_isRange rfl rfl rfl (by decide +kernel) ⟨Nat.le_of_ble_eq_true rfl, Nat.le_of_ble_eq_true rfl⟩) ⟨qPre_blind, va_recv hK hP (ci := 1) (q0 := 0) rfl rfl, qPre_at hP hK⟩ rfl rfl hl.1 rfl (lv_room (Nat.le_of_ble_eq_true rfl)) dX1_move_3 ⟨Nat.le_of_ble_eq_true rfl, Nat.le_of_ble_eq_true rfl⟩) (fun z hz => ?_)
  subst hz
  refine lv_if_eq (tgt := 16) hx hb dX1_move_6 (by decide) (fun c_6 => ?_) (fun c_6 => ?_)
  · have c_6 := bI_0.mp c_6
    refine lv_iconst (v := 1) hx hb dX1_move_16 (by decide) ?_
    refine lv_goto (tgt := 45) hx hb dX1_move_17 (by decide) ?_
    refine va_put (D := D) (ci := 1) (v := .int 1) (ty := .int) (C := RX1) (T := TX1) (N := 18) hx hb hts hfin tyX1 tyX1_ok nmX1 hown hK hP hD hS 0 rfl rfl 0 (by decide) (hts _ (List.mem_cons_of_mem _ (List.mem_append_left _ (List.mem_append_left _ (List.mem_of_getElem? (i := 2) rfl))))) (fun _ h9 => h9) rfl (by decide +kernel) (rfl) (rfl) (Nat.le_of_ble_eq_true rfl) dX1_move_45 (fun H locs hP hD hS => ?_)
    have hP : va_P D vwCl (mW cA cZ ad (va_up f 0 1) g) H := hP
    have hD : va_D A (mW cA cZ ad (va_up f 0 1) g) := hD
    refine lv_aload_n hx hb dX1_move_48 rfl (lv_at hl 0 rfl) ?_
    refine va_get (D := D) (ci := 1) (v := .int 1) (C := RX1) (T := TX1) (N := 18) hx hb hts hfin hown hK hP 0 rfl rfl 0 (by decide) (hts _ (List.mem_cons_of_mem _ (List.mem_append_left _ (List.mem_append_left _ (List.mem_of_getElem? (i := 2) rfl))))) (fun _ h9 => h9) rfl dX1_move_49 ?_
    refine lv_if_le (tgt := 57) hx hb dX1_move_52 (by decide) (fun c_52 => ?_) (fun c_52 => ?_)
    · skip
      exact absurd c_52 (by decide)
    · skip
      refine lv_iconst (v := 0) hx hb dX1_move_55 (by decide) ?_
      exact W.iret (v := 0) hx hb hr (fun t ht hW => ⟨⟨0, ((va_up f 0 1), g), rfl, (Or.inl (⟨(fun q => c_6 q.1), rfl, rfl⟩)), by rw [ht]; exact hP, hD⟩, hS.F ht⟩) hS.2.2 dX1_move_56
  · have c_6 := bI_n.mp c_6
    refine lv_iload_n hx hb dX1_move_9 rfl (lv_at hl 2 rfl) ?_
    refine vp_callSi (W.runS (As := [.int sh]) (rest := [.ref (ad 18)]) ⟨hx, hb, hml, hown, hts⟩ (c_X1_isShard l sh) (va_cwS 1 hts gX1_move_X1_isShard rfl rfl rfl (by decide +kernel) ⟨Nat.le_of_ble_eq_true rfl, Nat.le_of_ble_eq_true rfl⟩) ⟨qN_blind, qN_at⟩ rfl rfl hl.1 rfl (lv_room (Nat.le_of_ble_eq_true rfl)) dX1_move_10 ⟨Nat.le_of_ble_eq_true rfl, Nat.le_of_ble_eq_true rfl⟩) (fun z hz => ?_)
    subst hz
    refine lv_if_ne (tgt := 20) hx hb dX1_move_13 (by decide) (fun c_13 => ?_) (fun c_13 => ?_)
    · have c_13 := bI_n.mp c_13
      refine lv_aload_n hx hb dX1_move_20 rfl (lv_at hl 0 rfl) ?_
      refine va_get (D := D) (ci := 1) (v := .ref (ad 6)) (C := RX1) (T := TX1) (N := 18) hx hb hts hfin hown hK hP 0 rfl rfl 6 (by decide) (hts _ (List.mem_cons_of_mem _ (List.mem_append_left _ (List.mem_append_left _ (List.mem_of_getElem? (i := 0) rfl))))) (fun _ h9 => h9) rfl dX1_move_21 ?_
      refine lv_iload_n hx hb dX1_move_24 rfl (lv_at hl 1 rfl) ?_
      refine va_iald hx hb hK hP 4 0 rfl rfl (m_in9 hI c_6) dX1_move_25 ?_
      refine lv_iconst (v := (-1)) hx hb dX1_move_26 (by decide) ?_
      refine lv_icmp_ne (tgt := 40) hx hb dX1_move_27 (by decide) (fun c_27 => ?_) (fun c_27 => ?_)
      · skip
        refine lv_iconst (v := 2) hx hb dX1_move_40 (by decide) ?_
        refine lv_goto (tgt := 45) hx hb dX1_move_41 (by decide) ?_
        refine va_put (D := D) (ci := 1) (v := .int 2) (ty := .int) (C := RX1) (T := TX1) (N := 18) hx hb hts hfin tyX1 tyX1_ok nmX1 hown hK hP hD hS 0 rfl rfl 0 (by decide) (hts _ (List.mem_cons_of_mem _ (List.mem_append_left _ (List.mem_append_left _ (List.mem_of_getElem? (i := 2) rfl))))) (fun _ h9 => h9) rfl (by decide +kernel) (rfl) (rfl) (Nat.le_of_ble_eq_true rfl) dX1_move_45 (fun H locs hP hD hS => ?_)
        have hP : va_P D vwCl (mW cA cZ ad (va_up f 0 2) g) H := hP
        have hD : va_D A (mW cA cZ ad (va_up f 0 2) g) := hD
        refine lv_aload_n hx hb dX1_move_48 rfl (lv_at hl 0 rfl) ?_
        refine va_get (D := D) (ci := 1) (v := .int 2) (C := RX1) (T := TX1) (N := 18) hx hb hts hfin hown hK hP 0 rfl rfl 0 (by decide) (hts _ (List.mem_cons_of_mem _ (List.mem_append_left _ (List.mem_append_left _ (List.mem_of_getElem? (i := 2) rfl))))) (fun _ h9 => h9) rfl dX1_move_49 ?_
        refine lv_if_le (tgt := 57) hx hb dX1_move_52 (by decide) (fun c_52 => ?_) (fun c_52 => ?_)
        · skip
          exact absurd c_52 (by decide)
        · skip
          refine lv_iconst (v := 0) hx hb dX1_move_55 (by decide) ?_
          exact W.iret (v := 0) hx hb hr (fun t ht hW => ⟨⟨0, ((va_up f 0 2), g), rfl, (Or.inr (Or.inl (⟨⟨⟨c_6, c_13⟩, Or.inl c_27⟩, rfl, rfl⟩))), by rw [ht]; exact hP, hD⟩, hS.F ht⟩) hS.2.2 dX1_move_56
      · skip
        refine lv_aload_n hx hb dX1_move_30 rfl (lv_at hl 0 rfl) ?_
        refine va_get (D := D) (ci := 1) (v := .ref (ad 5)) (C := RX1) (T := TX1) (N := 18) hx hb hts hfin hown hK hP 0 rfl rfl 5 (by decide) (hts _ (List.mem_cons_of_mem _ (List.mem_append_left _ (List.mem_append_left _ (List.mem_of_getElem? (i := 1) rfl))))) (fun _ h9 => h9) rfl dX1_move_31 ?_
        refine lv_iload_n hx hb dX1_move_34 rfl (lv_at hl 1 rfl) ?_
        refine va_iald hx hb hK hP 3 0 rfl rfl (m_in9 hI c_6) dX1_move_35 ?_
        refine lv_iload_n hx hb dX1_move_36 rfl (lv_at hl 2 rfl) ?_
        refine lv_icmp_ne (tgt := 44) hx hb dX1_move_37 (by decide) (fun c_37 => ?_) (fun c_37 => ?_)
        · skip
          refine lv_iconst (v := 0) hx hb dX1_move_44 (by decide) ?_
          refine va_put (D := D) (ci := 1) (v := .int 0) (ty := .int) (C := RX1) (T := TX1) (N := 18) hx hb hts hfin tyX1 tyX1_ok nmX1 hown hK hP hD hS 0 rfl rfl 0 (by decide) (hts _ (List.mem_cons_of_mem _ (List.mem_append_left _ (List.mem_append_left _ (List.mem_of_getElem? (i := 2) rfl))))) (fun _ h9 => h9) rfl (by decide +kernel) (rfl) (rfl) (Nat.le_of_ble_eq_true rfl) dX1_move_45 (fun H locs hP hD hS => ?_)
          have hP : va_P D vwCl (mW cA cZ ad (va_up f 0 0) g) H := hP
          have hD : va_D A (mW cA cZ ad (va_up f 0 0) g) := hD
          refine lv_aload_n hx hb dX1_move_48 rfl (lv_at hl 0 rfl) ?_
          refine va_get (D := D) (ci := 1) (v := .int 0) (C := RX1) (T := TX1) (N := 18) hx hb hts hfin hown hK hP 0 rfl rfl 0 (by decide) (hts _ (List.mem_cons_of_mem _ (List.mem_append_left _ (List.mem_append_left _ (List.mem_of_getElem? (i := 2) rfl))))) (fun _ h9 => h9) rfl dX1_move_49 ?_
          refine lv_if_le (tgt := 57) hx hb dX1_move_52 (by decide) (fun c_52 => ?_) (fun c_52 => ?_)
          · skip
            obtain ⟨n, hn, rfl⟩ := m_nat hI c_6
            have hcn : (nI n).toNatClampNeg = n := nI_clamp (by omega)
            obtain ⟨lo, hi, hlo, hbe, hle, hhi⟩ := hL n hn
            refine lv_aload_n hx hb dX1_move_57 rfl (lv_at hl 0 rfl) ?_
            refine va_get (D := D) (ci := 1) (v := .ref (ad 6)) (C := RX1) (T := TX1) (N := 18) hx hb hts hfin hown hK hP 0 rfl rfl 6 (by decide) (hts _ (List.mem_cons_of_mem _ (List.mem_append_left _ (List.mem_append_left _ (List.mem_of_getElem? (i := 0) rfl))))) (fun _ h9 => h9) rfl dX1_move_58 ?_
            refine lv_iload_n hx hb dX1_move_61 rfl (lv_at hl 1 rfl) ?_
            refine lv_iload_n hx hb dX1_move_62 rfl (lv_at hl 2 rfl) ?_
            refine va_iast hx hb hK hP hD hS 4 0 rfl rfl (vp_in_nI (by omega) (by decide)) dX1_move_63 (fun H locs hP hD hS => ?_)
            have hix : (nI n).toNatClampNeg = n := nI_clamp (by omega)
            rw [hix] at hP hD
            have hP : va_P D vwCl (mW cA cZ ad (va_up f 0 0) (va_up g 6 (upd (g 6) n sh))) H := hP
            have hD : va_D A (mW cA cZ ad (va_up f 0 0) (va_up g 6 (upd (g 6) n sh))) := hD
            refine lv_aload_n hx hb dX1_move_64 rfl (lv_at hl 0 rfl) ?_
            refine va_get (D := D) (ci := 1) (v := .ref (ad 4)) (C := RX1) (T := TX1) (N := 18) hx hb hts hfin hown hK hP 0 rfl rfl 4 (by decide) (hts _ (List.mem_cons_of_mem _ (List.mem_append_left _ (List.mem_append_left _ (List.mem_of_getElem? (i := 3) rfl))))) (fun _ h9 => h9) rfl dX1_move_65 ?_
            refine lv_iload_n hx hb dX1_move_68 rfl (lv_at hl 1 rfl) ?_
            refine va_iald hx hb hK hP 2 0 rfl rfl (vp_in_nI (by omega) (by decide)) dX1_move_69 ?_
            refine lv_topi (fun v_69 hv_69 => ?_)
            have hv_69 : v_69 = nI lo := hv_69.trans (by rw [nI_clamp (by omega)]; exact hlo)
            subst hv_69
            refine lv_istore_n (lv' := [(3, .int (nI lo)), (0, .ref (ad 18)), (1, .int (nI n)), (2, .int sh)]) hx hb dX1_move_70 rfl hl (by decide) rfl (fun ls hl => ?_)
            have hloop_71 : ∀ (nme : Nat) (k : Nat) (br : Nat → Int32), 100 - k = nme → (lo ≤ k ∧ k ≤ hi) → (br = fun j => if lo ≤ j ∧ j < k then 0 else g 7 j) → ∀ (H : Heap) (locs : List Loc), va_P D vwCl (mW cA cZ ad (va_up f 0 0) (va_up (va_up g 6 (upd (g 6) n sh)) 7 br)) H → va_D A (mW cA cZ ad (va_up f 0 0) (va_up (va_up g 6 (upd (g 6) n sh)) 7 br)) → va_S A s.heap H locs → ∀ ls : Array Slot, lv_has ls 4 [(0, .ref (ad 18)), (1, .int (nI n)), (2, .int sh), (3, .int (nI k))] → W p l e (headSpec wsX1_move ({ frames := 2, cells := 0, slots := 0, locals := 45 } : Room)).room s m ([.ref (ad 18), .int (nI n), .int sh] : List Value).toArray below meth c H locs 0 0 (MQ below (va_Qi (fun (z : Int32) (u : qFs × qGs) => ((¬ (mRange f (nI n) ∧ xShard sh)) ∧ u.1 = va_up f 0 1 ∧ u.2 = g) ∨ (((mRange f (nI n) ∧ xShard sh) ∧ (¬ g 6 (nI n).toNatClampNeg = -1 ∨ g 5 (nI n).toNatClampNeg = sh)) ∧ u.1 = va_up f 0 2 ∧ u.2 = g) ∨ (((mRange f (nI n) ∧ xShard sh) ∧ g 6 (nI n).toNatClampNeg = -1 ∧ ¬ g 5 (nI n).toNatClampNeg = sh) ∧ z = nI (cnt (fun j => decide (mTh g j)) (mLo g (nI n).toNatClampNeg) (mHi nR g (nI n).toNatClampNeg)) ∧ u.1 = va_up f 0 0 ∧ u.2 = va_up (va_up g 6 (upd (g 6) (nI n).toNatClampNeg sh)) 7 (fun j => if mLo g (nI n).toNatClampNeg ≤ j ∧ j < mHi nR g (nI n).toNatClampNeg then 0 else g 7 j))) (qAt D A (fun u : qFs × qGs => mW cA cZ ad u.1 u.2)) A) ([.ref (ad 18), .int (nI n), .int sh] : List Value).toArray s 0 0 A) (F0 m 71 ls []) := by
              intro nme
              induction nme using Nat.strongRecOn with
              | ind nme ih =>
                intro k br hnme hk hc H locs hP hD hS ls hl
                refine lv_iload_n hx hb dX1_move_71 rfl (lv_at hl 3 rfl) ?_
                refine lv_aload_n hx hb dX1_move_72 rfl (lv_at hl 0 rfl) ?_
                refine lv_iload_n hx hb dX1_move_73 rfl (lv_at hl 1 rfl) ?_
                refine vp_callSi (W.runV (As := [.int (nI n)]) (rest := [.int (nI k)]) ⟨hx, hb, hml, hown, hts⟩ (c_X1_behind l D cA cZ cL ad (va_up f 0 0) (va_up (va_up g 6 (upd (g 6) n sh)) 7 br) n nR nB hI (by omega)) (cwV 1 hts gX1_move_X1_behind rfl rfl rfl (by decide +kernel) ⟨Nat.le_of_ble_eq_true rfl, Nat.le_of_ble_eq_true rfl⟩) ⟨qPre_blind, va_recv hK hP (ci := 1) (q0 := 0) rfl rfl, qPre_at hP hK⟩ rfl rfl hl.1 rfl (lv_room (Nat.le_of_ble_eq_true rfl)) dX1_move_74 ⟨Nat.le_of_ble_eq_true rfl, Nat.le_of_ble_eq_true rfl⟩) (fun z hz => ?_)
                subst hz
                refine lv_topi (fun v_74 hv_74 => ?_)
                have hv_74 : v_74 = nI hi := hv_74.trans (hbe)
                subst hv_74
                refine lv_icmp_ge (tgt := 93) hx hb dX1_move_77 (by decide) (fun c_77 => ?_) (fun c_77 => ?_)
                · skip
                  have hge : k = hi := by have := n_ge c_77 (by omega) (by omega); omega
                  refine lv_aload_n hx hb dX1_move_93 rfl (lv_at hl 0 rfl) ?_
                  refine lv_iload_n hx hb dX1_move_94 rfl (lv_at hl 1 rfl) ?_
                  refine lv_iconst (v := 0) hx hb dX1_move_95 (by decide) ?_
                  refine vp_callSi (W.runV (As := [.int (nI n), .int 0]) (rest := []) ⟨hx, hb, hml, hown, hts⟩ (c_X1_many l D cA cZ cL ad (va_up f 0 0) (va_up (va_up g 6 (upd (g 6) n sh)) 7 br) n 0 nR nB hI (by omega) lo hi hlo hbe (by omega) (by omega)) (cwV 2 hts gX1_move_X1_many rfl rfl rfl (by decide +kernel) ⟨Nat.le_of_ble_eq_true rfl, Nat.le_of_ble_eq_true rfl⟩) ⟨qPre_blind, va_recv hK hP (ci := 1) (q0 := 0) rfl rfl, qPre_at hP hK⟩ rfl rfl hl.1 rfl (lv_room (Nat.le_of_ble_eq_true rfl)) dX1_move_96 ⟨Nat.le_of_ble_eq_true rfl, Nat.le_of_ble_eq_true rfl⟩) (fun z hz => ?_)
                  subst hz
                  exact W.iret (v := nI (cnt (mP (va_up (va_up g 6 (upd (g 6) n sh)) 7 br) 0) lo hi)) hx hb hr (fun t ht hW => ⟨⟨nI (cnt (mP (va_up (va_up g 6 (upd (g 6) n sh)) 7 br) 0) lo hi), ((va_up f 0 0), (va_up (va_up g 6 (upd (g 6) n sh)) 7 br)), rfl, (Or.inr (Or.inr (⟨⟨⟨c_6, c_13⟩, c_27, c_37⟩, (by rw [hcn, mLo_of hlo (by omega), mHi_of hbe hhi]; exact congrArg nI (cnt_congr (mP_0 g (va_up (va_up g 6 (upd (g 6) n sh)) 7 br) rfl) lo hi)), rfl, (by rw [hcn, mLo_of hlo (by omega), mHi_of hbe hhi, hc, hge])⟩))), by rw [ht]; exact hP, hD⟩, hS.F ht⟩) hS.2.2 dX1_move_99
                · skip
                  have hlt : k < hi := n_lt c_77 (by omega)
                  refine lv_aload_n hx hb dX1_move_80 rfl (lv_at hl 0 rfl) ?_
                  refine va_get (D := D) (ci := 1) (v := .ref (ad 7)) (C := RX1) (T := TX1) (N := 18) hx hb hts hfin hown hK hP 0 rfl rfl 7 (by decide) (hts _ (List.mem_cons_of_mem _ (List.mem_append_left _ (List.mem_append_left _ (List.mem_of_getElem? (i := 4) rfl))))) (fun _ h9 => h9) rfl dX1_move_81 ?_
                  refine lv_iload_n hx hb dX1_move_84 rfl (lv_at hl 3 rfl) ?_
                  refine lv_iconst (v := 0) hx hb dX1_move_85 (by decide) ?_
                  refine va_zast hx hb hK hP hD hS 5 1 rfl rfl (vp_in_nI (by omega) (by decide)) dX1_move_86 (fun H locs hP hD hS => ?_)
                  have hix : (nI k).toNatClampNeg = k := nI_clamp (by omega)
                  rw [hix] at hP hD
                  have hP : va_P D vwCl (mW cA cZ ad (va_up f 0 0) (va_up (va_up g 6 (upd (g 6) n sh)) 7 (upd br k 0))) H := hP
                  have hD : va_D A (mW cA cZ ad (va_up f 0 0) (va_up (va_up g 6 (upd (g 6) n sh)) 7 (upd br k 0))) := hD
                  refine lv_iinc (v := nI (k + 1)) (lv' := [(3, .int (nI (k + 1))), (0, .ref (ad 18)), (1, .int (nI n)), (2, .int sh)]) hx hb dX1_move_87 hl (k := 3) rfl (nI_1 k) (by decide) rfl (fun ls hl => ?_)
                  refine lv_goto (tgt := 71) hx hb dX1_move_90 (by decide) ?_
                  exact ih _ (by omega) (k + 1) (upd br k 0) rfl (by omega) (by rw [hc]; exact mv_step lo k _ hk.1) _ _ hP hD hS _ (lv_sub hl [1, 2, 3, 0] rfl)
            exact hloop_71 _ lo (g 7) rfl (by omega) (by funext j; rw [if_neg (by omega)]) _ _ hP hD hS _ (lv_sub hl [1, 2, 3, 0] rfl)
          · skip
            exact absurd c_52 (by decide)
        · skip
          refine lv_iconst (v := 2) hx hb dX1_move_40 (by decide) ?_
          refine lv_goto (tgt := 45) hx hb dX1_move_41 (by decide) ?_
          refine va_put (D := D) (ci := 1) (v := .int 2) (ty := .int) (C := RX1) (T := TX1) (N := 18) hx hb hts hfin tyX1 tyX1_ok nmX1 hown hK hP hD hS 0 rfl rfl 0 (by decide) (hts _ (List.mem_cons_of_mem _ (List.mem_append_left _ (List.mem_append_left _ (List.mem_of_getElem? (i := 2) rfl))))) (fun _ h9 => h9) rfl (by decide +kernel) (rfl) (rfl) (Nat.le_of_ble_eq_true rfl) dX1_move_45 (fun H locs hP hD hS => ?_)
          have hP : va_P D vwCl (mW cA cZ ad (va_up f 0 2) g) H := hP
          have hD : va_D A (mW cA cZ ad (va_up f 0 2) g) := hD
          refine lv_aload_n hx hb dX1_move_48 rfl (lv_at hl 0 rfl) ?_
          refine va_get (D := D) (ci := 1) (v := .int 2) (C := RX1) (T := TX1) (N := 18) hx hb hts hfin hown hK hP 0 rfl rfl 0 (by decide) (hts _ (List.mem_cons_of_mem _ (List.mem_append_left _ (List.mem_append_left _ (List.mem_of_getElem? (i := 2) rfl))))) (fun _ h9 => h9) rfl dX1_move_49 ?_
          refine lv_if_le (tgt := 57) hx hb dX1_move_52 (by decide) (fun c_52 => ?_) (fun c_52 => ?_)
          · skip
            exact absurd c_52 (by decide)
          · skip
            refine lv_iconst (v := 0) hx hb dX1_move_55 (by decide) ?_
            exact W.iret (v := 0) hx hb hr (fun t ht hW => ⟨⟨0, ((va_up f 0 2), g), rfl, (Or.inr (Or.inl (⟨⟨⟨c_6, c_13⟩, Or.inr c_37⟩, rfl, rfl⟩))), by rw [ht]; exact hP, hD⟩, hS.F ht⟩) hS.2.2 dX1_move_56
    · have c_13 := bI_0.mp c_13
      refine lv_iconst (v := 1) hx hb dX1_move_16 (by decide) ?_
      refine lv_goto (tgt := 45) hx hb dX1_move_17 (by decide) ?_
      refine va_put (D := D) (ci := 1) (v := .int 1) (ty := .int) (C := RX1) (T := TX1) (N := 18) hx hb hts hfin tyX1 tyX1_ok nmX1 hown hK hP hD hS 0 rfl rfl 0 (by decide) (hts _ (List.mem_cons_of_mem _ (List.mem_append_left _ (List.mem_append_left _ (List.mem_of_getElem? (i := 2) rfl))))) (fun _ h9 => h9) rfl (by decide +kernel) (rfl) (rfl) (Nat.le_of_ble_eq_true rfl) dX1_move_45 (fun H locs hP hD hS => ?_)
      have hP : va_P D vwCl (mW cA cZ ad (va_up f 0 1) g) H := hP
      have hD : va_D A (mW cA cZ ad (va_up f 0 1) g) := hD
      refine lv_aload_n hx hb dX1_move_48 rfl (lv_at hl 0 rfl) ?_
      refine va_get (D := D) (ci := 1) (v := .int 1) (C := RX1) (T := TX1) (N := 18) hx hb hts hfin hown hK hP 0 rfl rfl 0 (by decide) (hts _ (List.mem_cons_of_mem _ (List.mem_append_left _ (List.mem_append_left _ (List.mem_of_getElem? (i := 2) rfl))))) (fun _ h9 => h9) rfl dX1_move_49 ?_
      refine lv_if_le (tgt := 57) hx hb dX1_move_52 (by decide) (fun c_52 => ?_) (fun c_52 => ?_)
      · skip
        exact absurd c_52 (by decide)
      · skip
        refine lv_iconst (v := 0) hx hb dX1_move_55 (by decide) ?_
        exact W.iret (v := 0) hx hb hr (fun t ht hW => ⟨⟨0, ((va_up f 0 1), g), rfl, (Or.inl (⟨(fun q => c_13 q.2), rfl, rfl⟩)), by rw [ht]; exact hP, hD⟩, hS.F ht⟩) hS.2.2 dX1_move_56
set_option maxHeartbeats 4000000 in
set_option maxRecDepth 100000 in
/-- step -/
theorem c_X1_step (l : Launch) (D : va_G) (cA cZ cL : ClassId) (ad : Nat → Nat) (f : qFs) (g : qGs) (sz : Nat) (r : Int32) (nR : Nat) (nB : Nat) (hI : mI nR nB f) (hL : mL nR g) : Met l yX1_step wsX1_step ({ frames := 3, cells := 0, slots := 0, locals := 64 } : Room) (va_Pc [.ref (ad 18), .int r] (qPreW D (qTy cA cZ cL) (mW cA cZ ad f g) sz)) (va_Qi (fun (z : Int32) (u : qFs × qGs) => ((¬ mMv f g r = 0) ∧ u.1 = va_up f 0 (mMv f g r) ∧ u.2 = g) ∨ ((mMv f g r = 0) ∧ z = mStepK nR g r.toNatClampNeg ∧ u.1 = va_up f 0 0 ∧ u.2 = mStepG nR g r.toNatClampNeg)) (qAt D (va_A (mW cA cZ ad f g) sz) (fun u : qFs × qGs => mW cA cZ ad u.1 u.2)) (va_A (mW cA cZ ad f g) sz)) 0 0 (va_A (mW cA cZ ad f g) sz) := by
  refine Met.ofW (cc := cX1_step) (maxL := 4) (ret := (some .int)) (by decide) rfl ?_
  intro p e s m args below meth c s₁ B hml hv
  obtain ⟨rfl, hsz, hP, hK, hD0⟩ := hv
  have hx := B.exec
  have hb := B.bytes
  have hr := B.returns
  have hts := atoms_spec (ws := wsX1_step) B.pre
  have hown : s.vm.findClass RX1 = some m.cls := findClass_of_methodNamed B.named
  have hlocks := B.notSynchronized
  subst hsz
  have hD := hD0.self (sz := s.heap.size)
  generalize hAe : va_A (mW cA cZ ad f g) s.heap.size = A at hD ⊢
  have hA : ∀ q : Nat, s.heap.size ≤ q → A q := fun q h => by rw [← hAe]; exact Or.inr h
  have hS : va_S A s.heap s.heap [] := va_S.rf
  have hfin : ∀ w ∈ wsX10, w ∈ wsX1_step := fun w h => (List.mem_cons_of_mem _ (List.mem_append_right _ h))
  have hl := lv_entry ([.ref (ad 18), .int r]) (n := 4) (Nat.le_of_ble_eq_true rfl)
  rw [lg_entry_eq]
  generalize (lg_sl ([.ref (ad 18), .int r]) ++ List.replicate (4 - (lg_sl ([.ref (ad 18), .int r])).length) Slot.unset).toArray = ls at hl ⊢
  have hl : lv_has ls 4 [(0, .ref (ad 18)), (1, .int r)] := hl
  have hR8 := hI.2.2.1
  refine lv_aload_n hx hb dX1_step_0 rfl (lv_at hl 0 rfl) ?_
  refine lv_iload_n hx hb dX1_step_1 rfl (lv_at hl 1 rfl) ?_
  refine qb_calli (va_runV (As := [.int r]) (rest := []) ⟨hx, hb, hml, hown, hts⟩ (c_X1_asksMoved l D cA cZ cL ad f g s.heap.size r nR nB hI) (cwV 1 hts gX1_step_X1_asksMoved rfl rfl rfl (by decide +kernel) ⟨Nat.le_of_ble_eq_true rfl, Nat.le_of_ble_eq_true rfl⟩) ⟨qPreW_blind, va_recv hK hP (ci := 1) (q0 := 0) rfl rfl, qPreW_at hP hK hD⟩ rfl rfl hl.1 rfl (lv_room (Nat.le_of_ble_eq_true rfl)) dX1_step_2 ⟨Nat.le_of_ble_eq_true rfl, Nat.le_of_ble_eq_true rfl⟩) hD hS hA (fun r_2 u H locs hu hP hD hS => ?_)
  obtain ⟨uf, ug⟩ := u
  obtain ⟨hr_2, hu1, hu2⟩ := hu
  have hu1 : uf = va_up f 0 (mMv f g r) := hu1
  have hu2 : ug = g := hu2
  have hP : va_P D vwCl (mW cA cZ ad uf ug) H := hP
  have hD : va_D A (mW cA cZ ad uf ug) := hD
  rw [hu1, hu2] at hP hD
  have hP : va_P D vwCl (mW cA cZ ad (va_up f 0 (mMv f g r)) g) H := hP
  have hD : va_D A (mW cA cZ ad (va_up f 0 (mMv f g r)) g) := hD
  have hr_2 : r_2 = bI (mMv f g r = 0) := hr_2
  subst hr_2
  refine lv_if_ne (tgt := 10) hx hb dX1_step_5 (by decide) (fun c_5 => ?_) (fun c_5 => ?_)
  · have c_5 := bI_n.mp c_5
    obtain ⟨hrg, hmv⟩ := mMv_0 c_5
    obtain ⟨n, hn, rfl⟩ := m_nat hI hrg
    rw [c_5] at hP hD
    have hP : va_P D vwCl (mW cA cZ ad (va_up f 0 0) g) H := hP
    have hD : va_D A (mW cA cZ ad (va_up f 0 0) g) := hD
    have hcn : (nI n).toNatClampNeg = n := nI_clamp (by omega)
    obtain ⟨lo, hi, hlo, hbe, hle, hhi⟩ := hL n hn
    refine lv_iconst (v := (-1)) hx hb dX1_step_10 (by decide) ?_
    refine lv_istore_n (lv' := [(2, .int (-1)), (0, .ref (ad 18)), (1, .int (nI n))]) hx hb dX1_step_11 rfl hl (by decide) rfl (fun ls hl => ?_)
    refine lv_aload_n hx hb dX1_step_12 rfl (lv_at hl 1 rfl) ?_
    refine lv_iload_n hx hb dX1_step_13 rfl (lv_at hl 2 rfl) ?_
    refine vp_callSi (W.runV (As := [.int (nI n)]) (rest := []) ⟨hx, hb, hml, hown, hts⟩ (c_X1_behind l D cA cZ cL ad (va_up f 0 0) g n nR nB (show mI nR nB (va_up f 0 0) from hI) (by omega)) (cwV 1 hts gX1_step_X1_behind rfl rfl rfl (by decide +kernel) ⟨Nat.le_of_ble_eq_true rfl, Nat.le_of_ble_eq_true rfl⟩) ⟨qPre_blind, va_recv hK hP (ci := 1) (q0 := 0) rfl rfl, qPre_at hP hK⟩ rfl rfl hl.1 rfl (lv_room (Nat.le_of_ble_eq_true rfl)) dX1_step_14 ⟨Nat.le_of_ble_eq_true rfl, Nat.le_of_ble_eq_true rfl⟩) (fun z hz => ?_)
    subst hz
    refine lv_topi (fun v_14 hv_14 => ?_)
    have hv_14 : v_14 = nI hi := hv_14.trans (hbe)
    subst hv_14
    refine lv_iconst (v := 1) hx hb dX1_step_17 (by decide) ?_
    refine lv_isub hx hb dX1_step_18 ?_
    refine lv_istore_n (lv' := [(3, .int ((nI hi) - 1)), (2, .int (-1)), (0, .ref (ad 18)), (1, .int (nI n))]) hx hb dX1_step_19 rfl hl (by decide) rfl (fun ls hl => ?_)
    have hloop_20 : ∀ (nme : Nat) (i : Nat) (fo : Int32), i = nme → (lo ≤ i ∧ i ≤ hi) → (fo = upN (mNB g) i (hi - i)) → ∀ (H : Heap) (locs : List Loc), va_P D vwCl (mW cA cZ ad (va_up f 0 0) g) H → va_D A (mW cA cZ ad (va_up f 0 0) g) → va_S A s.heap H locs → ∀ ls : Array Slot, lv_has ls 4 [(0, .ref (ad 18)), (1, .int (nI n)), (2, .int fo), (3, .int (nI i - 1))] → W p l e (headSpec wsX1_step ({ frames := 3, cells := 0, slots := 0, locals := 64 } : Room)).room s m ([.ref (ad 18), .int (nI n)] : List Value).toArray below meth c H locs 0 0 (MQ below (va_Qi (fun (z : Int32) (u : qFs × qGs) => ((¬ mMv f g (nI n) = 0) ∧ u.1 = va_up f 0 (mMv f g (nI n)) ∧ u.2 = g) ∨ ((mMv f g (nI n) = 0) ∧ z = mStepK nR g (nI n).toNatClampNeg ∧ u.1 = va_up f 0 0 ∧ u.2 = mStepG nR g (nI n).toNatClampNeg)) (qAt D A (fun u : qFs × qGs => mW cA cZ ad u.1 u.2)) A) ([.ref (ad 18), .int (nI n)] : List Value).toArray s 0 0 A) (F0 m 20 ls []) := by
      intro nme
      induction nme using Nat.strongRecOn with
      | ind nme ih =>
        intro i fo hnme hi2 hf H locs hP hD hS ls hl
        refine lv_iload_n hx hb dX1_step_20 rfl (lv_at hl 3 rfl) ?_
        refine lv_aload_n hx hb dX1_step_21 rfl (lv_at hl 0 rfl) ?_
        refine va_get (D := D) (ci := 1) (v := .ref (ad 4)) (C := RX1) (T := TX1) (N := 18) hx hb hts hfin hown hK hP 0 rfl rfl 4 (by decide) (hts _ (List.mem_cons_of_mem _ (List.mem_append_left _ (List.mem_append_left _ (List.mem_of_getElem? (i := 0) rfl))))) (fun _ h9 => h9) rfl dX1_step_22 ?_
        refine lv_iload_n hx hb dX1_step_25 rfl (lv_at hl 1 rfl) ?_
        refine va_iald hx hb hK hP 2 0 rfl rfl (vp_in_nI (by omega) (by decide)) dX1_step_26 ?_
        refine lv_topi (fun v_26 hv_26 => ?_)
        have hv_26 : v_26 = nI lo := hv_26.trans (by rw [nI_clamp (by omega)]; exact hlo)
        subst hv_26
        refine lv_icmp_lt (tgt := 59) hx hb dX1_step_27 (by decide) (fun c_27 => ?_) (fun c_27 => ?_)
        · skip
          have hie := dn_out hi2.1 (by omega) c_27
          subst hie
          have hfK : mStepK nR g n = fo := by unfold mStepK; rw [mLo_of hlo (by omega), mHi_of hbe hhi, hf]
          refine lv_iload_n hx hb dX1_step_59 rfl (lv_at hl 2 rfl) ?_
          refine lv_iconst (v := (-1)) hx hb dX1_step_60 (by decide) ?_
          refine lv_icmp_ne (tgt := 86) hx hb dX1_step_61 (by decide) (fun c_61 => ?_) (fun c_61 => ?_)
          · skip
            have hkin : vp_in fo 100 := by rcases upN_range (mNB g) (hi - i) i with e | ⟨kk, h1, h2, h3, h4⟩; exact absurd (hf.trans e) c_61; exact by rw [hf, h3]; exact vp_in_nI (by omega) (by decide)
            refine lv_aload_n hx hb dX1_step_86 rfl (lv_at hl 0 rfl) ?_
            refine va_get (D := D) (ci := 1) (v := .ref (ad 7)) (C := RX1) (T := TX1) (N := 18) hx hb hts hfin hown hK hP 0 rfl rfl 7 (by decide) (hts _ (List.mem_cons_of_mem _ (List.mem_append_left _ (List.mem_append_left _ (List.mem_of_getElem? (i := 1) rfl))))) (fun _ h9 => h9) rfl dX1_step_87 ?_
            refine lv_iload_n hx hb dX1_step_90 rfl (lv_at hl 2 rfl) ?_
            refine lv_iconst (v := 1) hx hb dX1_step_91 (by decide) ?_
            refine va_zast hx hb hK hP hD hS 5 1 rfl rfl (hkin) dX1_step_92 (fun H locs hP hD hS => ?_)
            have hP : va_P D vwCl (mW cA cZ ad (va_up f 0 0) (va_up g 7 (upd (g 7) fo.toNatClampNeg 1))) H := hP
            have hD : va_D A (mW cA cZ ad (va_up f 0 0) (va_up g 7 (upd (g 7) fo.toNatClampNeg 1))) := hD
            refine lv_iload_n hx hb dX1_step_93 rfl (lv_at hl 2 rfl) ?_
            exact W.iret (v := fo) hx hb hr (fun t ht hW => ⟨⟨fo, ((va_up f 0 0), (va_up g 7 (upd (g 7) fo.toNatClampNeg 1))), rfl, (Or.inr (⟨c_5, (by rw [hcn, hfK]), rfl, (by rw [hcn]; unfold mStepG; rw [hfK, if_neg c_61])⟩)), by rw [ht]; exact hP, hD⟩, hS.F ht⟩) hS.2.2 dX1_step_94
          · skip
            refine lv_aload_n hx hb dX1_step_64 rfl (lv_at hl 0 rfl) ?_
            refine va_get (D := D) (ci := 1) (v := .ref (ad 5)) (C := RX1) (T := TX1) (N := 18) hx hb hts hfin hown hK hP 0 rfl rfl 5 (by decide) (hts _ (List.mem_cons_of_mem _ (List.mem_append_left _ (List.mem_append_left _ (List.mem_of_getElem? (i := 2) rfl))))) (fun _ h9 => h9) rfl dX1_step_65 ?_
            refine lv_iload_n hx hb dX1_step_68 rfl (lv_at hl 1 rfl) ?_
            refine lv_aload_n hx hb dX1_step_69 rfl (lv_at hl 0 rfl) ?_
            refine va_get (D := D) (ci := 1) (v := .ref (ad 6)) (C := RX1) (T := TX1) (N := 18) hx hb hts hfin hown hK hP 0 rfl rfl 6 (by decide) (hts _ (List.mem_cons_of_mem _ (List.mem_append_left _ (List.mem_append_left _ (List.mem_of_getElem? (i := 3) rfl))))) (fun _ h9 => h9) rfl dX1_step_70 ?_
            refine lv_iload_n hx hb dX1_step_73 rfl (lv_at hl 1 rfl) ?_
            refine va_iald hx hb hK hP 4 0 rfl rfl (vp_in_nI (by omega) (by decide)) dX1_step_74 ?_
            refine lv_topi (fun v_74 hv_74 => ?_)
            have hv_74 : v_74 = g 6 n := hv_74.trans (by rw [nI_clamp (by omega)])
            subst hv_74
            refine va_iast hx hb hK hP hD hS 3 0 rfl rfl (vp_in_nI (by omega) (by decide)) dX1_step_75 (fun H locs hP hD hS => ?_)
            have hix : (nI n).toNatClampNeg = n := nI_clamp (by omega)
            rw [hix] at hP hD
            have hP : va_P D vwCl (mW cA cZ ad (va_up f 0 0) (va_up g 5 (upd (g 5) n (g 6 n)))) H := hP
            have hD : va_D A (mW cA cZ ad (va_up f 0 0) (va_up g 5 (upd (g 5) n (g 6 n)))) := hD
            refine lv_aload_n hx hb dX1_step_76 rfl (lv_at hl 0 rfl) ?_
            refine va_get (D := D) (ci := 1) (v := .ref (ad 6)) (C := RX1) (T := TX1) (N := 18) hx hb hts hfin hown hK hP 0 rfl rfl 6 (by decide) (hts _ (List.mem_cons_of_mem _ (List.mem_append_left _ (List.mem_append_left _ (List.mem_of_getElem? (i := 3) rfl))))) (fun _ h9 => h9) rfl dX1_step_77 ?_
            refine lv_iload_n hx hb dX1_step_80 rfl (lv_at hl 1 rfl) ?_
            refine lv_iconst (v := (-1)) hx hb dX1_step_81 (by decide) ?_
            refine va_iast hx hb hK hP hD hS 4 0 rfl rfl (vp_in_nI (by omega) (by decide)) dX1_step_82 (fun H locs hP hD hS => ?_)
            have hix : (nI n).toNatClampNeg = n := nI_clamp (by omega)
            rw [hix] at hP hD
            have hP : va_P D vwCl (mW cA cZ ad (va_up f 0 0) (va_up (va_up g 5 (upd (g 5) n (g 6 n))) 6 (upd (g 6) n (-1)))) H := hP
            have hD : va_D A (mW cA cZ ad (va_up f 0 0) (va_up (va_up g 5 (upd (g 5) n (g 6 n))) 6 (upd (g 6) n (-1)))) := hD
            refine lv_goto (tgt := 93) hx hb dX1_step_83 (by decide) ?_
            refine lv_iload_n hx hb dX1_step_93 rfl (lv_at hl 2 rfl) ?_
            exact W.iret (v := fo) hx hb hr (fun t ht hW => ⟨⟨fo, ((va_up f 0 0), (va_up (va_up g 5 (upd (g 5) n (g 6 n))) 6 (upd (g 6) n (-1)))), rfl, (Or.inr (⟨c_5, (by rw [hcn, hfK]), rfl, (by rw [hcn]; unfold mStepG; rw [hfK, if_pos c_61])⟩)), by rw [ht]; exact hP, hD⟩, hS.F ht⟩) hS.2.2 dX1_step_94
        · skip
          obtain ⟨j, rfl, hlj⟩ := dn_in hi2.1 (by omega) c_27
          have hjh : j < hi := by omega
          rw [nI_pred] at hl
          refine lv_aload_n hx hb dX1_step_30 rfl (lv_at hl 0 rfl) ?_
          refine lv_iload_n hx hb dX1_step_31 rfl (lv_at hl 3 rfl) ?_
          refine vp_callSi (W.runV (As := [.int (nI j)]) (rest := []) ⟨hx, hb, hml, hown, hts⟩ (c_X1_isThere l D cA cZ cL ad (va_up f 0 0) g (nI j) (nat_key (by omega))) (cwV 1 hts gX1_step_X1_isThere rfl rfl rfl (by decide +kernel) ⟨Nat.le_of_ble_eq_true rfl, Nat.le_of_ble_eq_true rfl⟩) ⟨qPre_blind, va_recv hK hP (ci := 1) (q0 := 0) rfl rfl, qPre_at hP hK⟩ rfl rfl hl.1 rfl (lv_room (Nat.le_of_ble_eq_true rfl)) dX1_step_32 ⟨Nat.le_of_ble_eq_true rfl, Nat.le_of_ble_eq_true rfl⟩) (fun z hz => ?_)
          subst hz
          refine lv_topi (fun v_32 hv_32 => ?_)
          have hv_32 : v_32 = bI (mTh g j) := hv_32.trans (bI_congr (mThere_nat g (by omega)))
          subst hv_32
          refine lv_if_eq (tgt := 51) hx hb dX1_step_35 (by decide) (fun c_35 => ?_) (fun c_35 => ?_)
          · have c_35 := bI_0.mp c_35
            refine lv_iload_n hx hb dX1_step_51 rfl (lv_at hl 2 rfl) ?_
            refine lv_istore_n (lv' := [(2, .int fo), (0, .ref (ad 18)), (1, .int (nI n)), (3, .int (nI j))]) hx hb dX1_step_52 rfl hl (by decide) rfl (fun ls hl => ?_)
            refine lv_iinc (v := nI j - 1) (lv' := [(3, .int (nI j - 1)), (2, .int fo), (0, .ref (ad 18)), (1, .int (nI n))]) hx hb dX1_step_53 hl (k := 3) rfl (i_m1 _) (by decide) rfl (fun ls hl => ?_)
            refine lv_goto (tgt := 20) hx hb dX1_step_56 (by decide) ?_
            exact ih _ (by omega) j fo rfl (by omega) (by rw [hf]; exact (upN_n hjh (df (fun q => c_35 q.1))).symm) _ _ hP hD hS _ (lv_sub hl [2, 3, 1, 0] rfl)
          · have c_35 := bI_n.mp c_35
            refine lv_aload_n hx hb dX1_step_38 rfl (lv_at hl 0 rfl) ?_
            refine va_get (D := D) (ci := 1) (v := .ref (ad 7)) (C := RX1) (T := TX1) (N := 18) hx hb hts hfin hown hK hP 0 rfl rfl 7 (by decide) (hts _ (List.mem_cons_of_mem _ (List.mem_append_left _ (List.mem_append_left _ (List.mem_of_getElem? (i := 1) rfl))))) (fun _ h9 => h9) rfl dX1_step_39 ?_
            refine lv_iload_n hx hb dX1_step_42 rfl (lv_at hl 3 rfl) ?_
            refine va_zald hx hb hK hP 5 1 rfl rfl (vp_in_nI (by omega) (by decide)) dX1_step_43 ?_
            refine lv_topi (fun v_43 hv_43 => ?_)
            have hv_43 : v_43 = g 7 j := hv_43.trans (by rw [nI_clamp (by omega)])
            subst hv_43
            refine lv_if_ne (tgt := 51) hx hb dX1_step_44 (by decide) (fun c_44 => ?_) (fun c_44 => ?_)
            · skip
              refine lv_iload_n hx hb dX1_step_51 rfl (lv_at hl 2 rfl) ?_
              refine lv_istore_n (lv' := [(2, .int fo), (0, .ref (ad 18)), (1, .int (nI n)), (3, .int (nI j))]) hx hb dX1_step_52 rfl hl (by decide) rfl (fun ls hl => ?_)
              refine lv_iinc (v := nI j - 1) (lv' := [(3, .int (nI j - 1)), (2, .int fo), (0, .ref (ad 18)), (1, .int (nI n))]) hx hb dX1_step_53 hl (k := 3) rfl (i_m1 _) (by decide) rfl (fun ls hl => ?_)
              refine lv_goto (tgt := 20) hx hb dX1_step_56 (by decide) ?_
              exact ih _ (by omega) j fo rfl (by omega) (by rw [hf]; exact (upN_n hjh (df (fun q => c_44 q.2))).symm) _ _ hP hD hS _ (lv_sub hl [2, 3, 1, 0] rfl)
            · skip
              refine lv_iload_n hx hb dX1_step_47 rfl (lv_at hl 3 rfl) ?_
              refine lv_goto (tgt := 52) hx hb dX1_step_48 (by decide) ?_
              refine lv_istore_n (lv' := [(2, .int (nI j)), (0, .ref (ad 18)), (1, .int (nI n)), (3, .int (nI j))]) hx hb dX1_step_52 rfl hl (by decide) rfl (fun ls hl => ?_)
              refine lv_iinc (v := nI j - 1) (lv' := [(3, .int (nI j - 1)), (2, .int (nI j)), (0, .ref (ad 18)), (1, .int (nI n))]) hx hb dX1_step_53 hl (k := 3) rfl (i_m1 _) (by decide) rfl (fun ls hl => ?_)
              refine lv_goto (tgt := 20) hx hb dX1_step_56 (by decide) ?_
              exact ih _ (by omega) j (nI j) rfl (by omega) ((upN_y hjh (dt ⟨c_35, c_44⟩)).symm) _ _ hP hD hS _ (lv_sub hl [2, 3, 1, 0] rfl)
    exact hloop_20 _ hi (-1) rfl (by omega) (by rw [Nat.sub_self]; rfl) _ _ hP hD hS _ (lv_sub hl [2, 3, 1, 0] rfl)
  · have c_5 := bI_0.mp c_5
    refine lv_iconst (v := 0) hx hb dX1_step_8 (by decide) ?_
    exact W.iret (v := 0) hx hb hr (fun t ht hW => ⟨⟨0, ((va_up f 0 (mMv f g r)), g), rfl, (Or.inl (⟨c_5, rfl, rfl⟩)), by rw [ht]; exact hP, hD⟩, hS.F ht⟩) hS.2.2 dX1_step_9
set_option maxHeartbeats 4000000 in
set_option maxRecDepth 100000 in
/-- giveUp -/
theorem c_X1_giveUp (l : Launch) (D : va_G) (cA cZ cL : ClassId) (ad : Nat → Nat) (f : qFs) (g : qGs) (sz : Nat) (r : Int32) (nR : Nat) (nB : Nat) (hI : mI nR nB f) (hL : mL nR g) : Met l yX1_giveUp wsX1_giveUp ({ frames := 3, cells := 0, slots := 0, locals := 64 } : Room) (va_Pc [.ref (ad 18), .int r] (qPreW D (qTy cA cZ cL) (mW cA cZ ad f g) sz)) (va_Qi (fun (z : Int32) (u : qFs × qGs) => ((¬ mMv f g r = 0) ∧ u.1 = va_up f 0 (mMv f g r) ∧ u.2 = g) ∨ ((mMv f g r = 0) ∧ z = nI (cnt (mP g 1) (mLo g r.toNatClampNeg) (mHi nR g r.toNatClampNeg)) ∧ u.1 = va_up f 0 0 ∧ u.2 = va_up g 6 (upd (g 6) r.toNatClampNeg (-1)))) (qAt D (va_A (mW cA cZ ad f g) sz) (fun u : qFs × qGs => mW cA cZ ad u.1 u.2)) (va_A (mW cA cZ ad f g) sz)) 0 0 (va_A (mW cA cZ ad f g) sz) := by
  refine Met.ofW (cc := cX1_giveUp) (maxL := 2) (ret := (some .int)) (by decide) rfl ?_
  intro p e s m args below meth c s₁ B hml hv
  obtain ⟨rfl, hsz, hP, hK, hD0⟩ := hv
  have hx := B.exec
  have hb := B.bytes
  have hr := B.returns
  have hts := atoms_spec (ws := wsX1_giveUp) B.pre
  have hown : s.vm.findClass RX1 = some m.cls := findClass_of_methodNamed B.named
  have hlocks := B.notSynchronized
  subst hsz
  have hD := hD0.self (sz := s.heap.size)
  generalize hAe : va_A (mW cA cZ ad f g) s.heap.size = A at hD ⊢
  have hA : ∀ q : Nat, s.heap.size ≤ q → A q := fun q h => by rw [← hAe]; exact Or.inr h
  have hS : va_S A s.heap s.heap [] := va_S.rf
  have hfin : ∀ w ∈ wsX10, w ∈ wsX1_giveUp := fun w h => (List.mem_cons_of_mem _ (List.mem_append_right _ h))
  have hl := lv_entry ([.ref (ad 18), .int r]) (n := 2) (Nat.le_of_ble_eq_true rfl)
  rw [lg_entry_eq]
  generalize (lg_sl ([.ref (ad 18), .int r]) ++ List.replicate (2 - (lg_sl ([.ref (ad 18), .int r])).length) Slot.unset).toArray = ls at hl ⊢
  have hl : lv_has ls 2 [(0, .ref (ad 18)), (1, .int r)] := hl
  have hR8 := hI.2.2.1
  refine lv_aload_n hx hb dX1_giveUp_0 rfl (lv_at hl 0 rfl) ?_
  refine lv_iload_n hx hb dX1_giveUp_1 rfl (lv_at hl 1 rfl) ?_
  refine qb_calli (va_runV (As := [.int r]) (rest := []) ⟨hx, hb, hml, hown, hts⟩ (c_X1_asksMoved l D cA cZ cL ad f g s.heap.size r nR nB hI) (cwV 1 hts gX1_giveUp_X1_asksMoved rfl rfl rfl (by decide +kernel) ⟨Nat.le_of_ble_eq_true rfl, Nat.le_of_ble_eq_true rfl⟩) ⟨qPreW_blind, va_recv hK hP (ci := 1) (q0 := 0) rfl rfl, qPreW_at hP hK hD⟩ rfl rfl hl.1 rfl (lv_room (Nat.le_of_ble_eq_true rfl)) dX1_giveUp_2 ⟨Nat.le_of_ble_eq_true rfl, Nat.le_of_ble_eq_true rfl⟩) hD hS hA (fun r_2 u H locs hu hP hD hS => ?_)
  obtain ⟨uf, ug⟩ := u
  obtain ⟨hr_2, hu1, hu2⟩ := hu
  have hu1 : uf = va_up f 0 (mMv f g r) := hu1
  have hu2 : ug = g := hu2
  have hP : va_P D vwCl (mW cA cZ ad uf ug) H := hP
  have hD : va_D A (mW cA cZ ad uf ug) := hD
  rw [hu1, hu2] at hP hD
  have hP : va_P D vwCl (mW cA cZ ad (va_up f 0 (mMv f g r)) g) H := hP
  have hD : va_D A (mW cA cZ ad (va_up f 0 (mMv f g r)) g) := hD
  have hr_2 : r_2 = bI (mMv f g r = 0) := hr_2
  subst hr_2
  refine lv_if_ne (tgt := 10) hx hb dX1_giveUp_5 (by decide) (fun c_5 => ?_) (fun c_5 => ?_)
  · have c_5 := bI_n.mp c_5
    obtain ⟨hrg, hmv⟩ := mMv_0 c_5
    obtain ⟨n, hn, rfl⟩ := m_nat hI hrg
    rw [c_5] at hP hD
    have hP : va_P D vwCl (mW cA cZ ad (va_up f 0 0) g) H := hP
    have hD : va_D A (mW cA cZ ad (va_up f 0 0) g) := hD
    have hcn : (nI n).toNatClampNeg = n := nI_clamp (by omega)
    obtain ⟨lo, hi, hlo, hbe, hle, hhi⟩ := hL n hn
    refine lv_aload_n hx hb dX1_giveUp_10 rfl (lv_at hl 0 rfl) ?_
    refine va_get (D := D) (ci := 1) (v := .ref (ad 6)) (C := RX1) (T := TX1) (N := 18) hx hb hts hfin hown hK hP 0 rfl rfl 6 (by decide) (hts _ (List.mem_cons_of_mem _ (List.mem_append_left _ (List.mem_append_left _ (List.mem_of_getElem? (i := 0) rfl))))) (fun _ h9 => h9) rfl dX1_giveUp_11 ?_
    refine lv_iload_n hx hb dX1_giveUp_14 rfl (lv_at hl 1 rfl) ?_
    refine lv_iconst (v := (-1)) hx hb dX1_giveUp_15 (by decide) ?_
    refine va_iast hx hb hK hP hD hS 4 0 rfl rfl (vp_in_nI (by omega) (by decide)) dX1_giveUp_16 (fun H locs hP hD hS => ?_)
    have hix : (nI n).toNatClampNeg = n := nI_clamp (by omega)
    rw [hix] at hP hD
    have hP : va_P D vwCl (mW cA cZ ad (va_up f 0 0) (va_up g 6 (upd (g 6) n (-1)))) H := hP
    have hD : va_D A (mW cA cZ ad (va_up f 0 0) (va_up g 6 (upd (g 6) n (-1)))) := hD
    refine lv_aload_n hx hb dX1_giveUp_17 rfl (lv_at hl 0 rfl) ?_
    refine lv_iload_n hx hb dX1_giveUp_18 rfl (lv_at hl 1 rfl) ?_
    refine lv_iconst (v := 1) hx hb dX1_giveUp_19 (by decide) ?_
    refine vp_callSi (W.runV (As := [.int (nI n), .int 1]) (rest := []) ⟨hx, hb, hml, hown, hts⟩ (c_X1_many l D cA cZ cL ad (va_up f 0 0) (va_up g 6 (upd (g 6) n (-1))) n 1 nR nB (show mI nR nB (va_up f 0 0) from hI) (by omega) lo hi hlo hbe (by omega) (by omega)) (cwV 2 hts gX1_giveUp_X1_many rfl rfl rfl (by decide +kernel) ⟨Nat.le_of_ble_eq_true rfl, Nat.le_of_ble_eq_true rfl⟩) ⟨qPre_blind, va_recv hK hP (ci := 1) (q0 := 0) rfl rfl, qPre_at hP hK⟩ rfl rfl hl.1 rfl (lv_room (Nat.le_of_ble_eq_true rfl)) dX1_giveUp_20 ⟨Nat.le_of_ble_eq_true rfl, Nat.le_of_ble_eq_true rfl⟩) (fun z hz => ?_)
    subst hz
    exact W.iret (v := nI (cnt (mP (va_up g 6 (upd (g 6) n (-1))) 1) lo hi)) hx hb hr (fun t ht hW => ⟨⟨nI (cnt (mP (va_up g 6 (upd (g 6) n (-1))) 1) lo hi), ((va_up f 0 0), (va_up g 6 (upd (g 6) n (-1)))), rfl, (Or.inr (⟨c_5, (by rw [hcn, mLo_of hlo (by omega), mHi_of hbe hhi]; rfl), rfl, (by rw [hcn])⟩)), by rw [ht]; exact hP, hD⟩, hS.F ht⟩) hS.2.2 dX1_giveUp_23
  · have c_5 := bI_0.mp c_5
    refine lv_iconst (v := 0) hx hb dX1_giveUp_8 (by decide) ?_
    exact W.iret (v := 0) hx hb hr (fun t ht hW => ⟨⟨0, ((va_up f 0 (mMv f g r)), g), rfl, (Or.inl (⟨c_5, rfl, rfl⟩)), by rw [ht]; exact hP, hD⟩, hS.F ht⟩) hS.2.2 dX1_giveUp_9
set_option maxHeartbeats 4000000 in
set_option maxRecDepth 100000 in
/-- rows -/
theorem c_X1_rows (l : Launch) (D : va_G) (cA cZ cL : ClassId) (ad : Nat → Nat) (f : qFs) (g : qGs) (sz : Nat) (sh : Int32) (nR : Nat) (nB : Nat) (hI : mI nR nB f) (hL : mL nR g) : Met l yX1_rows wsX1_rows ({ frames := 2, cells := 0, slots := 0, locals := 45 } : Room) (va_Pc [.ref (ad 18), .int sh] (qPreW D (qTy cA cZ cL) (mW cA cZ ad f g) sz)) (va_Qi (fun (z : Int32) (u : qFs × qGs) => ((¬ (xShard sh)) ∧ u.1 = va_up f 0 1 ∧ u.2 = g) ∨ ((xShard sh) ∧ z = nI (sm (mRowsP nR g sh) nR) ∧ u.1 = va_up f 0 0 ∧ u.2 = g)) (qAt D (va_A (mW cA cZ ad f g) sz) (fun u : qFs × qGs => mW cA cZ ad u.1 u.2)) (va_A (mW cA cZ ad f g) sz)) 0 0 (va_A (mW cA cZ ad f g) sz) := by
  refine Met.ofW (cc := cX1_rows) (maxL := 4) (ret := (some .int)) (by decide) rfl ?_
  intro p e s m args below meth c s₁ B hml hv
  obtain ⟨rfl, hsz, hP, hK, hD0⟩ := hv
  have hx := B.exec
  have hb := B.bytes
  have hr := B.returns
  have hts := atoms_spec (ws := wsX1_rows) B.pre
  have hown : s.vm.findClass RX1 = some m.cls := findClass_of_methodNamed B.named
  have hlocks := B.notSynchronized
  subst hsz
  have hD := hD0.self (sz := s.heap.size)
  generalize hAe : va_A (mW cA cZ ad f g) s.heap.size = A at hD ⊢
  have hA : ∀ q : Nat, s.heap.size ≤ q → A q := fun q h => by rw [← hAe]; exact Or.inr h
  have hS : va_S A s.heap s.heap [] := va_S.rf
  have hfin : ∀ w ∈ wsX10, w ∈ wsX1_rows := fun w h => (List.mem_cons_of_mem _ (List.mem_append_right _ h))
  have hl := lv_entry ([.ref (ad 18), .int sh]) (n := 4) (Nat.le_of_ble_eq_true rfl)
  rw [lg_entry_eq]
  generalize (lg_sl ([.ref (ad 18), .int sh]) ++ List.replicate (4 - (lg_sl ([.ref (ad 18), .int sh])).length) Slot.unset).toArray = ls at hl ⊢
  have hl : lv_has ls 4 [(0, .ref (ad 18)), (1, .int sh)] := hl
  have hR8 := hI.2.2.1
  refine lv_aload_n hx hb dX1_rows_0 rfl (lv_at hl 0 rfl) ?_
  refine lv_iload_n hx hb dX1_rows_1 rfl (lv_at hl 1 rfl) ?_
  refine vp_callSi (W.runS (As := [.int sh]) (rest := [.ref (ad 18)]) ⟨hx, hb, hml, hown, hts⟩ (c_X1_isShard l sh) (va_cwS 1 hts gX1_rows_X1_isShard rfl rfl rfl (by decide +kernel) ⟨Nat.le_of_ble_eq_true rfl, Nat.le_of_ble_eq_true rfl⟩) ⟨qN_blind, qN_at⟩ rfl rfl hl.1 rfl (lv_room (Nat.le_of_ble_eq_true rfl)) dX1_rows_2 ⟨Nat.le_of_ble_eq_true rfl, Nat.le_of_ble_eq_true rfl⟩) (fun z hz => ?_)
  subst hz
  refine lv_if_eq (tgt := 12) hx hb dX1_rows_5 (by decide) (fun c_5 => ?_) (fun c_5 => ?_)
  · have c_5 := bI_0.mp c_5
    refine lv_iconst (v := 1) hx hb dX1_rows_12 (by decide) ?_
    refine va_put (D := D) (ci := 1) (v := .int 1) (ty := .int) (C := RX1) (T := TX1) (N := 18) hx hb hts hfin tyX1 tyX1_ok nmX1 hown hK hP hD hS 0 rfl rfl 0 (by decide) (hts _ (List.mem_cons_of_mem _ (List.mem_append_left _ (List.mem_append_left _ (List.mem_of_getElem? (i := 0) rfl))))) (fun _ h9 => h9) rfl (by decide +kernel) (rfl) (rfl) (Nat.le_of_ble_eq_true rfl) dX1_rows_13 (fun H locs hP hD hS => ?_)
    have hP : va_P D vwCl (mW cA cZ ad (va_up f 0 1) g) H := hP
    have hD : va_D A (mW cA cZ ad (va_up f 0 1) g) := hD
    refine lv_iconst (v := 0) hx hb dX1_rows_16 (by decide) ?_
    refine lv_istore_n (lv' := [(2, .int 0), (0, .ref (ad 18)), (1, .int sh)]) hx hb dX1_rows_17 rfl hl (by decide) rfl (fun ls hl => ?_)
    refine lv_iconst (v := 0) hx hb dX1_rows_18 (by decide) ?_
    refine lv_istore_n (lv' := [(3, .int 0), (2, .int 0), (0, .ref (ad 18)), (1, .int sh)]) hx hb dX1_rows_19 rfl hl (by decide) rfl (fun ls hl => ?_)
    refine lv_iload_n hx hb dX1_rows_20 rfl (lv_at hl 0 rfl) ?_
    refine lv_aload_n hx hb dX1_rows_21 rfl (lv_at hl 2 rfl) ?_
    refine va_get (D := D) (ci := 1) (v := .int (f 3)) (C := RX1) (T := TX1) (N := 18) hx hb hts hfin hown hK hP 0 rfl rfl 3 (by decide) (hts _ (List.mem_cons_of_mem _ (List.mem_append_left _ (List.mem_append_left _ (List.mem_of_getElem? (i := 1) rfl))))) (fun _ h9 => h9) rfl dX1_rows_22 ?_
    refine lv_icmp_ge (tgt := 83) hx hb dX1_rows_25 (by decide) (fun c_25 => ?_) (fun c_25 => ?_)
    · skip
      refine lv_iload_n hx hb dX1_rows_83 rfl (lv_at hl 1 rfl) ?_
      exact W.iret (v := 0) hx hb hr (fun t ht hW => ⟨⟨0, ((va_up f 0 1), g), rfl, (Or.inl (⟨c_5, rfl, rfl⟩)), by rw [ht]; exact hP, hD⟩, hS.F ht⟩) hS.2.2 dX1_rows_84
    · skip
      refine lv_aload_n hx hb dX1_rows_28 rfl (lv_at hl 2 rfl) ?_
      refine va_get (D := D) (ci := 1) (v := .int 1) (C := RX1) (T := TX1) (N := 18) hx hb hts hfin hown hK hP 0 rfl rfl 0 (by decide) (hts _ (List.mem_cons_of_mem _ (List.mem_append_left _ (List.mem_append_left _ (List.mem_of_getElem? (i := 0) rfl))))) (fun _ h9 => h9) rfl dX1_rows_29 ?_
      refine lv_if_ne (tgt := 83) hx hb dX1_rows_32 (by decide) (fun c_32 => ?_) (fun c_32 => ?_)
      · skip
        refine lv_iload_n hx hb dX1_rows_83 rfl (lv_at hl 1 rfl) ?_
        exact W.iret (v := 0) hx hb hr (fun t ht hW => ⟨⟨0, ((va_up f 0 1), g), rfl, (Or.inl (⟨c_5, rfl, rfl⟩)), by rw [ht]; exact hP, hD⟩, hS.F ht⟩) hS.2.2 dX1_rows_84
      · skip
        exact absurd c_32 (by decide)
  · have c_5 := bI_n.mp c_5
    refine lv_iconst (v := 0) hx hb dX1_rows_8 (by decide) ?_
    refine lv_goto (tgt := 13) hx hb dX1_rows_9 (by decide) ?_
    refine va_put (D := D) (ci := 1) (v := .int 0) (ty := .int) (C := RX1) (T := TX1) (N := 18) hx hb hts hfin tyX1 tyX1_ok nmX1 hown hK hP hD hS 0 rfl rfl 0 (by decide) (hts _ (List.mem_cons_of_mem _ (List.mem_append_left _ (List.mem_append_left _ (List.mem_of_getElem? (i := 0) rfl))))) (fun _ h9 => h9) rfl (by decide +kernel) (rfl) (rfl) (Nat.le_of_ble_eq_true rfl) dX1_rows_13 (fun H locs hP hD hS => ?_)
    have hP : va_P D vwCl (mW cA cZ ad (va_up f 0 0) g) H := hP
    have hD : va_D A (mW cA cZ ad (va_up f 0 0) g) := hD
    refine lv_iconst (v := 0) hx hb dX1_rows_16 (by decide) ?_
    refine lv_istore_n (lv' := [(2, .int 0), (0, .ref (ad 18)), (1, .int sh)]) hx hb dX1_rows_17 rfl hl (by decide) rfl (fun ls hl => ?_)
    refine lv_iconst (v := 0) hx hb dX1_rows_18 (by decide) ?_
    refine lv_istore_n (lv' := [(3, .int 0), (2, .int 0), (0, .ref (ad 18)), (1, .int sh)]) hx hb dX1_rows_19 rfl hl (by decide) rfl (fun ls hl => ?_)
    have hloop_20 : ∀ (nme : Nat) (i : Nat) (acc : Nat), nR - i = nme → (i ≤ nR) → (acc = sm (mRowsP nR g sh) i) → ∀ (H : Heap) (locs : List Loc), va_P D vwCl (mW cA cZ ad (va_up f 0 0) g) H → va_D A (mW cA cZ ad (va_up f 0 0) g) → va_S A s.heap H locs → ∀ ls : Array Slot, lv_has ls 4 [(0, .ref (ad 18)), (1, .int sh), (2, .int (nI acc)), (3, .int (nI i))] → W p l e (headSpec wsX1_rows ({ frames := 2, cells := 0, slots := 0, locals := 45 } : Room)).room s m ([.ref (ad 18), .int sh] : List Value).toArray below meth c H locs 0 0 (MQ below (va_Qi (fun (z : Int32) (u : qFs × qGs) => ((¬ (xShard sh)) ∧ u.1 = va_up f 0 1 ∧ u.2 = g) ∨ ((xShard sh) ∧ z = nI (sm (mRowsP nR g sh) nR) ∧ u.1 = va_up f 0 0 ∧ u.2 = g)) (qAt D A (fun u : qFs × qGs => mW cA cZ ad u.1 u.2)) A) ([.ref (ad 18), .int sh] : List Value).toArray s 0 0 A) (F0 m 20 ls []) := by
      intro nme
      induction nme using Nat.strongRecOn with
      | ind nme ih =>
        intro i acc hnme hi9 hc H locs hP hD hS ls hl
        refine lv_iload_n hx hb dX1_rows_20 rfl (lv_at hl 3 rfl) ?_
        refine lv_aload_n hx hb dX1_rows_21 rfl (lv_at hl 0 rfl) ?_
        refine va_get (D := D) (ci := 1) (v := .int (f 3)) (C := RX1) (T := TX1) (N := 18) hx hb hts hfin hown hK hP 0 rfl rfl 3 (by decide) (hts _ (List.mem_cons_of_mem _ (List.mem_append_left _ (List.mem_append_left _ (List.mem_of_getElem? (i := 1) rfl))))) (fun _ h9 => h9) rfl dX1_rows_22 ?_
        refine lv_topi (fun v_22 hv_22 => ?_)
        have hv_22 : v_22 = nI nR := hv_22.trans (hI.1)
        subst hv_22
        refine lv_icmp_ge (tgt := 83) hx hb dX1_rows_25 (by decide) (fun c_25 => ?_) (fun c_25 => ?_)
        · skip
          have hge : i = nR := by have := n_ge c_25 (by omega) (by omega); omega
          subst hge
          refine lv_iload_n hx hb dX1_rows_83 rfl (lv_at hl 2 rfl) ?_
          exact W.iret (v := nI acc) hx hb hr (fun t ht hW => ⟨⟨nI acc, ((va_up f 0 0), g), rfl, (Or.inr (⟨c_5, (by rw [hc]), rfl, rfl⟩)), by rw [ht]; exact hP, hD⟩, hS.F ht⟩) hS.2.2 dX1_rows_84
        · skip
          have hlt : i < nR := n_lt c_25 (by omega)
          obtain ⟨lo, hi, hlo, hbe, hle, hhi⟩ := hL i hlt
          refine lv_aload_n hx hb dX1_rows_28 rfl (lv_at hl 0 rfl) ?_
          refine va_get (D := D) (ci := 1) (v := .int 0) (C := RX1) (T := TX1) (N := 18) hx hb hts hfin hown hK hP 0 rfl rfl 0 (by decide) (hts _ (List.mem_cons_of_mem _ (List.mem_append_left _ (List.mem_append_left _ (List.mem_of_getElem? (i := 0) rfl))))) (fun _ h9 => h9) rfl dX1_rows_29 ?_
          refine lv_if_ne (tgt := 83) hx hb dX1_rows_32 (by decide) (fun c_32 => ?_) (fun c_32 => ?_)
          · skip
            exact absurd c_32 (by decide)
          · skip
            refine lv_iload_n hx hb dX1_rows_35 rfl (lv_at hl 2 rfl) ?_
            refine lv_aload_n hx hb dX1_rows_36 rfl (lv_at hl 0 rfl) ?_
            refine va_get (D := D) (ci := 1) (v := .ref (ad 5)) (C := RX1) (T := TX1) (N := 18) hx hb hts hfin hown hK hP 0 rfl rfl 5 (by decide) (hts _ (List.mem_cons_of_mem _ (List.mem_append_left _ (List.mem_append_left _ (List.mem_of_getElem? (i := 2) rfl))))) (fun _ h9 => h9) rfl dX1_rows_37 ?_
            refine lv_iload_n hx hb dX1_rows_40 rfl (lv_at hl 3 rfl) ?_
            refine va_iald hx hb hK hP 3 0 rfl rfl (vp_in_nI (by omega) (by decide)) dX1_rows_41 ?_
            refine lv_topi (fun v_41 hv_41 => ?_)
            have hv_41 : v_41 = g 5 i := hv_41.trans (by rw [nI_clamp (by omega)])
            subst hv_41
            refine lv_iload_n hx hb dX1_rows_42 rfl (lv_at hl 1 rfl) ?_
            refine lv_icmp_ne (tgt := 55) hx hb dX1_rows_43 (by decide) (fun c_43 => ?_) (fun c_43 => ?_)
            · skip
              refine lv_aload_n hx hb dX1_rows_55 rfl (lv_at hl 0 rfl) ?_
              refine va_get (D := D) (ci := 1) (v := .ref (ad 6)) (C := RX1) (T := TX1) (N := 18) hx hb hts hfin hown hK hP 0 rfl rfl 6 (by decide) (hts _ (List.mem_cons_of_mem _ (List.mem_append_left _ (List.mem_append_left _ (List.mem_of_getElem? (i := 3) rfl))))) (fun _ h9 => h9) rfl dX1_rows_56 ?_
              refine lv_iload_n hx hb dX1_rows_59 rfl (lv_at hl 3 rfl) ?_
              refine va_iald hx hb hK hP 4 0 rfl rfl (vp_in_nI (by omega) (by decide)) dX1_rows_60 ?_
              refine lv_topi (fun v_60 hv_60 => ?_)
              have hv_60 : v_60 = g 6 i := hv_60.trans (by rw [nI_clamp (by omega)])
              subst hv_60
              refine lv_iload_n hx hb dX1_rows_61 rfl (lv_at hl 1 rfl) ?_
              refine lv_icmp_ne (tgt := 74) hx hb dX1_rows_62 (by decide) (fun c_62 => ?_) (fun c_62 => ?_)
              · skip
                refine lv_iconst (v := 0) hx hb dX1_rows_74 (by decide) ?_
                refine lv_iadd hx hb dX1_rows_75 ?_
                refine lv_topi (fun v_75 hv_75 => ?_)
                have hv_75 : v_75 = nI (acc + 0) := hv_75.trans (by rw [Int32.add_zero, Nat.add_zero])
                subst hv_75
                refine lv_istore_n (lv' := [(2, .int (nI (acc + 0))), (0, .ref (ad 18)), (1, .int sh), (3, .int (nI i))]) hx hb dX1_rows_76 rfl hl (by decide) rfl (fun ls hl => ?_)
                refine lv_iinc (v := nI (i + 1)) (lv' := [(3, .int (nI (i + 1))), (2, .int (nI (acc + 0))), (0, .ref (ad 18)), (1, .int sh)]) hx hb dX1_rows_77 hl (k := 3) rfl (nI_1 i) (by decide) rfl (fun ls hl => ?_)
                refine lv_goto (tgt := 20) hx hb dX1_rows_80 (by decide) ?_
                exact ih _ (by omega) (i + 1) (acc + 0) rfl (by omega) (by show _ = sm _ i + mRowsP nR g sh i; rw [← hc, show mRowsP nR g sh i = 0 by unfold mRowsP; rw [if_neg c_43, if_neg c_62]]) _ _ hP hD hS _ (lv_sub hl [2, 3, 1, 0] rfl)
              · skip
                refine lv_aload_n hx hb dX1_rows_65 rfl (lv_at hl 0 rfl) ?_
                refine lv_iload_n hx hb dX1_rows_66 rfl (lv_at hl 3 rfl) ?_
                refine lv_iconst (v := 1) hx hb dX1_rows_67 (by decide) ?_
                refine vp_callSi (W.runV (As := [.int (nI i), .int 1]) (rest := [.int (nI acc)]) ⟨hx, hb, hml, hown, hts⟩ (c_X1_many l D cA cZ cL ad (va_up f 0 0) g i 1 nR nB (show mI nR nB (va_up f 0 0) from hI) (by omega) lo hi hlo hbe (by omega) (by omega)) (cwV 2 hts gX1_rows_X1_many rfl rfl rfl (by decide +kernel) ⟨Nat.le_of_ble_eq_true rfl, Nat.le_of_ble_eq_true rfl⟩) ⟨qPre_blind, va_recv hK hP (ci := 1) (q0 := 0) rfl rfl, qPre_at hP hK⟩ rfl rfl hl.1 rfl (lv_room (Nat.le_of_ble_eq_true rfl)) dX1_rows_68 ⟨Nat.le_of_ble_eq_true rfl, Nat.le_of_ble_eq_true rfl⟩) (fun z hz => ?_)
                subst hz
                refine lv_goto (tgt := 75) hx hb dX1_rows_71 (by decide) ?_
                refine lv_iadd hx hb dX1_rows_75 ?_
                refine lv_topi (fun v_75 hv_75 => ?_)
                have hv_75 : v_75 = nI (acc + (cnt (mP g 1) lo hi)) := hv_75.trans (nI_add _ _)
                subst hv_75
                refine lv_istore_n (lv' := [(2, .int (nI (acc + (cnt (mP g 1) lo hi)))), (0, .ref (ad 18)), (1, .int sh), (3, .int (nI i))]) hx hb dX1_rows_76 rfl hl (by decide) rfl (fun ls hl => ?_)
                refine lv_iinc (v := nI (i + 1)) (lv' := [(3, .int (nI (i + 1))), (2, .int (nI (acc + (cnt (mP g 1) lo hi)))), (0, .ref (ad 18)), (1, .int sh)]) hx hb dX1_rows_77 hl (k := 3) rfl (nI_1 i) (by decide) rfl (fun ls hl => ?_)
                refine lv_goto (tgt := 20) hx hb dX1_rows_80 (by decide) ?_
                exact ih _ (by omega) (i + 1) (acc + cnt (mP g 1) lo hi) rfl (by omega) (by show _ = sm _ i + mRowsP nR g sh i; rw [← hc, show mRowsP nR g sh i = cnt (mP g 1) lo hi by unfold mRowsP; rw [if_neg c_43, if_pos c_62, mLo_of hlo (by omega), mHi_of hbe hhi]]) _ _ hP hD hS _ (lv_sub hl [2, 3, 1, 0] rfl)
            · skip
              refine lv_aload_n hx hb dX1_rows_46 rfl (lv_at hl 0 rfl) ?_
              refine lv_iload_n hx hb dX1_rows_47 rfl (lv_at hl 3 rfl) ?_
              refine lv_iconst (v := 0) hx hb dX1_rows_48 (by decide) ?_
              refine vp_callSi (W.runV (As := [.int (nI i), .int 0]) (rest := [.int (nI acc)]) ⟨hx, hb, hml, hown, hts⟩ (c_X1_many l D cA cZ cL ad (va_up f 0 0) g i 0 nR nB (show mI nR nB (va_up f 0 0) from hI) (by omega) lo hi hlo hbe (by omega) (by omega)) (cwV 2 hts gX1_rows_X1_many rfl rfl rfl (by decide +kernel) ⟨Nat.le_of_ble_eq_true rfl, Nat.le_of_ble_eq_true rfl⟩) ⟨qPre_blind, va_recv hK hP (ci := 1) (q0 := 0) rfl rfl, qPre_at hP hK⟩ rfl rfl hl.1 rfl (lv_room (Nat.le_of_ble_eq_true rfl)) dX1_rows_49 ⟨Nat.le_of_ble_eq_true rfl, Nat.le_of_ble_eq_true rfl⟩) (fun z hz => ?_)
              subst hz
              refine lv_goto (tgt := 75) hx hb dX1_rows_52 (by decide) ?_
              refine lv_iadd hx hb dX1_rows_75 ?_
              refine lv_topi (fun v_75 hv_75 => ?_)
              have hv_75 : v_75 = nI (acc + (cnt (mP g 0) lo hi)) := hv_75.trans (nI_add _ _)
              subst hv_75
              refine lv_istore_n (lv' := [(2, .int (nI (acc + (cnt (mP g 0) lo hi)))), (0, .ref (ad 18)), (1, .int sh), (3, .int (nI i))]) hx hb dX1_rows_76 rfl hl (by decide) rfl (fun ls hl => ?_)
              refine lv_iinc (v := nI (i + 1)) (lv' := [(3, .int (nI (i + 1))), (2, .int (nI (acc + (cnt (mP g 0) lo hi)))), (0, .ref (ad 18)), (1, .int sh)]) hx hb dX1_rows_77 hl (k := 3) rfl (nI_1 i) (by decide) rfl (fun ls hl => ?_)
              refine lv_goto (tgt := 20) hx hb dX1_rows_80 (by decide) ?_
              exact ih _ (by omega) (i + 1) (acc + cnt (mP g 0) lo hi) rfl (by omega) (by show _ = sm _ i + mRowsP nR g sh i; rw [← hc, show mRowsP nR g sh i = cnt (mP g 0) lo hi by unfold mRowsP; rw [if_pos c_43, mLo_of hlo (by omega), mHi_of hbe hhi]]) _ _ hP hD hS _ (lv_sub hl [2, 3, 1, 0] rfl)
    exact hloop_20 _ 0 0 rfl (by omega) rfl _ _ hP hD hS _ (lv_sub hl [2, 3, 1, 0] rfl)
set_option maxHeartbeats 4000000 in
set_option maxRecDepth 100000 in
/-- fix -/
theorem c_X1_fix (l : Launch) (D : va_G) (cA cZ cL : ClassId) (ad : Nat → Nat) (f : qFs) (g : qGs) (sz : Nat) : Met l yX1_fix wsX1_fix ({ frames := 1, cells := 0, slots := 0, locals := 21 } : Room) (va_Pc [.ref (ad 18)] (qPreW D (qTy cA cZ cL) (mW cA cZ ad f g) sz)) (va_Qi (fun (z : Int32) (u : qFs × qGs) => ((¬ f 8 = 0) ∧ u.1 = va_up f 0 1 ∧ u.2 = g) ∨ ((f 8 = 0) ∧ z = f 2 ∧ u.1 = va_up (va_up (va_up f 0 0) 8 1) 9 (f 9 + 1) ∧ u.2 = va_up (va_up g 10 (fun j => if j < 100 then mRo g j else g 10 j)) 11 (fun j => if j < 100 then 0 else g 11 j))) (qAt D (va_A (mW cA cZ ad f g) sz) (fun u : qFs × qGs => mW cA cZ ad u.1 u.2)) (va_A (mW cA cZ ad f g) sz)) 0 0 (va_A (mW cA cZ ad f g) sz) := by
  refine Met.ofW (cc := cX1_fix) (maxL := 2) (ret := (some .int)) (by decide) rfl ?_
  intro p e s m args below meth c s₁ B hml hv
  obtain ⟨rfl, hsz, hP, hK, hD0⟩ := hv
  have hx := B.exec
  have hb := B.bytes
  have hr := B.returns
  have hts := atoms_spec (ws := wsX1_fix) B.pre
  have hown : s.vm.findClass RX1 = some m.cls := findClass_of_methodNamed B.named
  have hlocks := B.notSynchronized
  subst hsz
  have hD := hD0.self (sz := s.heap.size)
  generalize hAe : va_A (mW cA cZ ad f g) s.heap.size = A at hD ⊢
  have hA : ∀ q : Nat, s.heap.size ≤ q → A q := fun q h => by rw [← hAe]; exact Or.inr h
  have hS : va_S A s.heap s.heap [] := va_S.rf
  have hfin : ∀ w ∈ wsX10, w ∈ wsX1_fix := fun w h => (List.mem_cons_of_mem _ (List.mem_append_right _ h))
  have hl := lv_entry ([.ref (ad 18)]) (n := 2) (Nat.le_of_ble_eq_true rfl)
  rw [lg_entry_eq]
  generalize (lg_sl ([.ref (ad 18)]) ++ List.replicate (2 - (lg_sl ([.ref (ad 18)])).length) Slot.unset).toArray = ls at hl ⊢
  have hl : lv_has ls 2 [(0, .ref (ad 18))] := hl
  refine lv_aload_n hx hb dX1_fix_0 rfl (lv_at hl 0 rfl) ?_
  refine lv_aload_n hx hb dX1_fix_1 rfl (lv_at hl 0 rfl) ?_
  refine va_get (D := D) (ci := 1) (v := .int (f 8)) (C := RX1) (T := TX1) (N := 18) hx hb hts hfin hown hK hP 0 rfl rfl 8 (by decide) (hts _ (List.mem_cons_of_mem _ (List.mem_append_left _ (List.mem_of_getElem? (i := 0) rfl)))) (fun _ h9 => h9) rfl dX1_fix_2 ?_
  refine lv_if_eq (tgt := 12) hx hb dX1_fix_5 (by decide) (fun c_5 => ?_) (fun c_5 => ?_)
  · skip
    refine lv_iconst (v := 0) hx hb dX1_fix_12 (by decide) ?_
    refine va_put (D := D) (ci := 1) (v := .int 0) (ty := .int) (C := RX1) (T := TX1) (N := 18) hx hb hts hfin tyX1 tyX1_ok nmX1 hown hK hP hD hS 0 rfl rfl 0 (by decide) (hts _ (List.mem_cons_of_mem _ (List.mem_append_left _ (List.mem_of_getElem? (i := 1) rfl)))) (fun _ h9 => h9) rfl (by decide +kernel) (rfl) (rfl) (Nat.le_of_ble_eq_true rfl) dX1_fix_13 (fun H locs hP hD hS => ?_)
    have hP : va_P D vwCl (mW cA cZ ad (va_up f 0 0) g) H := hP
    have hD : va_D A (mW cA cZ ad (va_up f 0 0) g) := hD
    refine lv_aload_n hx hb dX1_fix_16 rfl (lv_at hl 0 rfl) ?_
    refine va_get (D := D) (ci := 1) (v := .int 0) (C := RX1) (T := TX1) (N := 18) hx hb hts hfin hown hK hP 0 rfl rfl 0 (by decide) (hts _ (List.mem_cons_of_mem _ (List.mem_append_left _ (List.mem_of_getElem? (i := 1) rfl)))) (fun _ h9 => h9) rfl dX1_fix_17 ?_
    refine lv_if_le (tgt := 25) hx hb dX1_fix_20 (by decide) (fun c_20 => ?_) (fun c_20 => ?_)
    · skip
      refine lv_aload_n hx hb dX1_fix_25 rfl (lv_at hl 0 rfl) ?_
      refine lv_iconst (v := 1) hx hb dX1_fix_26 (by decide) ?_
      refine va_put (D := D) (ci := 1) (v := .int 1) (ty := .boolean) (C := RX1) (T := TX1) (N := 18) hx hb hts hfin tyX1 tyX1_ok nmX1 hown hK hP hD hS 0 rfl rfl 8 (by decide) (hts _ (List.mem_cons_of_mem _ (List.mem_append_left _ (List.mem_of_getElem? (i := 0) rfl)))) (fun _ h9 => h9) rfl (by decide +kernel) (rfl) (rfl) (Nat.le_of_ble_eq_true rfl) dX1_fix_27 (fun H locs hP hD hS => ?_)
      have hP : va_P D vwCl (mW cA cZ ad (va_up (va_up f 0 0) 8 1) g) H := hP
      have hD : va_D A (mW cA cZ ad (va_up (va_up f 0 0) 8 1) g) := hD
      refine lv_aload_n hx hb dX1_fix_30 rfl (lv_at hl 0 rfl) ?_
      refine lv_dup hx hb dX1_fix_31 rfl ?_
      refine va_get (D := D) (ci := 1) (v := .int (f 9)) (C := RX1) (T := TX1) (N := 18) hx hb hts hfin hown hK hP 0 rfl rfl 9 (by decide) (hts _ (List.mem_cons_of_mem _ (List.mem_append_left _ (List.mem_of_getElem? (i := 2) rfl)))) (fun _ h9 => h9) rfl dX1_fix_32 ?_
      refine lv_iconst (v := 1) hx hb dX1_fix_35 (by decide) ?_
      refine lv_iadd hx hb dX1_fix_36 ?_
      refine va_put (D := D) (ci := 1) (v := .int ((f 9) + 1)) (ty := .int) (C := RX1) (T := TX1) (N := 18) hx hb hts hfin tyX1 tyX1_ok nmX1 hown hK hP hD hS 0 rfl rfl 9 (by decide) (hts _ (List.mem_cons_of_mem _ (List.mem_append_left _ (List.mem_of_getElem? (i := 2) rfl)))) (fun _ h9 => h9) rfl (by decide +kernel) (rfl) (rfl) (Nat.le_of_ble_eq_true rfl) dX1_fix_37 (fun H locs hP hD hS => ?_)
      have hP : va_P D vwCl (mW cA cZ ad (va_up (va_up (va_up f 0 0) 8 1) 9 ((f 9) + 1)) g) H := hP
      have hD : va_D A (mW cA cZ ad (va_up (va_up (va_up f 0 0) 8 1) 9 ((f 9) + 1)) g) := hD
      refine lv_iconst (v := 0) hx hb dX1_fix_40 (by decide) ?_
      refine lv_istore_n (lv' := [(1, .int 0), (0, .ref (ad 18))]) hx hb dX1_fix_41 rfl hl (by decide) rfl (fun ls hl => ?_)
      have hloop_42 : ∀ (nme : Nat) (k : Nat) (rl : Nat → Int32) (la : Nat → Int32), 100 - k = nme → (k ≤ 100) → (rl = fun j => if j < k then mRo g j else g 10 j) → (la = fun j => if j < k then (0 : Int32) else g 11 j) → ∀ (H : Heap) (locs : List Loc), va_P D vwCl (mW cA cZ ad (va_up (va_up (va_up f 0 0) 8 1) 9 (f 9 + 1)) (va_up (va_up g 10 rl) 11 la)) H → va_D A (mW cA cZ ad (va_up (va_up (va_up f 0 0) 8 1) 9 (f 9 + 1)) (va_up (va_up g 10 rl) 11 la)) → va_S A s.heap H locs → ∀ ls : Array Slot, lv_has ls 2 [(0, .ref (ad 18)), (1, .int (nI k))] → W p l e (headSpec wsX1_fix ({ frames := 1, cells := 0, slots := 0, locals := 21 } : Room)).room s m ([.ref (ad 18)] : List Value).toArray below meth c H locs 0 0 (MQ below (va_Qi (fun (z : Int32) (u : qFs × qGs) => ((¬ f 8 = 0) ∧ u.1 = va_up f 0 1 ∧ u.2 = g) ∨ ((f 8 = 0) ∧ z = f 2 ∧ u.1 = va_up (va_up (va_up f 0 0) 8 1) 9 (f 9 + 1) ∧ u.2 = va_up (va_up g 10 (fun j => if j < 100 then mRo g j else g 10 j)) 11 (fun j => if j < 100 then 0 else g 11 j))) (qAt D A (fun u : qFs × qGs => mW cA cZ ad u.1 u.2)) A) ([.ref (ad 18)] : List Value).toArray s 0 0 A) (F0 m 42 ls []) := by
        intro nme
        induction nme using Nat.strongRecOn with
        | ind nme ih =>
          intro k rl la hnme hk hc hd H locs hP hD hS ls hl
          refine lv_iload_n hx hb dX1_fix_42 rfl (lv_at hl 1 rfl) ?_
          refine lv_bipush (v := 100) hx hb dX1_fix_43 (by decide) ?_
          refine lv_icmp_ge (tgt := 92) hx hb dX1_fix_45 (by decide) (fun c_45 => ?_) (fun c_45 => ?_)
          · skip
            have hge : k = 100 := by have := n_ge (b := 100) c_45 (by omega) (by decide); omega
            subst hge
            refine lv_aload_n hx hb dX1_fix_92 rfl (lv_at hl 0 rfl) ?_
            refine va_get (D := D) (ci := 1) (v := .int (f 2)) (C := RX1) (T := TX1) (N := 18) hx hb hts hfin hown hK hP 0 rfl rfl 2 (by decide) (hts _ (List.mem_cons_of_mem _ (List.mem_append_left _ (List.mem_of_getElem? (i := 6) rfl)))) (fun _ h9 => h9) rfl dX1_fix_93 ?_
            exact W.iret (v := f 2) hx hb hr (fun t ht hW => ⟨⟨f 2, ((va_up (va_up (va_up f 0 0) 8 1) 9 (f 9 + 1)), (va_up (va_up g 10 rl) 11 la)), rfl, (Or.inr (⟨c_5, rfl, rfl, (by rw [hc, hd])⟩)), by rw [ht]; exact hP, hD⟩, hS.F ht⟩) hS.2.2 dX1_fix_96
          · skip
            have hlt : k < 100 := n_lt (b := 100) c_45 (by omega)
            refine lv_aload_n hx hb dX1_fix_48 rfl (lv_at hl 0 rfl) ?_
            refine va_get (D := D) (ci := 1) (v := .ref (ad 10)) (C := RX1) (T := TX1) (N := 18) hx hb hts hfin hown hK hP 0 rfl rfl 10 (by decide) (hts _ (List.mem_cons_of_mem _ (List.mem_append_left _ (List.mem_of_getElem? (i := 3) rfl)))) (fun _ h9 => h9) rfl dX1_fix_49 ?_
            refine lv_iload_n hx hb dX1_fix_52 rfl (lv_at hl 1 rfl) ?_
            refine lv_aload_n hx hb dX1_fix_53 rfl (lv_at hl 0 rfl) ?_
            refine lv_iload_n hx hb dX1_fix_54 rfl (lv_at hl 1 rfl) ?_
            refine vp_callSi (W.runV (As := [.int (nI k)]) (rest := [.int (nI k), .ref (ad 10)]) ⟨hx, hb, hml, hown, hts⟩ (c_X1_isThere l D cA cZ cL ad (va_up (va_up (va_up f 0 0) 8 1) 9 (f 9 + 1)) (va_up (va_up g 10 rl) 11 la) (nI k) (nat_key (by omega))) (cwV 1 hts gX1_fix_X1_isThere rfl rfl rfl (by decide +kernel) ⟨Nat.le_of_ble_eq_true rfl, Nat.le_of_ble_eq_true rfl⟩) ⟨qPre_blind, va_recv hK hP (ci := 1) (q0 := 0) rfl rfl, qPre_at hP hK⟩ rfl rfl hl.1 rfl (lv_room (Nat.le_of_ble_eq_true rfl)) dX1_fix_55 ⟨Nat.le_of_ble_eq_true rfl, Nat.le_of_ble_eq_true rfl⟩) (fun z hz => ?_)
            subst hz
            refine lv_topi (fun v_55 hv_55 => ?_)
            have hv_55 : v_55 = bI (mTh g k) := hv_55.trans (bI_congr (mThere_nat g (by omega)))
            subst hv_55
            refine lv_if_eq (tgt := 77) hx hb dX1_fix_58 (by decide) (fun c_58 => ?_) (fun c_58 => ?_)
            · have c_58 := bI_0.mp c_58
              refine lv_iconst (v := 0) hx hb dX1_fix_77 (by decide) ?_
              refine va_iast hx hb hK hP hD hS 6 0 rfl rfl (vp_in_nI (by omega) (by decide)) dX1_fix_78 (fun H locs hP hD hS => ?_)
              have hix : (nI k).toNatClampNeg = k := nI_clamp (by omega)
              rw [hix] at hP hD
              have hP : va_P D vwCl (mW cA cZ ad (va_up (va_up (va_up f 0 0) 8 1) 9 (f 9 + 1)) (va_up (va_up g 10 (upd rl k 0)) 11 la)) H := hP
              have hD : va_D A (mW cA cZ ad (va_up (va_up (va_up f 0 0) 8 1) 9 (f 9 + 1)) (va_up (va_up g 10 (upd rl k 0)) 11 la)) := hD
              refine lv_aload_n hx hb dX1_fix_79 rfl (lv_at hl 0 rfl) ?_
              refine va_get (D := D) (ci := 1) (v := .ref (ad 11)) (C := RX1) (T := TX1) (N := 18) hx hb hts hfin hown hK hP 0 rfl rfl 11 (by decide) (hts _ (List.mem_cons_of_mem _ (List.mem_append_left _ (List.mem_of_getElem? (i := 5) rfl)))) (fun _ h9 => h9) rfl dX1_fix_80 ?_
              refine lv_iload_n hx hb dX1_fix_83 rfl (lv_at hl 1 rfl) ?_
              refine lv_iconst (v := 0) hx hb dX1_fix_84 (by decide) ?_
              refine va_iast hx hb hK hP hD hS 7 0 rfl rfl (vp_in_nI (by omega) (by decide)) dX1_fix_85 (fun H locs hP hD hS => ?_)
              have hix : (nI k).toNatClampNeg = k := nI_clamp (by omega)
              rw [hix] at hP hD
              have hP : va_P D vwCl (mW cA cZ ad (va_up (va_up (va_up f 0 0) 8 1) 9 (f 9 + 1)) (va_up (va_up g 10 (upd rl k 0)) 11 (upd la k 0))) H := hP
              have hD : va_D A (mW cA cZ ad (va_up (va_up (va_up f 0 0) 8 1) 9 (f 9 + 1)) (va_up (va_up g 10 (upd rl k 0)) 11 (upd la k 0))) := hD
              refine lv_iinc (v := nI (k + 1)) (lv' := [(1, .int (nI (k + 1))), (0, .ref (ad 18))]) hx hb dX1_fix_86 hl (k := 1) rfl (nI_1 k) (by decide) rfl (fun ls hl => ?_)
              refine lv_goto (tgt := 42) hx hb dX1_fix_89 (by decide) ?_
              exact ih _ (by omega) (k + 1) (upd rl k 0) (upd la k 0) rfl (by omega) (by rw [hc]; have h := fix_step k (mRo g) (g 10); rw [show mRo g k = 0 from if_neg c_58] at h; exact h) (by rw [hd]; exact fix_step k (fun _ => 0) (g 11)) _ _ hP hD hS _ (lv_sub hl [1, 0] rfl)
            · have c_58 := bI_n.mp c_58
              refine lv_aload_n hx hb dX1_fix_61 rfl (lv_at hl 0 rfl) ?_
              refine va_get (D := D) (ci := 1) (v := .ref (ad 1)) (C := RX1) (T := TX1) (N := 18) hx hb hts hfin hown hK hP 0 rfl rfl 1 (by decide) (hts _ (List.mem_cons_of_mem _ (List.mem_append_left _ (List.mem_of_getElem? (i := 4) rfl)))) (fun _ h9 => h9) rfl dX1_fix_62 ?_
              refine lv_iload_n hx hb dX1_fix_65 rfl (lv_at hl 1 rfl) ?_
              refine va_iald hx hb hK hP 1 0 rfl rfl (vp_in_nI (by omega) (by decide)) dX1_fix_66 ?_
              refine lv_topi (fun v_66 hv_66 => ?_)
              have hv_66 : v_66 = g 1 k := hv_66.trans (by rw [nI_clamp (by omega)]; rfl)
              subst hv_66
              refine lv_iconst (v := 1) hx hb dX1_fix_67 (by decide) ?_
              refine lv_isub hx hb dX1_fix_68 ?_
              refine lv_bipush (v := 10) hx hb dX1_fix_69 (by decide) ?_
              refine lv_idiv hx hb dX1_fix_71 (by decide) ?_
              refine lv_iconst (v := 1) hx hb dX1_fix_72 (by decide) ?_
              refine lv_iadd hx hb dX1_fix_73 ?_
              refine lv_goto (tgt := 78) hx hb dX1_fix_74 (by decide) ?_
              refine va_iast hx hb hK hP hD hS 6 0 rfl rfl (vp_in_nI (by omega) (by decide)) dX1_fix_78 (fun H locs hP hD hS => ?_)
              have hix : (nI k).toNatClampNeg = k := nI_clamp (by omega)
              rw [hix] at hP hD
              have hP : va_P D vwCl (mW cA cZ ad (va_up (va_up (va_up f 0 0) 8 1) 9 (f 9 + 1)) (va_up (va_up g 10 (upd rl k ((((g 1 k) - 1) / 10) + 1))) 11 la)) H := hP
              have hD : va_D A (mW cA cZ ad (va_up (va_up (va_up f 0 0) 8 1) 9 (f 9 + 1)) (va_up (va_up g 10 (upd rl k ((((g 1 k) - 1) / 10) + 1))) 11 la)) := hD
              refine lv_aload_n hx hb dX1_fix_79 rfl (lv_at hl 0 rfl) ?_
              refine va_get (D := D) (ci := 1) (v := .ref (ad 11)) (C := RX1) (T := TX1) (N := 18) hx hb hts hfin hown hK hP 0 rfl rfl 11 (by decide) (hts _ (List.mem_cons_of_mem _ (List.mem_append_left _ (List.mem_of_getElem? (i := 5) rfl)))) (fun _ h9 => h9) rfl dX1_fix_80 ?_
              refine lv_iload_n hx hb dX1_fix_83 rfl (lv_at hl 1 rfl) ?_
              refine lv_iconst (v := 0) hx hb dX1_fix_84 (by decide) ?_
              refine va_iast hx hb hK hP hD hS 7 0 rfl rfl (vp_in_nI (by omega) (by decide)) dX1_fix_85 (fun H locs hP hD hS => ?_)
              have hix : (nI k).toNatClampNeg = k := nI_clamp (by omega)
              rw [hix] at hP hD
              have hP : va_P D vwCl (mW cA cZ ad (va_up (va_up (va_up f 0 0) 8 1) 9 (f 9 + 1)) (va_up (va_up g 10 (upd rl k ((((g 1 k) - 1) / 10) + 1))) 11 (upd la k 0))) H := hP
              have hD : va_D A (mW cA cZ ad (va_up (va_up (va_up f 0 0) 8 1) 9 (f 9 + 1)) (va_up (va_up g 10 (upd rl k ((((g 1 k) - 1) / 10) + 1))) 11 (upd la k 0))) := hD
              refine lv_iinc (v := nI (k + 1)) (lv' := [(1, .int (nI (k + 1))), (0, .ref (ad 18))]) hx hb dX1_fix_86 hl (k := 1) rfl (nI_1 k) (by decide) rfl (fun ls hl => ?_)
              refine lv_goto (tgt := 42) hx hb dX1_fix_89 (by decide) ?_
              exact ih _ (by omega) (k + 1) (upd rl k ((g 1 k - 1) / 10 + 1)) (upd la k 0) rfl (by omega) (by rw [hc]; have h := fix_step k (mRo g) (g 10); rw [show mRo g k = (g 1 k - 1) / 10 + 1 from if_pos c_58] at h; exact h) (by rw [hd]; exact fix_step k (fun _ => 0) (g 11)) _ _ hP hD hS _ (lv_sub hl [1, 0] rfl)
      exact hloop_42 _ 0 (g 10) (g 11) rfl (by omega) (by funext j; rw [if_neg (by omega)]) (by funext j; rw [if_neg (by omega)]) _ _ hP hD hS _ (lv_sub hl [1, 0] rfl)
    · skip
      exact absurd c_20 (by decide)
  · skip
    refine lv_iconst (v := 1) hx hb dX1_fix_8 (by decide) ?_
    refine lv_goto (tgt := 13) hx hb dX1_fix_9 (by decide) ?_
    refine va_put (D := D) (ci := 1) (v := .int 1) (ty := .int) (C := RX1) (T := TX1) (N := 18) hx hb hts hfin tyX1 tyX1_ok nmX1 hown hK hP hD hS 0 rfl rfl 0 (by decide) (hts _ (List.mem_cons_of_mem _ (List.mem_append_left _ (List.mem_of_getElem? (i := 1) rfl)))) (fun _ h9 => h9) rfl (by decide +kernel) (rfl) (rfl) (Nat.le_of_ble_eq_true rfl) dX1_fix_13 (fun H locs hP hD hS => ?_)
    have hP : va_P D vwCl (mW cA cZ ad (va_up f 0 1) g) H := hP
    have hD : va_D A (mW cA cZ ad (va_up f 0 1) g) := hD
    refine lv_aload_n hx hb dX1_fix_16 rfl (lv_at hl 0 rfl) ?_
    refine va_get (D := D) (ci := 1) (v := .int 1) (C := RX1) (T := TX1) (N := 18) hx hb hts hfin hown hK hP 0 rfl rfl 0 (by decide) (hts _ (List.mem_cons_of_mem _ (List.mem_append_left _ (List.mem_of_getElem? (i := 1) rfl)))) (fun _ h9 => h9) rfl dX1_fix_17 ?_
    refine lv_if_le (tgt := 25) hx hb dX1_fix_20 (by decide) (fun c_20 => ?_) (fun c_20 => ?_)
    · skip
      exact absurd c_20 (by decide)
    · skip
      refine lv_iconst (v := 0) hx hb dX1_fix_23 (by decide) ?_
      exact W.iret (v := 0) hx hb hr (fun t ht hW => ⟨⟨0, ((va_up f 0 1), g), rfl, (Or.inl (⟨c_5, rfl, rfl⟩)), by rw [ht]; exact hP, hD⟩, hS.F ht⟩) hS.2.2 dX1_fix_24
set_option maxHeartbeats 4000000 in
set_option maxRecDepth 100000 in
/-- send -/
theorem c_X1_send (l : Launch) (D : va_G) (cA cZ cL : ClassId) (ad : Nat → Nat) (f : qFs) (g : qGs) (sz : Nat) (k : Int32) (nR : Nat) (nB : Nat) (hI : mI nR nB f) (hLa : mLa nB g) : Met l yX1_send wsX1_send ({ frames := 2, cells := 0, slots := 0, locals := 42 } : Room) (va_Pc [.ref (ad 18), .int k] (qPreW D (qTy cA cZ cL) (mW cA cZ ad f g) sz)) (va_Qi (fun (z : Int32) (u : qFs × qGs) => ((¬ xKey k) ∧ u.1 = va_up f 0 1 ∧ u.2 = g) ∨ ((xKey k ∧ (f 8 = 0 ∨ g 10 k.toNatClampNeg ≤ 0 ∨ ¬ mThere g k ∨ 60 ≤ f 12 ∨ (¬ g 11 k.toNatClampNeg ≤ 0 ∧ g 14 (g 11 k.toNatClampNeg - 1).toNatClampNeg = 2))) ∧ u.1 = va_up f 0 2 ∧ u.2 = g) ∨ ((xKey k ∧ ¬ f 8 = 0 ∧ ¬ g 10 k.toNatClampNeg ≤ 0 ∧ mThere g k ∧ ¬ 60 ≤ f 12 ∧ (g 11 k.toNatClampNeg ≤ 0 ∨ ¬ g 14 (g 11 k.toNatClampNeg - 1).toNatClampNeg = 2)) ∧ z = nI nB ∧ u.1 = va_up (va_up f 0 0) 12 (nI (nB + 1)) ∧ u.2 = va_up (va_up (va_up (va_up (va_up g 13 (upd (g 13) nB (g 1 k.toNatClampNeg - 1))) 14 (upd (mSendS g k) nB 0)) 15 (upd (g 15) nB (f 9))) 16 (upd (g 16) nB (g 10 k.toNatClampNeg - 1))) 11 (upd (g 11) k.toNatClampNeg (nI (nB + 1))))) (qAt D (va_A (mW cA cZ ad f g) sz) (fun u : qFs × qGs => mW cA cZ ad u.1 u.2)) (va_A (mW cA cZ ad f g) sz)) 0 0 (va_A (mW cA cZ ad f g) sz) := by
  refine Met.ofW (cc := cX1_send) (maxL := 3) (ret := (some .int)) (by decide) rfl ?_
  intro p e s m args below meth c s₁ B hml hv
  obtain ⟨rfl, hsz, hP, hK, hD0⟩ := hv
  have hx := B.exec
  have hb := B.bytes
  have hr := B.returns
  have hts := atoms_spec (ws := wsX1_send) B.pre
  have hown : s.vm.findClass RX1 = some m.cls := findClass_of_methodNamed B.named
  have hlocks := B.notSynchronized
  subst hsz
  have hD := hD0.self (sz := s.heap.size)
  generalize hAe : va_A (mW cA cZ ad f g) s.heap.size = A at hD ⊢
  have hA : ∀ q : Nat, s.heap.size ≤ q → A q := fun q h => by rw [← hAe]; exact Or.inr h
  have hS : va_S A s.heap s.heap [] := va_S.rf
  have hfin : ∀ w ∈ wsX10, w ∈ wsX1_send := fun w h => (List.mem_cons_of_mem _ (List.mem_append_right _ h))
  have hl := lv_entry ([.ref (ad 18), .int k]) (n := 3) (Nat.le_of_ble_eq_true rfl)
  rw [lg_entry_eq]
  generalize (lg_sl ([.ref (ad 18), .int k]) ++ List.replicate (3 - (lg_sl ([.ref (ad 18), .int k])).length) Slot.unset).toArray = ls at hl ⊢
  have hl : lv_has ls 3 [(0, .ref (ad 18)), (1, .int k)] := hl
  have hB6 := hI.2.2.2.2
  refine lv_aload_n hx hb dX1_send_0 rfl (lv_at hl 0 rfl) ?_
  refine lv_iload_n hx hb dX1_send_1 rfl (lv_at hl 1 rfl) ?_
  refine vp_callSi (W.runS (As := [.int k]) (rest := [.ref (ad 18)]) ⟨hx, hb, hml, hown, hts⟩ (c_X1_isKey l k) (va_cwS 1 hts gX1_send_X1_isKey rfl rfl rfl (by decide +kernel) ⟨Nat.le_of_ble_eq_true rfl, Nat.le_of_ble_eq_true rfl⟩) ⟨qN_blind, qN_at⟩ rfl rfl hl.1 rfl (lv_room (Nat.le_of_ble_eq_true rfl)) dX1_send_2 ⟨Nat.le_of_ble_eq_true rfl, Nat.le_of_ble_eq_true rfl⟩) (fun z hz => ?_)
  subst hz
  refine lv_if_eq (tgt := 12) hx hb dX1_send_5 (by decide) (fun c_5 => ?_) (fun c_5 => ?_)
  · have c_5 := bI_0.mp c_5
    refine lv_iconst (v := 1) hx hb dX1_send_12 (by decide) ?_
    refine va_put (D := D) (ci := 1) (v := .int 1) (ty := .int) (C := RX1) (T := TX1) (N := 18) hx hb hts hfin tyX1 tyX1_ok nmX1 hown hK hP hD hS 0 rfl rfl 0 (by decide) (hts _ (List.mem_cons_of_mem _ (List.mem_append_left _ (List.mem_of_getElem? (i := 0) rfl)))) (fun _ h9 => h9) rfl (by decide +kernel) (rfl) (rfl) (Nat.le_of_ble_eq_true rfl) dX1_send_13 (fun H locs hP hD hS => ?_)
    have hP : va_P D vwCl (mW cA cZ ad (va_up f 0 1) g) H := hP
    have hD : va_D A (mW cA cZ ad (va_up f 0 1) g) := hD
    refine lv_aload_n hx hb dX1_send_16 rfl (lv_at hl 0 rfl) ?_
    refine va_get (D := D) (ci := 1) (v := .int 1) (C := RX1) (T := TX1) (N := 18) hx hb hts hfin hown hK hP 0 rfl rfl 0 (by decide) (hts _ (List.mem_cons_of_mem _ (List.mem_append_left _ (List.mem_of_getElem? (i := 0) rfl)))) (fun _ h9 => h9) rfl dX1_send_17 ?_
    refine lv_if_ne (tgt := 101) hx hb dX1_send_20 (by decide) (fun c_20 => ?_) (fun c_20 => ?_)
    · skip
      refine lv_aload_n hx hb dX1_send_101 rfl (lv_at hl 0 rfl) ?_
      refine va_get (D := D) (ci := 1) (v := .int 1) (C := RX1) (T := TX1) (N := 18) hx hb hts hfin hown hK hP 0 rfl rfl 0 (by decide) (hts _ (List.mem_cons_of_mem _ (List.mem_append_left _ (List.mem_of_getElem? (i := 0) rfl)))) (fun _ h9 => h9) rfl dX1_send_102 ?_
      refine lv_if_le (tgt := 110) hx hb dX1_send_105 (by decide) (fun c_105 => ?_) (fun c_105 => ?_)
      · skip
        exact absurd c_105 (by decide)
      · skip
        refine lv_iconst (v := 0) hx hb dX1_send_108 (by decide) ?_
        exact W.iret (v := 0) hx hb hr (fun t ht hW => ⟨⟨0, ((va_up f 0 1), g), rfl, (Or.inl (⟨c_5, rfl, rfl⟩)), by rw [ht]; exact hP, hD⟩, hS.F ht⟩) hS.2.2 dX1_send_109
    · skip
      exact absurd c_20 (by decide)
  · have c_5 := bI_n.mp c_5
    refine lv_iconst (v := 0) hx hb dX1_send_8 (by decide) ?_
    refine lv_goto (tgt := 13) hx hb dX1_send_9 (by decide) ?_
    refine va_put (D := D) (ci := 1) (v := .int 0) (ty := .int) (C := RX1) (T := TX1) (N := 18) hx hb hts hfin tyX1 tyX1_ok nmX1 hown hK hP hD hS 0 rfl rfl 0 (by decide) (hts _ (List.mem_cons_of_mem _ (List.mem_append_left _ (List.mem_of_getElem? (i := 0) rfl)))) (fun _ h9 => h9) rfl (by decide +kernel) (rfl) (rfl) (Nat.le_of_ble_eq_true rfl) dX1_send_13 (fun H locs hP hD hS => ?_)
    have hP : va_P D vwCl (mW cA cZ ad (va_up f 0 0) g) H := hP
    have hD : va_D A (mW cA cZ ad (va_up f 0 0) g) := hD
    refine lv_aload_n hx hb dX1_send_16 rfl (lv_at hl 0 rfl) ?_
    refine va_get (D := D) (ci := 1) (v := .int 0) (C := RX1) (T := TX1) (N := 18) hx hb hts hfin hown hK hP 0 rfl rfl 0 (by decide) (hts _ (List.mem_cons_of_mem _ (List.mem_append_left _ (List.mem_of_getElem? (i := 0) rfl)))) (fun _ h9 => h9) rfl dX1_send_17 ?_
    refine lv_if_ne (tgt := 101) hx hb dX1_send_20 (by decide) (fun c_20 => ?_) (fun c_20 => ?_)
    · skip
      exact absurd c_20 (by decide)
    · skip
      refine lv_aload_n hx hb dX1_send_23 rfl (lv_at hl 0 rfl) ?_
      refine va_get (D := D) (ci := 1) (v := .int (f 8)) (C := RX1) (T := TX1) (N := 18) hx hb hts hfin hown hK hP 0 rfl rfl 8 (by decide) (hts _ (List.mem_cons_of_mem _ (List.mem_append_left _ (List.mem_of_getElem? (i := 1) rfl)))) (fun _ h9 => h9) rfl dX1_send_24 ?_
      refine lv_if_eq (tgt := 60) hx hb dX1_send_27 (by decide) (fun c_27 => ?_) (fun c_27 => ?_)
      · skip
        refine lv_iconst (v := 0) hx hb dX1_send_60 (by decide) ?_
        refine lv_istore_n (lv' := [(2, .int 0), (0, .ref (ad 18)), (1, .int k)]) hx hb dX1_send_61 rfl hl (by decide) rfl (fun ls hl => ?_)
        refine lv_aload_n hx hb dX1_send_62 rfl (lv_at hl 1 rfl) ?_
        refine lv_iload_n hx hb dX1_send_63 rfl (lv_at hl 0 rfl) ?_
        refine lv_if_eq (tgt := 93) hx hb dX1_send_64 (by decide) (fun c_64 => ?_) (fun c_64 => ?_)
        · skip
          refine lv_iconst (v := 2) hx hb dX1_send_93 (by decide) ?_
          refine lv_goto (tgt := 98) hx hb dX1_send_94 (by decide) ?_
          refine va_put (D := D) (ci := 1) (v := .int 2) (ty := .int) (C := RX1) (T := TX1) (N := 18) hx hb hts hfin tyX1 tyX1_ok nmX1 hown hK hP hD hS 0 rfl rfl 0 (by decide) (hts _ (List.mem_cons_of_mem _ (List.mem_append_left _ (List.mem_of_getElem? (i := 0) rfl)))) (fun _ h9 => h9) rfl (by decide +kernel) (rfl) (rfl) (Nat.le_of_ble_eq_true rfl) dX1_send_98 (fun H locs hP hD hS => ?_)
          have hP : va_P D vwCl (mW cA cZ ad (va_up f 0 2) g) H := hP
          have hD : va_D A (mW cA cZ ad (va_up f 0 2) g) := hD
          refine lv_aload_n hx hb dX1_send_101 rfl (lv_at hl 1 rfl) ?_
          refine va_get (D := D) (ci := 1) (v := .int 2) (C := RX1) (T := TX1) (N := 18) hx hb hts hfin hown hK hP 0 rfl rfl 0 (by decide) (hts _ (List.mem_cons_of_mem _ (List.mem_append_left _ (List.mem_of_getElem? (i := 0) rfl)))) (fun _ h9 => h9) rfl dX1_send_102 ?_
          refine lv_if_le (tgt := 110) hx hb dX1_send_105 (by decide) (fun c_105 => ?_) (fun c_105 => ?_)
          · skip
            exact absurd c_105 (by decide)
          · skip
            refine lv_iconst (v := 0) hx hb dX1_send_108 (by decide) ?_
            exact W.iret (v := 0) hx hb hr (fun t ht hW => ⟨⟨0, ((va_up f 0 2), g), rfl, (Or.inr (Or.inl (⟨⟨c_5, Or.inl c_27⟩, rfl, rfl⟩))), by rw [ht]; exact hP, hD⟩, hS.F ht⟩) hS.2.2 dX1_send_109
        · skip
          exact absurd c_64 (by decide)
      · skip
        refine lv_aload_n hx hb dX1_send_30 rfl (lv_at hl 0 rfl) ?_
        refine va_get (D := D) (ci := 1) (v := .ref (ad 10)) (C := RX1) (T := TX1) (N := 18) hx hb hts hfin hown hK hP 0 rfl rfl 10 (by decide) (hts _ (List.mem_cons_of_mem _ (List.mem_append_left _ (List.mem_of_getElem? (i := 2) rfl)))) (fun _ h9 => h9) rfl dX1_send_31 ?_
        refine lv_iload_n hx hb dX1_send_34 rfl (lv_at hl 1 rfl) ?_
        refine va_iald hx hb hK hP 6 0 rfl rfl (x_in100 c_5) dX1_send_35 ?_
        refine lv_if_le (tgt := 60) hx hb dX1_send_36 (by decide) (fun c_36 => ?_) (fun c_36 => ?_)
        · skip
          refine lv_iconst (v := 0) hx hb dX1_send_60 (by decide) ?_
          refine lv_istore_n (lv' := [(2, .int 0), (0, .ref (ad 18)), (1, .int k)]) hx hb dX1_send_61 rfl hl (by decide) rfl (fun ls hl => ?_)
          refine lv_aload_n hx hb dX1_send_62 rfl (lv_at hl 1 rfl) ?_
          refine lv_iload_n hx hb dX1_send_63 rfl (lv_at hl 0 rfl) ?_
          refine lv_if_eq (tgt := 93) hx hb dX1_send_64 (by decide) (fun c_64 => ?_) (fun c_64 => ?_)
          · skip
            refine lv_iconst (v := 2) hx hb dX1_send_93 (by decide) ?_
            refine lv_goto (tgt := 98) hx hb dX1_send_94 (by decide) ?_
            refine va_put (D := D) (ci := 1) (v := .int 2) (ty := .int) (C := RX1) (T := TX1) (N := 18) hx hb hts hfin tyX1 tyX1_ok nmX1 hown hK hP hD hS 0 rfl rfl 0 (by decide) (hts _ (List.mem_cons_of_mem _ (List.mem_append_left _ (List.mem_of_getElem? (i := 0) rfl)))) (fun _ h9 => h9) rfl (by decide +kernel) (rfl) (rfl) (Nat.le_of_ble_eq_true rfl) dX1_send_98 (fun H locs hP hD hS => ?_)
            have hP : va_P D vwCl (mW cA cZ ad (va_up f 0 2) g) H := hP
            have hD : va_D A (mW cA cZ ad (va_up f 0 2) g) := hD
            refine lv_aload_n hx hb dX1_send_101 rfl (lv_at hl 1 rfl) ?_
            refine va_get (D := D) (ci := 1) (v := .int 2) (C := RX1) (T := TX1) (N := 18) hx hb hts hfin hown hK hP 0 rfl rfl 0 (by decide) (hts _ (List.mem_cons_of_mem _ (List.mem_append_left _ (List.mem_of_getElem? (i := 0) rfl)))) (fun _ h9 => h9) rfl dX1_send_102 ?_
            refine lv_if_le (tgt := 110) hx hb dX1_send_105 (by decide) (fun c_105 => ?_) (fun c_105 => ?_)
            · skip
              exact absurd c_105 (by decide)
            · skip
              refine lv_iconst (v := 0) hx hb dX1_send_108 (by decide) ?_
              exact W.iret (v := 0) hx hb hr (fun t ht hW => ⟨⟨0, ((va_up f 0 2), g), rfl, (Or.inr (Or.inl (⟨⟨c_5, Or.inr (Or.inl c_36)⟩, rfl, rfl⟩))), by rw [ht]; exact hP, hD⟩, hS.F ht⟩) hS.2.2 dX1_send_109
          · skip
            exact absurd c_64 (by decide)
        · skip
          refine lv_aload_n hx hb dX1_send_39 rfl (lv_at hl 0 rfl) ?_
          refine lv_iload_n hx hb dX1_send_40 rfl (lv_at hl 1 rfl) ?_
          refine vp_callSi (W.runV (As := [.int k]) (rest := []) ⟨hx, hb, hml, hown, hts⟩ (c_X1_isThere l D cA cZ cL ad (va_up f 0 0) g k c_5) (cwV 1 hts gX1_send_X1_isThere rfl rfl rfl (by decide +kernel) ⟨Nat.le_of_ble_eq_true rfl, Nat.le_of_ble_eq_true rfl⟩) ⟨qPre_blind, va_recv hK hP (ci := 1) (q0 := 0) rfl rfl, qPre_at hP hK⟩ rfl rfl hl.1 rfl (lv_room (Nat.le_of_ble_eq_true rfl)) dX1_send_41 ⟨Nat.le_of_ble_eq_true rfl, Nat.le_of_ble_eq_true rfl⟩) (fun z hz => ?_)
          subst hz
          refine lv_if_eq (tgt := 60) hx hb dX1_send_44 (by decide) (fun c_44 => ?_) (fun c_44 => ?_)
          · have c_44 := bI_0.mp c_44
            refine lv_iconst (v := 0) hx hb dX1_send_60 (by decide) ?_
            refine lv_istore_n (lv' := [(2, .int 0), (0, .ref (ad 18)), (1, .int k)]) hx hb dX1_send_61 rfl hl (by decide) rfl (fun ls hl => ?_)
            refine lv_aload_n hx hb dX1_send_62 rfl (lv_at hl 1 rfl) ?_
            refine lv_iload_n hx hb dX1_send_63 rfl (lv_at hl 0 rfl) ?_
            refine lv_if_eq (tgt := 93) hx hb dX1_send_64 (by decide) (fun c_64 => ?_) (fun c_64 => ?_)
            · skip
              refine lv_iconst (v := 2) hx hb dX1_send_93 (by decide) ?_
              refine lv_goto (tgt := 98) hx hb dX1_send_94 (by decide) ?_
              refine va_put (D := D) (ci := 1) (v := .int 2) (ty := .int) (C := RX1) (T := TX1) (N := 18) hx hb hts hfin tyX1 tyX1_ok nmX1 hown hK hP hD hS 0 rfl rfl 0 (by decide) (hts _ (List.mem_cons_of_mem _ (List.mem_append_left _ (List.mem_of_getElem? (i := 0) rfl)))) (fun _ h9 => h9) rfl (by decide +kernel) (rfl) (rfl) (Nat.le_of_ble_eq_true rfl) dX1_send_98 (fun H locs hP hD hS => ?_)
              have hP : va_P D vwCl (mW cA cZ ad (va_up f 0 2) g) H := hP
              have hD : va_D A (mW cA cZ ad (va_up f 0 2) g) := hD
              refine lv_aload_n hx hb dX1_send_101 rfl (lv_at hl 1 rfl) ?_
              refine va_get (D := D) (ci := 1) (v := .int 2) (C := RX1) (T := TX1) (N := 18) hx hb hts hfin hown hK hP 0 rfl rfl 0 (by decide) (hts _ (List.mem_cons_of_mem _ (List.mem_append_left _ (List.mem_of_getElem? (i := 0) rfl)))) (fun _ h9 => h9) rfl dX1_send_102 ?_
              refine lv_if_le (tgt := 110) hx hb dX1_send_105 (by decide) (fun c_105 => ?_) (fun c_105 => ?_)
              · skip
                exact absurd c_105 (by decide)
              · skip
                refine lv_iconst (v := 0) hx hb dX1_send_108 (by decide) ?_
                exact W.iret (v := 0) hx hb hr (fun t ht hW => ⟨⟨0, ((va_up f 0 2), g), rfl, (Or.inr (Or.inl (⟨⟨c_5, Or.inr (Or.inr (Or.inl c_44))⟩, rfl, rfl⟩))), by rw [ht]; exact hP, hD⟩, hS.F ht⟩) hS.2.2 dX1_send_109
            · skip
              exact absurd c_64 (by decide)
          · have c_44 := bI_n.mp c_44
            refine lv_aload_n hx hb dX1_send_47 rfl (lv_at hl 0 rfl) ?_
            refine va_get (D := D) (ci := 1) (v := .int (f 12)) (C := RX1) (T := TX1) (N := 18) hx hb hts hfin hown hK hP 0 rfl rfl 12 (by decide) (hts _ (List.mem_cons_of_mem _ (List.mem_append_left _ (List.mem_of_getElem? (i := 3) rfl)))) (fun _ h9 => h9) rfl dX1_send_48 ?_
            refine lv_bipush (v := 60) hx hb dX1_send_51 (by decide) ?_
            refine lv_icmp_ge (tgt := 60) hx hb dX1_send_53 (by decide) (fun c_53 => ?_) (fun c_53 => ?_)
            · skip
              refine lv_iconst (v := 0) hx hb dX1_send_60 (by decide) ?_
              refine lv_istore_n (lv' := [(2, .int 0), (0, .ref (ad 18)), (1, .int k)]) hx hb dX1_send_61 rfl hl (by decide) rfl (fun ls hl => ?_)
              refine lv_aload_n hx hb dX1_send_62 rfl (lv_at hl 1 rfl) ?_
              refine lv_iload_n hx hb dX1_send_63 rfl (lv_at hl 0 rfl) ?_
              refine lv_if_eq (tgt := 93) hx hb dX1_send_64 (by decide) (fun c_64 => ?_) (fun c_64 => ?_)
              · skip
                refine lv_iconst (v := 2) hx hb dX1_send_93 (by decide) ?_
                refine lv_goto (tgt := 98) hx hb dX1_send_94 (by decide) ?_
                refine va_put (D := D) (ci := 1) (v := .int 2) (ty := .int) (C := RX1) (T := TX1) (N := 18) hx hb hts hfin tyX1 tyX1_ok nmX1 hown hK hP hD hS 0 rfl rfl 0 (by decide) (hts _ (List.mem_cons_of_mem _ (List.mem_append_left _ (List.mem_of_getElem? (i := 0) rfl)))) (fun _ h9 => h9) rfl (by decide +kernel) (rfl) (rfl) (Nat.le_of_ble_eq_true rfl) dX1_send_98 (fun H locs hP hD hS => ?_)
                have hP : va_P D vwCl (mW cA cZ ad (va_up f 0 2) g) H := hP
                have hD : va_D A (mW cA cZ ad (va_up f 0 2) g) := hD
                refine lv_aload_n hx hb dX1_send_101 rfl (lv_at hl 1 rfl) ?_
                refine va_get (D := D) (ci := 1) (v := .int 2) (C := RX1) (T := TX1) (N := 18) hx hb hts hfin hown hK hP 0 rfl rfl 0 (by decide) (hts _ (List.mem_cons_of_mem _ (List.mem_append_left _ (List.mem_of_getElem? (i := 0) rfl)))) (fun _ h9 => h9) rfl dX1_send_102 ?_
                refine lv_if_le (tgt := 110) hx hb dX1_send_105 (by decide) (fun c_105 => ?_) (fun c_105 => ?_)
                · skip
                  exact absurd c_105 (by decide)
                · skip
                  refine lv_iconst (v := 0) hx hb dX1_send_108 (by decide) ?_
                  exact W.iret (v := 0) hx hb hr (fun t ht hW => ⟨⟨0, ((va_up f 0 2), g), rfl, (Or.inr (Or.inl (⟨⟨c_5, Or.inr (Or.inr (Or.inr (Or.inl c_53)))⟩, rfl, rfl⟩))), by rw [ht]; exact hP, hD⟩, hS.F ht⟩) hS.2.2 dX1_send_109
              · skip
                exact absurd c_64 (by decide)
            · skip
              have hB : nB < 60 := by have h := c_53; rw [hI.2.2.2.1, show (60 : Int32) = nI 60 from rfl, nI_leI (by decide) (by omega)] at h; omega
              refine lv_iconst (v := 1) hx hb dX1_send_56 (by decide) ?_
              refine lv_goto (tgt := 61) hx hb dX1_send_57 (by decide) ?_
              refine lv_istore_n (lv' := [(2, .int 1), (0, .ref (ad 18)), (1, .int k)]) hx hb dX1_send_61 rfl hl (by decide) rfl (fun ls hl => ?_)
              refine lv_aload_n hx hb dX1_send_62 rfl (lv_at hl 1 rfl) ?_
              refine lv_iload_n hx hb dX1_send_63 rfl (lv_at hl 0 rfl) ?_
              refine lv_if_eq (tgt := 93) hx hb dX1_send_64 (by decide) (fun c_64 => ?_) (fun c_64 => ?_)
              · skip
                exact absurd c_64 (by decide)
              · skip
                refine lv_aload_n hx hb dX1_send_67 rfl (lv_at hl 1 rfl) ?_
                refine va_get (D := D) (ci := 1) (v := .ref (ad 11)) (C := RX1) (T := TX1) (N := 18) hx hb hts hfin hown hK hP 0 rfl rfl 11 (by decide) (hts _ (List.mem_cons_of_mem _ (List.mem_append_left _ (List.mem_of_getElem? (i := 4) rfl)))) (fun _ h9 => h9) rfl dX1_send_68 ?_
                refine lv_iload_n hx hb dX1_send_71 rfl (lv_at hl 2 rfl) ?_
                refine va_iald hx hb hK hP 7 0 rfl rfl (x_in100 c_5) dX1_send_72 ?_
                refine lv_if_le (tgt := 97) hx hb dX1_send_73 (by decide) (fun c_73 => ?_) (fun c_73 => ?_)
                · skip
                  refine lv_iconst (v := 0) hx hb dX1_send_97 (by decide) ?_
                  refine va_put (D := D) (ci := 1) (v := .int 0) (ty := .int) (C := RX1) (T := TX1) (N := 18) hx hb hts hfin tyX1 tyX1_ok nmX1 hown hK hP hD hS 0 rfl rfl 0 (by decide) (hts _ (List.mem_cons_of_mem _ (List.mem_append_left _ (List.mem_of_getElem? (i := 0) rfl)))) (fun _ h9 => h9) rfl (by decide +kernel) (rfl) (rfl) (Nat.le_of_ble_eq_true rfl) dX1_send_98 (fun H locs hP hD hS => ?_)
                  have hP : va_P D vwCl (mW cA cZ ad (va_up f 0 0) g) H := hP
                  have hD : va_D A (mW cA cZ ad (va_up f 0 0) g) := hD
                  refine lv_aload_n hx hb dX1_send_101 rfl (lv_at hl 1 rfl) ?_
                  refine va_get (D := D) (ci := 1) (v := .int 0) (C := RX1) (T := TX1) (N := 18) hx hb hts hfin hown hK hP 0 rfl rfl 0 (by decide) (hts _ (List.mem_cons_of_mem _ (List.mem_append_left _ (List.mem_of_getElem? (i := 0) rfl)))) (fun _ h9 => h9) rfl dX1_send_102 ?_
                  refine lv_if_le (tgt := 110) hx hb dX1_send_105 (by decide) (fun c_105 => ?_) (fun c_105 => ?_)
                  · skip
                    refine lv_aload_n hx hb dX1_send_110 rfl (lv_at hl 1 rfl) ?_
                    refine va_get (D := D) (ci := 1) (v := .ref (ad 11)) (C := RX1) (T := TX1) (N := 18) hx hb hts hfin hown hK hP 0 rfl rfl 11 (by decide) (hts _ (List.mem_cons_of_mem _ (List.mem_append_left _ (List.mem_of_getElem? (i := 4) rfl)))) (fun _ h9 => h9) rfl dX1_send_111 ?_
                    refine lv_iload_n hx hb dX1_send_114 rfl (lv_at hl 2 rfl) ?_
                    refine va_iald hx hb hK hP 7 0 rfl rfl (x_in100 c_5) dX1_send_115 ?_
                    refine lv_if_le (tgt := 133) hx hb dX1_send_116 (by decide) (fun c_116 => ?_) (fun c_116 => ?_)
                    · skip
                      refine lv_aload_n hx hb dX1_send_133 rfl (lv_at hl 1 rfl) ?_
                      refine va_get (D := D) (ci := 1) (v := .ref (ad 13)) (C := RX1) (T := TX1) (N := 18) hx hb hts hfin hown hK hP 0 rfl rfl 13 (by decide) (hts _ (List.mem_cons_of_mem _ (List.mem_append_left _ (List.mem_of_getElem? (i := 6) rfl)))) (fun _ h9 => h9) rfl dX1_send_134 ?_
                      refine lv_aload_n hx hb dX1_send_137 rfl (lv_at hl 1 rfl) ?_
                      refine va_get (D := D) (ci := 1) (v := .int (f 12)) (C := RX1) (T := TX1) (N := 18) hx hb hts hfin hown hK hP 0 rfl rfl 12 (by decide) (hts _ (List.mem_cons_of_mem _ (List.mem_append_left _ (List.mem_of_getElem? (i := 3) rfl)))) (fun _ h9 => h9) rfl dX1_send_138 ?_
                      refine lv_topi (fun v_138 hv_138 => ?_)
                      have hv_138 : v_138 = nI nB := hv_138.trans (hI.2.2.2.1)
                      subst hv_138
                      refine lv_aload_n hx hb dX1_send_141 rfl (lv_at hl 1 rfl) ?_
                      refine va_get (D := D) (ci := 1) (v := .ref (ad 1)) (C := RX1) (T := TX1) (N := 18) hx hb hts hfin hown hK hP 0 rfl rfl 1 (by decide) (hts _ (List.mem_cons_of_mem _ (List.mem_append_left _ (List.mem_of_getElem? (i := 7) rfl)))) (fun _ h9 => h9) rfl dX1_send_142 ?_
                      refine lv_iload_n hx hb dX1_send_145 rfl (lv_at hl 2 rfl) ?_
                      refine va_iald hx hb hK hP 1 0 rfl rfl (x_in100 c_5) dX1_send_146 ?_
                      refine lv_iconst (v := 1) hx hb dX1_send_147 (by decide) ?_
                      refine lv_isub hx hb dX1_send_148 ?_
                      refine va_iast hx hb hK hP hD hS 8 0 rfl rfl (vp_in_nI hB (by decide)) dX1_send_149 (fun H locs hP hD hS => ?_)
                      have hix : (nI nB).toNatClampNeg = nB := nI_clamp (by omega)
                      rw [hix] at hP hD
                      have hP : va_P D vwCl (mW cA cZ ad (va_up f 0 0) (va_up g 13 (upd (g 13) nB ((g 1 k.toNatClampNeg) - 1)))) H := hP
                      have hD : va_D A (mW cA cZ ad (va_up f 0 0) (va_up g 13 (upd (g 13) nB ((g 1 k.toNatClampNeg) - 1)))) := hD
                      refine lv_aload_n hx hb dX1_send_150 rfl (lv_at hl 1 rfl) ?_
                      refine va_get (D := D) (ci := 1) (v := .ref (ad 14)) (C := RX1) (T := TX1) (N := 18) hx hb hts hfin hown hK hP 0 rfl rfl 14 (by decide) (hts _ (List.mem_cons_of_mem _ (List.mem_append_left _ (List.mem_of_getElem? (i := 5) rfl)))) (fun _ h9 => h9) rfl dX1_send_151 ?_
                      refine lv_aload_n hx hb dX1_send_154 rfl (lv_at hl 1 rfl) ?_
                      refine va_get (D := D) (ci := 1) (v := .int (f 12)) (C := RX1) (T := TX1) (N := 18) hx hb hts hfin hown hK hP 0 rfl rfl 12 (by decide) (hts _ (List.mem_cons_of_mem _ (List.mem_append_left _ (List.mem_of_getElem? (i := 3) rfl)))) (fun _ h9 => h9) rfl dX1_send_155 ?_
                      refine lv_topi (fun v_155 hv_155 => ?_)
                      have hv_155 : v_155 = nI nB := hv_155.trans (hI.2.2.2.1)
                      subst hv_155
                      refine lv_iconst (v := 0) hx hb dX1_send_158 (by decide) ?_
                      refine va_iast hx hb hK hP hD hS 9 0 rfl rfl (vp_in_nI hB (by decide)) dX1_send_159 (fun H locs hP hD hS => ?_)
                      have hix : (nI nB).toNatClampNeg = nB := nI_clamp (by omega)
                      rw [hix] at hP hD
                      have hP : va_P D vwCl (mW cA cZ ad (va_up f 0 0) (va_up (va_up g 13 (upd (g 13) nB ((g 1 k.toNatClampNeg) - 1))) 14 (upd (g 14) nB 0))) H := hP
                      have hD : va_D A (mW cA cZ ad (va_up f 0 0) (va_up (va_up g 13 (upd (g 13) nB ((g 1 k.toNatClampNeg) - 1))) 14 (upd (g 14) nB 0))) := hD
                      refine lv_aload_n hx hb dX1_send_160 rfl (lv_at hl 1 rfl) ?_
                      refine va_get (D := D) (ci := 1) (v := .ref (ad 15)) (C := RX1) (T := TX1) (N := 18) hx hb hts hfin hown hK hP 0 rfl rfl 15 (by decide) (hts _ (List.mem_cons_of_mem _ (List.mem_append_left _ (List.mem_of_getElem? (i := 8) rfl)))) (fun _ h9 => h9) rfl dX1_send_161 ?_
                      refine lv_aload_n hx hb dX1_send_164 rfl (lv_at hl 1 rfl) ?_
                      refine va_get (D := D) (ci := 1) (v := .int (f 12)) (C := RX1) (T := TX1) (N := 18) hx hb hts hfin hown hK hP 0 rfl rfl 12 (by decide) (hts _ (List.mem_cons_of_mem _ (List.mem_append_left _ (List.mem_of_getElem? (i := 3) rfl)))) (fun _ h9 => h9) rfl dX1_send_165 ?_
                      refine lv_topi (fun v_165 hv_165 => ?_)
                      have hv_165 : v_165 = nI nB := hv_165.trans (hI.2.2.2.1)
                      subst hv_165
                      refine lv_aload_n hx hb dX1_send_168 rfl (lv_at hl 1 rfl) ?_
                      refine va_get (D := D) (ci := 1) (v := .int (f 9)) (C := RX1) (T := TX1) (N := 18) hx hb hts hfin hown hK hP 0 rfl rfl 9 (by decide) (hts _ (List.mem_cons_of_mem _ (List.mem_append_left _ (List.mem_of_getElem? (i := 9) rfl)))) (fun _ h9 => h9) rfl dX1_send_169 ?_
                      refine va_iast hx hb hK hP hD hS 10 0 rfl rfl (vp_in_nI hB (by decide)) dX1_send_172 (fun H locs hP hD hS => ?_)
                      have hix : (nI nB).toNatClampNeg = nB := nI_clamp (by omega)
                      rw [hix] at hP hD
                      have hP : va_P D vwCl (mW cA cZ ad (va_up f 0 0) (va_up (va_up (va_up g 13 (upd (g 13) nB ((g 1 k.toNatClampNeg) - 1))) 14 (upd (g 14) nB 0)) 15 (upd (g 15) nB (f 9)))) H := hP
                      have hD : va_D A (mW cA cZ ad (va_up f 0 0) (va_up (va_up (va_up g 13 (upd (g 13) nB ((g 1 k.toNatClampNeg) - 1))) 14 (upd (g 14) nB 0)) 15 (upd (g 15) nB (f 9)))) := hD
                      refine lv_aload_n hx hb dX1_send_173 rfl (lv_at hl 1 rfl) ?_
                      refine va_get (D := D) (ci := 1) (v := .ref (ad 16)) (C := RX1) (T := TX1) (N := 18) hx hb hts hfin hown hK hP 0 rfl rfl 16 (by decide) (hts _ (List.mem_cons_of_mem _ (List.mem_append_left _ (List.mem_of_getElem? (i := 10) rfl)))) (fun _ h9 => h9) rfl dX1_send_174 ?_
                      refine lv_aload_n hx hb dX1_send_177 rfl (lv_at hl 1 rfl) ?_
                      refine va_get (D := D) (ci := 1) (v := .int (f 12)) (C := RX1) (T := TX1) (N := 18) hx hb hts hfin hown hK hP 0 rfl rfl 12 (by decide) (hts _ (List.mem_cons_of_mem _ (List.mem_append_left _ (List.mem_of_getElem? (i := 3) rfl)))) (fun _ h9 => h9) rfl dX1_send_178 ?_
                      refine lv_topi (fun v_178 hv_178 => ?_)
                      have hv_178 : v_178 = nI nB := hv_178.trans (hI.2.2.2.1)
                      subst hv_178
                      refine lv_aload_n hx hb dX1_send_181 rfl (lv_at hl 1 rfl) ?_
                      refine va_get (D := D) (ci := 1) (v := .ref (ad 10)) (C := RX1) (T := TX1) (N := 18) hx hb hts hfin hown hK hP 0 rfl rfl 10 (by decide) (hts _ (List.mem_cons_of_mem _ (List.mem_append_left _ (List.mem_of_getElem? (i := 2) rfl)))) (fun _ h9 => h9) rfl dX1_send_182 ?_
                      refine lv_iload_n hx hb dX1_send_185 rfl (lv_at hl 2 rfl) ?_
                      refine va_iald hx hb hK hP 6 0 rfl rfl (x_in100 c_5) dX1_send_186 ?_
                      refine lv_iconst (v := 1) hx hb dX1_send_187 (by decide) ?_
                      refine lv_isub hx hb dX1_send_188 ?_
                      refine va_iast hx hb hK hP hD hS 11 0 rfl rfl (vp_in_nI hB (by decide)) dX1_send_189 (fun H locs hP hD hS => ?_)
                      have hix : (nI nB).toNatClampNeg = nB := nI_clamp (by omega)
                      rw [hix] at hP hD
                      have hP : va_P D vwCl (mW cA cZ ad (va_up f 0 0) (va_up (va_up (va_up (va_up g 13 (upd (g 13) nB ((g 1 k.toNatClampNeg) - 1))) 14 (upd (g 14) nB 0)) 15 (upd (g 15) nB (f 9))) 16 (upd (g 16) nB ((g 10 k.toNatClampNeg) - 1)))) H := hP
                      have hD : va_D A (mW cA cZ ad (va_up f 0 0) (va_up (va_up (va_up (va_up g 13 (upd (g 13) nB ((g 1 k.toNatClampNeg) - 1))) 14 (upd (g 14) nB 0)) 15 (upd (g 15) nB (f 9))) 16 (upd (g 16) nB ((g 10 k.toNatClampNeg) - 1)))) := hD
                      refine lv_aload_n hx hb dX1_send_190 rfl (lv_at hl 1 rfl) ?_
                      refine lv_dup hx hb dX1_send_191 rfl ?_
                      refine va_get (D := D) (ci := 1) (v := .int (f 12)) (C := RX1) (T := TX1) (N := 18) hx hb hts hfin hown hK hP 0 rfl rfl 12 (by decide) (hts _ (List.mem_cons_of_mem _ (List.mem_append_left _ (List.mem_of_getElem? (i := 3) rfl)))) (fun _ h9 => h9) rfl dX1_send_192 ?_
                      refine lv_topi (fun v_192 hv_192 => ?_)
                      have hv_192 : v_192 = nI nB := hv_192.trans (hI.2.2.2.1)
                      subst hv_192
                      refine lv_iconst (v := 1) hx hb dX1_send_195 (by decide) ?_
                      refine lv_iadd hx hb dX1_send_196 ?_
                      refine lv_topi (fun v_196 hv_196 => ?_)
                      have hv_196 : v_196 = nI (nB + 1) := hv_196.trans (nI_1 nB)
                      subst hv_196
                      refine va_put (D := D) (ci := 1) (v := .int (nI (nB + 1))) (ty := .int) (C := RX1) (T := TX1) (N := 18) hx hb hts hfin tyX1 tyX1_ok nmX1 hown hK hP hD hS 0 rfl rfl 12 (by decide) (hts _ (List.mem_cons_of_mem _ (List.mem_append_left _ (List.mem_of_getElem? (i := 3) rfl)))) (fun _ h9 => h9) rfl (by decide +kernel) (rfl) (rfl) (Nat.le_of_ble_eq_true rfl) dX1_send_197 (fun H locs hP hD hS => ?_)
                      have hP : va_P D vwCl (mW cA cZ ad (va_up (va_up f 0 0) 12 (nI (nB + 1))) (va_up (va_up (va_up (va_up g 13 (upd (g 13) nB ((g 1 k.toNatClampNeg) - 1))) 14 (upd (g 14) nB 0)) 15 (upd (g 15) nB (f 9))) 16 (upd (g 16) nB ((g 10 k.toNatClampNeg) - 1)))) H := hP
                      have hD : va_D A (mW cA cZ ad (va_up (va_up f 0 0) 12 (nI (nB + 1))) (va_up (va_up (va_up (va_up g 13 (upd (g 13) nB ((g 1 k.toNatClampNeg) - 1))) 14 (upd (g 14) nB 0)) 15 (upd (g 15) nB (f 9))) 16 (upd (g 16) nB ((g 10 k.toNatClampNeg) - 1)))) := hD
                      refine lv_aload_n hx hb dX1_send_200 rfl (lv_at hl 1 rfl) ?_
                      refine va_get (D := D) (ci := 1) (v := .ref (ad 11)) (C := RX1) (T := TX1) (N := 18) hx hb hts hfin hown hK hP 0 rfl rfl 11 (by decide) (hts _ (List.mem_cons_of_mem _ (List.mem_append_left _ (List.mem_of_getElem? (i := 4) rfl)))) (fun _ h9 => h9) rfl dX1_send_201 ?_
                      refine lv_iload_n hx hb dX1_send_204 rfl (lv_at hl 2 rfl) ?_
                      refine lv_aload_n hx hb dX1_send_205 rfl (lv_at hl 1 rfl) ?_
                      refine va_get (D := D) (ci := 1) (v := .int (nI (nB + 1))) (C := RX1) (T := TX1) (N := 18) hx hb hts hfin hown hK hP 0 rfl rfl 12 (by decide) (hts _ (List.mem_cons_of_mem _ (List.mem_append_left _ (List.mem_of_getElem? (i := 3) rfl)))) (fun _ h9 => h9) rfl dX1_send_206 ?_
                      refine va_iast hx hb hK hP hD hS 7 0 rfl rfl (x_in100 c_5) dX1_send_209 (fun H locs hP hD hS => ?_)
                      have hP : va_P D vwCl (mW cA cZ ad (va_up (va_up f 0 0) 12 (nI (nB + 1))) (va_up (va_up (va_up (va_up (va_up g 13 (upd (g 13) nB ((g 1 k.toNatClampNeg) - 1))) 14 (upd (g 14) nB 0)) 15 (upd (g 15) nB (f 9))) 16 (upd (g 16) nB ((g 10 k.toNatClampNeg) - 1))) 11 (upd (g 11) k.toNatClampNeg (nI (nB + 1))))) H := hP
                      have hD : va_D A (mW cA cZ ad (va_up (va_up f 0 0) 12 (nI (nB + 1))) (va_up (va_up (va_up (va_up (va_up g 13 (upd (g 13) nB ((g 1 k.toNatClampNeg) - 1))) 14 (upd (g 14) nB 0)) 15 (upd (g 15) nB (f 9))) 16 (upd (g 16) nB ((g 10 k.toNatClampNeg) - 1))) 11 (upd (g 11) k.toNatClampNeg (nI (nB + 1))))) := hD
                      refine lv_aload_n hx hb dX1_send_210 rfl (lv_at hl 1 rfl) ?_
                      refine va_get (D := D) (ci := 1) (v := .int (nI (nB + 1))) (C := RX1) (T := TX1) (N := 18) hx hb hts hfin hown hK hP 0 rfl rfl 12 (by decide) (hts _ (List.mem_cons_of_mem _ (List.mem_append_left _ (List.mem_of_getElem? (i := 3) rfl)))) (fun _ h9 => h9) rfl dX1_send_211 ?_
                      refine lv_iconst (v := 1) hx hb dX1_send_214 (by decide) ?_
                      refine lv_isub hx hb dX1_send_215 ?_
                      refine lv_topi (fun v_215 hv_215 => ?_)
                      have hv_215 : v_215 = nI nB := hv_215.trans (nI_pred nB)
                      subst hv_215
                      exact W.iret (v := nI nB) hx hb hr (fun t ht hW => ⟨⟨nI nB, ((va_up (va_up f 0 0) 12 (nI (nB + 1))), (va_up (va_up (va_up (va_up (va_up g 13 (upd (g 13) nB ((g 1 k.toNatClampNeg) - 1))) 14 (upd (g 14) nB 0)) 15 (upd (g 15) nB (f 9))) 16 (upd (g 16) nB ((g 10 k.toNatClampNeg) - 1))) 11 (upd (g 11) k.toNatClampNeg (nI (nB + 1))))), rfl, (Or.inr (Or.inr (⟨⟨c_5, c_27, c_36, c_44, c_53, Or.inl c_73⟩, rfl, rfl, (by unfold mSendS; rw [if_pos c_73])⟩))), by rw [ht]; exact hP, hD⟩, hS.F ht⟩) hS.2.2 dX1_send_216
                    · skip
                      exact (c_116 c_73).elim
                  · skip
                    exact absurd c_105 (by decide)
                · skip
                  refine lv_aload_n hx hb dX1_send_76 rfl (lv_at hl 1 rfl) ?_
                  refine va_get (D := D) (ci := 1) (v := .ref (ad 14)) (C := RX1) (T := TX1) (N := 18) hx hb hts hfin hown hK hP 0 rfl rfl 14 (by decide) (hts _ (List.mem_cons_of_mem _ (List.mem_append_left _ (List.mem_of_getElem? (i := 5) rfl)))) (fun _ h9 => h9) rfl dX1_send_77 ?_
                  refine lv_aload_n hx hb dX1_send_80 rfl (lv_at hl 1 rfl) ?_
                  refine va_get (D := D) (ci := 1) (v := .ref (ad 11)) (C := RX1) (T := TX1) (N := 18) hx hb hts hfin hown hK hP 0 rfl rfl 11 (by decide) (hts _ (List.mem_cons_of_mem _ (List.mem_append_left _ (List.mem_of_getElem? (i := 4) rfl)))) (fun _ h9 => h9) rfl dX1_send_81 ?_
                  refine lv_iload_n hx hb dX1_send_84 rfl (lv_at hl 2 rfl) ?_
                  refine va_iald hx hb hK hP 7 0 rfl rfl (x_in100 c_5) dX1_send_85 ?_
                  refine lv_iconst (v := 1) hx hb dX1_send_86 (by decide) ?_
                  refine lv_isub hx hb dX1_send_87 ?_
                  refine va_iald hx hb hK hP 9 0 rfl rfl (m_inLa hI hLa c_5 c_73) dX1_send_88 ?_
                  refine lv_iconst (v := 2) hx hb dX1_send_89 (by decide) ?_
                  refine lv_icmp_ne (tgt := 97) hx hb dX1_send_90 (by decide) (fun c_90 => ?_) (fun c_90 => ?_)
                  · skip
                    refine lv_iconst (v := 0) hx hb dX1_send_97 (by decide) ?_
                    refine va_put (D := D) (ci := 1) (v := .int 0) (ty := .int) (C := RX1) (T := TX1) (N := 18) hx hb hts hfin tyX1 tyX1_ok nmX1 hown hK hP hD hS 0 rfl rfl 0 (by decide) (hts _ (List.mem_cons_of_mem _ (List.mem_append_left _ (List.mem_of_getElem? (i := 0) rfl)))) (fun _ h9 => h9) rfl (by decide +kernel) (rfl) (rfl) (Nat.le_of_ble_eq_true rfl) dX1_send_98 (fun H locs hP hD hS => ?_)
                    have hP : va_P D vwCl (mW cA cZ ad (va_up f 0 0) g) H := hP
                    have hD : va_D A (mW cA cZ ad (va_up f 0 0) g) := hD
                    refine lv_aload_n hx hb dX1_send_101 rfl (lv_at hl 1 rfl) ?_
                    refine va_get (D := D) (ci := 1) (v := .int 0) (C := RX1) (T := TX1) (N := 18) hx hb hts hfin hown hK hP 0 rfl rfl 0 (by decide) (hts _ (List.mem_cons_of_mem _ (List.mem_append_left _ (List.mem_of_getElem? (i := 0) rfl)))) (fun _ h9 => h9) rfl dX1_send_102 ?_
                    refine lv_if_le (tgt := 110) hx hb dX1_send_105 (by decide) (fun c_105 => ?_) (fun c_105 => ?_)
                    · skip
                      refine lv_aload_n hx hb dX1_send_110 rfl (lv_at hl 1 rfl) ?_
                      refine va_get (D := D) (ci := 1) (v := .ref (ad 11)) (C := RX1) (T := TX1) (N := 18) hx hb hts hfin hown hK hP 0 rfl rfl 11 (by decide) (hts _ (List.mem_cons_of_mem _ (List.mem_append_left _ (List.mem_of_getElem? (i := 4) rfl)))) (fun _ h9 => h9) rfl dX1_send_111 ?_
                      refine lv_iload_n hx hb dX1_send_114 rfl (lv_at hl 2 rfl) ?_
                      refine va_iald hx hb hK hP 7 0 rfl rfl (x_in100 c_5) dX1_send_115 ?_
                      refine lv_if_le (tgt := 133) hx hb dX1_send_116 (by decide) (fun c_116 => ?_) (fun c_116 => ?_)
                      · skip
                        exact (c_73 c_116).elim
                      · skip
                        refine lv_aload_n hx hb dX1_send_119 rfl (lv_at hl 1 rfl) ?_
                        refine va_get (D := D) (ci := 1) (v := .ref (ad 14)) (C := RX1) (T := TX1) (N := 18) hx hb hts hfin hown hK hP 0 rfl rfl 14 (by decide) (hts _ (List.mem_cons_of_mem _ (List.mem_append_left _ (List.mem_of_getElem? (i := 5) rfl)))) (fun _ h9 => h9) rfl dX1_send_120 ?_
                        refine lv_aload_n hx hb dX1_send_123 rfl (lv_at hl 1 rfl) ?_
                        refine va_get (D := D) (ci := 1) (v := .ref (ad 11)) (C := RX1) (T := TX1) (N := 18) hx hb hts hfin hown hK hP 0 rfl rfl 11 (by decide) (hts _ (List.mem_cons_of_mem _ (List.mem_append_left _ (List.mem_of_getElem? (i := 4) rfl)))) (fun _ h9 => h9) rfl dX1_send_124 ?_
                        refine lv_iload_n hx hb dX1_send_127 rfl (lv_at hl 2 rfl) ?_
                        refine va_iald hx hb hK hP 7 0 rfl rfl (x_in100 c_5) dX1_send_128 ?_
                        refine lv_iconst (v := 1) hx hb dX1_send_129 (by decide) ?_
                        refine lv_isub hx hb dX1_send_130 ?_
                        refine lv_iconst (v := 1) hx hb dX1_send_131 (by decide) ?_
                        refine va_iast hx hb hK hP hD hS 9 0 rfl rfl (m_inLa hI hLa c_5 c_73) dX1_send_132 (fun H locs hP hD hS => ?_)
                        have hP : va_P D vwCl (mW cA cZ ad (va_up f 0 0) (va_up g 14 (upd (g 14) ((g 11 k.toNatClampNeg) - 1).toNatClampNeg 1))) H := hP
                        have hD : va_D A (mW cA cZ ad (va_up f 0 0) (va_up g 14 (upd (g 14) ((g 11 k.toNatClampNeg) - 1).toNatClampNeg 1))) := hD
                        refine lv_aload_n hx hb dX1_send_133 rfl (lv_at hl 1 rfl) ?_
                        refine va_get (D := D) (ci := 1) (v := .ref (ad 13)) (C := RX1) (T := TX1) (N := 18) hx hb hts hfin hown hK hP 0 rfl rfl 13 (by decide) (hts _ (List.mem_cons_of_mem _ (List.mem_append_left _ (List.mem_of_getElem? (i := 6) rfl)))) (fun _ h9 => h9) rfl dX1_send_134 ?_
                        refine lv_aload_n hx hb dX1_send_137 rfl (lv_at hl 1 rfl) ?_
                        refine va_get (D := D) (ci := 1) (v := .int (f 12)) (C := RX1) (T := TX1) (N := 18) hx hb hts hfin hown hK hP 0 rfl rfl 12 (by decide) (hts _ (List.mem_cons_of_mem _ (List.mem_append_left _ (List.mem_of_getElem? (i := 3) rfl)))) (fun _ h9 => h9) rfl dX1_send_138 ?_
                        refine lv_topi (fun v_138 hv_138 => ?_)
                        have hv_138 : v_138 = nI nB := hv_138.trans (hI.2.2.2.1)
                        subst hv_138
                        refine lv_aload_n hx hb dX1_send_141 rfl (lv_at hl 1 rfl) ?_
                        refine va_get (D := D) (ci := 1) (v := .ref (ad 1)) (C := RX1) (T := TX1) (N := 18) hx hb hts hfin hown hK hP 0 rfl rfl 1 (by decide) (hts _ (List.mem_cons_of_mem _ (List.mem_append_left _ (List.mem_of_getElem? (i := 7) rfl)))) (fun _ h9 => h9) rfl dX1_send_142 ?_
                        refine lv_iload_n hx hb dX1_send_145 rfl (lv_at hl 2 rfl) ?_
                        refine va_iald hx hb hK hP 1 0 rfl rfl (x_in100 c_5) dX1_send_146 ?_
                        refine lv_iconst (v := 1) hx hb dX1_send_147 (by decide) ?_
                        refine lv_isub hx hb dX1_send_148 ?_
                        refine va_iast hx hb hK hP hD hS 8 0 rfl rfl (vp_in_nI hB (by decide)) dX1_send_149 (fun H locs hP hD hS => ?_)
                        have hix : (nI nB).toNatClampNeg = nB := nI_clamp (by omega)
                        rw [hix] at hP hD
                        have hP : va_P D vwCl (mW cA cZ ad (va_up f 0 0) (va_up (va_up g 14 (upd (g 14) ((g 11 k.toNatClampNeg) - 1).toNatClampNeg 1)) 13 (upd (g 13) nB ((g 1 k.toNatClampNeg) - 1)))) H := hP
                        have hD : va_D A (mW cA cZ ad (va_up f 0 0) (va_up (va_up g 14 (upd (g 14) ((g 11 k.toNatClampNeg) - 1).toNatClampNeg 1)) 13 (upd (g 13) nB ((g 1 k.toNatClampNeg) - 1)))) := hD
                        refine lv_aload_n hx hb dX1_send_150 rfl (lv_at hl 1 rfl) ?_
                        refine va_get (D := D) (ci := 1) (v := .ref (ad 14)) (C := RX1) (T := TX1) (N := 18) hx hb hts hfin hown hK hP 0 rfl rfl 14 (by decide) (hts _ (List.mem_cons_of_mem _ (List.mem_append_left _ (List.mem_of_getElem? (i := 5) rfl)))) (fun _ h9 => h9) rfl dX1_send_151 ?_
                        refine lv_aload_n hx hb dX1_send_154 rfl (lv_at hl 1 rfl) ?_
                        refine va_get (D := D) (ci := 1) (v := .int (f 12)) (C := RX1) (T := TX1) (N := 18) hx hb hts hfin hown hK hP 0 rfl rfl 12 (by decide) (hts _ (List.mem_cons_of_mem _ (List.mem_append_left _ (List.mem_of_getElem? (i := 3) rfl)))) (fun _ h9 => h9) rfl dX1_send_155 ?_
                        refine lv_topi (fun v_155 hv_155 => ?_)
                        have hv_155 : v_155 = nI nB := hv_155.trans (hI.2.2.2.1)
                        subst hv_155
                        refine lv_iconst (v := 0) hx hb dX1_send_158 (by decide) ?_
                        refine va_iast hx hb hK hP hD hS 9 0 rfl rfl (vp_in_nI hB (by decide)) dX1_send_159 (fun H locs hP hD hS => ?_)
                        have hix : (nI nB).toNatClampNeg = nB := nI_clamp (by omega)
                        rw [hix] at hP hD
                        have hP : va_P D vwCl (mW cA cZ ad (va_up f 0 0) (va_up (va_up g 14 (upd (upd (g 14) ((g 11 k.toNatClampNeg) - 1).toNatClampNeg 1) nB 0)) 13 (upd (g 13) nB ((g 1 k.toNatClampNeg) - 1)))) H := hP
                        have hD : va_D A (mW cA cZ ad (va_up f 0 0) (va_up (va_up g 14 (upd (upd (g 14) ((g 11 k.toNatClampNeg) - 1).toNatClampNeg 1) nB 0)) 13 (upd (g 13) nB ((g 1 k.toNatClampNeg) - 1)))) := hD
                        refine lv_aload_n hx hb dX1_send_160 rfl (lv_at hl 1 rfl) ?_
                        refine va_get (D := D) (ci := 1) (v := .ref (ad 15)) (C := RX1) (T := TX1) (N := 18) hx hb hts hfin hown hK hP 0 rfl rfl 15 (by decide) (hts _ (List.mem_cons_of_mem _ (List.mem_append_left _ (List.mem_of_getElem? (i := 8) rfl)))) (fun _ h9 => h9) rfl dX1_send_161 ?_
                        refine lv_aload_n hx hb dX1_send_164 rfl (lv_at hl 1 rfl) ?_
                        refine va_get (D := D) (ci := 1) (v := .int (f 12)) (C := RX1) (T := TX1) (N := 18) hx hb hts hfin hown hK hP 0 rfl rfl 12 (by decide) (hts _ (List.mem_cons_of_mem _ (List.mem_append_left _ (List.mem_of_getElem? (i := 3) rfl)))) (fun _ h9 => h9) rfl dX1_send_165 ?_
                        refine lv_topi (fun v_165 hv_165 => ?_)
                        have hv_165 : v_165 = nI nB := hv_165.trans (hI.2.2.2.1)
                        subst hv_165
                        refine lv_aload_n hx hb dX1_send_168 rfl (lv_at hl 1 rfl) ?_
                        refine va_get (D := D) (ci := 1) (v := .int (f 9)) (C := RX1) (T := TX1) (N := 18) hx hb hts hfin hown hK hP 0 rfl rfl 9 (by decide) (hts _ (List.mem_cons_of_mem _ (List.mem_append_left _ (List.mem_of_getElem? (i := 9) rfl)))) (fun _ h9 => h9) rfl dX1_send_169 ?_
                        refine va_iast hx hb hK hP hD hS 10 0 rfl rfl (vp_in_nI hB (by decide)) dX1_send_172 (fun H locs hP hD hS => ?_)
                        have hix : (nI nB).toNatClampNeg = nB := nI_clamp (by omega)
                        rw [hix] at hP hD
                        have hP : va_P D vwCl (mW cA cZ ad (va_up f 0 0) (va_up (va_up (va_up g 14 (upd (upd (g 14) ((g 11 k.toNatClampNeg) - 1).toNatClampNeg 1) nB 0)) 13 (upd (g 13) nB ((g 1 k.toNatClampNeg) - 1))) 15 (upd (g 15) nB (f 9)))) H := hP
                        have hD : va_D A (mW cA cZ ad (va_up f 0 0) (va_up (va_up (va_up g 14 (upd (upd (g 14) ((g 11 k.toNatClampNeg) - 1).toNatClampNeg 1) nB 0)) 13 (upd (g 13) nB ((g 1 k.toNatClampNeg) - 1))) 15 (upd (g 15) nB (f 9)))) := hD
                        refine lv_aload_n hx hb dX1_send_173 rfl (lv_at hl 1 rfl) ?_
                        refine va_get (D := D) (ci := 1) (v := .ref (ad 16)) (C := RX1) (T := TX1) (N := 18) hx hb hts hfin hown hK hP 0 rfl rfl 16 (by decide) (hts _ (List.mem_cons_of_mem _ (List.mem_append_left _ (List.mem_of_getElem? (i := 10) rfl)))) (fun _ h9 => h9) rfl dX1_send_174 ?_
                        refine lv_aload_n hx hb dX1_send_177 rfl (lv_at hl 1 rfl) ?_
                        refine va_get (D := D) (ci := 1) (v := .int (f 12)) (C := RX1) (T := TX1) (N := 18) hx hb hts hfin hown hK hP 0 rfl rfl 12 (by decide) (hts _ (List.mem_cons_of_mem _ (List.mem_append_left _ (List.mem_of_getElem? (i := 3) rfl)))) (fun _ h9 => h9) rfl dX1_send_178 ?_
                        refine lv_topi (fun v_178 hv_178 => ?_)
                        have hv_178 : v_178 = nI nB := hv_178.trans (hI.2.2.2.1)
                        subst hv_178
                        refine lv_aload_n hx hb dX1_send_181 rfl (lv_at hl 1 rfl) ?_
                        refine va_get (D := D) (ci := 1) (v := .ref (ad 10)) (C := RX1) (T := TX1) (N := 18) hx hb hts hfin hown hK hP 0 rfl rfl 10 (by decide) (hts _ (List.mem_cons_of_mem _ (List.mem_append_left _ (List.mem_of_getElem? (i := 2) rfl)))) (fun _ h9 => h9) rfl dX1_send_182 ?_
                        refine lv_iload_n hx hb dX1_send_185 rfl (lv_at hl 2 rfl) ?_
                        refine va_iald hx hb hK hP 6 0 rfl rfl (x_in100 c_5) dX1_send_186 ?_
                        refine lv_iconst (v := 1) hx hb dX1_send_187 (by decide) ?_
                        refine lv_isub hx hb dX1_send_188 ?_
                        refine va_iast hx hb hK hP hD hS 11 0 rfl rfl (vp_in_nI hB (by decide)) dX1_send_189 (fun H locs hP hD hS => ?_)
                        have hix : (nI nB).toNatClampNeg = nB := nI_clamp (by omega)
                        rw [hix] at hP hD
                        have hP : va_P D vwCl (mW cA cZ ad (va_up f 0 0) (va_up (va_up (va_up (va_up g 14 (upd (upd (g 14) ((g 11 k.toNatClampNeg) - 1).toNatClampNeg 1) nB 0)) 13 (upd (g 13) nB ((g 1 k.toNatClampNeg) - 1))) 15 (upd (g 15) nB (f 9))) 16 (upd (g 16) nB ((g 10 k.toNatClampNeg) - 1)))) H := hP
                        have hD : va_D A (mW cA cZ ad (va_up f 0 0) (va_up (va_up (va_up (va_up g 14 (upd (upd (g 14) ((g 11 k.toNatClampNeg) - 1).toNatClampNeg 1) nB 0)) 13 (upd (g 13) nB ((g 1 k.toNatClampNeg) - 1))) 15 (upd (g 15) nB (f 9))) 16 (upd (g 16) nB ((g 10 k.toNatClampNeg) - 1)))) := hD
                        refine lv_aload_n hx hb dX1_send_190 rfl (lv_at hl 1 rfl) ?_
                        refine lv_dup hx hb dX1_send_191 rfl ?_
                        refine va_get (D := D) (ci := 1) (v := .int (f 12)) (C := RX1) (T := TX1) (N := 18) hx hb hts hfin hown hK hP 0 rfl rfl 12 (by decide) (hts _ (List.mem_cons_of_mem _ (List.mem_append_left _ (List.mem_of_getElem? (i := 3) rfl)))) (fun _ h9 => h9) rfl dX1_send_192 ?_
                        refine lv_topi (fun v_192 hv_192 => ?_)
                        have hv_192 : v_192 = nI nB := hv_192.trans (hI.2.2.2.1)
                        subst hv_192
                        refine lv_iconst (v := 1) hx hb dX1_send_195 (by decide) ?_
                        refine lv_iadd hx hb dX1_send_196 ?_
                        refine lv_topi (fun v_196 hv_196 => ?_)
                        have hv_196 : v_196 = nI (nB + 1) := hv_196.trans (nI_1 nB)
                        subst hv_196
                        refine va_put (D := D) (ci := 1) (v := .int (nI (nB + 1))) (ty := .int) (C := RX1) (T := TX1) (N := 18) hx hb hts hfin tyX1 tyX1_ok nmX1 hown hK hP hD hS 0 rfl rfl 12 (by decide) (hts _ (List.mem_cons_of_mem _ (List.mem_append_left _ (List.mem_of_getElem? (i := 3) rfl)))) (fun _ h9 => h9) rfl (by decide +kernel) (rfl) (rfl) (Nat.le_of_ble_eq_true rfl) dX1_send_197 (fun H locs hP hD hS => ?_)
                        have hP : va_P D vwCl (mW cA cZ ad (va_up (va_up f 0 0) 12 (nI (nB + 1))) (va_up (va_up (va_up (va_up g 14 (upd (upd (g 14) ((g 11 k.toNatClampNeg) - 1).toNatClampNeg 1) nB 0)) 13 (upd (g 13) nB ((g 1 k.toNatClampNeg) - 1))) 15 (upd (g 15) nB (f 9))) 16 (upd (g 16) nB ((g 10 k.toNatClampNeg) - 1)))) H := hP
                        have hD : va_D A (mW cA cZ ad (va_up (va_up f 0 0) 12 (nI (nB + 1))) (va_up (va_up (va_up (va_up g 14 (upd (upd (g 14) ((g 11 k.toNatClampNeg) - 1).toNatClampNeg 1) nB 0)) 13 (upd (g 13) nB ((g 1 k.toNatClampNeg) - 1))) 15 (upd (g 15) nB (f 9))) 16 (upd (g 16) nB ((g 10 k.toNatClampNeg) - 1)))) := hD
                        refine lv_aload_n hx hb dX1_send_200 rfl (lv_at hl 1 rfl) ?_
                        refine va_get (D := D) (ci := 1) (v := .ref (ad 11)) (C := RX1) (T := TX1) (N := 18) hx hb hts hfin hown hK hP 0 rfl rfl 11 (by decide) (hts _ (List.mem_cons_of_mem _ (List.mem_append_left _ (List.mem_of_getElem? (i := 4) rfl)))) (fun _ h9 => h9) rfl dX1_send_201 ?_
                        refine lv_iload_n hx hb dX1_send_204 rfl (lv_at hl 2 rfl) ?_
                        refine lv_aload_n hx hb dX1_send_205 rfl (lv_at hl 1 rfl) ?_
                        refine va_get (D := D) (ci := 1) (v := .int (nI (nB + 1))) (C := RX1) (T := TX1) (N := 18) hx hb hts hfin hown hK hP 0 rfl rfl 12 (by decide) (hts _ (List.mem_cons_of_mem _ (List.mem_append_left _ (List.mem_of_getElem? (i := 3) rfl)))) (fun _ h9 => h9) rfl dX1_send_206 ?_
                        refine va_iast hx hb hK hP hD hS 7 0 rfl rfl (x_in100 c_5) dX1_send_209 (fun H locs hP hD hS => ?_)
                        have hP : va_P D vwCl (mW cA cZ ad (va_up (va_up f 0 0) 12 (nI (nB + 1))) (va_up (va_up (va_up (va_up (va_up g 14 (upd (upd (g 14) ((g 11 k.toNatClampNeg) - 1).toNatClampNeg 1) nB 0)) 13 (upd (g 13) nB ((g 1 k.toNatClampNeg) - 1))) 15 (upd (g 15) nB (f 9))) 16 (upd (g 16) nB ((g 10 k.toNatClampNeg) - 1))) 11 (upd (g 11) k.toNatClampNeg (nI (nB + 1))))) H := hP
                        have hD : va_D A (mW cA cZ ad (va_up (va_up f 0 0) 12 (nI (nB + 1))) (va_up (va_up (va_up (va_up (va_up g 14 (upd (upd (g 14) ((g 11 k.toNatClampNeg) - 1).toNatClampNeg 1) nB 0)) 13 (upd (g 13) nB ((g 1 k.toNatClampNeg) - 1))) 15 (upd (g 15) nB (f 9))) 16 (upd (g 16) nB ((g 10 k.toNatClampNeg) - 1))) 11 (upd (g 11) k.toNatClampNeg (nI (nB + 1))))) := hD
                        refine lv_aload_n hx hb dX1_send_210 rfl (lv_at hl 1 rfl) ?_
                        refine va_get (D := D) (ci := 1) (v := .int (nI (nB + 1))) (C := RX1) (T := TX1) (N := 18) hx hb hts hfin hown hK hP 0 rfl rfl 12 (by decide) (hts _ (List.mem_cons_of_mem _ (List.mem_append_left _ (List.mem_of_getElem? (i := 3) rfl)))) (fun _ h9 => h9) rfl dX1_send_211 ?_
                        refine lv_iconst (v := 1) hx hb dX1_send_214 (by decide) ?_
                        refine lv_isub hx hb dX1_send_215 ?_
                        refine lv_topi (fun v_215 hv_215 => ?_)
                        have hv_215 : v_215 = nI nB := hv_215.trans (nI_pred nB)
                        subst hv_215
                        exact W.iret (v := nI nB) hx hb hr (fun t ht hW => ⟨⟨nI nB, ((va_up (va_up f 0 0) 12 (nI (nB + 1))), (va_up (va_up (va_up (va_up (va_up g 14 (upd (upd (g 14) ((g 11 k.toNatClampNeg) - 1).toNatClampNeg 1) nB 0)) 13 (upd (g 13) nB ((g 1 k.toNatClampNeg) - 1))) 15 (upd (g 15) nB (f 9))) 16 (upd (g 16) nB ((g 10 k.toNatClampNeg) - 1))) 11 (upd (g 11) k.toNatClampNeg (nI (nB + 1))))), rfl, (Or.inr (Or.inr (⟨⟨c_5, c_27, c_36, c_44, c_53, Or.inr c_90⟩, rfl, rfl, (by unfold mSendS; rw [if_neg c_73]; exact send_m _ _ _ _ _ _)⟩))), by rw [ht]; exact hP, hD⟩, hS.F ht⟩) hS.2.2 dX1_send_216
                    · skip
                      exact absurd c_105 (by decide)
                  · skip
                    refine lv_iconst (v := 2) hx hb dX1_send_93 (by decide) ?_
                    refine lv_goto (tgt := 98) hx hb dX1_send_94 (by decide) ?_
                    refine va_put (D := D) (ci := 1) (v := .int 2) (ty := .int) (C := RX1) (T := TX1) (N := 18) hx hb hts hfin tyX1 tyX1_ok nmX1 hown hK hP hD hS 0 rfl rfl 0 (by decide) (hts _ (List.mem_cons_of_mem _ (List.mem_append_left _ (List.mem_of_getElem? (i := 0) rfl)))) (fun _ h9 => h9) rfl (by decide +kernel) (rfl) (rfl) (Nat.le_of_ble_eq_true rfl) dX1_send_98 (fun H locs hP hD hS => ?_)
                    have hP : va_P D vwCl (mW cA cZ ad (va_up f 0 2) g) H := hP
                    have hD : va_D A (mW cA cZ ad (va_up f 0 2) g) := hD
                    refine lv_aload_n hx hb dX1_send_101 rfl (lv_at hl 1 rfl) ?_
                    refine va_get (D := D) (ci := 1) (v := .int 2) (C := RX1) (T := TX1) (N := 18) hx hb hts hfin hown hK hP 0 rfl rfl 0 (by decide) (hts _ (List.mem_cons_of_mem _ (List.mem_append_left _ (List.mem_of_getElem? (i := 0) rfl)))) (fun _ h9 => h9) rfl dX1_send_102 ?_
                    refine lv_if_le (tgt := 110) hx hb dX1_send_105 (by decide) (fun c_105 => ?_) (fun c_105 => ?_)
                    · skip
                      exact absurd c_105 (by decide)
                    · skip
                      refine lv_iconst (v := 0) hx hb dX1_send_108 (by decide) ?_
                      exact W.iret (v := 0) hx hb hr (fun t ht hW => ⟨⟨0, ((va_up f 0 2), g), rfl, (Or.inr (Or.inl (⟨⟨c_5, Or.inr (Or.inr (Or.inr (Or.inr ⟨c_73, c_90⟩)))⟩, rfl, rfl⟩))), by rw [ht]; exact hP, hD⟩, hS.F ht⟩) hS.2.2 dX1_send_109
set_option maxHeartbeats 4000000 in
set_option maxRecDepth 100000 in
/-- close -/
theorem c_X1_close (l : Launch) (D : va_G) (cA cZ cL : ClassId) (ad : Nat → Nat) (f : qFs) (g : qGs) (sz : Nat) (nR : Nat) (nB : Nat) (hI : mI nR nB f) : Met l yX1_close wsX1_close ({ frames := 0, cells := 0, slots := 0, locals := 0 } : Room) (va_Pc [.ref (ad 18)] (qPreW D (qTy cA cZ cL) (mW cA cZ ad f g) sz)) (va_Qi (fun (z : Int32) (u : qFs × qGs) => ((f 8 = 0) ∧ u.1 = va_up f 0 1 ∧ u.2 = g) ∨ ((¬ f 8 = 0) ∧ z = nI (cnt (fun j => decide (g 15 j = f 9 ∧ g 14 j = 0)) 0 nB) ∧ u.1 = va_up (va_up f 0 0) 8 0 ∧ u.2 = g)) (qAt D (va_A (mW cA cZ ad f g) sz) (fun u : qFs × qGs => mW cA cZ ad u.1 u.2)) (va_A (mW cA cZ ad f g) sz)) 0 0 (va_A (mW cA cZ ad f g) sz) := by
  refine Met.ofW (cc := cX1_close) (maxL := 3) (ret := (some .int)) (by decide) rfl ?_
  intro p e s m args below meth c s₁ B hml hv
  obtain ⟨rfl, hsz, hP, hK, hD0⟩ := hv
  have hx := B.exec
  have hb := B.bytes
  have hr := B.returns
  have hts := atoms_spec (ws := wsX1_close) B.pre
  have hown : s.vm.findClass RX1 = some m.cls := findClass_of_methodNamed B.named
  have hlocks := B.notSynchronized
  subst hsz
  have hD := hD0.self (sz := s.heap.size)
  generalize hAe : va_A (mW cA cZ ad f g) s.heap.size = A at hD ⊢
  have hA : ∀ q : Nat, s.heap.size ≤ q → A q := fun q h => by rw [← hAe]; exact Or.inr h
  have hS : va_S A s.heap s.heap [] := va_S.rf
  have hfin : ∀ w ∈ wsX10, w ∈ wsX1_close := fun w h => (List.mem_cons_of_mem _ (List.mem_append_right _ h))
  have hl := lv_entry ([.ref (ad 18)]) (n := 3) (Nat.le_of_ble_eq_true rfl)
  rw [lg_entry_eq]
  generalize (lg_sl ([.ref (ad 18)]) ++ List.replicate (3 - (lg_sl ([.ref (ad 18)])).length) Slot.unset).toArray = ls at hl ⊢
  have hl : lv_has ls 3 [(0, .ref (ad 18))] := hl
  have hB6 := hI.2.2.2.2
  refine lv_aload_n hx hb dX1_close_0 rfl (lv_at hl 0 rfl) ?_
  refine lv_aload_n hx hb dX1_close_1 rfl (lv_at hl 0 rfl) ?_
  refine va_get (D := D) (ci := 1) (v := .int (f 8)) (C := RX1) (T := TX1) (N := 18) hx hb hts hfin hown hK hP 0 rfl rfl 8 (by decide) (hts _ (List.mem_cons_of_mem _ (List.mem_append_left _ (List.mem_of_getElem? (i := 0) rfl)))) (fun _ h9 => h9) rfl dX1_close_2 ?_
  refine lv_if_eq (tgt := 12) hx hb dX1_close_5 (by decide) (fun c_5 => ?_) (fun c_5 => ?_)
  · skip
    refine lv_iconst (v := 1) hx hb dX1_close_12 (by decide) ?_
    refine va_put (D := D) (ci := 1) (v := .int 1) (ty := .int) (C := RX1) (T := TX1) (N := 18) hx hb hts hfin tyX1 tyX1_ok nmX1 hown hK hP hD hS 0 rfl rfl 0 (by decide) (hts _ (List.mem_cons_of_mem _ (List.mem_append_left _ (List.mem_of_getElem? (i := 1) rfl)))) (fun _ h9 => h9) rfl (by decide +kernel) (rfl) (rfl) (Nat.le_of_ble_eq_true rfl) dX1_close_13 (fun H locs hP hD hS => ?_)
    have hP : va_P D vwCl (mW cA cZ ad (va_up f 0 1) g) H := hP
    have hD : va_D A (mW cA cZ ad (va_up f 0 1) g) := hD
    refine lv_aload_n hx hb dX1_close_16 rfl (lv_at hl 0 rfl) ?_
    refine va_get (D := D) (ci := 1) (v := .int 1) (C := RX1) (T := TX1) (N := 18) hx hb hts hfin hown hK hP 0 rfl rfl 0 (by decide) (hts _ (List.mem_cons_of_mem _ (List.mem_append_left _ (List.mem_of_getElem? (i := 1) rfl)))) (fun _ h9 => h9) rfl dX1_close_17 ?_
    refine lv_if_le (tgt := 25) hx hb dX1_close_20 (by decide) (fun c_20 => ?_) (fun c_20 => ?_)
    · skip
      exact absurd c_20 (by decide)
    · skip
      refine lv_iconst (v := 0) hx hb dX1_close_23 (by decide) ?_
      exact W.iret (v := 0) hx hb hr (fun t ht hW => ⟨⟨0, ((va_up f 0 1), g), rfl, (Or.inl (⟨c_5, rfl, rfl⟩)), by rw [ht]; exact hP, hD⟩, hS.F ht⟩) hS.2.2 dX1_close_24
  · skip
    refine lv_iconst (v := 0) hx hb dX1_close_8 (by decide) ?_
    refine lv_goto (tgt := 13) hx hb dX1_close_9 (by decide) ?_
    refine va_put (D := D) (ci := 1) (v := .int 0) (ty := .int) (C := RX1) (T := TX1) (N := 18) hx hb hts hfin tyX1 tyX1_ok nmX1 hown hK hP hD hS 0 rfl rfl 0 (by decide) (hts _ (List.mem_cons_of_mem _ (List.mem_append_left _ (List.mem_of_getElem? (i := 1) rfl)))) (fun _ h9 => h9) rfl (by decide +kernel) (rfl) (rfl) (Nat.le_of_ble_eq_true rfl) dX1_close_13 (fun H locs hP hD hS => ?_)
    have hP : va_P D vwCl (mW cA cZ ad (va_up f 0 0) g) H := hP
    have hD : va_D A (mW cA cZ ad (va_up f 0 0) g) := hD
    refine lv_aload_n hx hb dX1_close_16 rfl (lv_at hl 0 rfl) ?_
    refine va_get (D := D) (ci := 1) (v := .int 0) (C := RX1) (T := TX1) (N := 18) hx hb hts hfin hown hK hP 0 rfl rfl 0 (by decide) (hts _ (List.mem_cons_of_mem _ (List.mem_append_left _ (List.mem_of_getElem? (i := 1) rfl)))) (fun _ h9 => h9) rfl dX1_close_17 ?_
    refine lv_if_le (tgt := 25) hx hb dX1_close_20 (by decide) (fun c_20 => ?_) (fun c_20 => ?_)
    · skip
      refine lv_aload_n hx hb dX1_close_25 rfl (lv_at hl 0 rfl) ?_
      refine lv_iconst (v := 0) hx hb dX1_close_26 (by decide) ?_
      refine va_put (D := D) (ci := 1) (v := .int 0) (ty := .boolean) (C := RX1) (T := TX1) (N := 18) hx hb hts hfin tyX1 tyX1_ok nmX1 hown hK hP hD hS 0 rfl rfl 8 (by decide) (hts _ (List.mem_cons_of_mem _ (List.mem_append_left _ (List.mem_of_getElem? (i := 0) rfl)))) (fun _ h9 => h9) rfl (by decide +kernel) (rfl) (rfl) (Nat.le_of_ble_eq_true rfl) dX1_close_27 (fun H locs hP hD hS => ?_)
      have hP : va_P D vwCl (mW cA cZ ad (va_up (va_up f 0 0) 8 0) g) H := hP
      have hD : va_D A (mW cA cZ ad (va_up (va_up f 0 0) 8 0) g) := hD
      refine lv_iconst (v := 0) hx hb dX1_close_30 (by decide) ?_
      refine lv_istore_n (lv' := [(1, .int 0), (0, .ref (ad 18))]) hx hb dX1_close_31 rfl hl (by decide) rfl (fun ls hl => ?_)
      refine lv_iconst (v := 0) hx hb dX1_close_32 (by decide) ?_
      refine lv_istore_n (lv' := [(2, .int 0), (1, .int 0), (0, .ref (ad 18))]) hx hb dX1_close_33 rfl hl (by decide) rfl (fun ls hl => ?_)
      have hloop_34 : ∀ (nme : Nat) (k : Nat) (acc : Nat), nB - k = nme → (k ≤ nB) → (acc + cnt (fun j => decide (g 15 j = f 9 ∧ g 14 j = 0)) k nB = cnt (fun j => decide (g 15 j = f 9 ∧ g 14 j = 0)) 0 nB) → ∀ (H : Heap) (locs : List Loc), va_P D vwCl (mW cA cZ ad (va_up (va_up f 0 0) 8 0) g) H → va_D A (mW cA cZ ad (va_up (va_up f 0 0) 8 0) g) → va_S A s.heap H locs → ∀ ls : Array Slot, lv_has ls 3 [(0, .ref (ad 18)), (1, .int (nI acc)), (2, .int (nI k))] → W p l e (headSpec wsX1_close ({ frames := 0, cells := 0, slots := 0, locals := 0 } : Room)).room s m ([.ref (ad 18)] : List Value).toArray below meth c H locs 0 0 (MQ below (va_Qi (fun (z : Int32) (u : qFs × qGs) => ((f 8 = 0) ∧ u.1 = va_up f 0 1 ∧ u.2 = g) ∨ ((¬ f 8 = 0) ∧ z = nI (cnt (fun j => decide (g 15 j = f 9 ∧ g 14 j = 0)) 0 nB) ∧ u.1 = va_up (va_up f 0 0) 8 0 ∧ u.2 = g)) (qAt D A (fun u : qFs × qGs => mW cA cZ ad u.1 u.2)) A) ([.ref (ad 18)] : List Value).toArray s 0 0 A) (F0 m 34 ls []) := by
        intro nme
        induction nme using Nat.strongRecOn with
        | ind nme ih =>
          intro k acc hnme hk hc H locs hP hD hS ls hl
          refine lv_iload_n hx hb dX1_close_34 rfl (lv_at hl 2 rfl) ?_
          refine lv_aload_n hx hb dX1_close_35 rfl (lv_at hl 0 rfl) ?_
          refine va_get (D := D) (ci := 1) (v := .int (f 12)) (C := RX1) (T := TX1) (N := 18) hx hb hts hfin hown hK hP 0 rfl rfl 12 (by decide) (hts _ (List.mem_cons_of_mem _ (List.mem_append_left _ (List.mem_of_getElem? (i := 2) rfl)))) (fun _ h9 => h9) rfl dX1_close_36 ?_
          refine lv_topi (fun v_36 hv_36 => ?_)
          have hv_36 : v_36 = nI nB := hv_36.trans (hI.2.2.2.1)
          subst hv_36
          refine lv_icmp_ge (tgt := 78) hx hb dX1_close_39 (by decide) (fun c_39 => ?_) (fun c_39 => ?_)
          · skip
            have hge : nB ≤ k := n_ge c_39 (by omega) (by omega)
            refine lv_iload_n hx hb dX1_close_78 rfl (lv_at hl 1 rfl) ?_
            exact W.iret (v := nI acc) hx hb hr (fun t ht hW => ⟨⟨nI acc, ((va_up (va_up f 0 0) 8 0), g), rfl, (Or.inr (⟨c_5, (by rw [← hc, cnt_end hge]; rfl), rfl, rfl⟩)), by rw [ht]; exact hP, hD⟩, hS.F ht⟩) hS.2.2 dX1_close_79
          · skip
            have hlt : k < nB := n_lt c_39 (by omega)
            refine lv_iload_n hx hb dX1_close_42 rfl (lv_at hl 1 rfl) ?_
            refine lv_aload_n hx hb dX1_close_43 rfl (lv_at hl 0 rfl) ?_
            refine va_get (D := D) (ci := 1) (v := .ref (ad 15)) (C := RX1) (T := TX1) (N := 18) hx hb hts hfin hown hK hP 0 rfl rfl 15 (by decide) (hts _ (List.mem_cons_of_mem _ (List.mem_append_left _ (List.mem_of_getElem? (i := 3) rfl)))) (fun _ h9 => h9) rfl dX1_close_44 ?_
            refine lv_iload_n hx hb dX1_close_47 rfl (lv_at hl 2 rfl) ?_
            refine va_iald hx hb hK hP 10 0 rfl rfl (vp_in_nI (by omega) (by decide)) dX1_close_48 ?_
            refine lv_topi (fun v_48 hv_48 => ?_)
            have hv_48 : v_48 = g 15 k := hv_48.trans (by rw [nI_clamp (by omega)])
            subst hv_48
            refine lv_aload_n hx hb dX1_close_49 rfl (lv_at hl 0 rfl) ?_
            refine va_get (D := D) (ci := 1) (v := .int (f 9)) (C := RX1) (T := TX1) (N := 18) hx hb hts hfin hown hK hP 0 rfl rfl 9 (by decide) (hts _ (List.mem_cons_of_mem _ (List.mem_append_left _ (List.mem_of_getElem? (i := 4) rfl)))) (fun _ h9 => h9) rfl dX1_close_50 ?_
            refine lv_icmp_ne (tgt := 69) hx hb dX1_close_53 (by decide) (fun c_53 => ?_) (fun c_53 => ?_)
            · skip
              refine lv_iconst (v := 0) hx hb dX1_close_69 (by decide) ?_
              refine lv_iadd hx hb dX1_close_70 ?_
              refine lv_topi (fun v_70 hv_70 => ?_)
              have hv_70 : v_70 = nI acc := hv_70.trans (Int32.add_zero _)
              subst hv_70
              refine lv_istore_n (lv' := [(1, .int (nI acc)), (0, .ref (ad 18)), (2, .int (nI k))]) hx hb dX1_close_71 rfl hl (by decide) rfl (fun ls hl => ?_)
              refine lv_iinc (v := nI (k + 1)) (lv' := [(2, .int (nI (k + 1))), (1, .int (nI acc)), (0, .ref (ad 18))]) hx hb dX1_close_72 hl (k := 2) rfl (nI_1 k) (by decide) rfl (fun ls hl => ?_)
              refine lv_goto (tgt := 34) hx hb dX1_close_75 (by decide) ?_
              exact ih _ (by omega) (k + 1) acc rfl (by omega) (by rw [← hc, cnt_n hlt (df (fun q => c_53 q.1))]) _ _ hP hD hS _ (lv_sub hl [2, 1, 0] rfl)
            · skip
              refine lv_aload_n hx hb dX1_close_56 rfl (lv_at hl 0 rfl) ?_
              refine va_get (D := D) (ci := 1) (v := .ref (ad 14)) (C := RX1) (T := TX1) (N := 18) hx hb hts hfin hown hK hP 0 rfl rfl 14 (by decide) (hts _ (List.mem_cons_of_mem _ (List.mem_append_left _ (List.mem_of_getElem? (i := 5) rfl)))) (fun _ h9 => h9) rfl dX1_close_57 ?_
              refine lv_iload_n hx hb dX1_close_60 rfl (lv_at hl 2 rfl) ?_
              refine va_iald hx hb hK hP 9 0 rfl rfl (vp_in_nI (by omega) (by decide)) dX1_close_61 ?_
              refine lv_topi (fun v_61 hv_61 => ?_)
              have hv_61 : v_61 = g 14 k := hv_61.trans (by rw [nI_clamp (by omega)])
              subst hv_61
              refine lv_if_ne (tgt := 69) hx hb dX1_close_62 (by decide) (fun c_62 => ?_) (fun c_62 => ?_)
              · skip
                refine lv_iconst (v := 0) hx hb dX1_close_69 (by decide) ?_
                refine lv_iadd hx hb dX1_close_70 ?_
                refine lv_topi (fun v_70 hv_70 => ?_)
                have hv_70 : v_70 = nI acc := hv_70.trans (Int32.add_zero _)
                subst hv_70
                refine lv_istore_n (lv' := [(1, .int (nI acc)), (0, .ref (ad 18)), (2, .int (nI k))]) hx hb dX1_close_71 rfl hl (by decide) rfl (fun ls hl => ?_)
                refine lv_iinc (v := nI (k + 1)) (lv' := [(2, .int (nI (k + 1))), (1, .int (nI acc)), (0, .ref (ad 18))]) hx hb dX1_close_72 hl (k := 2) rfl (nI_1 k) (by decide) rfl (fun ls hl => ?_)
                refine lv_goto (tgt := 34) hx hb dX1_close_75 (by decide) ?_
                exact ih _ (by omega) (k + 1) acc rfl (by omega) (by rw [← hc, cnt_n hlt (df (fun q => c_62 q.2))]) _ _ hP hD hS _ (lv_sub hl [2, 1, 0] rfl)
              · skip
                refine lv_iconst (v := 1) hx hb dX1_close_65 (by decide) ?_
                refine lv_goto (tgt := 70) hx hb dX1_close_66 (by decide) ?_
                refine lv_iadd hx hb dX1_close_70 ?_
                refine lv_topi (fun v_70 hv_70 => ?_)
                have hv_70 : v_70 = nI (acc + 1) := hv_70.trans (nI_1 acc)
                subst hv_70
                refine lv_istore_n (lv' := [(1, .int (nI (acc + 1))), (0, .ref (ad 18)), (2, .int (nI k))]) hx hb dX1_close_71 rfl hl (by decide) rfl (fun ls hl => ?_)
                refine lv_iinc (v := nI (k + 1)) (lv' := [(2, .int (nI (k + 1))), (1, .int (nI (acc + 1))), (0, .ref (ad 18))]) hx hb dX1_close_72 hl (k := 2) rfl (nI_1 k) (by decide) rfl (fun ls hl => ?_)
                refine lv_goto (tgt := 34) hx hb dX1_close_75 (by decide) ?_
                exact ih _ (by omega) (k + 1) (acc + 1) rfl (by omega) (by rw [← hc, cnt_y hlt (dt ⟨c_53, c_62⟩)]; omega) _ _ hP hD hS _ (lv_sub hl [2, 1, 0] rfl)
      exact hloop_34 _ 0 0 rfl (by omega) (Nat.zero_add _) _ _ hP hD hS _ (lv_sub hl [2, 1, 0] rfl)
    · skip
      exact absurd c_20 (by decide)
