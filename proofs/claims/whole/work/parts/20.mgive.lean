set_option maxHeartbeats 4000000 in
set_option maxRecDepth 100000 in
/-- giveBack -/
theorem c_X1_giveBack (l : Launch) (D : va_G) (cA cZ cL : ClassId) (ad : Nat → Nat) (f : qFs) (g : qGs) (sz : Nat) (b : Int32) (ch : Int32) (nR : Nat) (nB : Nat) (hI : mI nR nB f) (hDi : mDi nB g) : Met l yX1_giveBack wsX1_giveBack ({ frames := 1, cells := 0, slots := 0, locals := 22 } : Room) (va_Pc [.ref (ad 18), .int b, .int ch] (qPreW D (qTy cA cZ cL) (mW cA cZ ad f g) sz)) (va_Qi (fun (z : Int32) (u : qFs × qGs) => ((¬ mBallot f b) ∧ u.1 = va_up f 0 1 ∧ u.2 = g) ∨ ((mBallot f b ∧ ¬ xCho ch) ∧ u.1 = va_up f 0 2 ∧ u.2 = g) ∨ ((mBallot f b ∧ xCho ch ∧ ¬ (g 14 b.toNatClampNeg = 0 ∧ ¬ f 8 = 0 ∧ g 15 b.toNatClampNeg = f 9)) ∧ u.1 = va_up f 0 3 ∧ u.2 = g) ∨ ((mBallot f b ∧ xCho ch ∧ (g 14 b.toNatClampNeg = 0 ∧ ¬ f 8 = 0 ∧ g 15 b.toNatClampNeg = f 9)) ∧ z = g 16 b.toNatClampNeg ∧ u.1 = va_up f 0 0 ∧ u.2 = va_up (va_up g 14 (upd (g 14) b.toNatClampNeg 2)) 17 (upd (g 17) (3 * g 16 b.toNatClampNeg + ch).toNatClampNeg (g 17 (3 * g 16 b.toNatClampNeg + ch).toNatClampNeg + 1)))) (qAt D (va_A (mW cA cZ ad f g) sz) (fun u : qFs × qGs => mW cA cZ ad u.1 u.2)) (va_A (mW cA cZ ad f g) sz)) 0 0 (va_A (mW cA cZ ad f g) sz) := by
  refine Met.ofW (cc := cX1_giveBack) (maxL := 3) (ret := (some .int)) (by decide) rfl ?_
  intro p e s m args below meth c s₁ B hml hv
  obtain ⟨rfl, hsz, hP, hK, hD0⟩ := hv
  have hx := B.exec
  have hb := B.bytes
  have hr := B.returns
  have hts := atoms_spec (ws := wsX1_giveBack) B.pre
  have hown : s.vm.findClass RX1 = some m.cls := findClass_of_methodNamed B.named
  have hlocks := B.notSynchronized
  subst hsz
  have hD := hD0.self (sz := s.heap.size)
  generalize hAe : va_A (mW cA cZ ad f g) s.heap.size = A at hD ⊢
  have hA : ∀ q : Nat, s.heap.size ≤ q → A q := fun q h => by rw [← hAe]; exact Or.inr h
  have hS : va_S A s.heap s.heap [] := va_S.rf
  have hfin : ∀ w ∈ wsX10, w ∈ wsX1_giveBack := fun w h => (List.mem_cons_of_mem _ (List.mem_append_right _ h))
  have hl := lv_entry ([.ref (ad 18), .int b, .int ch]) (n := 3) (Nat.le_of_ble_eq_true rfl)
  rw [lg_entry_eq]
  generalize (lg_sl ([.ref (ad 18), .int b, .int ch]) ++ List.replicate (3 - (lg_sl ([.ref (ad 18), .int b, .int ch])).length) Slot.unset).toArray = ls at hl ⊢
  have hl : lv_has ls 3 [(0, .ref (ad 18)), (1, .int b), (2, .int ch)] := hl
  have hB6 := hI.2.2.2.2
  refine lv_aload_n hx hb dX1_giveBack_0 rfl (lv_at hl 0 rfl) ?_
  refine lv_iload_n hx hb dX1_giveBack_1 rfl (lv_at hl 1 rfl) ?_
  refine lv_iconst (v := 0) hx hb dX1_giveBack_2 (by decide) ?_
  refine lv_aload_n hx hb dX1_giveBack_3 rfl (lv_at hl 0 rfl) ?_
  refine va_get (D := D) (ci := 1) (v := .int (f 12)) (C := RX1) (T := TX1) (N := 18) hx hb hts hfin hown hK hP 0 rfl rfl 12 (by decide) (hts _ (List.mem_cons_of_mem _ (List.mem_append_left _ (List.mem_of_getElem? (i := 0) rfl)))) (fun _ h9 => h9) rfl dX1_giveBack_4 ?_
  refine lv_iconst (v := 1) hx hb dX1_giveBack_7 (by decide) ?_
  refine lv_isub hx hb dX1_giveBack_8 ?_
  refine vp_callSi (W.runS (As := [.int b, .int 0, .int ((f 12) - 1)]) (rest := [.ref (ad 18)]) ⟨hx, hb, hml, hown, hts⟩ (c_X1_in l b 0 ((f 12) - 1)) (va_cwS 3 hts gX1_giveBack_X1_in rfl rfl rfl (by decide +kernel) ⟨Nat.le_of_ble_eq_true rfl, Nat.le_of_ble_eq_true rfl⟩) ⟨qN_blind, qN_at⟩ rfl rfl hl.1 rfl (lv_room (Nat.le_of_ble_eq_true rfl)) dX1_giveBack_9 ⟨Nat.le_of_ble_eq_true rfl, Nat.le_of_ble_eq_true rfl⟩) (fun z hz => ?_)
  subst hz
  refine lv_topi (fun v_9 hv_9 => ?_)
  have hv_9 : v_9 = bI (mBallot f b) := hv_9.trans (bI_congr (by unfold mBallot; rw [hI.2.2.2.1]; exact in_nat b (by omega)))
  subst hv_9
  refine lv_if_ne (tgt := 19) hx hb dX1_giveBack_12 (by decide) (fun c_12 => ?_) (fun c_12 => ?_)
  · have c_12 := bI_n.mp c_12
    refine lv_iload_n hx hb dX1_giveBack_19 rfl (lv_at hl 2 rfl) ?_
    refine lv_iconst (v := 0) hx hb dX1_giveBack_20 (by decide) ?_
    refine lv_iconst (v := 2) hx hb dX1_giveBack_21 (by decide) ?_
    refine vp_callSi (W.runS (As := [.int ch, .int 0, .int 2]) (rest := [.ref (ad 18)]) ⟨hx, hb, hml, hown, hts⟩ (c_X1_in l ch 0 2) (va_cwS 3 hts gX1_giveBack_X1_in rfl rfl rfl (by decide +kernel) ⟨Nat.le_of_ble_eq_true rfl, Nat.le_of_ble_eq_true rfl⟩) ⟨qN_blind, qN_at⟩ rfl rfl hl.1 rfl (lv_room (Nat.le_of_ble_eq_true rfl)) dX1_giveBack_22 ⟨Nat.le_of_ble_eq_true rfl, Nat.le_of_ble_eq_true rfl⟩) (fun z hz => ?_)
    subst hz
    refine lv_topi (fun v_22 hv_22 => ?_)
    have hv_22 : v_22 = bI (xCho ch) := hv_22.trans (bI_congr (in_cho ch))
    subst hv_22
    refine lv_if_ne (tgt := 32) hx hb dX1_giveBack_25 (by decide) (fun c_25 => ?_) (fun c_25 => ?_)
    · have c_25 := bI_n.mp c_25
      refine lv_iconst (v := 0) hx hb dX1_giveBack_32 (by decide) ?_
      refine va_put (D := D) (ci := 1) (v := .int 0) (ty := .int) (C := RX1) (T := TX1) (N := 18) hx hb hts hfin tyX1 tyX1_ok nmX1 hown hK hP hD hS 0 rfl rfl 0 (by decide) (hts _ (List.mem_cons_of_mem _ (List.mem_append_left _ (List.mem_of_getElem? (i := 1) rfl)))) (fun _ h9 => h9) rfl (by decide +kernel) (rfl) (rfl) (Nat.le_of_ble_eq_true rfl) dX1_giveBack_33 (fun H locs hP hD hS => ?_)
      have hP : va_P D vwCl (mW cA cZ ad (va_up f 0 0) g) H := hP
      have hD : va_D A (mW cA cZ ad (va_up f 0 0) g) := hD
      refine lv_aload_n hx hb dX1_giveBack_36 rfl (lv_at hl 0 rfl) ?_
      refine va_get (D := D) (ci := 1) (v := .int 0) (C := RX1) (T := TX1) (N := 18) hx hb hts hfin hown hK hP 0 rfl rfl 0 (by decide) (hts _ (List.mem_cons_of_mem _ (List.mem_append_left _ (List.mem_of_getElem? (i := 1) rfl)))) (fun _ h9 => h9) rfl dX1_giveBack_37 ?_
      refine lv_if_ne (tgt := 81) hx hb dX1_giveBack_40 (by decide) (fun c_40 => ?_) (fun c_40 => ?_)
      · skip
        exact absurd c_40 (by decide)
      · skip
        refine lv_aload_n hx hb dX1_giveBack_43 rfl (lv_at hl 0 rfl) ?_
        refine lv_aload_n hx hb dX1_giveBack_44 rfl (lv_at hl 0 rfl) ?_
        refine va_get (D := D) (ci := 1) (v := .ref (ad 14)) (C := RX1) (T := TX1) (N := 18) hx hb hts hfin hown hK hP 0 rfl rfl 14 (by decide) (hts _ (List.mem_cons_of_mem _ (List.mem_append_left _ (List.mem_of_getElem? (i := 2) rfl)))) (fun _ h9 => h9) rfl dX1_giveBack_45 ?_
        refine lv_iload_n hx hb dX1_giveBack_48 rfl (lv_at hl 1 rfl) ?_
        refine va_iald hx hb hK hP 9 0 rfl rfl (m_in60 hI c_12) dX1_giveBack_49 ?_
        refine lv_if_ne (tgt := 73) hx hb dX1_giveBack_50 (by decide) (fun c_50 => ?_) (fun c_50 => ?_)
        · skip
          refine lv_iconst (v := 3) hx hb dX1_giveBack_73 (by decide) ?_
          refine lv_goto (tgt := 78) hx hb dX1_giveBack_74 (by decide) ?_
          refine va_put (D := D) (ci := 1) (v := .int 3) (ty := .int) (C := RX1) (T := TX1) (N := 18) hx hb hts hfin tyX1 tyX1_ok nmX1 hown hK hP hD hS 0 rfl rfl 0 (by decide) (hts _ (List.mem_cons_of_mem _ (List.mem_append_left _ (List.mem_of_getElem? (i := 1) rfl)))) (fun _ h9 => h9) rfl (by decide +kernel) (rfl) (rfl) (Nat.le_of_ble_eq_true rfl) dX1_giveBack_78 (fun H locs hP hD hS => ?_)
          have hP : va_P D vwCl (mW cA cZ ad (va_up f 0 3) g) H := hP
          have hD : va_D A (mW cA cZ ad (va_up f 0 3) g) := hD
          refine lv_aload_n hx hb dX1_giveBack_81 rfl (lv_at hl 0 rfl) ?_
          refine va_get (D := D) (ci := 1) (v := .int 3) (C := RX1) (T := TX1) (N := 18) hx hb hts hfin hown hK hP 0 rfl rfl 0 (by decide) (hts _ (List.mem_cons_of_mem _ (List.mem_append_left _ (List.mem_of_getElem? (i := 1) rfl)))) (fun _ h9 => h9) rfl dX1_giveBack_82 ?_
          refine lv_if_le (tgt := 90) hx hb dX1_giveBack_85 (by decide) (fun c_85 => ?_) (fun c_85 => ?_)
          · skip
            exact absurd c_85 (by decide)
          · skip
            refine lv_iconst (v := 0) hx hb dX1_giveBack_88 (by decide) ?_
            exact W.iret (v := 0) hx hb hr (fun t ht hW => ⟨⟨0, ((va_up f 0 3), g), rfl, (Or.inr (Or.inr (Or.inl (⟨⟨c_12, c_25, fun q => c_50 q.1⟩, rfl, rfl⟩)))), by rw [ht]; exact hP, hD⟩, hS.F ht⟩) hS.2.2 dX1_giveBack_89
        · skip
          refine lv_aload_n hx hb dX1_giveBack_53 rfl (lv_at hl 0 rfl) ?_
          refine va_get (D := D) (ci := 1) (v := .int (f 8)) (C := RX1) (T := TX1) (N := 18) hx hb hts hfin hown hK hP 0 rfl rfl 8 (by decide) (hts _ (List.mem_cons_of_mem _ (List.mem_append_left _ (List.mem_of_getElem? (i := 3) rfl)))) (fun _ h9 => h9) rfl dX1_giveBack_54 ?_
          refine lv_if_eq (tgt := 73) hx hb dX1_giveBack_57 (by decide) (fun c_57 => ?_) (fun c_57 => ?_)
          · skip
            refine lv_iconst (v := 3) hx hb dX1_giveBack_73 (by decide) ?_
            refine lv_goto (tgt := 78) hx hb dX1_giveBack_74 (by decide) ?_
            refine va_put (D := D) (ci := 1) (v := .int 3) (ty := .int) (C := RX1) (T := TX1) (N := 18) hx hb hts hfin tyX1 tyX1_ok nmX1 hown hK hP hD hS 0 rfl rfl 0 (by decide) (hts _ (List.mem_cons_of_mem _ (List.mem_append_left _ (List.mem_of_getElem? (i := 1) rfl)))) (fun _ h9 => h9) rfl (by decide +kernel) (rfl) (rfl) (Nat.le_of_ble_eq_true rfl) dX1_giveBack_78 (fun H locs hP hD hS => ?_)
            have hP : va_P D vwCl (mW cA cZ ad (va_up f 0 3) g) H := hP
            have hD : va_D A (mW cA cZ ad (va_up f 0 3) g) := hD
            refine lv_aload_n hx hb dX1_giveBack_81 rfl (lv_at hl 0 rfl) ?_
            refine va_get (D := D) (ci := 1) (v := .int 3) (C := RX1) (T := TX1) (N := 18) hx hb hts hfin hown hK hP 0 rfl rfl 0 (by decide) (hts _ (List.mem_cons_of_mem _ (List.mem_append_left _ (List.mem_of_getElem? (i := 1) rfl)))) (fun _ h9 => h9) rfl dX1_giveBack_82 ?_
            refine lv_if_le (tgt := 90) hx hb dX1_giveBack_85 (by decide) (fun c_85 => ?_) (fun c_85 => ?_)
            · skip
              exact absurd c_85 (by decide)
            · skip
              refine lv_iconst (v := 0) hx hb dX1_giveBack_88 (by decide) ?_
              exact W.iret (v := 0) hx hb hr (fun t ht hW => ⟨⟨0, ((va_up f 0 3), g), rfl, (Or.inr (Or.inr (Or.inl (⟨⟨c_12, c_25, fun q => q.2.1 c_57⟩, rfl, rfl⟩)))), by rw [ht]; exact hP, hD⟩, hS.F ht⟩) hS.2.2 dX1_giveBack_89
          · skip
            refine lv_aload_n hx hb dX1_giveBack_60 rfl (lv_at hl 0 rfl) ?_
            refine va_get (D := D) (ci := 1) (v := .ref (ad 15)) (C := RX1) (T := TX1) (N := 18) hx hb hts hfin hown hK hP 0 rfl rfl 15 (by decide) (hts _ (List.mem_cons_of_mem _ (List.mem_append_left _ (List.mem_of_getElem? (i := 4) rfl)))) (fun _ h9 => h9) rfl dX1_giveBack_61 ?_
            refine lv_iload_n hx hb dX1_giveBack_64 rfl (lv_at hl 1 rfl) ?_
            refine va_iald hx hb hK hP 10 0 rfl rfl (m_in60 hI c_12) dX1_giveBack_65 ?_
            refine lv_aload_n hx hb dX1_giveBack_66 rfl (lv_at hl 0 rfl) ?_
            refine va_get (D := D) (ci := 1) (v := .int (f 9)) (C := RX1) (T := TX1) (N := 18) hx hb hts hfin hown hK hP 0 rfl rfl 9 (by decide) (hts _ (List.mem_cons_of_mem _ (List.mem_append_left _ (List.mem_of_getElem? (i := 5) rfl)))) (fun _ h9 => h9) rfl dX1_giveBack_67 ?_
            refine lv_icmp_eq (tgt := 77) hx hb dX1_giveBack_70 (by decide) (fun c_70 => ?_) (fun c_70 => ?_)
            · skip
              refine lv_iconst (v := 0) hx hb dX1_giveBack_77 (by decide) ?_
              refine va_put (D := D) (ci := 1) (v := .int 0) (ty := .int) (C := RX1) (T := TX1) (N := 18) hx hb hts hfin tyX1 tyX1_ok nmX1 hown hK hP hD hS 0 rfl rfl 0 (by decide) (hts _ (List.mem_cons_of_mem _ (List.mem_append_left _ (List.mem_of_getElem? (i := 1) rfl)))) (fun _ h9 => h9) rfl (by decide +kernel) (rfl) (rfl) (Nat.le_of_ble_eq_true rfl) dX1_giveBack_78 (fun H locs hP hD hS => ?_)
              have hP : va_P D vwCl (mW cA cZ ad (va_up f 0 0) g) H := hP
              have hD : va_D A (mW cA cZ ad (va_up f 0 0) g) := hD
              refine lv_aload_n hx hb dX1_giveBack_81 rfl (lv_at hl 0 rfl) ?_
              refine va_get (D := D) (ci := 1) (v := .int 0) (C := RX1) (T := TX1) (N := 18) hx hb hts hfin hown hK hP 0 rfl rfl 0 (by decide) (hts _ (List.mem_cons_of_mem _ (List.mem_append_left _ (List.mem_of_getElem? (i := 1) rfl)))) (fun _ h9 => h9) rfl dX1_giveBack_82 ?_
              refine lv_if_le (tgt := 90) hx hb dX1_giveBack_85 (by decide) (fun c_85 => ?_) (fun c_85 => ?_)
              · skip
                refine lv_aload_n hx hb dX1_giveBack_90 rfl (lv_at hl 0 rfl) ?_
                refine va_get (D := D) (ci := 1) (v := .ref (ad 14)) (C := RX1) (T := TX1) (N := 18) hx hb hts hfin hown hK hP 0 rfl rfl 14 (by decide) (hts _ (List.mem_cons_of_mem _ (List.mem_append_left _ (List.mem_of_getElem? (i := 2) rfl)))) (fun _ h9 => h9) rfl dX1_giveBack_91 ?_
                refine lv_iload_n hx hb dX1_giveBack_94 rfl (lv_at hl 1 rfl) ?_
                refine lv_iconst (v := 2) hx hb dX1_giveBack_95 (by decide) ?_
                refine va_iast hx hb hK hP hD hS 9 0 rfl rfl (m_in60 hI c_12) dX1_giveBack_96 (fun H locs hP hD hS => ?_)
                have hP : va_P D vwCl (mW cA cZ ad (va_up f 0 0) (va_up g 14 (upd (g 14) b.toNatClampNeg 2))) H := hP
                have hD : va_D A (mW cA cZ ad (va_up f 0 0) (va_up g 14 (upd (g 14) b.toNatClampNeg 2))) := hD
                refine lv_aload_n hx hb dX1_giveBack_97 rfl (lv_at hl 0 rfl) ?_
                refine va_get (D := D) (ci := 1) (v := .ref (ad 17)) (C := RX1) (T := TX1) (N := 18) hx hb hts hfin hown hK hP 0 rfl rfl 17 (by decide) (hts _ (List.mem_cons_of_mem _ (List.mem_append_left _ (List.mem_of_getElem? (i := 6) rfl)))) (fun _ h9 => h9) rfl dX1_giveBack_98 ?_
                refine lv_iconst (v := 3) hx hb dX1_giveBack_101 (by decide) ?_
                refine lv_aload_n hx hb dX1_giveBack_102 rfl (lv_at hl 0 rfl) ?_
                refine va_get (D := D) (ci := 1) (v := .ref (ad 16)) (C := RX1) (T := TX1) (N := 18) hx hb hts hfin hown hK hP 0 rfl rfl 16 (by decide) (hts _ (List.mem_cons_of_mem _ (List.mem_append_left _ (List.mem_of_getElem? (i := 7) rfl)))) (fun _ h9 => h9) rfl dX1_giveBack_103 ?_
                refine lv_iload_n hx hb dX1_giveBack_106 rfl (lv_at hl 1 rfl) ?_
                refine va_iald hx hb hK hP 11 0 rfl rfl (m_in60 hI c_12) dX1_giveBack_107 ?_
                refine lv_topi (fun v_107 hv_107 => ?_)
                have hv_107 : v_107 = g 16 b.toNatClampNeg := hv_107.trans (rfl)
                subst hv_107
                refine lv_imul hx hb dX1_giveBack_108 ?_
                refine lv_iload_n hx hb dX1_giveBack_109 rfl (lv_at hl 2 rfl) ?_
                refine lv_iadd hx hb dX1_giveBack_110 ?_
                refine lv_topi (fun ix hix => ?_)
                refine lv_dup2_11 hx hb dX1_giveBack_111 rfl rfl ?_
                refine va_iald hx hb hK hP 12 0 rfl rfl (by rw [hix]; exact m_in12 hI hDi c_12 c_25) dX1_giveBack_112 ?_
                refine lv_topi (fun v_112 hv_112 => ?_)
                have hv_112 : v_112 = g 17 ix.toNatClampNeg := hv_112.trans (rfl)
                subst hv_112
                refine lv_iconst (v := 1) hx hb dX1_giveBack_113 (by decide) ?_
                refine lv_iadd hx hb dX1_giveBack_114 ?_
                refine va_iast hx hb hK hP hD hS 12 0 rfl rfl (by rw [hix]; exact m_in12 hI hDi c_12 c_25) dX1_giveBack_115 (fun H locs hP hD hS => ?_)
                rw [mW_set17] at hP hD
                have hP : va_P D vwCl (mW cA cZ ad (va_up f 0 0) (va_up (va_up g 14 (upd (g 14) b.toNatClampNeg 2)) 17 (upd (g 17) ix.toNatClampNeg ((g 17 ix.toNatClampNeg) + 1)))) H := hP
                have hD : va_D A (mW cA cZ ad (va_up f 0 0) (va_up (va_up g 14 (upd (g 14) b.toNatClampNeg 2)) 17 (upd (g 17) ix.toNatClampNeg ((g 17 ix.toNatClampNeg) + 1)))) := hD
                refine lv_aload_n hx hb dX1_giveBack_116 rfl (lv_at hl 0 rfl) ?_
                refine va_get (D := D) (ci := 1) (v := .ref (ad 16)) (C := RX1) (T := TX1) (N := 18) hx hb hts hfin hown hK hP 0 rfl rfl 16 (by decide) (hts _ (List.mem_cons_of_mem _ (List.mem_append_left _ (List.mem_of_getElem? (i := 7) rfl)))) (fun _ h9 => h9) rfl dX1_giveBack_117 ?_
                refine lv_iload_n hx hb dX1_giveBack_120 rfl (lv_at hl 1 rfl) ?_
                refine va_iald hx hb hK hP 11 0 rfl rfl (m_in60 hI c_12) dX1_giveBack_121 ?_
                exact W.iret (v := g 16 b.toNatClampNeg) hx hb hr (fun t ht hW => ⟨⟨g 16 b.toNatClampNeg, ((va_up f 0 0), (va_up (va_up g 14 (upd (g 14) b.toNatClampNeg 2)) 17 (upd (g 17) ix.toNatClampNeg ((g 17 ix.toNatClampNeg) + 1)))), rfl, (Or.inr (Or.inr (Or.inr (⟨⟨c_12, c_25, c_50, c_57, c_70⟩, rfl, rfl, (by rw [← hix])⟩)))), by rw [ht]; exact hP, hD⟩, hS.F ht⟩) hS.2.2 dX1_giveBack_122
              · skip
                exact absurd c_85 (by decide)
            · skip
              refine lv_iconst (v := 3) hx hb dX1_giveBack_73 (by decide) ?_
              refine lv_goto (tgt := 78) hx hb dX1_giveBack_74 (by decide) ?_
              refine va_put (D := D) (ci := 1) (v := .int 3) (ty := .int) (C := RX1) (T := TX1) (N := 18) hx hb hts hfin tyX1 tyX1_ok nmX1 hown hK hP hD hS 0 rfl rfl 0 (by decide) (hts _ (List.mem_cons_of_mem _ (List.mem_append_left _ (List.mem_of_getElem? (i := 1) rfl)))) (fun _ h9 => h9) rfl (by decide +kernel) (rfl) (rfl) (Nat.le_of_ble_eq_true rfl) dX1_giveBack_78 (fun H locs hP hD hS => ?_)
              have hP : va_P D vwCl (mW cA cZ ad (va_up f 0 3) g) H := hP
              have hD : va_D A (mW cA cZ ad (va_up f 0 3) g) := hD
              refine lv_aload_n hx hb dX1_giveBack_81 rfl (lv_at hl 0 rfl) ?_
              refine va_get (D := D) (ci := 1) (v := .int 3) (C := RX1) (T := TX1) (N := 18) hx hb hts hfin hown hK hP 0 rfl rfl 0 (by decide) (hts _ (List.mem_cons_of_mem _ (List.mem_append_left _ (List.mem_of_getElem? (i := 1) rfl)))) (fun _ h9 => h9) rfl dX1_giveBack_82 ?_
              refine lv_if_le (tgt := 90) hx hb dX1_giveBack_85 (by decide) (fun c_85 => ?_) (fun c_85 => ?_)
              · skip
                exact absurd c_85 (by decide)
              · skip
                refine lv_iconst (v := 0) hx hb dX1_giveBack_88 (by decide) ?_
                exact W.iret (v := 0) hx hb hr (fun t ht hW => ⟨⟨0, ((va_up f 0 3), g), rfl, (Or.inr (Or.inr (Or.inl (⟨⟨c_12, c_25, fun q => c_70 q.2.2⟩, rfl, rfl⟩)))), by rw [ht]; exact hP, hD⟩, hS.F ht⟩) hS.2.2 dX1_giveBack_89
    · have c_25 := bI_0.mp c_25
      refine lv_iconst (v := 2) hx hb dX1_giveBack_28 (by decide) ?_
      refine lv_goto (tgt := 33) hx hb dX1_giveBack_29 (by decide) ?_
      refine va_put (D := D) (ci := 1) (v := .int 2) (ty := .int) (C := RX1) (T := TX1) (N := 18) hx hb hts hfin tyX1 tyX1_ok nmX1 hown hK hP hD hS 0 rfl rfl 0 (by decide) (hts _ (List.mem_cons_of_mem _ (List.mem_append_left _ (List.mem_of_getElem? (i := 1) rfl)))) (fun _ h9 => h9) rfl (by decide +kernel) (rfl) (rfl) (Nat.le_of_ble_eq_true rfl) dX1_giveBack_33 (fun H locs hP hD hS => ?_)
      have hP : va_P D vwCl (mW cA cZ ad (va_up f 0 2) g) H := hP
      have hD : va_D A (mW cA cZ ad (va_up f 0 2) g) := hD
      refine lv_aload_n hx hb dX1_giveBack_36 rfl (lv_at hl 0 rfl) ?_
      refine va_get (D := D) (ci := 1) (v := .int 2) (C := RX1) (T := TX1) (N := 18) hx hb hts hfin hown hK hP 0 rfl rfl 0 (by decide) (hts _ (List.mem_cons_of_mem _ (List.mem_append_left _ (List.mem_of_getElem? (i := 1) rfl)))) (fun _ h9 => h9) rfl dX1_giveBack_37 ?_
      refine lv_if_ne (tgt := 81) hx hb dX1_giveBack_40 (by decide) (fun c_40 => ?_) (fun c_40 => ?_)
      · skip
        refine lv_aload_n hx hb dX1_giveBack_81 rfl (lv_at hl 0 rfl) ?_
        refine va_get (D := D) (ci := 1) (v := .int 2) (C := RX1) (T := TX1) (N := 18) hx hb hts hfin hown hK hP 0 rfl rfl 0 (by decide) (hts _ (List.mem_cons_of_mem _ (List.mem_append_left _ (List.mem_of_getElem? (i := 1) rfl)))) (fun _ h9 => h9) rfl dX1_giveBack_82 ?_
        refine lv_if_le (tgt := 90) hx hb dX1_giveBack_85 (by decide) (fun c_85 => ?_) (fun c_85 => ?_)
        · skip
          exact absurd c_85 (by decide)
        · skip
          refine lv_iconst (v := 0) hx hb dX1_giveBack_88 (by decide) ?_
          exact W.iret (v := 0) hx hb hr (fun t ht hW => ⟨⟨0, ((va_up f 0 2), g), rfl, (Or.inr (Or.inl (⟨⟨c_12, c_25⟩, rfl, rfl⟩))), by rw [ht]; exact hP, hD⟩, hS.F ht⟩) hS.2.2 dX1_giveBack_89
      · skip
        exact absurd c_40 (by decide)
  · have c_12 := bI_0.mp c_12
    refine lv_iconst (v := 1) hx hb dX1_giveBack_15 (by decide) ?_
    refine lv_goto (tgt := 33) hx hb dX1_giveBack_16 (by decide) ?_
    refine va_put (D := D) (ci := 1) (v := .int 1) (ty := .int) (C := RX1) (T := TX1) (N := 18) hx hb hts hfin tyX1 tyX1_ok nmX1 hown hK hP hD hS 0 rfl rfl 0 (by decide) (hts _ (List.mem_cons_of_mem _ (List.mem_append_left _ (List.mem_of_getElem? (i := 1) rfl)))) (fun _ h9 => h9) rfl (by decide +kernel) (rfl) (rfl) (Nat.le_of_ble_eq_true rfl) dX1_giveBack_33 (fun H locs hP hD hS => ?_)
    have hP : va_P D vwCl (mW cA cZ ad (va_up f 0 1) g) H := hP
    have hD : va_D A (mW cA cZ ad (va_up f 0 1) g) := hD
    refine lv_aload_n hx hb dX1_giveBack_36 rfl (lv_at hl 0 rfl) ?_
    refine va_get (D := D) (ci := 1) (v := .int 1) (C := RX1) (T := TX1) (N := 18) hx hb hts hfin hown hK hP 0 rfl rfl 0 (by decide) (hts _ (List.mem_cons_of_mem _ (List.mem_append_left _ (List.mem_of_getElem? (i := 1) rfl)))) (fun _ h9 => h9) rfl dX1_giveBack_37 ?_
    refine lv_if_ne (tgt := 81) hx hb dX1_giveBack_40 (by decide) (fun c_40 => ?_) (fun c_40 => ?_)
    · skip
      refine lv_aload_n hx hb dX1_giveBack_81 rfl (lv_at hl 0 rfl) ?_
      refine va_get (D := D) (ci := 1) (v := .int 1) (C := RX1) (T := TX1) (N := 18) hx hb hts hfin hown hK hP 0 rfl rfl 0 (by decide) (hts _ (List.mem_cons_of_mem _ (List.mem_append_left _ (List.mem_of_getElem? (i := 1) rfl)))) (fun _ h9 => h9) rfl dX1_giveBack_82 ?_
      refine lv_if_le (tgt := 90) hx hb dX1_giveBack_85 (by decide) (fun c_85 => ?_) (fun c_85 => ?_)
      · skip
        exact absurd c_85 (by decide)
      · skip
        refine lv_iconst (v := 0) hx hb dX1_giveBack_88 (by decide) ?_
        exact W.iret (v := 0) hx hb hr (fun t ht hW => ⟨⟨0, ((va_up f 0 1), g), rfl, (Or.inl (⟨c_12, rfl, rfl⟩)), by rw [ht]; exact hP, hD⟩, hS.F ht⟩) hS.2.2 dX1_giveBack_89
    · skip
      exact absurd c_40 (by decide)
