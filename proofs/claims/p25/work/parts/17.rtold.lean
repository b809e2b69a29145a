set_option maxHeartbeats 4000000 in
set_option maxRecDepth 100000 in
/-- the law asks all that can be told: thirteen calls of it are refused -/
theorem c_L_isTold (l : Launch) (hl0 : l.stackTraces = false) (D : va_G) (cA cZ cL : ClassId) (ad q : Nat → Nat) (f : qFs) (g : qGs) (h : Nat → Nat → Int32) (y : Int32) (hR : RInv f h) : Met l yL_isTold wsL_isTold ({ frames := 9, cells := 60, slots := 360, locals := 158 } : Room) (va_Pc [.ref (ad 16), .int y, .ref (q 0), .ref (q 1), .ref (q 2), .ref (q 3), .ref (q 4), .ref (q 5)] (qPreN D (qTy cA cZ cL) (LW cA ad q f g h))) (qG (fun z n1 n2 => (z = 0 ∨ n1 + 13 ≤ n2))) 60 360 (fun _ => False) := by
  refine Met.ofW (cc := cL_isTold) (maxL := 12) (ret := (some .boolean)) (by decide) rfl ?_
  intro p e s m args below meth c s₁ B hml hv
  obtain ⟨rfl, hP, hK, hTH, hNC⟩ := hv
  have hx := B.exec
  have hb := B.bytes
  have hr := B.returns
  have hts := atoms_spec (ws := wsL_isTold) B.pre
  have hown : s.vm.findClass RL = some m.cls := findClass_of_methodNamed B.named
  have hlocks := B.notSynchronized
  have hS : va_S (fun _ => False) s.heap s.heap [] := va_S.rf
  have hg0 : s.heap.size + 0 ≤ s.heap.size := Nat.le_refl _
  have hl := lv_entry ([.ref (ad 16), .int y, .ref (q 0), .ref (q 1), .ref (q 2), .ref (q 3), .ref (q 4), .ref (q 5)]) (n := 12) (Nat.le_of_ble_eq_true rfl)
  rw [lg_entry_eq]
  generalize (lg_sl ([.ref (ad 16), .int y, .ref (q 0), .ref (q 1), .ref (q 2), .ref (q 3), .ref (q 4), .ref (q 5)]) ++ List.replicate (12 - (lg_sl ([.ref (ad 16), .int y, .ref (q 0), .ref (q 1), .ref (q 2), .ref (q 3), .ref (q 4), .ref (q 5)])).length) Slot.unset).toArray = ls at hl ⊢
  have hl : lv_has ls 12 [(0, .ref (ad 16)), (1, .int y), (2, .ref (q 0)), (3, .ref (q 1)), (4, .ref (q 2)), (5, .ref (q 3)), (6, .ref (q 4)), (7, .ref (q 5))] := hl
  obtain ⟨hI, h99, hm1, hm4, hm5, n, hn4, hn⟩ := hR
  refine W.widen (k := 0) (n := 6 * 0) (by omega) (by omega) ?_
  refine lv_iconst (v := 0) hx hb dL_isTold_0 (by decide) ?_
  refine lv_istore (lv' := [(8, .int 0), (0, .ref (ad 16)), (1, .int y), (2, .ref (q 0)), (3, .ref (q 1)), (4, .ref (q 2)), (5, .ref (q 3)), (6, .ref (q 4)), (7, .ref (q 5))]) hx hb dL_isTold_1 hl (by decide) rfl (fun ls hl => ?_)
  have hloop_3 : ∀ (nme : Nat) (sh : Nat), 4 - sh = nme → (sh ≤ 4) → ∀ (H : Heap) (locs : List Loc), va_P D vwCl (LW cA ad q f g h) H → va_S (fun _ => False) s.heap H locs → s.heap.size + 0 ≤ H.size → ∀ ls : Array Slot, lv_has ls 12 [(0, .ref (ad 16)), (1, .int y), (2, .ref (q 0)), (3, .ref (q 1)), (4, .ref (q 2)), (5, .ref (q 3)), (6, .ref (q 4)), (7, .ref (q 5)), (8, .int (nI sh))] → W p l e (headSpec wsL_isTold ({ frames := 9, cells := 60, slots := 360, locals := 158 } : Room)).room s m ([.ref (ad 16), .int y, .ref (q 0), .ref (q 1), .ref (q 2), .ref (q 3), .ref (q 4), .ref (q 5)] : List Value).toArray below meth c H locs (5 * sh) (6 * (5 * sh)) (MQ below (qG (fun z n1 n2 => (z = 0 ∨ n1 + 13 ≤ n2))) ([.ref (ad 16), .int y, .ref (q 0), .ref (q 1), .ref (q 2), .ref (q 3), .ref (q 4), .ref (q 5)] : List Value).toArray s 60 360 (fun _ => False)) (F0 m 3 ls []) := by
    intro nme
    induction nme using Nat.strongRecOn with
    | ind nme ih_3 =>
      intro sh hnme_3 hsh H locs hP hS hg0 ls hl
      refine lv_iload hx hb dL_isTold_3 (lv_at hl 8 rfl) ?_
      refine lv_iconst (v := 4) hx hb dL_isTold_5 (by decide) ?_
      refine lv_icmp_ge (tgt := 218) hx hb dL_isTold_6 (by decide) (fun c_6 => ?_) (fun c_6 => ?_)
      · skip
        refine lv_iconst (v := 0) hx hb dL_isTold_218 (by decide) ?_
        refine lv_istore (lv' := [(8, .int 0), (0, .ref (ad 16)), (1, .int y), (2, .ref (q 0)), (3, .ref (q 1)), (4, .ref (q 2)), (5, .ref (q 3)), (6, .ref (q 4)), (7, .ref (q 5))]) hx hb dL_isTold_219 hl (by decide) rfl (fun ls hl => ?_)
        have hloop_221 : ∀ (nme : Nat) (i : Nat), 1 - i = nme → (i ≤ 1) → ∀ (H : Heap) (locs : List Loc), va_P D vwCl (LW cA ad q f g h) H → va_S (fun _ => False) s.heap H locs → s.heap.size + 0 ≤ H.size → ∀ ls : Array Slot, lv_has ls 12 [(0, .ref (ad 16)), (1, .int y), (2, .ref (q 0)), (3, .ref (q 1)), (4, .ref (q 2)), (5, .ref (q 3)), (6, .ref (q 4)), (7, .ref (q 5)), (8, .int (nI i))] → W p l e (headSpec wsL_isTold ({ frames := 9, cells := 60, slots := 360, locals := 158 } : Room)).room s m ([.ref (ad 16), .int y, .ref (q 0), .ref (q 1), .ref (q 2), .ref (q 3), .ref (q 4), .ref (q 5)] : List Value).toArray below meth c H locs (20 + i) (6 * (20 + i)) (MQ below (qG (fun z n1 n2 => (z = 0 ∨ n1 + 13 ≤ n2))) ([.ref (ad 16), .int y, .ref (q 0), .ref (q 1), .ref (q 2), .ref (q 3), .ref (q 4), .ref (q 5)] : List Value).toArray s 60 360 (fun _ => False)) (F0 m 221 ls []) := by
          intro nme
          induction nme using Nat.strongRecOn with
          | ind nme ih_221 =>
            intro i hnme_221 hi2 H locs hP hS hg0 ls hl
            refine lv_iload hx hb dL_isTold_221 (lv_at hl 8 rfl) ?_
            refine lv_aload hx hb dL_isTold_223 (lv_at hl 7 rfl) ?_
            refine lv_iconst (v := 1) hx hb dL_isTold_225 (by decide) ?_
            refine va_iald hx hb hK hP 5 0 rfl rfl (by unfold vp_in; decide) dL_isTold_226 ?_
            refine lv_topi (fun v_226 hv_226 => ?_)
            have hv_226 : v_226 = nI 1 := hv_226.trans (by rw [cl1]; exact hm1)
            subst hv_226
            refine lv_icmp_ge (tgt := 258) hx hb dL_isTold_227 (by decide) (fun c_227 => ?_) (fun c_227 => ?_)
            · skip
              refine lv_iconst (v := 0) hx hb dL_isTold_258 (by decide) ?_
              refine lv_istore (lv' := [(8, .int 0), (0, .ref (ad 16)), (1, .int y), (2, .ref (q 0)), (3, .ref (q 1)), (4, .ref (q 2)), (5, .ref (q 3)), (6, .ref (q 4)), (7, .ref (q 5))]) hx hb dL_isTold_259 hl (by decide) rfl (fun ls hl => ?_)
              have hloop_261 : ∀ (nme : Nat) (k : Nat), 4 - k = nme → (k ≤ 4) → ∀ (H : Heap) (locs : List Loc), va_P D vwCl (LW cA ad q f g h) H → va_S (fun _ => False) s.heap H locs → s.heap.size + 0 ≤ H.size → ∀ ls : Array Slot, lv_has ls 12 [(0, .ref (ad 16)), (1, .int y), (2, .ref (q 0)), (3, .ref (q 1)), (4, .ref (q 2)), (5, .ref (q 3)), (6, .ref (q 4)), (7, .ref (q 5)), (8, .int (nI k))] → W p l e (headSpec wsL_isTold ({ frames := 9, cells := 60, slots := 360, locals := 158 } : Room)).room s m ([.ref (ad 16), .int y, .ref (q 0), .ref (q 1), .ref (q 2), .ref (q 3), .ref (q 4), .ref (q 5)] : List Value).toArray below meth c H locs (21 + 3 * k) (6 * (21 + 3 * k)) (MQ below (qG (fun z n1 n2 => (z = 0 ∨ n1 + 13 ≤ n2))) ([.ref (ad 16), .int y, .ref (q 0), .ref (q 1), .ref (q 2), .ref (q 3), .ref (q 4), .ref (q 5)] : List Value).toArray s 60 360 (fun _ => False)) (F0 m 261 ls []) := by
                intro nme
                induction nme using Nat.strongRecOn with
                | ind nme ih_261 =>
                  intro k hnme_261 hk4 H locs hP hS hg0 ls hl
                  refine lv_iload hx hb dL_isTold_261 (lv_at hl 8 rfl) ?_
                  refine lv_iconst (v := 4) hx hb dL_isTold_263 (by decide) ?_
                  refine lv_icmp_ge (tgt := 359) hx hb dL_isTold_264 (by decide) (fun c_264 => ?_) (fun c_264 => ?_)
                  · skip
                    refine W.widen (k := 33) (n := 6 * 33) (by omega) (by omega) ?_
                    refine lv_iconst (v := 0) hx hb dL_isTold_359 (by decide) ?_
                    refine lv_istore (lv' := [(8, .int 0), (0, .ref (ad 16)), (1, .int y), (2, .ref (q 0)), (3, .ref (q 1)), (4, .ref (q 2)), (5, .ref (q 3)), (6, .ref (q 4)), (7, .ref (q 5))]) hx hb dL_isTold_360 hl (by decide) rfl (fun ls hl => ?_)
                    refine lv_iload hx hb dL_isTold_362 (lv_at hl 0 rfl) ?_
                    refine lv_aload hx hb dL_isTold_364 (lv_at hl 8 rfl) ?_
                    refine lv_iconst (v := 5) hx hb dL_isTold_366 (by decide) ?_
                    refine va_iald hx hb hK hP 5 0 rfl rfl (by unfold vp_in; decide) dL_isTold_367 ?_
                    refine lv_topi (fun v_367 hv_367 => ?_)
                    have hv_367 : v_367 = nI 0 := hv_367.trans (by rw [cl5]; exact hm5)
                    subst hv_367
                    refine lv_icmp_ge (tgt := 418) hx hb dL_isTold_368 (by decide) (fun c_368 => ?_) (fun c_368 => ?_)
                    · skip
                      refine lv_aload_n hx hb dL_isTold_418 rfl (lv_at hl 1 rfl) ?_
                      have hPc := hP.sub (ws' := xW cA ad f g) [6, 7, 8, 9, 10, 11, 12, 13, 14, 15, 16, 17] rfl
                      refine vp_callSi (W.runV (As := []) (rest := []) ⟨hx, hb, hml, hown, hts⟩ (c_X0_ranges l D cA cZ cL ad f g) (cwV 0 hts gL_isTold_X0_ranges rfl rfl rfl (by decide +kernel) ⟨Nat.le_of_ble_eq_true rfl, Nat.le_of_ble_eq_true rfl⟩) ⟨qPre_blind, va_recv hK hPc (ci := 0) (q0 := 0) rfl rfl, qPre_at hPc hK⟩ rfl rfl hl.1 rfl (lv_room (Nat.le_of_ble_eq_true rfl)) dL_isTold_419 ⟨by show 33 + 0 ≤ 60; omega, by show 6 * (33) + 0 ≤ 360; omega⟩) (fun z _ => ?_)
                      refine lv_topi (fun y_419 _ => ?_)
                      refine lv_aload hx hb dL_isTold_422 (lv_at hl 8 rfl) ?_
                      refine lv_iconst (v := 1) hx hb dL_isTold_424 (by decide) ?_
                      refine va_iald hx hb hK hP 5 0 rfl rfl (by unfold vp_in; decide) dL_isTold_425 ?_
                      refine lv_topi (fun y_425 _ => ?_)
                      refine lv_icmp_ne (tgt := 586) hx hb dL_isTold_426 (by decide) (fun c_426 => ?_) (fun c_426 => ?_)
                      · skip
                        refine lv_iconst (v := 0) hx hb dL_isTold_586 (by decide) ?_
                        refine W.widen (k := 60) (n := 360) (by omega) (by omega) ?_
                        exact W.zret (v := 0) hx hb hr rfl (fun t ht hW => ⟨0, rfl, by first | (rw [ht]; done) | (rw [ht]; exact hS.1), fun q hq => by first | (rw [ht]; done) | (rw [ht]; exact hS.2.1 q hq (fun h => h)), by rw [ht]; exact (Or.inl rfl)⟩) hS.2.2 dL_isTold_587
                      · skip
                        refine lv_aload_n hx hb dL_isTold_429 rfl (lv_at hl 1 rfl) ?_
                        refine lv_iconst (v := 4) hx hb dL_isTold_430 (by decide) ?_
                        have hPc := hP.sub (ws' := xW cA ad f g) [6, 7, 8, 9, 10, 11, 12, 13, 14, 15, 16, 17] rfl
                        refine qb_grow (vx_runSW (As := [.ref (ad 16), .int 4]) (rest := []) ⟨hx, hb, hml, hown, hts⟩ (c_L_rows l hl0 D cA cZ cL ad f g 4) (vx_cwSW 2 hts gL_isTold_L_rows rfl rfl rfl (by decide +kernel) ⟨Nat.le_of_ble_eq_true rfl, Nat.le_of_ble_eq_true rfl⟩) ⟨qPreN_blind, qPreN_at hPc hK (qTH_grow hTH hNC hS)⟩ rfl rfl hl.1 rfl (lv_room (Nat.le_of_ble_eq_true rfl)) dL_isTold_431 ⟨by show 33 + 1 ≤ 60; omega, by show 6 * (33) + 6 ≤ 360; omega⟩) hP hS (fun z_431 H1 locs hu_431 hmo hP hS => ?_)
                        have hg1 : s.heap.size + 1 ≤ H1.size := by have h7 := hu_431 (by decide); have h8 := hg0; omega
                        clear hPc
                        refine W.widen (k := 34) (n := 6 * (34)) (by omega) (by omega) ?_
                        refine lv_sipush (v := (-7100)) hx hb dL_isTold_434 (by decide) ?_
                        refine lv_icmp_ne (tgt := 586) hx hb dL_isTold_437 (by decide) (fun c_437 => ?_) (fun c_437 => ?_)
                        · skip
                          refine lv_iconst (v := 0) hx hb dL_isTold_586 (by decide) ?_
                          refine W.widen (k := 60) (n := 360) (by omega) (by omega) ?_
                          exact W.zret (v := 0) hx hb hr rfl (fun t ht hW => ⟨0, rfl, by first | (rw [ht]; done) | (rw [ht]; exact hS.1), fun q hq => by first | (rw [ht]; done) | (rw [ht]; exact hS.2.1 q hq (fun h => h)), by rw [ht]; exact (Or.inl rfl)⟩) hS.2.2 dL_isTold_587
                        · skip
                          refine lv_aload_n hx hb dL_isTold_440 rfl (lv_at hl 1 rfl) ?_
                          refine lv_iconst (v := (-1)) hx hb dL_isTold_441 (by decide) ?_
                          have hPc := hP.sub (ws' := xW cA ad f g) [6, 7, 8, 9, 10, 11, 12, 13, 14, 15, 16, 17] rfl
                          refine qb_grow (vx_runSW (As := [.ref (ad 16), .int (-1)]) (rest := []) ⟨hx, hb, hml, hown, hts⟩ (c_L_rows l hl0 D cA cZ cL ad f g (-1)) (vx_cwSW 2 hts gL_isTold_L_rows rfl rfl rfl (by decide +kernel) ⟨Nat.le_of_ble_eq_true rfl, Nat.le_of_ble_eq_true rfl⟩) ⟨qPreN_blind, qPreN_at hPc hK (qTH_grow hTH hNC hS)⟩ rfl rfl hl.1 rfl (lv_room (Nat.le_of_ble_eq_true rfl)) dL_isTold_442 ⟨by show 34 + 1 ≤ 60; omega, by show 6 * (34) + 6 ≤ 360; omega⟩) hP hS (fun z_442 H1 locs hu_442 hmo hP hS => ?_)
                          have hg2 : s.heap.size + 2 ≤ H1.size := by have h7 := hu_442 (by decide); have h8 := hg1; omega
                          clear hPc
                          refine W.widen (k := 35) (n := 6 * (35)) (by omega) (by omega) ?_
                          refine lv_sipush (v := (-7100)) hx hb dL_isTold_445 (by decide) ?_
                          refine lv_icmp_ne (tgt := 586) hx hb dL_isTold_448 (by decide) (fun c_448 => ?_) (fun c_448 => ?_)
                          · skip
                            refine lv_iconst (v := 0) hx hb dL_isTold_586 (by decide) ?_
                            refine W.widen (k := 60) (n := 360) (by omega) (by omega) ?_
                            exact W.zret (v := 0) hx hb hr rfl (fun t ht hW => ⟨0, rfl, by first | (rw [ht]; done) | (rw [ht]; exact hS.1), fun q hq => by first | (rw [ht]; done) | (rw [ht]; exact hS.2.1 q hq (fun h => h)), by rw [ht]; exact (Or.inl rfl)⟩) hS.2.2 dL_isTold_587
                          · skip
                            refine lv_aload_n hx hb dL_isTold_451 rfl (lv_at hl 1 rfl) ?_
                            refine lv_iconst (v := 4) hx hb dL_isTold_452 (by decide) ?_
                            have hPc := hP.sub (ws' := xW cA ad f g) [6, 7, 8, 9, 10, 11, 12, 13, 14, 15, 16, 17] rfl
                            refine qb_grow (vx_runSW (As := [.ref (ad 16), .int 4]) (rest := []) ⟨hx, hb, hml, hown, hts⟩ (c_L_inDistrict l hl0 D cA cZ cL ad f g 4 1 0 hI) (vx_cwSW 2 hts gL_isTold_L_inDistrict rfl rfl rfl (by decide +kernel) ⟨Nat.le_of_ble_eq_true rfl, Nat.le_of_ble_eq_true rfl⟩) ⟨qPreN_blind, qPreN_at hPc hK (qTH_grow hTH hNC hS)⟩ rfl rfl hl.1 rfl (lv_room (Nat.le_of_ble_eq_true rfl)) dL_isTold_453 ⟨by show 35 + 1 ≤ 60; omega, by show 6 * (35) + 6 ≤ 360; omega⟩) hP hS (fun z_453 H1 locs hu_453 hmo hP hS => ?_)
                            have hg3 : s.heap.size + 3 ≤ H1.size := by have h7 := hu_453 (by decide); have h8 := hg2; omega
                            clear hPc
                            refine W.widen (k := 36) (n := 6 * (36)) (by omega) (by omega) ?_
                            refine lv_sipush (v := (-7100)) hx hb dL_isTold_456 (by decide) ?_
                            refine lv_icmp_ne (tgt := 586) hx hb dL_isTold_459 (by decide) (fun c_459 => ?_) (fun c_459 => ?_)
                            · skip
                              refine lv_iconst (v := 0) hx hb dL_isTold_586 (by decide) ?_
                              refine W.widen (k := 60) (n := 360) (by omega) (by omega) ?_
                              exact W.zret (v := 0) hx hb hr rfl (fun t ht hW => ⟨0, rfl, by first | (rw [ht]; done) | (rw [ht]; exact hS.1), fun q hq => by first | (rw [ht]; done) | (rw [ht]; exact hS.2.1 q hq (fun h => h)), by rw [ht]; exact (Or.inl rfl)⟩) hS.2.2 dL_isTold_587
                            · skip
                              refine lv_aload_n hx hb dL_isTold_462 rfl (lv_at hl 1 rfl) ?_
                              refine lv_iconst (v := 4) hx hb dL_isTold_463 (by decide) ?_
                              refine lv_iconst (v := 3) hx hb dL_isTold_464 (by decide) ?_
                              have hPc := hP.sub (ws' := xW cA ad f g) [6, 7, 8, 9, 10, 11, 12, 13, 14, 15, 16, 17] rfl
                              refine qb_grow (vx_runSW (As := [.ref (ad 16), .int 4, .int 3]) (rest := []) ⟨hx, hb, hml, hown, hts⟩ (c_L_counted l hl0 D cA cZ cL ad f g 4 3 1 0 hI) (vx_cwSW 3 hts gL_isTold_L_counted rfl rfl rfl (by decide +kernel) ⟨Nat.le_of_ble_eq_true rfl, Nat.le_of_ble_eq_true rfl⟩) ⟨qPreN_blind, qPreN_at hPc hK (qTH_grow hTH hNC hS)⟩ rfl rfl hl.1 rfl (lv_room (Nat.le_of_ble_eq_true rfl)) dL_isTold_465 ⟨by show 36 + 1 ≤ 60; omega, by show 6 * (36) + 6 ≤ 360; omega⟩) hP hS (fun z_465 H1 locs hu_465 hmo hP hS => ?_)
                              have hg4 : s.heap.size + 4 ≤ H1.size := by have h7 := hu_465 (by decide); have h8 := hg3; omega
                              clear hPc
                              refine W.widen (k := 37) (n := 6 * (37)) (by omega) (by omega) ?_
                              refine lv_sipush (v := (-7100)) hx hb dL_isTold_468 (by decide) ?_
                              refine lv_icmp_ne (tgt := 586) hx hb dL_isTold_471 (by decide) (fun c_471 => ?_) (fun c_471 => ?_)
                              · skip
                                refine lv_iconst (v := 0) hx hb dL_isTold_586 (by decide) ?_
                                refine W.widen (k := 60) (n := 360) (by omega) (by omega) ?_
                                exact W.zret (v := 0) hx hb hr rfl (fun t ht hW => ⟨0, rfl, by first | (rw [ht]; done) | (rw [ht]; exact hS.1), fun q hq => by first | (rw [ht]; done) | (rw [ht]; exact hS.2.1 q hq (fun h => h)), by rw [ht]; exact (Or.inl rfl)⟩) hS.2.2 dL_isTold_587
                              · skip
                                refine lv_aload_n hx hb dL_isTold_474 rfl (lv_at hl 1 rfl) ?_
                                refine lv_iconst (v := 0) hx hb dL_isTold_475 (by decide) ?_
                                refine lv_iconst (v := 3) hx hb dL_isTold_476 (by decide) ?_
                                have hPc := hP.sub (ws' := xW cA ad f g) [6, 7, 8, 9, 10, 11, 12, 13, 14, 15, 16, 17] rfl
                                refine qb_grow (vx_runSW (As := [.ref (ad 16), .int 0, .int 3]) (rest := []) ⟨hx, hb, hml, hown, hts⟩ (c_L_counted l hl0 D cA cZ cL ad f g 0 3 1 0 hI) (vx_cwSW 3 hts gL_isTold_L_counted rfl rfl rfl (by decide +kernel) ⟨Nat.le_of_ble_eq_true rfl, Nat.le_of_ble_eq_true rfl⟩) ⟨qPreN_blind, qPreN_at hPc hK (qTH_grow hTH hNC hS)⟩ rfl rfl hl.1 rfl (lv_room (Nat.le_of_ble_eq_true rfl)) dL_isTold_477 ⟨by show 37 + 1 ≤ 60; omega, by show 6 * (37) + 6 ≤ 360; omega⟩) hP hS (fun z_477 H1 locs hu_477 hmo hP hS => ?_)
                                have hg5 : s.heap.size + 5 ≤ H1.size := by have h7 := hu_477 (by decide); have h8 := hg4; omega
                                clear hPc
                                refine W.widen (k := 38) (n := 6 * (38)) (by omega) (by omega) ?_
                                refine lv_sipush (v := (-7200)) hx hb dL_isTold_480 (by decide) ?_
                                refine lv_icmp_ne (tgt := 586) hx hb dL_isTold_483 (by decide) (fun c_483 => ?_) (fun c_483 => ?_)
                                · skip
                                  refine lv_iconst (v := 0) hx hb dL_isTold_586 (by decide) ?_
                                  refine W.widen (k := 60) (n := 360) (by omega) (by omega) ?_
                                  exact W.zret (v := 0) hx hb hr rfl (fun t ht hW => ⟨0, rfl, by first | (rw [ht]; done) | (rw [ht]; exact hS.1), fun q hq => by first | (rw [ht]; done) | (rw [ht]; exact hS.2.1 q hq (fun h => h)), by rw [ht]; exact (Or.inl rfl)⟩) hS.2.2 dL_isTold_587
                                · skip
                                  refine lv_aload_n hx hb dL_isTold_486 rfl (lv_at hl 1 rfl) ?_
                                  refine lv_iconst (v := 0) hx hb dL_isTold_487 (by decide) ?_
                                  refine lv_iconst (v := (-1)) hx hb dL_isTold_488 (by decide) ?_
                                  have hPc := hP.sub (ws' := xW cA ad f g) [6, 7, 8, 9, 10, 11, 12, 13, 14, 15, 16, 17] rfl
                                  refine qb_grow (vx_runSW (As := [.ref (ad 16), .int 0, .int (-1)]) (rest := []) ⟨hx, hb, hml, hown, hts⟩ (c_L_counted l hl0 D cA cZ cL ad f g 0 (-1) 1 0 hI) (vx_cwSW 3 hts gL_isTold_L_counted rfl rfl rfl (by decide +kernel) ⟨Nat.le_of_ble_eq_true rfl, Nat.le_of_ble_eq_true rfl⟩) ⟨qPreN_blind, qPreN_at hPc hK (qTH_grow hTH hNC hS)⟩ rfl rfl hl.1 rfl (lv_room (Nat.le_of_ble_eq_true rfl)) dL_isTold_489 ⟨by show 38 + 1 ≤ 60; omega, by show 6 * (38) + 6 ≤ 360; omega⟩) hP hS (fun z_489 H1 locs hu_489 hmo hP hS => ?_)
                                  have hg6 : s.heap.size + 6 ≤ H1.size := by have h7 := hu_489 (by decide); have h8 := hg5; omega
                                  clear hPc
                                  refine W.widen (k := 39) (n := 6 * (39)) (by omega) (by omega) ?_
                                  refine lv_sipush (v := (-7200)) hx hb dL_isTold_492 (by decide) ?_
                                  refine lv_icmp_ne (tgt := 586) hx hb dL_isTold_495 (by decide) (fun c_495 => ?_) (fun c_495 => ?_)
                                  · skip
                                    refine lv_iconst (v := 0) hx hb dL_isTold_586 (by decide) ?_
                                    refine W.widen (k := 60) (n := 360) (by omega) (by omega) ?_
                                    exact W.zret (v := 0) hx hb hr rfl (fun t ht hW => ⟨0, rfl, by first | (rw [ht]; done) | (rw [ht]; exact hS.1), fun q hq => by first | (rw [ht]; done) | (rw [ht]; exact hS.2.1 q hq (fun h => h)), by rw [ht]; exact (Or.inl rfl)⟩) hS.2.2 dL_isTold_587
                                  · skip
                                    refine lv_aload_n hx hb dL_isTold_498 rfl (lv_at hl 1 rfl) ?_
                                    refine lv_bipush (v := 100) hx hb dL_isTold_499 (by decide) ?_
                                    have hPc := hP.sub (ws' := xW cA ad f g) [6, 7, 8, 9, 10, 11, 12, 13, 14, 15, 16, 17] rfl
                                    refine qb_grow (vx_runSW (As := [.ref (ad 16), .int 100]) (rest := []) ⟨hx, hb, hml, hown, hts⟩ (c_L_address l hl0 D cA cZ cL ad f g 100 1 0 hI) (vx_cwSW 2 hts gL_isTold_L_address rfl rfl rfl (by decide +kernel) ⟨Nat.le_of_ble_eq_true rfl, Nat.le_of_ble_eq_true rfl⟩) ⟨qPreN_blind, qPreN_at hPc hK (qTH_grow hTH hNC hS)⟩ rfl rfl hl.1 rfl (lv_room (Nat.le_of_ble_eq_true rfl)) dL_isTold_501 ⟨by show 39 + 1 ≤ 60; omega, by show 6 * (39) + 6 ≤ 360; omega⟩) hP hS (fun z_501 H1 locs hu_501 hmo hP hS => ?_)
                                    have hg7 : s.heap.size + 7 ≤ H1.size := by have h7 := hu_501 (by decide); have h8 := hg6; omega
                                    clear hPc
                                    refine W.widen (k := 40) (n := 6 * (40)) (by omega) (by omega) ?_
                                    refine lv_sipush (v := (-7100)) hx hb dL_isTold_504 (by decide) ?_
                                    refine lv_icmp_ne (tgt := 586) hx hb dL_isTold_507 (by decide) (fun c_507 => ?_) (fun c_507 => ?_)
                                    · skip
                                      refine lv_iconst (v := 0) hx hb dL_isTold_586 (by decide) ?_
                                      refine W.widen (k := 60) (n := 360) (by omega) (by omega) ?_
                                      exact W.zret (v := 0) hx hb hr rfl (fun t ht hW => ⟨0, rfl, by first | (rw [ht]; done) | (rw [ht]; exact hS.1), fun q hq => by first | (rw [ht]; done) | (rw [ht]; exact hS.2.1 q hq (fun h => h)), by rw [ht]; exact (Or.inl rfl)⟩) hS.2.2 dL_isTold_587
                                    · skip
                                      refine lv_aload_n hx hb dL_isTold_510 rfl (lv_at hl 1 rfl) ?_
                                      refine lv_iconst (v := (-1)) hx hb dL_isTold_511 (by decide) ?_
                                      have hPc := hP.sub (ws' := xW cA ad f g) [6, 7, 8, 9, 10, 11, 12, 13, 14, 15, 16, 17] rfl
                                      refine qb_grow (vx_runSW (As := [.ref (ad 16), .int (-1)]) (rest := []) ⟨hx, hb, hml, hown, hts⟩ (c_L_address l hl0 D cA cZ cL ad f g (-1) 1 0 hI) (vx_cwSW 2 hts gL_isTold_L_address rfl rfl rfl (by decide +kernel) ⟨Nat.le_of_ble_eq_true rfl, Nat.le_of_ble_eq_true rfl⟩) ⟨qPreN_blind, qPreN_at hPc hK (qTH_grow hTH hNC hS)⟩ rfl rfl hl.1 rfl (lv_room (Nat.le_of_ble_eq_true rfl)) dL_isTold_512 ⟨by show 40 + 1 ≤ 60; omega, by show 6 * (40) + 6 ≤ 360; omega⟩) hP hS (fun z_512 H1 locs hu_512 hmo hP hS => ?_)
                                      have hg8 : s.heap.size + 8 ≤ H1.size := by have h7 := hu_512 (by decide); have h8 := hg7; omega
                                      clear hPc
                                      refine W.widen (k := 41) (n := 6 * (41)) (by omega) (by omega) ?_
                                      refine lv_sipush (v := (-7100)) hx hb dL_isTold_515 (by decide) ?_
                                      refine lv_icmp_ne (tgt := 586) hx hb dL_isTold_518 (by decide) (fun c_518 => ?_) (fun c_518 => ?_)
                                      · skip
                                        refine lv_iconst (v := 0) hx hb dL_isTold_586 (by decide) ?_
                                        refine W.widen (k := 60) (n := 360) (by omega) (by omega) ?_
                                        exact W.zret (v := 0) hx hb hr rfl (fun t ht hW => ⟨0, rfl, by first | (rw [ht]; done) | (rw [ht]; exact hS.1), fun q hq => by first | (rw [ht]; done) | (rw [ht]; exact hS.2.1 q hq (fun h => h)), by rw [ht]; exact (Or.inl rfl)⟩) hS.2.2 dL_isTold_587
                                      · skip
                                        refine lv_aload_n hx hb dL_isTold_521 rfl (lv_at hl 1 rfl) ?_
                                        refine lv_bipush (v := 100) hx hb dL_isTold_522 (by decide) ?_
                                        have hPc := hP.sub (ws' := xW cA ad f g) [6, 7, 8, 9, 10, 11, 12, 13, 14, 15, 16, 17] rfl
                                        refine qb_grow (vx_runSW (As := [.ref (ad 16), .int 100]) (rest := []) ⟨hx, hb, hml, hown, hts⟩ (c_L_onRoll l hl0 D cA cZ cL ad f g 100) (vx_cwSW 2 hts gL_isTold_L_onRoll rfl rfl rfl (by decide +kernel) ⟨Nat.le_of_ble_eq_true rfl, Nat.le_of_ble_eq_true rfl⟩) ⟨qPreN_blind, qPreN_at hPc hK (qTH_grow hTH hNC hS)⟩ rfl rfl hl.1 rfl (lv_room (Nat.le_of_ble_eq_true rfl)) dL_isTold_524 ⟨by show 41 + 1 ≤ 60; omega, by show 6 * (41) + 6 ≤ 360; omega⟩) hP hS (fun z_524 H1 locs hu_524 hmo hP hS => ?_)
                                        have hg9 : s.heap.size + 9 ≤ H1.size := by have h7 := hu_524 (by decide); have h8 := hg8; omega
                                        clear hPc
                                        refine W.widen (k := 42) (n := 6 * (42)) (by omega) (by omega) ?_
                                        refine lv_sipush (v := (-7100)) hx hb dL_isTold_527 (by decide) ?_
                                        refine lv_icmp_ne (tgt := 586) hx hb dL_isTold_530 (by decide) (fun c_530 => ?_) (fun c_530 => ?_)
                                        · skip
                                          refine lv_iconst (v := 0) hx hb dL_isTold_586 (by decide) ?_
                                          refine W.widen (k := 60) (n := 360) (by omega) (by omega) ?_
                                          exact W.zret (v := 0) hx hb hr rfl (fun t ht hW => ⟨0, rfl, by first | (rw [ht]; done) | (rw [ht]; exact hS.1), fun q hq => by first | (rw [ht]; done) | (rw [ht]; exact hS.2.1 q hq (fun h => h)), by rw [ht]; exact (Or.inl rfl)⟩) hS.2.2 dL_isTold_587
                                        · skip
                                          refine lv_aload_n hx hb dL_isTold_533 rfl (lv_at hl 1 rfl) ?_
                                          refine lv_ldc (v := (-2147483648)) hx hb hown (hts _ (List.mem_cons_of_mem _ (List.mem_append_left _ (List.mem_append_left _ (List.mem_append_left _ (List.mem_append_left _ (List.mem_of_getElem? (i := 0) rfl))))))) dL_isTold_534 ?_
                                          have hPc := hP.sub (ws' := xW cA ad f g) [6, 7, 8, 9, 10, 11, 12, 13, 14, 15, 16, 17] rfl
                                          refine qb_grow (vx_runSW (As := [.ref (ad 16), .int (-2147483648)]) (rest := []) ⟨hx, hb, hml, hown, hts⟩ (c_L_rangeOf l hl0 D cA cZ cL ad f g (-2147483648) 1 0 hI) (vx_cwSW 2 hts gL_isTold_L_rangeOf rfl rfl rfl (by decide +kernel) ⟨Nat.le_of_ble_eq_true rfl, Nat.le_of_ble_eq_true rfl⟩) ⟨qPreN_blind, qPreN_at hPc hK (qTH_grow hTH hNC hS)⟩ rfl rfl hl.1 rfl (lv_room (Nat.le_of_ble_eq_true rfl)) dL_isTold_536 ⟨by show 42 + 1 ≤ 60; omega, by show 6 * (42) + 6 ≤ 360; omega⟩) hP hS (fun z_536 H1 locs hu_536 hmo hP hS => ?_)
                                          have hg10 : s.heap.size + 10 ≤ H1.size := by have h7 := hu_536 (by decide); have h8 := hg9; omega
                                          clear hPc
                                          refine W.widen (k := 43) (n := 6 * (43)) (by omega) (by omega) ?_
                                          refine lv_sipush (v := (-7100)) hx hb dL_isTold_539 (by decide) ?_
                                          refine lv_icmp_ne (tgt := 586) hx hb dL_isTold_542 (by decide) (fun c_542 => ?_) (fun c_542 => ?_)
                                          · skip
                                            refine lv_iconst (v := 0) hx hb dL_isTold_586 (by decide) ?_
                                            refine W.widen (k := 60) (n := 360) (by omega) (by omega) ?_
                                            exact W.zret (v := 0) hx hb hr rfl (fun t ht hW => ⟨0, rfl, by first | (rw [ht]; done) | (rw [ht]; exact hS.1), fun q hq => by first | (rw [ht]; done) | (rw [ht]; exact hS.2.1 q hq (fun h => h)), by rw [ht]; exact (Or.inl rfl)⟩) hS.2.2 dL_isTold_587
                                          · skip
                                            refine lv_aload_n hx hb dL_isTold_545 rfl (lv_at hl 1 rfl) ?_
                                            refine lv_ldc (v := 2147483647) hx hb hown (hts _ (List.mem_cons_of_mem _ (List.mem_append_left _ (List.mem_append_left _ (List.mem_append_left _ (List.mem_append_left _ (List.mem_of_getElem? (i := 1) rfl))))))) dL_isTold_546 ?_
                                            have hPc := hP.sub (ws' := xW cA ad f g) [6, 7, 8, 9, 10, 11, 12, 13, 14, 15, 16, 17] rfl
                                            refine qb_grow (vx_runSW (As := [.ref (ad 16), .int 2147483647]) (rest := []) ⟨hx, hb, hml, hown, hts⟩ (c_L_shardOf l hl0 D cA cZ cL ad f g 2147483647 1 0 hI) (vx_cwSW 2 hts gL_isTold_L_shardOf rfl rfl rfl (by decide +kernel) ⟨Nat.le_of_ble_eq_true rfl, Nat.le_of_ble_eq_true rfl⟩) ⟨qPreN_blind, qPreN_at hPc hK (qTH_grow hTH hNC hS)⟩ rfl rfl hl.1 rfl (lv_room (Nat.le_of_ble_eq_true rfl)) dL_isTold_548 ⟨by show 43 + 1 ≤ 60; omega, by show 6 * (43) + 6 ≤ 360; omega⟩) hP hS (fun z_548 H1 locs hu_548 hmo hP hS => ?_)
                                            have hg11 : s.heap.size + 11 ≤ H1.size := by have h7 := hu_548 (fun q => absurd q.2 (by rw [hI.1]; decide)); have h8 := hg10; omega
                                            clear hPc
                                            refine W.widen (k := 44) (n := 6 * (44)) (by omega) (by omega) ?_
                                            refine lv_sipush (v := (-7100)) hx hb dL_isTold_551 (by decide) ?_
                                            refine lv_icmp_ne (tgt := 586) hx hb dL_isTold_554 (by decide) (fun c_554 => ?_) (fun c_554 => ?_)
                                            · skip
                                              refine lv_iconst (v := 0) hx hb dL_isTold_586 (by decide) ?_
                                              refine W.widen (k := 60) (n := 360) (by omega) (by omega) ?_
                                              exact W.zret (v := 0) hx hb hr rfl (fun t ht hW => ⟨0, rfl, by first | (rw [ht]; done) | (rw [ht]; exact hS.1), fun q hq => by first | (rw [ht]; done) | (rw [ht]; exact hS.2.1 q hq (fun h => h)), by rw [ht]; exact (Or.inl rfl)⟩) hS.2.2 dL_isTold_587
                                            · skip
                                              refine lv_aload_n hx hb dL_isTold_557 rfl (lv_at hl 1 rfl) ?_
                                              refine lv_aload hx hb dL_isTold_558 (lv_at hl 8 rfl) ?_
                                              refine lv_iconst (v := 5) hx hb dL_isTold_560 (by decide) ?_
                                              refine va_iald hx hb hK hP 5 0 rfl rfl (by unfold vp_in; decide) dL_isTold_561 ?_
                                              refine lv_topi (fun v_561 hv_561 => ?_)
                                              have hv_561 : v_561 = nI 0 := hv_561.trans (by rw [cl5]; exact hm5)
                                              subst hv_561
                                              have hPc := hP.sub (ws' := xW cA ad f g) [6, 7, 8, 9, 10, 11, 12, 13, 14, 15, 16, 17] rfl
                                              refine qb_grow (vx_runSW (As := [.ref (ad 16), .int (nI 0)]) (rest := []) ⟨hx, hb, hml, hown, hts⟩ (c_L_stateOf l hl0 D cA cZ cL ad f g (nI 0) 1 0 hI) (vx_cwSW 2 hts gL_isTold_L_stateOf rfl rfl rfl (by decide +kernel) ⟨Nat.le_of_ble_eq_true rfl, Nat.le_of_ble_eq_true rfl⟩) ⟨qPreN_blind, qPreN_at hPc hK (qTH_grow hTH hNC hS)⟩ rfl rfl hl.1 rfl (lv_room (Nat.le_of_ble_eq_true rfl)) dL_isTold_562 ⟨by show 44 + 1 ≤ 60; omega, by show 6 * (44) + 6 ≤ 360; omega⟩) hP hS (fun z_562 H1 locs hu_562 hmo hP hS => ?_)
                                              have hg12 : s.heap.size + 12 ≤ H1.size := by have h7 := hu_562 (fun q => absurd q.2 (by rw [hI.2.2.2.1]; decide)); have h8 := hg11; omega
                                              clear hPc
                                              refine W.widen (k := 45) (n := 6 * (45)) (by omega) (by omega) ?_
                                              refine lv_sipush (v := (-7100)) hx hb dL_isTold_565 (by decide) ?_
                                              refine lv_icmp_ne (tgt := 586) hx hb dL_isTold_568 (by decide) (fun c_568 => ?_) (fun c_568 => ?_)
                                              · skip
                                                refine lv_iconst (v := 0) hx hb dL_isTold_586 (by decide) ?_
                                                refine W.widen (k := 60) (n := 360) (by omega) (by omega) ?_
                                                exact W.zret (v := 0) hx hb hr rfl (fun t ht hW => ⟨0, rfl, by first | (rw [ht]; done) | (rw [ht]; exact hS.1), fun q hq => by first | (rw [ht]; done) | (rw [ht]; exact hS.2.1 q hq (fun h => h)), by rw [ht]; exact (Or.inl rfl)⟩) hS.2.2 dL_isTold_587
                                              · skip
                                                refine lv_aload_n hx hb dL_isTold_571 rfl (lv_at hl 1 rfl) ?_
                                                refine lv_iconst (v := (-1)) hx hb dL_isTold_572 (by decide) ?_
                                                have hPc := hP.sub (ws' := xW cA ad f g) [6, 7, 8, 9, 10, 11, 12, 13, 14, 15, 16, 17] rfl
                                                refine qb_grow (vx_runSW (As := [.ref (ad 16), .int (-1)]) (rest := []) ⟨hx, hb, hml, hown, hts⟩ (c_L_sentTo l hl0 D cA cZ cL ad f g (-1) 1 0 hI) (vx_cwSW 2 hts gL_isTold_L_sentTo rfl rfl rfl (by decide +kernel) ⟨Nat.le_of_ble_eq_true rfl, Nat.le_of_ble_eq_true rfl⟩) ⟨qPreN_blind, qPreN_at hPc hK (qTH_grow hTH hNC hS)⟩ rfl rfl hl.1 rfl (lv_room (Nat.le_of_ble_eq_true rfl)) dL_isTold_573 ⟨by show 45 + 1 ≤ 60; omega, by show 6 * (45) + 6 ≤ 360; omega⟩) hP hS (fun z_573 H1 locs hu_573 hmo hP hS => ?_)
                                                have hg13 : s.heap.size + 13 ≤ H1.size := by have h7 := hu_573 (fun q => absurd q.1 (by decide)); have h8 := hg12; omega
                                                clear hPc
                                                refine W.widen (k := 46) (n := 6 * (46)) (by omega) (by omega) ?_
                                                refine lv_sipush (v := (-7100)) hx hb dL_isTold_576 (by decide) ?_
                                                refine lv_icmp_ne (tgt := 586) hx hb dL_isTold_579 (by decide) (fun c_579 => ?_) (fun c_579 => ?_)
                                                · skip
                                                  refine lv_iconst (v := 0) hx hb dL_isTold_586 (by decide) ?_
                                                  refine W.widen (k := 60) (n := 360) (by omega) (by omega) ?_
                                                  exact W.zret (v := 0) hx hb hr rfl (fun t ht hW => ⟨0, rfl, by first | (rw [ht]; done) | (rw [ht]; exact hS.1), fun q hq => by first | (rw [ht]; done) | (rw [ht]; exact hS.2.1 q hq (fun h => h)), by rw [ht]; exact (Or.inl rfl)⟩) hS.2.2 dL_isTold_587
                                                · skip
                                                  refine lv_iconst (v := 1) hx hb dL_isTold_582 (by decide) ?_
                                                  refine lv_goto (tgt := 587) hx hb dL_isTold_583 (by decide) ?_
                                                  refine W.widen (k := 60) (n := 360) (by omega) (by omega) ?_
                                                  exact W.zret (v := 1) hx hb hr rfl (fun t ht hW => ⟨1, rfl, by first | (rw [ht]; done) | (rw [ht]; exact hS.1), fun q hq => by first | (rw [ht]; done) | (rw [ht]; exact hS.2.1 q hq (fun h => h)), by rw [ht]; exact (Or.inr hg13)⟩) hS.2.2 dL_isTold_587
                    · skip
                      exact absurd (show nI 0 ≤ (0 : Int32) from by decide) c_368
                  · skip
                    have hlt4 : k < 4 := n_lt (b := 4) c_264 (by omega)
                    refine lv_iload_n hx hb dL_isTold_267 rfl (lv_at hl 1 rfl) ?_
                    refine lv_iconst (v := 3) hx hb dL_isTold_268 (by decide) ?_
                    refine lv_iload hx hb dL_isTold_269 (lv_at hl 8 rfl) ?_
                    refine lv_imul hx hb dL_isTold_271 ?_
                    refine lv_topi (fun y_271 _ => ?_)
                    refine lv_ishr hx hb dL_isTold_272 ?_
                    refine lv_topi (fun y_272 _ => ?_)
                    refine lv_bipush (v := 100) hx hb dL_isTold_273 (by decide) ?_
                    have hPc : va_P D vwCl [] _ := hP.sub (ws' := []) [] rfl
                    refine vp_callSi (W.runS (As := [.int y_272, .int 100]) (rest := []) ⟨hx, hb, hml, hown, hts⟩ (c_L_low l D cA cZ cL  y_272 100 (by decide) (by decide)) (va_cwS 2 hts gL_isTold_L_low rfl rfl rfl (by decide +kernel) ⟨Nat.le_of_ble_eq_true rfl, Nat.le_of_ble_eq_true rfl⟩) ⟨qPre_blind, qPre_at hPc hK⟩ rfl rfl hl.1 rfl (lv_room (Nat.le_of_ble_eq_true rfl)) dL_isTold_275 ⟨by show 21 + 3 * k + 0 ≤ 60; omega, by show 6 * (21 + 3 * k) + 0 ≤ 360; omega⟩) (fun z_275 hz_275 => ?_)
                    obtain ⟨⟨kk, hkk, hz9⟩, -⟩ := hz_275
                    subst hz9
                    refine lv_istore (lv' := [(9, .int (nI kk)), (0, .ref (ad 16)), (1, .int y), (2, .ref (q 0)), (3, .ref (q 1)), (4, .ref (q 2)), (5, .ref (q 3)), (6, .ref (q 4)), (7, .ref (q 5)), (8, .int (nI k))]) hx hb dL_isTold_278 hl (by decide) rfl (fun ls hl => ?_)
                    refine lv_aload_n hx hb dL_isTold_280 rfl (lv_at hl 3 rfl) ?_
                    refine lv_aload hx hb dL_isTold_281 (lv_at hl 8 rfl) ?_
                    refine lv_iload hx hb dL_isTold_283 (lv_at hl 0 rfl) ?_
                    have hPc := hP.sub (ws' := [(q 0, .inl (cA, 40, .inl (h 0))), (q 5, .inl (cA, 6, .inl (h 5)))]) [0, 5] rfl
                    refine vp_callSi (W.runS (As := [.ref (q 0), .ref (q 5), .int (nI kk)]) (rest := []) ⟨hx, hb, hml, hown, hts⟩ (c_L_member l D cA cZ cL (q 0) (h 0) (q 5) (h 5) n hn hn4 (nI kk)) (va_cwS 3 hts gL_isTold_L_member rfl rfl rfl (by decide +kernel) ⟨Nat.le_of_ble_eq_true rfl, Nat.le_of_ble_eq_true rfl⟩) ⟨qPre_blind, qPre_at hPc hK⟩ rfl rfl hl.1 rfl (lv_room (Nat.le_of_ble_eq_true rfl)) dL_isTold_285 ⟨by show 21 + 3 * k + 0 ≤ 60; omega, by show 6 * (21 + 3 * k) + 0 ≤ 360; omega⟩) (fun z_285 hz_285 => ?_)
                    refine lv_istore (lv' := [(10, .int z_285), (9, .int (nI kk)), (0, .ref (ad 16)), (1, .int y), (2, .ref (q 0)), (3, .ref (q 1)), (4, .ref (q 2)), (5, .ref (q 3)), (6, .ref (q 4)), (7, .ref (q 5)), (8, .int (nI k))]) hx hb dL_isTold_288 hl (by decide) rfl (fun ls hl => ?_)
                    refine lv_aload_n hx hb dL_isTold_290 rfl (lv_at hl 2 rfl) ?_
                    refine lv_iload hx hb dL_isTold_291 (lv_at hl 1 rfl) ?_
                    have hPc := hP.sub (ws' := xW cA ad f g) [6, 7, 8, 9, 10, 11, 12, 13, 14, 15, 16, 17] rfl
                    refine qb_grow (vx_runSW (As := [.ref (ad 16), .int (nI kk)]) (rest := []) ⟨hx, hb, hml, hown, hts⟩ (c_L_address l hl0 D cA cZ cL ad f g (nI kk) 1 0 hI) (vx_cwSW 2 hts gL_isTold_L_address rfl rfl rfl (by decide +kernel) ⟨Nat.le_of_ble_eq_true rfl, Nat.le_of_ble_eq_true rfl⟩) ⟨qPreN_blind, qPreN_at hPc hK (qTH_grow hTH hNC hS)⟩ rfl rfl hl.1 rfl (lv_room (Nat.le_of_ble_eq_true rfl)) dL_isTold_293 ⟨by show 21 + 3 * k + 1 ≤ 60; omega, by show 6 * (21 + 3 * k) + 6 ≤ 360; omega⟩) hP hS (fun z_293 H1 locs hu_293 hmo hP hS => ?_)
                    have hg0 : s.heap.size + 0 ≤ H1.size := Nat.le_trans hg0 hmo
                    clear hPc
                    refine W.widen (k := (21 + 3 * k) + 1) (n := 6 * ((21 + 3 * k) + 1)) (by omega) (by omega) ?_
                    refine lv_iload hx hb dL_isTold_296 (lv_at hl 0 rfl) ?_
                    refine lv_if_ge (tgt := 305) hx hb dL_isTold_298 (by decide) (fun c_298 => ?_) (fun c_298 => ?_)
                    · skip
                      refine lv_aload_n hx hb dL_isTold_305 rfl (lv_at hl 4 rfl) ?_
                      refine lv_iload hx hb dL_isTold_306 (lv_at hl 0 rfl) ?_
                      refine va_iald hx hb hK hP 0 0 rfl rfl (in40 hz_285 c_298) dL_isTold_308 ?_
                      refine lv_topi (fun y_308 _ => ?_)
                      refine lv_bipush (v := 7) hx hb dL_isTold_309 (by decide) ?_
                      refine lv_ishr hx hb dL_isTold_311 ?_
                      refine lv_topi (fun y_311 _ => ?_)
                      refine lv_bipush (v := 63) hx hb dL_isTold_312 (by decide) ?_
                      refine lv_iand hx hb dL_isTold_314 ?_
                      refine lv_topi (fun y_314 _ => ?_)
                      refine lv_icmp_ne (tgt := 351) hx hb dL_isTold_315 (by decide) (fun c_315 => ?_) (fun c_315 => ?_)
                      · skip
                        refine lv_iconst (v := 0) hx hb dL_isTold_351 (by decide) ?_
                        refine W.widen (k := 60) (n := 360) (by omega) (by omega) ?_
                        exact W.zret (v := 0) hx hb hr rfl (fun t ht hW => ⟨0, rfl, by first | (rw [ht]; done) | (rw [ht]; exact hS.1), fun q hq => by first | (rw [ht]; done) | (rw [ht]; exact hS.2.1 q hq (fun h => h)), by rw [ht]; exact (Or.inl rfl)⟩) hS.2.2 dL_isTold_352
                      · skip
                        refine lv_aload_n hx hb dL_isTold_318 rfl (lv_at hl 2 rfl) ?_
                        refine lv_iload hx hb dL_isTold_319 (lv_at hl 1 rfl) ?_
                        have hPc := hP.sub (ws' := xW cA ad f g) [6, 7, 8, 9, 10, 11, 12, 13, 14, 15, 16, 17] rfl
                        refine qb_grow (vx_runSW (As := [.ref (ad 16), .int (nI kk)]) (rest := []) ⟨hx, hb, hml, hown, hts⟩ (c_L_onRoll l hl0 D cA cZ cL ad f g (nI kk)) (vx_cwSW 2 hts gL_isTold_L_onRoll rfl rfl rfl (by decide +kernel) ⟨Nat.le_of_ble_eq_true rfl, Nat.le_of_ble_eq_true rfl⟩) ⟨qPreN_blind, qPreN_at hPc hK (qTH_grow hTH hNC hS)⟩ rfl rfl hl.1 rfl (lv_room (Nat.le_of_ble_eq_true rfl)) dL_isTold_321 ⟨by show (21 + 3 * k) + 1 + 1 ≤ 60; omega, by show 6 * ((21 + 3 * k) + 1) + 6 ≤ 360; omega⟩) hP hS (fun z_321 H1 locs hu_321 hmo hP hS => ?_)
                        have hg0 : s.heap.size + 0 ≤ H1.size := Nat.le_trans hg0 hmo
                        clear hPc
                        refine W.widen (k := ((21 + 3 * k) + 1) + 1) (n := 6 * (((21 + 3 * k) + 1) + 1)) (by omega) (by omega) ?_
                        refine lv_aload_n hx hb dL_isTold_324 rfl (lv_at hl 5 rfl) ?_
                        refine lv_aload hx hb dL_isTold_325 (lv_at hl 9 rfl) ?_
                        refine lv_iload hx hb dL_isTold_327 (lv_at hl 1 rfl) ?_
                        have hPc := hP.sub (ws' := [(q 1, .inl (cA, 40, .inl (h 1))), (q 5, .inl (cA, 6, .inl (h 5)))]) [1, 5] rfl
                        refine vp_callSi (W.runS (As := [.ref (q 1), .ref (q 5), .int (nI kk)]) (rest := [.int z_321]) ⟨hx, hb, hml, hown, hts⟩ (c_L_rolled l D cA cZ cL (q 1) (h 1) (q 5) (h 5) hm4 (nI kk)) (va_cwS 3 hts gL_isTold_L_rolled rfl rfl rfl (by decide +kernel) ⟨Nat.le_of_ble_eq_true rfl, Nat.le_of_ble_eq_true rfl⟩) ⟨qPre_blind, qPre_at hPc hK⟩ rfl rfl hl.1 rfl (lv_room (Nat.le_of_ble_eq_true rfl)) dL_isTold_329 ⟨by show ((21 + 3 * k) + 1) + 1 + 0 ≤ 60; omega, by show 6 * (((21 + 3 * k) + 1) + 1) + 0 ≤ 360; omega⟩) (fun z_329 hz_329 => ?_)
                        refine lv_icmp_ne (tgt := 351) hx hb dL_isTold_332 (by decide) (fun c_332 => ?_) (fun c_332 => ?_)
                        · skip
                          refine lv_iconst (v := 0) hx hb dL_isTold_351 (by decide) ?_
                          refine W.widen (k := 60) (n := 360) (by omega) (by omega) ?_
                          exact W.zret (v := 0) hx hb hr rfl (fun t ht hW => ⟨0, rfl, by first | (rw [ht]; done) | (rw [ht]; exact hS.1), fun q hq => by first | (rw [ht]; done) | (rw [ht]; exact hS.2.1 q hq (fun h => h)), by rw [ht]; exact (Or.inl rfl)⟩) hS.2.2 dL_isTold_352
                        · skip
                          refine lv_aload_n hx hb dL_isTold_335 rfl (lv_at hl 2 rfl) ?_
                          refine lv_iload hx hb dL_isTold_336 (lv_at hl 1 rfl) ?_
                          have hPc := hP.sub (ws' := xW cA ad f g) [6, 7, 8, 9, 10, 11, 12, 13, 14, 15, 16, 17] rfl
                          refine qb_grow (vx_runSW (As := [.ref (ad 16), .int (nI kk)]) (rest := []) ⟨hx, hb, hml, hown, hts⟩ (c_L_rangeOf l hl0 D cA cZ cL ad f g (nI kk) 1 0 hI) (vx_cwSW 2 hts gL_isTold_L_rangeOf rfl rfl rfl (by decide +kernel) ⟨Nat.le_of_ble_eq_true rfl, Nat.le_of_ble_eq_true rfl⟩) ⟨qPreN_blind, qPreN_at hPc hK (qTH_grow hTH hNC hS)⟩ rfl rfl hl.1 rfl (lv_room (Nat.le_of_ble_eq_true rfl)) dL_isTold_338 ⟨by show ((21 + 3 * k) + 1) + 1 + 1 ≤ 60; omega, by show 6 * (((21 + 3 * k) + 1) + 1) + 6 ≤ 360; omega⟩) hP hS (fun z_338 H1 locs hu_338 hmo hP hS => ?_)
                          have hg0 : s.heap.size + 0 ≤ H1.size := Nat.le_trans hg0 hmo
                          clear hPc
                          refine W.widen (k := (((21 + 3 * k) + 1) + 1) + 1) (n := 6 * ((((21 + 3 * k) + 1) + 1) + 1)) (by omega) (by omega) ?_
                          refine lv_aload hx hb dL_isTold_341 (lv_at hl 6 rfl) ?_
                          refine lv_iload hx hb dL_isTold_343 (lv_at hl 1 rfl) ?_
                          have hPc := hP.sub (ws' := [(q 2, .inl (cA, 9, .inl (h 2)))]) [2] rfl
                          refine vp_callSi (W.runS (As := [.ref (q 2), .int (nI kk)]) (rest := [.int z_338]) ⟨hx, hb, hml, hown, hts⟩ (c_L_range l D cA cZ cL (q 2) (h 2) h99 kk hkk) (va_cwS 2 hts gL_isTold_L_range rfl rfl rfl (by decide +kernel) ⟨Nat.le_of_ble_eq_true rfl, Nat.le_of_ble_eq_true rfl⟩) ⟨qPre_blind, qPre_at hPc hK⟩ rfl rfl hl.1 rfl (lv_room (Nat.le_of_ble_eq_true rfl)) dL_isTold_345 ⟨by show (((21 + 3 * k) + 1) + 1) + 1 + 0 ≤ 60; omega, by show 6 * ((((21 + 3 * k) + 1) + 1) + 1) + 0 ≤ 360; omega⟩) (fun z_345 hz_345 => ?_)
                          refine lv_icmp_eq (tgt := 353) hx hb dL_isTold_348 (by decide) (fun c_348 => ?_) (fun c_348 => ?_)
                          · skip
                            refine lv_iinc (v := nI (k + 1)) (lv' := [(8, .int (nI (k + 1))), (10, .int z_285), (9, .int (nI kk)), (0, .ref (ad 16)), (1, .int y), (2, .ref (q 0)), (3, .ref (q 1)), (4, .ref (q 2)), (5, .ref (q 3)), (6, .ref (q 4)), (7, .ref (q 5))]) hx hb dL_isTold_353 hl (k := 10) rfl (nI_1 (k)) (by decide) rfl (fun ls hl => ?_)
                            refine lv_goto (tgt := 261) hx hb dL_isTold_356 (by decide) ?_
                            refine W.widen (k := 21 + 3 * (k + 1)) (n := 6 * (21 + 3 * (k + 1))) (by omega) (by omega) ?_
                            exact ih_261 _ (by omega) (k + 1) rfl (by omega) _ _ hP hS (Nat.le_trans (by omega) hg0) _ (lv_sub hl [3, 4, 5, 6, 7, 8, 9, 10, 0] rfl)
                          · skip
                            refine lv_iconst (v := 0) hx hb dL_isTold_351 (by decide) ?_
                            refine W.widen (k := 60) (n := 360) (by omega) (by omega) ?_
                            exact W.zret (v := 0) hx hb hr rfl (fun t ht hW => ⟨0, rfl, by first | (rw [ht]; done) | (rw [ht]; exact hS.1), fun q hq => by first | (rw [ht]; done) | (rw [ht]; exact hS.2.1 q hq (fun h => h)), by rw [ht]; exact (Or.inl rfl)⟩) hS.2.2 dL_isTold_352
                    · skip
                      refine lv_iconst (v := (-1)) hx hb dL_isTold_301 (by decide) ?_
                      refine lv_goto (tgt := 315) hx hb dL_isTold_302 (by decide) ?_
                      refine lv_icmp_ne (tgt := 351) hx hb dL_isTold_315 (by decide) (fun c_315 => ?_) (fun c_315 => ?_)
                      · skip
                        refine lv_iconst (v := 0) hx hb dL_isTold_351 (by decide) ?_
                        refine W.widen (k := 60) (n := 360) (by omega) (by omega) ?_
                        exact W.zret (v := 0) hx hb hr rfl (fun t ht hW => ⟨0, rfl, by first | (rw [ht]; done) | (rw [ht]; exact hS.1), fun q hq => by first | (rw [ht]; done) | (rw [ht]; exact hS.2.1 q hq (fun h => h)), by rw [ht]; exact (Or.inl rfl)⟩) hS.2.2 dL_isTold_352
                      · skip
                        refine lv_aload_n hx hb dL_isTold_318 rfl (lv_at hl 2 rfl) ?_
                        refine lv_iload hx hb dL_isTold_319 (lv_at hl 1 rfl) ?_
                        have hPc := hP.sub (ws' := xW cA ad f g) [6, 7, 8, 9, 10, 11, 12, 13, 14, 15, 16, 17] rfl
                        refine qb_grow (vx_runSW (As := [.ref (ad 16), .int (nI kk)]) (rest := []) ⟨hx, hb, hml, hown, hts⟩ (c_L_onRoll l hl0 D cA cZ cL ad f g (nI kk)) (vx_cwSW 2 hts gL_isTold_L_onRoll rfl rfl rfl (by decide +kernel) ⟨Nat.le_of_ble_eq_true rfl, Nat.le_of_ble_eq_true rfl⟩) ⟨qPreN_blind, qPreN_at hPc hK (qTH_grow hTH hNC hS)⟩ rfl rfl hl.1 rfl (lv_room (Nat.le_of_ble_eq_true rfl)) dL_isTold_321 ⟨by show (21 + 3 * k) + 1 + 1 ≤ 60; omega, by show 6 * ((21 + 3 * k) + 1) + 6 ≤ 360; omega⟩) hP hS (fun z_321 H1 locs hu_321 hmo hP hS => ?_)
                        have hg0 : s.heap.size + 0 ≤ H1.size := Nat.le_trans hg0 hmo
                        clear hPc
                        refine W.widen (k := ((21 + 3 * k) + 1) + 1) (n := 6 * (((21 + 3 * k) + 1) + 1)) (by omega) (by omega) ?_
                        refine lv_aload_n hx hb dL_isTold_324 rfl (lv_at hl 5 rfl) ?_
                        refine lv_aload hx hb dL_isTold_325 (lv_at hl 9 rfl) ?_
                        refine lv_iload hx hb dL_isTold_327 (lv_at hl 1 rfl) ?_
                        have hPc := hP.sub (ws' := [(q 1, .inl (cA, 40, .inl (h 1))), (q 5, .inl (cA, 6, .inl (h 5)))]) [1, 5] rfl
                        refine vp_callSi (W.runS (As := [.ref (q 1), .ref (q 5), .int (nI kk)]) (rest := [.int z_321]) ⟨hx, hb, hml, hown, hts⟩ (c_L_rolled l D cA cZ cL (q 1) (h 1) (q 5) (h 5) hm4 (nI kk)) (va_cwS 3 hts gL_isTold_L_rolled rfl rfl rfl (by decide +kernel) ⟨Nat.le_of_ble_eq_true rfl, Nat.le_of_ble_eq_true rfl⟩) ⟨qPre_blind, qPre_at hPc hK⟩ rfl rfl hl.1 rfl (lv_room (Nat.le_of_ble_eq_true rfl)) dL_isTold_329 ⟨by show ((21 + 3 * k) + 1) + 1 + 0 ≤ 60; omega, by show 6 * (((21 + 3 * k) + 1) + 1) + 0 ≤ 360; omega⟩) (fun z_329 hz_329 => ?_)
                        refine lv_icmp_ne (tgt := 351) hx hb dL_isTold_332 (by decide) (fun c_332 => ?_) (fun c_332 => ?_)
                        · skip
                          refine lv_iconst (v := 0) hx hb dL_isTold_351 (by decide) ?_
                          refine W.widen (k := 60) (n := 360) (by omega) (by omega) ?_
                          exact W.zret (v := 0) hx hb hr rfl (fun t ht hW => ⟨0, rfl, by first | (rw [ht]; done) | (rw [ht]; exact hS.1), fun q hq => by first | (rw [ht]; done) | (rw [ht]; exact hS.2.1 q hq (fun h => h)), by rw [ht]; exact (Or.inl rfl)⟩) hS.2.2 dL_isTold_352
                        · skip
                          refine lv_aload_n hx hb dL_isTold_335 rfl (lv_at hl 2 rfl) ?_
                          refine lv_iload hx hb dL_isTold_336 (lv_at hl 1 rfl) ?_
                          have hPc := hP.sub (ws' := xW cA ad f g) [6, 7, 8, 9, 10, 11, 12, 13, 14, 15, 16, 17] rfl
                          refine qb_grow (vx_runSW (As := [.ref (ad 16), .int (nI kk)]) (rest := []) ⟨hx, hb, hml, hown, hts⟩ (c_L_rangeOf l hl0 D cA cZ cL ad f g (nI kk) 1 0 hI) (vx_cwSW 2 hts gL_isTold_L_rangeOf rfl rfl rfl (by decide +kernel) ⟨Nat.le_of_ble_eq_true rfl, Nat.le_of_ble_eq_true rfl⟩) ⟨qPreN_blind, qPreN_at hPc hK (qTH_grow hTH hNC hS)⟩ rfl rfl hl.1 rfl (lv_room (Nat.le_of_ble_eq_true rfl)) dL_isTold_338 ⟨by show ((21 + 3 * k) + 1) + 1 + 1 ≤ 60; omega, by show 6 * (((21 + 3 * k) + 1) + 1) + 6 ≤ 360; omega⟩) hP hS (fun z_338 H1 locs hu_338 hmo hP hS => ?_)
                          have hg0 : s.heap.size + 0 ≤ H1.size := Nat.le_trans hg0 hmo
                          clear hPc
                          refine W.widen (k := (((21 + 3 * k) + 1) + 1) + 1) (n := 6 * ((((21 + 3 * k) + 1) + 1) + 1)) (by omega) (by omega) ?_
                          refine lv_aload hx hb dL_isTold_341 (lv_at hl 6 rfl) ?_
                          refine lv_iload hx hb dL_isTold_343 (lv_at hl 1 rfl) ?_
                          have hPc := hP.sub (ws' := [(q 2, .inl (cA, 9, .inl (h 2)))]) [2] rfl
                          refine vp_callSi (W.runS (As := [.ref (q 2), .int (nI kk)]) (rest := [.int z_338]) ⟨hx, hb, hml, hown, hts⟩ (c_L_range l D cA cZ cL (q 2) (h 2) h99 kk hkk) (va_cwS 2 hts gL_isTold_L_range rfl rfl rfl (by decide +kernel) ⟨Nat.le_of_ble_eq_true rfl, Nat.le_of_ble_eq_true rfl⟩) ⟨qPre_blind, qPre_at hPc hK⟩ rfl rfl hl.1 rfl (lv_room (Nat.le_of_ble_eq_true rfl)) dL_isTold_345 ⟨by show (((21 + 3 * k) + 1) + 1) + 1 + 0 ≤ 60; omega, by show 6 * ((((21 + 3 * k) + 1) + 1) + 1) + 0 ≤ 360; omega⟩) (fun z_345 hz_345 => ?_)
                          refine lv_icmp_eq (tgt := 353) hx hb dL_isTold_348 (by decide) (fun c_348 => ?_) (fun c_348 => ?_)
                          · skip
                            refine lv_iinc (v := nI (k + 1)) (lv' := [(8, .int (nI (k + 1))), (10, .int z_285), (9, .int (nI kk)), (0, .ref (ad 16)), (1, .int y), (2, .ref (q 0)), (3, .ref (q 1)), (4, .ref (q 2)), (5, .ref (q 3)), (6, .ref (q 4)), (7, .ref (q 5))]) hx hb dL_isTold_353 hl (k := 10) rfl (nI_1 (k)) (by decide) rfl (fun ls hl => ?_)
                            refine lv_goto (tgt := 261) hx hb dL_isTold_356 (by decide) ?_
                            refine W.widen (k := 21 + 3 * (k + 1)) (n := 6 * (21 + 3 * (k + 1))) (by omega) (by omega) ?_
                            exact ih_261 _ (by omega) (k + 1) rfl (by omega) _ _ hP hS (Nat.le_trans (by omega) hg0) _ (lv_sub hl [3, 4, 5, 6, 7, 8, 9, 10, 0] rfl)
                          · skip
                            refine lv_iconst (v := 0) hx hb dL_isTold_351 (by decide) ?_
                            refine W.widen (k := 60) (n := 360) (by omega) (by omega) ?_
                            exact W.zret (v := 0) hx hb hr rfl (fun t ht hW => ⟨0, rfl, by first | (rw [ht]; done) | (rw [ht]; exact hS.1), fun q hq => by first | (rw [ht]; done) | (rw [ht]; exact hS.2.1 q hq (fun h => h)), by rw [ht]; exact (Or.inl rfl)⟩) hS.2.2 dL_isTold_352
              refine W.widen (k := 21 + 3 * 0) (n := 6 * (21 + 3 * 0)) (by omega) (by omega) ?_
              exact hloop_261 _ 0 rfl (Nat.zero_le _) _ _ hP hS hg0 _ (lv_sub hl [1, 2, 3, 4, 5, 6, 7, 8, 0] rfl)
            · skip
              obtain rfl : i = 0 := by have := n_lt c_227 (by omega); omega
              refine lv_aload_n hx hb dL_isTold_230 rfl (lv_at hl 0 rfl) ?_
              refine lv_iload hx hb dL_isTold_231 (lv_at hl 8 rfl) ?_
              have hPc := hP.sub (ws' := xW cA ad f g) [6, 7, 8, 9, 10, 11, 12, 13, 14, 15, 16, 17] rfl
              refine qb_grow (vx_runSW (As := [.ref (ad 16), .int (nI 0)]) (rest := []) ⟨hx, hb, hml, hown, hts⟩ (c_L_shardOf l hl0 D cA cZ cL ad f g (nI 0) 1 0 hI) (vx_cwSW 2 hts gL_isTold_L_shardOf rfl rfl rfl (by decide +kernel) ⟨Nat.le_of_ble_eq_true rfl, Nat.le_of_ble_eq_true rfl⟩) ⟨qPreN_blind, qPreN_at hPc hK (qTH_grow hTH hNC hS)⟩ rfl rfl hl.1 rfl (lv_room (Nat.le_of_ble_eq_true rfl)) dL_isTold_233 ⟨by show 20 + 0 + 1 ≤ 60; omega, by show 6 * (20 + 0) + 6 ≤ 360; omega⟩) hP hS (fun z_233 H1 locs hu_233 hmo hP hS => ?_)
              have hg0 : s.heap.size + 0 ≤ H1.size := Nat.le_trans hg0 hmo
              clear hPc
              refine W.widen (k := (20 + 0) + 1) (n := 6 * ((20 + 0) + 1)) (by omega) (by omega) ?_
              refine lv_aload hx hb dL_isTold_236 (lv_at hl 4 rfl) ?_
              refine lv_iload hx hb dL_isTold_238 (lv_at hl 8 rfl) ?_
              refine va_iald hx hb hK hP 2 0 rfl rfl (vp_in_nI (by omega) (by decide)) dL_isTold_240 ?_
              refine lv_topi (fun y_240 _ => ?_)
              refine lv_bipush (v := 7) hx hb dL_isTold_241 (by decide) ?_
              refine lv_ishr hx hb dL_isTold_243 ?_
              refine lv_topi (fun y_243 _ => ?_)
              refine lv_bipush (v := 7) hx hb dL_isTold_244 (by decide) ?_
              refine lv_iand hx hb dL_isTold_246 ?_
              refine lv_topi (fun y_246 _ => ?_)
              refine lv_icmp_eq (tgt := 252) hx hb dL_isTold_247 (by decide) (fun c_247 => ?_) (fun c_247 => ?_)
              · skip
                refine lv_iinc (v := nI (0 + 1)) (lv' := [(8, .int (nI (0 + 1))), (0, .ref (ad 16)), (1, .int y), (2, .ref (q 0)), (3, .ref (q 1)), (4, .ref (q 2)), (5, .ref (q 3)), (6, .ref (q 4)), (7, .ref (q 5))]) hx hb dL_isTold_252 hl (k := 8) rfl (nI_1 (0)) (by decide) rfl (fun ls hl => ?_)
                refine lv_goto (tgt := 221) hx hb dL_isTold_255 (by decide) ?_
                refine W.widen (k := 20 + 1) (n := 6 * (20 + 1)) (by omega) (by omega) ?_
                exact ih_221 _ (by omega) 1 rfl (by omega) _ _ hP hS (Nat.le_trans (by omega) hg0) _ (lv_sub hl [1, 2, 3, 4, 5, 6, 7, 8, 0] rfl)
              · skip
                refine lv_iconst (v := 0) hx hb dL_isTold_250 (by decide) ?_
                refine W.widen (k := 60) (n := 360) (by omega) (by omega) ?_
                exact W.zret (v := 0) hx hb hr rfl (fun t ht hW => ⟨0, rfl, by first | (rw [ht]; done) | (rw [ht]; exact hS.1), fun q hq => by first | (rw [ht]; done) | (rw [ht]; exact hS.2.1 q hq (fun h => h)), by rw [ht]; exact (Or.inl rfl)⟩) hS.2.2 dL_isTold_251
        refine W.widen (k := 20 + 0) (n := 6 * (20 + 0)) (by omega) (by omega) ?_
        exact hloop_221 _ 0 rfl (Nat.zero_le _) _ _ hP hS hg0 _ (lv_sub hl [1, 2, 3, 4, 5, 6, 7, 8, 0] rfl)
      · skip
        have hlt : sh < 4 := n_lt (b := 4) c_6 (by omega)
        refine lv_iconst (v := 0) hx hb dL_isTold_9 (by decide) ?_
        refine lv_istore (lv' := [(9, .int 0), (0, .ref (ad 16)), (1, .int y), (2, .ref (q 0)), (3, .ref (q 1)), (4, .ref (q 2)), (5, .ref (q 3)), (6, .ref (q 4)), (7, .ref (q 5)), (8, .int (nI sh))]) hx hb dL_isTold_10 hl (by decide) rfl (fun ls hl => ?_)
        refine lv_iconst (v := 0) hx hb dL_isTold_12 (by decide) ?_
        refine lv_istore (lv' := [(10, .int 0), (9, .int 0), (0, .ref (ad 16)), (1, .int y), (2, .ref (q 0)), (3, .ref (q 1)), (4, .ref (q 2)), (5, .ref (q 3)), (6, .ref (q 4)), (7, .ref (q 5)), (8, .int (nI sh))]) hx hb dL_isTold_13 hl (by decide) rfl (fun ls hl => ?_)
        refine lv_iconst (v := 0) hx hb dL_isTold_15 (by decide) ?_
        refine lv_istore (lv' := [(11, .int 0), (10, .int 0), (9, .int 0), (0, .ref (ad 16)), (1, .int y), (2, .ref (q 0)), (3, .ref (q 1)), (4, .ref (q 2)), (5, .ref (q 3)), (6, .ref (q 4)), (7, .ref (q 5)), (8, .int (nI sh))]) hx hb dL_isTold_16 hl (by decide) rfl (fun ls hl => ?_)
        have hloop_18 : ∀ (nme : Nat) (i : Nat) (a9 : Int32), 1 - i = nme → (i ≤ 1) → ∀ (H : Heap) (locs : List Loc), va_P D vwCl (LW cA ad q f g h) H → va_S (fun _ => False) s.heap H locs → s.heap.size + 0 ≤ H.size → ∀ ls : Array Slot, lv_has ls 12 [(0, .ref (ad 16)), (1, .int y), (2, .ref (q 0)), (3, .ref (q 1)), (4, .ref (q 2)), (5, .ref (q 3)), (6, .ref (q 4)), (7, .ref (q 5)), (8, .int (nI sh)), (9, .int a9), (10, .int 0), (11, .int (nI i))] → W p l e (headSpec wsL_isTold ({ frames := 9, cells := 60, slots := 360, locals := 158 } : Room)).room s m ([.ref (ad 16), .int y, .ref (q 0), .ref (q 1), .ref (q 2), .ref (q 3), .ref (q 4), .ref (q 5)] : List Value).toArray below meth c H locs (5 * sh) (6 * (5 * sh)) (MQ below (qG (fun z n1 n2 => (z = 0 ∨ n1 + 13 ≤ n2))) ([.ref (ad 16), .int y, .ref (q 0), .ref (q 1), .ref (q 2), .ref (q 3), .ref (q 4), .ref (q 5)] : List Value).toArray s 60 360 (fun _ => False)) (F0 m 18 ls []) := by
          intro nme
          induction nme using Nat.strongRecOn with
          | ind nme ih_18 =>
            intro i a9 hnme_18 hi H locs hP hS hg0 ls hl
            refine lv_iload hx hb dL_isTold_18 (lv_at hl 11 rfl) ?_
            refine lv_aload hx hb dL_isTold_20 (lv_at hl 7 rfl) ?_
            refine lv_iconst (v := 1) hx hb dL_isTold_22 (by decide) ?_
            refine va_iald hx hb hK hP 5 0 rfl rfl (by unfold vp_in; decide) dL_isTold_23 ?_
            refine lv_topi (fun v_23 hv_23 => ?_)
            have hv_23 : v_23 = nI 1 := hv_23.trans (by rw [cl1]; exact hm1)
            subst hv_23
            refine lv_icmp_ge (tgt := 104) hx hb dL_isTold_24 (by decide) (fun c_24 => ?_) (fun c_24 => ?_)
            · skip
              refine lv_iconst (v := 0) hx hb dL_isTold_104 (by decide) ?_
              refine lv_istore (lv' := [(11, .int 0), (0, .ref (ad 16)), (1, .int y), (2, .ref (q 0)), (3, .ref (q 1)), (4, .ref (q 2)), (5, .ref (q 3)), (6, .ref (q 4)), (7, .ref (q 5)), (8, .int (nI sh)), (9, .int a9), (10, .int 0)]) hx hb dL_isTold_105 hl (by decide) rfl (fun ls hl => ?_)
              have hloop_107 : ∀ (nme : Nat) (j : Nat) (a10 : Int32), n - j = nme → (j ≤ n) → ∀ (H : Heap) (locs : List Loc), va_P D vwCl (LW cA ad q f g h) H → va_S (fun _ => False) s.heap H locs → s.heap.size + 0 ≤ H.size → ∀ ls : Array Slot, lv_has ls 12 [(0, .ref (ad 16)), (1, .int y), (2, .ref (q 0)), (3, .ref (q 1)), (4, .ref (q 2)), (5, .ref (q 3)), (6, .ref (q 4)), (7, .ref (q 5)), (8, .int (nI sh)), (9, .int a9), (10, .int a10), (11, .int (nI j))] → W p l e (headSpec wsL_isTold ({ frames := 9, cells := 60, slots := 360, locals := 158 } : Room)).room s m ([.ref (ad 16), .int y, .ref (q 0), .ref (q 1), .ref (q 2), .ref (q 3), .ref (q 4), .ref (q 5)] : List Value).toArray below meth c H locs (5 * sh) (6 * (5 * sh)) (MQ below (qG (fun z n1 n2 => (z = 0 ∨ n1 + 13 ≤ n2))) ([.ref (ad 16), .int y, .ref (q 0), .ref (q 1), .ref (q 2), .ref (q 3), .ref (q 4), .ref (q 5)] : List Value).toArray s 60 360 (fun _ => False)) (F0 m 107 ls []) := by
                intro nme
                induction nme using Nat.strongRecOn with
                | ind nme ih_107 =>
                  intro j a10 hnme_107 hj H locs hP hS hg0 ls hl
                  refine lv_iload hx hb dL_isTold_107 (lv_at hl 11 rfl) ?_
                  refine lv_aload hx hb dL_isTold_109 (lv_at hl 7 rfl) ?_
                  refine lv_iconst (v := 0) hx hb dL_isTold_111 (by decide) ?_
                  refine va_iald hx hb hK hP 5 0 rfl rfl (by unfold vp_in; decide) dL_isTold_112 ?_
                  refine lv_topi (fun v_112 hv_112 => ?_)
                  have hv_112 : v_112 = nI n := hv_112.trans (by rw [cl0]; exact hn)
                  subst hv_112
                  refine lv_icmp_ge (tgt := 150) hx hb dL_isTold_113 (by decide) (fun c_113 => ?_) (fun c_113 => ?_)
                  · skip
                    refine lv_aload_n hx hb dL_isTold_150 rfl (lv_at hl 0 rfl) ?_
                    refine lv_iload hx hb dL_isTold_151 (lv_at hl 8 rfl) ?_
                    have hPc := hP.sub (ws' := xW cA ad f g) [6, 7, 8, 9, 10, 11, 12, 13, 14, 15, 16, 17] rfl
                    refine qb_grow (vx_runSW (As := [.ref (ad 16), .int (nI sh)]) (rest := []) ⟨hx, hb, hml, hown, hts⟩ (c_L_rows l hl0 D cA cZ cL ad f g (nI sh)) (vx_cwSW 2 hts gL_isTold_L_rows rfl rfl rfl (by decide +kernel) ⟨Nat.le_of_ble_eq_true rfl, Nat.le_of_ble_eq_true rfl⟩) ⟨qPreN_blind, qPreN_at hPc hK (qTH_grow hTH hNC hS)⟩ rfl rfl hl.1 rfl (lv_room (Nat.le_of_ble_eq_true rfl)) dL_isTold_153 ⟨by show 5 * sh + 1 ≤ 60; omega, by show 6 * (5 * sh) + 6 ≤ 360; omega⟩) hP hS (fun z_153 H1 locs hu_153 hmo hP hS => ?_)
                    have hg0 : s.heap.size + 0 ≤ H1.size := Nat.le_trans hg0 hmo
                    clear hPc
                    refine W.widen (k := (5 * sh) + 1) (n := 6 * ((5 * sh) + 1)) (by omega) (by omega) ?_
                    refine lv_iload hx hb dL_isTold_156 (lv_at hl 9 rfl) ?_
                    refine lv_icmp_ne (tgt := 172) hx hb dL_isTold_158 (by decide) (fun c_158 => ?_) (fun c_158 => ?_)
                    · skip
                      refine lv_iconst (v := 0) hx hb dL_isTold_172 (by decide) ?_
                      refine W.widen (k := 60) (n := 360) (by omega) (by omega) ?_
                      exact W.zret (v := 0) hx hb hr rfl (fun t ht hW => ⟨0, rfl, by first | (rw [ht]; done) | (rw [ht]; exact hS.1), fun q hq => by first | (rw [ht]; done) | (rw [ht]; exact hS.2.1 q hq (fun h => h)), by rw [ht]; exact (Or.inl rfl)⟩) hS.2.2 dL_isTold_173
                    · skip
                      refine lv_aload_n hx hb dL_isTold_161 rfl (lv_at hl 0 rfl) ?_
                      refine lv_iload hx hb dL_isTold_162 (lv_at hl 8 rfl) ?_
                      have hPc := hP.sub (ws' := xW cA ad f g) [6, 7, 8, 9, 10, 11, 12, 13, 14, 15, 16, 17] rfl
                      refine qb_grow (vx_runSW (As := [.ref (ad 16), .int (nI sh)]) (rest := []) ⟨hx, hb, hml, hown, hts⟩ (c_L_inDistrict l hl0 D cA cZ cL ad f g (nI sh) 1 0 hI) (vx_cwSW 2 hts gL_isTold_L_inDistrict rfl rfl rfl (by decide +kernel) ⟨Nat.le_of_ble_eq_true rfl, Nat.le_of_ble_eq_true rfl⟩) ⟨qPreN_blind, qPreN_at hPc hK (qTH_grow hTH hNC hS)⟩ rfl rfl hl.1 rfl (lv_room (Nat.le_of_ble_eq_true rfl)) dL_isTold_164 ⟨by show (5 * sh) + 1 + 1 ≤ 60; omega, by show 6 * ((5 * sh) + 1) + 6 ≤ 360; omega⟩) hP hS (fun z_164 H1 locs hu_164 hmo hP hS => ?_)
                      have hg0 : s.heap.size + 0 ≤ H1.size := Nat.le_trans hg0 hmo
                      clear hPc
                      refine W.widen (k := ((5 * sh) + 1) + 1) (n := 6 * (((5 * sh) + 1) + 1)) (by omega) (by omega) ?_
                      refine lv_iload hx hb dL_isTold_167 (lv_at hl 10 rfl) ?_
                      refine lv_icmp_eq (tgt := 174) hx hb dL_isTold_169 (by decide) (fun c_169 => ?_) (fun c_169 => ?_)
                      · skip
                        refine lv_iconst (v := 0) hx hb dL_isTold_174 (by decide) ?_
                        refine lv_istore (lv' := [(11, .int 0), (0, .ref (ad 16)), (1, .int y), (2, .ref (q 0)), (3, .ref (q 1)), (4, .ref (q 2)), (5, .ref (q 3)), (6, .ref (q 4)), (7, .ref (q 5)), (8, .int (nI sh)), (9, .int a9), (10, .int a10)]) hx hb dL_isTold_175 hl (by decide) rfl (fun ls hl => ?_)
                        have hloop_177 : ∀ (nme : Nat) (ch : Nat), 3 - ch = nme → (ch ≤ 3) → ∀ (H : Heap) (locs : List Loc), va_P D vwCl (LW cA ad q f g h) H → va_S (fun _ => False) s.heap H locs → s.heap.size + 0 ≤ H.size → ∀ ls : Array Slot, lv_has ls 12 [(0, .ref (ad 16)), (1, .int y), (2, .ref (q 0)), (3, .ref (q 1)), (4, .ref (q 2)), (5, .ref (q 3)), (6, .ref (q 4)), (7, .ref (q 5)), (8, .int (nI sh)), (11, .int (nI ch))] → W p l e (headSpec wsL_isTold ({ frames := 9, cells := 60, slots := 360, locals := 158 } : Room)).room s m ([.ref (ad 16), .int y, .ref (q 0), .ref (q 1), .ref (q 2), .ref (q 3), .ref (q 4), .ref (q 5)] : List Value).toArray below meth c H locs (5 * sh + 2 + ch) (6 * (5 * sh + 2 + ch)) (MQ below (qG (fun z n1 n2 => (z = 0 ∨ n1 + 13 ≤ n2))) ([.ref (ad 16), .int y, .ref (q 0), .ref (q 1), .ref (q 2), .ref (q 3), .ref (q 4), .ref (q 5)] : List Value).toArray s 60 360 (fun _ => False)) (F0 m 177 ls []) := by
                          intro nme
                          induction nme using Nat.strongRecOn with
                          | ind nme ih_177 =>
                            intro ch hnme_177 hch H locs hP hS hg0 ls hl
                            refine lv_iload hx hb dL_isTold_177 (lv_at hl 9 rfl) ?_
                            refine lv_iconst (v := 3) hx hb dL_isTold_179 (by decide) ?_
                            refine lv_icmp_ge (tgt := 212) hx hb dL_isTold_180 (by decide) (fun c_180 => ?_) (fun c_180 => ?_)
                            · skip
                              refine lv_iinc (v := nI (sh + 1)) (lv' := [(8, .int (nI (sh + 1))), (0, .ref (ad 16)), (1, .int y), (2, .ref (q 0)), (3, .ref (q 1)), (4, .ref (q 2)), (5, .ref (q 3)), (6, .ref (q 4)), (7, .ref (q 5)), (11, .int (nI ch))]) hx hb dL_isTold_212 hl (k := 8) rfl (nI_1 (sh)) (by decide) rfl (fun ls hl => ?_)
                              refine lv_goto (tgt := 3) hx hb dL_isTold_215 (by decide) ?_
                              refine W.widen (k := 5 * (sh + 1)) (n := 6 * (5 * (sh + 1))) (by omega) (by omega) ?_
                              exact ih_3 _ (by omega) (sh + 1) rfl (by omega) _ _ hP hS (Nat.le_trans (by omega) hg0) _ (lv_sub hl [1, 2, 3, 4, 5, 6, 7, 8, 0] rfl)
                            · skip
                              have hlt3 : ch < 3 := n_lt (b := 3) c_180 (by omega)
                              refine lv_aload_n hx hb dL_isTold_183 rfl (lv_at hl 0 rfl) ?_
                              refine lv_iload hx hb dL_isTold_184 (lv_at hl 8 rfl) ?_
                              refine lv_iload hx hb dL_isTold_186 (lv_at hl 9 rfl) ?_
                              have hPc := hP.sub (ws' := xW cA ad f g) [6, 7, 8, 9, 10, 11, 12, 13, 14, 15, 16, 17] rfl
                              refine qb_grow (vx_runSW (As := [.ref (ad 16), .int (nI sh), .int (nI ch)]) (rest := []) ⟨hx, hb, hml, hown, hts⟩ (c_L_counted l hl0 D cA cZ cL ad f g (nI sh) (nI ch) 1 0 hI) (vx_cwSW 3 hts gL_isTold_L_counted rfl rfl rfl (by decide +kernel) ⟨Nat.le_of_ble_eq_true rfl, Nat.le_of_ble_eq_true rfl⟩) ⟨qPreN_blind, qPreN_at hPc hK (qTH_grow hTH hNC hS)⟩ rfl rfl hl.1 rfl (lv_room (Nat.le_of_ble_eq_true rfl)) dL_isTold_188 ⟨by show 5 * sh + 2 + ch + 1 ≤ 60; omega, by show 6 * (5 * sh + 2 + ch) + 6 ≤ 360; omega⟩) hP hS (fun z_188 H1 locs hu_188 hmo hP hS => ?_)
                              have hg0 : s.heap.size + 0 ≤ H1.size := Nat.le_trans hg0 hmo
                              clear hPc
                              refine W.widen (k := (5 * sh + 2 + ch) + 1) (n := 6 * ((5 * sh + 2 + ch) + 1)) (by omega) (by omega) ?_
                              refine lv_aload hx hb dL_isTold_191 (lv_at hl 6 rfl) ?_
                              refine lv_iconst (v := 4) hx hb dL_isTold_193 (by decide) ?_
                              refine lv_iload hx hb dL_isTold_194 (lv_at hl 9 rfl) ?_
                              refine lv_imul hx hb dL_isTold_196 ?_
                              refine lv_topi (fun v_196 hv_196 => ?_)
                              have hv_196 : v_196 = nI (4 * ch) := hv_196.trans (pk_mul 4 ch)
                              subst hv_196
                              refine lv_iload hx hb dL_isTold_197 (lv_at hl 8 rfl) ?_
                              refine lv_iadd hx hb dL_isTold_199 ?_
                              refine lv_topi (fun v_199 hv_199 => ?_)
                              have hv_199 : v_199 = nI (4 * ch + sh) := hv_199.trans (nI_add _ _)
                              subst hv_199
                              refine va_iald hx hb hK hP 4 0 rfl rfl (vp_in_nI (by omega) (by decide)) dL_isTold_200 ?_
                              refine lv_topi (fun y_200 _ => ?_)
                              refine lv_icmp_eq (tgt := 206) hx hb dL_isTold_201 (by decide) (fun c_201 => ?_) (fun c_201 => ?_)
                              · skip
                                refine lv_iinc (v := nI (ch + 1)) (lv' := [(11, .int (nI (ch + 1))), (0, .ref (ad 16)), (1, .int y), (2, .ref (q 0)), (3, .ref (q 1)), (4, .ref (q 2)), (5, .ref (q 3)), (6, .ref (q 4)), (7, .ref (q 5)), (8, .int (nI sh))]) hx hb dL_isTold_206 hl (k := 9) rfl (nI_1 (ch)) (by decide) rfl (fun ls hl => ?_)
                                refine lv_goto (tgt := 177) hx hb dL_isTold_209 (by decide) ?_
                                refine W.widen (k := 5 * sh + 2 + (ch + 1)) (n := 6 * (5 * sh + 2 + (ch + 1))) (by omega) (by omega) ?_
                                exact ih_177 _ (by omega) (ch + 1) rfl (by omega) _ _ hP hS (Nat.le_trans (by omega) hg0) _ (lv_sub hl [1, 2, 3, 4, 5, 6, 7, 8, 9, 0] rfl)
                              · skip
                                refine lv_iconst (v := 0) hx hb dL_isTold_204 (by decide) ?_
                                refine W.widen (k := 60) (n := 360) (by omega) (by omega) ?_
                                exact W.zret (v := 0) hx hb hr rfl (fun t ht hW => ⟨0, rfl, by first | (rw [ht]; done) | (rw [ht]; exact hS.1), fun q hq => by first | (rw [ht]; done) | (rw [ht]; exact hS.2.1 q hq (fun h => h)), by rw [ht]; exact (Or.inl rfl)⟩) hS.2.2 dL_isTold_205
                        refine W.widen (k := 5 * sh + 2 + 0) (n := 6 * (5 * sh + 2 + 0)) (by omega) (by omega) ?_
                        exact hloop_177 _ 0 rfl (Nat.zero_le _) _ _ hP hS hg0 _ (lv_sub hl [1, 2, 3, 4, 5, 6, 7, 8, 9, 0] rfl)
                      · skip
                        refine lv_iconst (v := 0) hx hb dL_isTold_172 (by decide) ?_
                        refine W.widen (k := 60) (n := 360) (by omega) (by omega) ?_
                        exact W.zret (v := 0) hx hb hr rfl (fun t ht hW => ⟨0, rfl, by first | (rw [ht]; done) | (rw [ht]; exact hS.1), fun q hq => by first | (rw [ht]; done) | (rw [ht]; exact hS.2.1 q hq (fun h => h)), by rw [ht]; exact (Or.inl rfl)⟩) hS.2.2 dL_isTold_173
                  · skip
                    have hlt2 : j < n := n_lt c_113 (by omega)
                    refine lv_iload hx hb dL_isTold_116 (lv_at hl 10 rfl) ?_
                    refine lv_aload_n hx hb dL_isTold_118 rfl (lv_at hl 2 rfl) ?_
                    refine lv_iload hx hb dL_isTold_119 (lv_at hl 11 rfl) ?_
                    refine va_iald hx hb hK hP 0 0 rfl rfl (vp_in_nI (by omega) (by decide)) dL_isTold_121 ?_
                    refine lv_topi (fun y_121 _ => ?_)
                    refine lv_bipush (v := 7) hx hb dL_isTold_122 (by decide) ?_
                    refine lv_ishr hx hb dL_isTold_124 ?_
                    refine lv_topi (fun y_124 _ => ?_)
                    refine lv_bipush (v := 63) hx hb dL_isTold_125 (by decide) ?_
                    refine lv_iand hx hb dL_isTold_127 ?_
                    refine lv_topi (fun y_127 _ => ?_)
                    refine lv_bipush (v := 10) hx hb dL_isTold_128 (by decide) ?_
                    refine lv_idiv hx hb dL_isTold_130 (by decide) ?_
                    refine lv_topi (fun y_130 _ => ?_)
                    refine lv_iload hx hb dL_isTold_131 (lv_at hl 8 rfl) ?_
                    refine lv_icmp_ne (tgt := 140) hx hb dL_isTold_133 (by decide) (fun c_133 => ?_) (fun c_133 => ?_)
                    · skip
                      refine lv_iconst (v := 0) hx hb dL_isTold_140 (by decide) ?_
                      refine lv_iadd hx hb dL_isTold_141 ?_
                      refine lv_topi (fun y_141 _ => ?_)
                      refine lv_istore (lv' := [(10, .int y_141), (0, .ref (ad 16)), (1, .int y), (2, .ref (q 0)), (3, .ref (q 1)), (4, .ref (q 2)), (5, .ref (q 3)), (6, .ref (q 4)), (7, .ref (q 5)), (8, .int (nI sh)), (9, .int a9), (11, .int (nI j))]) hx hb dL_isTold_142 hl (by decide) rfl (fun ls hl => ?_)
                      refine lv_iinc (v := nI (j + 1)) (lv' := [(11, .int (nI (j + 1))), (10, .int y_141), (0, .ref (ad 16)), (1, .int y), (2, .ref (q 0)), (3, .ref (q 1)), (4, .ref (q 2)), (5, .ref (q 3)), (6, .ref (q 4)), (7, .ref (q 5)), (8, .int (nI sh)), (9, .int a9)]) hx hb dL_isTold_144 hl (k := 11) rfl (nI_1 (j)) (by decide) rfl (fun ls hl => ?_)
                      refine lv_goto (tgt := 107) hx hb dL_isTold_147 (by decide) ?_
                      refine W.widen (k := 5 * sh) (n := 6 * (5 * sh)) (by omega) (by omega) ?_
                      exact ih_107 _ (by omega) (j + 1) y_141 rfl (by omega) _ _ hP hS (Nat.le_trans (by omega) hg0) _ (lv_sub hl [2, 3, 4, 5, 6, 7, 8, 9, 10, 11, 1, 0] rfl)
                    · skip
                      refine lv_iconst (v := 1) hx hb dL_isTold_136 (by decide) ?_
                      refine lv_goto (tgt := 141) hx hb dL_isTold_137 (by decide) ?_
                      refine lv_iadd hx hb dL_isTold_141 ?_
                      refine lv_topi (fun y_141 _ => ?_)
                      refine lv_istore (lv' := [(10, .int y_141), (0, .ref (ad 16)), (1, .int y), (2, .ref (q 0)), (3, .ref (q 1)), (4, .ref (q 2)), (5, .ref (q 3)), (6, .ref (q 4)), (7, .ref (q 5)), (8, .int (nI sh)), (9, .int a9), (11, .int (nI j))]) hx hb dL_isTold_142 hl (by decide) rfl (fun ls hl => ?_)
                      refine lv_iinc (v := nI (j + 1)) (lv' := [(11, .int (nI (j + 1))), (10, .int y_141), (0, .ref (ad 16)), (1, .int y), (2, .ref (q 0)), (3, .ref (q 1)), (4, .ref (q 2)), (5, .ref (q 3)), (6, .ref (q 4)), (7, .ref (q 5)), (8, .int (nI sh)), (9, .int a9)]) hx hb dL_isTold_144 hl (k := 11) rfl (nI_1 (j)) (by decide) rfl (fun ls hl => ?_)
                      refine lv_goto (tgt := 107) hx hb dL_isTold_147 (by decide) ?_
                      refine W.widen (k := 5 * sh) (n := 6 * (5 * sh)) (by omega) (by omega) ?_
                      exact ih_107 _ (by omega) (j + 1) y_141 rfl (by omega) _ _ hP hS (Nat.le_trans (by omega) hg0) _ (lv_sub hl [2, 3, 4, 5, 6, 7, 8, 9, 10, 11, 1, 0] rfl)
              refine W.widen (k := 5 * sh) (n := 6 * (5 * sh)) (by omega) (by omega) ?_
              exact hloop_107 _ 0 0 rfl (Nat.zero_le _) _ _ hP hS hg0 _ (lv_sub hl [1, 2, 3, 4, 5, 6, 7, 8, 9, 10, 11, 0] rfl)
            · skip
              obtain rfl : i = 0 := by have := n_lt c_24 (by omega); omega
              refine lv_iload hx hb dL_isTold_27 (lv_at hl 9 rfl) ?_
              refine lv_aload hx hb dL_isTold_29 (lv_at hl 4 rfl) ?_
              refine lv_iload hx hb dL_isTold_31 (lv_at hl 11 rfl) ?_
              refine va_iald hx hb hK hP 2 0 rfl rfl (vp_in_nI (by omega) (by decide)) dL_isTold_33 ?_
              refine lv_topi (fun y_33 _ => ?_)
              refine lv_bipush (v := 7) hx hb dL_isTold_34 (by decide) ?_
              refine lv_ishr hx hb dL_isTold_36 ?_
              refine lv_topi (fun y_36 _ => ?_)
              refine lv_bipush (v := 7) hx hb dL_isTold_37 (by decide) ?_
              refine lv_iand hx hb dL_isTold_39 ?_
              refine lv_topi (fun y_39 _ => ?_)
              refine lv_iload hx hb dL_isTold_40 (lv_at hl 8 rfl) ?_
              refine lv_icmp_ne (tgt := 59) hx hb dL_isTold_42 (by decide) (fun c_42 => ?_) (fun c_42 => ?_)
              · skip
                refine lv_iconst (v := 0) hx hb dL_isTold_59 (by decide) ?_
                refine lv_iadd hx hb dL_isTold_60 ?_
                refine lv_topi (fun y_60 _ => ?_)
                refine lv_istore (lv' := [(9, .int y_60), (0, .ref (ad 16)), (1, .int y), (2, .ref (q 0)), (3, .ref (q 1)), (4, .ref (q 2)), (5, .ref (q 3)), (6, .ref (q 4)), (7, .ref (q 5)), (8, .int (nI sh)), (10, .int 0), (11, .int (nI 0))]) hx hb dL_isTold_61 hl (by decide) rfl (fun ls hl => ?_)
                refine lv_iload hx hb dL_isTold_63 (lv_at hl 0 rfl) ?_
                refine lv_aload hx hb dL_isTold_65 (lv_at hl 5 rfl) ?_
                refine lv_iload hx hb dL_isTold_67 (lv_at hl 11 rfl) ?_
                refine va_iald hx hb hK hP 2 0 rfl rfl (by unfold vp_in; decide) dL_isTold_69 ?_
                refine lv_topi (fun y_69 _ => ?_)
                refine lv_bipush (v := 10) hx hb dL_isTold_70 (by decide) ?_
                refine lv_ishr hx hb dL_isTold_72 ?_
                refine lv_topi (fun y_72 _ => ?_)
                refine lv_iload hx hb dL_isTold_73 (lv_at hl 9 rfl) ?_
                refine lv_iconst (v := 1) hx hb dL_isTold_75 (by decide) ?_
                refine lv_iadd hx hb dL_isTold_76 ?_
                refine lv_topi (fun y_76 _ => ?_)
                refine lv_icmp_ne (tgt := 94) hx hb dL_isTold_77 (by decide) (fun c_77 => ?_) (fun c_77 => ?_)
                · skip
                  refine lv_iconst (v := 0) hx hb dL_isTold_94 (by decide) ?_
                  refine lv_iadd hx hb dL_isTold_95 ?_
                  refine lv_topi (fun y_95 _ => ?_)
                  refine lv_istore (lv' := [(9, .int y_95), (0, .ref (ad 16)), (1, .int y), (2, .ref (q 0)), (3, .ref (q 1)), (4, .ref (q 2)), (5, .ref (q 3)), (6, .ref (q 4)), (7, .ref (q 5)), (8, .int (nI sh)), (10, .int 0), (11, .int (nI 0))]) hx hb dL_isTold_96 hl (by decide) rfl (fun ls hl => ?_)
                  refine lv_iinc (v := nI (0 + 1)) (lv' := [(11, .int (nI (0 + 1))), (9, .int y_95), (0, .ref (ad 16)), (1, .int y), (2, .ref (q 0)), (3, .ref (q 1)), (4, .ref (q 2)), (5, .ref (q 3)), (6, .ref (q 4)), (7, .ref (q 5)), (8, .int (nI sh)), (10, .int 0)]) hx hb dL_isTold_98 hl (k := 11) rfl (nI_1 (0)) (by decide) rfl (fun ls hl => ?_)
                  refine lv_goto (tgt := 18) hx hb dL_isTold_101 (by decide) ?_
                  refine W.widen (k := 5 * sh) (n := 6 * (5 * sh)) (by omega) (by omega) ?_
                  exact ih_18 _ (by omega) 1 y_95 rfl (by omega) _ _ hP hS (Nat.le_trans (by omega) hg0) _ (lv_sub hl [2, 3, 4, 5, 6, 7, 8, 9, 10, 1, 11, 0] rfl)
                · skip
                  refine lv_aload_n hx hb dL_isTold_80 rfl (lv_at hl 3 rfl) ?_
                  refine lv_aload hx hb dL_isTold_81 (lv_at hl 5 rfl) ?_
                  refine lv_aload hx hb dL_isTold_83 (lv_at hl 8 rfl) ?_
                  refine lv_iload hx hb dL_isTold_85 (lv_at hl 11 rfl) ?_
                  refine lv_iconst (v := 1) hx hb dL_isTold_87 (by decide) ?_
                  have hPc := hP.sub (ws' := [(q 0, .inl (cA, 40, .inl (h 0))), (q 2, .inl (cA, 9, .inl (h 2))), (q 5, .inl (cA, 6, .inl (h 5)))]) [0, 2, 5] rfl
                  refine vp_callSi (W.runS (As := [.ref (q 0), .ref (q 2), .ref (q 5), .int (nI 0), .int 1]) (rest := [.int y_60]) ⟨hx, hb, hml, hown, hts⟩ (c_L_ofRange l D cA cZ cL (q 0) (h 0) (q 2) (h 2) (q 5) (h 5) n hn hn4 1 (by decide)) (va_cwS 5 hts gL_isTold_L_ofRange rfl rfl rfl (by decide +kernel) ⟨Nat.le_of_ble_eq_true rfl, Nat.le_of_ble_eq_true rfl⟩) ⟨qPre_blind, qPre_at hPc hK⟩ rfl rfl hl.1 rfl (lv_room (Nat.le_of_ble_eq_true rfl)) dL_isTold_88 ⟨by show 5 * sh + 0 ≤ 60; omega, by show 6 * (5 * sh) + 0 ≤ 360; omega⟩) (fun z_88 hz_88 => ?_)
                  refine lv_goto (tgt := 95) hx hb dL_isTold_91 (by decide) ?_
                  refine lv_iadd hx hb dL_isTold_95 ?_
                  refine lv_topi (fun y_95 _ => ?_)
                  refine lv_istore (lv' := [(9, .int y_95), (0, .ref (ad 16)), (1, .int y), (2, .ref (q 0)), (3, .ref (q 1)), (4, .ref (q 2)), (5, .ref (q 3)), (6, .ref (q 4)), (7, .ref (q 5)), (8, .int (nI sh)), (10, .int 0), (11, .int (nI 0))]) hx hb dL_isTold_96 hl (by decide) rfl (fun ls hl => ?_)
                  refine lv_iinc (v := nI (0 + 1)) (lv' := [(11, .int (nI (0 + 1))), (9, .int y_95), (0, .ref (ad 16)), (1, .int y), (2, .ref (q 0)), (3, .ref (q 1)), (4, .ref (q 2)), (5, .ref (q 3)), (6, .ref (q 4)), (7, .ref (q 5)), (8, .int (nI sh)), (10, .int 0)]) hx hb dL_isTold_98 hl (k := 11) rfl (nI_1 (0)) (by decide) rfl (fun ls hl => ?_)
                  refine lv_goto (tgt := 18) hx hb dL_isTold_101 (by decide) ?_
                  refine W.widen (k := 5 * sh) (n := 6 * (5 * sh)) (by omega) (by omega) ?_
                  exact ih_18 _ (by omega) 1 y_95 rfl (by omega) _ _ hP hS (Nat.le_trans (by omega) hg0) _ (lv_sub hl [2, 3, 4, 5, 6, 7, 8, 9, 10, 1, 11, 0] rfl)
              · skip
                refine lv_aload_n hx hb dL_isTold_45 rfl (lv_at hl 2 rfl) ?_
                refine lv_aload hx hb dL_isTold_46 (lv_at hl 4 rfl) ?_
                refine lv_aload hx hb dL_isTold_48 (lv_at hl 7 rfl) ?_
                refine lv_iload hx hb dL_isTold_50 (lv_at hl 11 rfl) ?_
                refine lv_iconst (v := 0) hx hb dL_isTold_52 (by decide) ?_
                have hPc := hP.sub (ws' := [(q 0, .inl (cA, 40, .inl (h 0))), (q 2, .inl (cA, 9, .inl (h 2))), (q 5, .inl (cA, 6, .inl (h 5)))]) [0, 2, 5] rfl
                refine vp_callSi (W.runS (As := [.ref (q 0), .ref (q 2), .ref (q 5), .int (nI 0), .int 0]) (rest := [.int a9]) ⟨hx, hb, hml, hown, hts⟩ (c_L_ofRange l D cA cZ cL (q 0) (h 0) (q 2) (h 2) (q 5) (h 5) n hn hn4 0 (by decide)) (va_cwS 5 hts gL_isTold_L_ofRange rfl rfl rfl (by decide +kernel) ⟨Nat.le_of_ble_eq_true rfl, Nat.le_of_ble_eq_true rfl⟩) ⟨qPre_blind, qPre_at hPc hK⟩ rfl rfl hl.1 rfl (lv_room (Nat.le_of_ble_eq_true rfl)) dL_isTold_53 ⟨by show 5 * sh + 0 ≤ 60; omega, by show 6 * (5 * sh) + 0 ≤ 360; omega⟩) (fun z_53 hz_53 => ?_)
                refine lv_goto (tgt := 60) hx hb dL_isTold_56 (by decide) ?_
                refine lv_iadd hx hb dL_isTold_60 ?_
                refine lv_topi (fun y_60 _ => ?_)
                refine lv_istore (lv' := [(9, .int y_60), (0, .ref (ad 16)), (1, .int y), (2, .ref (q 0)), (3, .ref (q 1)), (4, .ref (q 2)), (5, .ref (q 3)), (6, .ref (q 4)), (7, .ref (q 5)), (8, .int (nI sh)), (10, .int 0), (11, .int (nI 0))]) hx hb dL_isTold_61 hl (by decide) rfl (fun ls hl => ?_)
                refine lv_iload hx hb dL_isTold_63 (lv_at hl 0 rfl) ?_
                refine lv_aload hx hb dL_isTold_65 (lv_at hl 5 rfl) ?_
                refine lv_iload hx hb dL_isTold_67 (lv_at hl 11 rfl) ?_
                refine va_iald hx hb hK hP 2 0 rfl rfl (by unfold vp_in; decide) dL_isTold_69 ?_
                refine lv_topi (fun y_69 _ => ?_)
                refine lv_bipush (v := 10) hx hb dL_isTold_70 (by decide) ?_
                refine lv_ishr hx hb dL_isTold_72 ?_
                refine lv_topi (fun y_72 _ => ?_)
                refine lv_iload hx hb dL_isTold_73 (lv_at hl 9 rfl) ?_
                refine lv_iconst (v := 1) hx hb dL_isTold_75 (by decide) ?_
                refine lv_iadd hx hb dL_isTold_76 ?_
                refine lv_topi (fun y_76 _ => ?_)
                refine lv_icmp_ne (tgt := 94) hx hb dL_isTold_77 (by decide) (fun c_77 => ?_) (fun c_77 => ?_)
                · skip
                  refine lv_iconst (v := 0) hx hb dL_isTold_94 (by decide) ?_
                  refine lv_iadd hx hb dL_isTold_95 ?_
                  refine lv_topi (fun y_95 _ => ?_)
                  refine lv_istore (lv' := [(9, .int y_95), (0, .ref (ad 16)), (1, .int y), (2, .ref (q 0)), (3, .ref (q 1)), (4, .ref (q 2)), (5, .ref (q 3)), (6, .ref (q 4)), (7, .ref (q 5)), (8, .int (nI sh)), (10, .int 0), (11, .int (nI 0))]) hx hb dL_isTold_96 hl (by decide) rfl (fun ls hl => ?_)
                  refine lv_iinc (v := nI (0 + 1)) (lv' := [(11, .int (nI (0 + 1))), (9, .int y_95), (0, .ref (ad 16)), (1, .int y), (2, .ref (q 0)), (3, .ref (q 1)), (4, .ref (q 2)), (5, .ref (q 3)), (6, .ref (q 4)), (7, .ref (q 5)), (8, .int (nI sh)), (10, .int 0)]) hx hb dL_isTold_98 hl (k := 11) rfl (nI_1 (0)) (by decide) rfl (fun ls hl => ?_)
                  refine lv_goto (tgt := 18) hx hb dL_isTold_101 (by decide) ?_
                  refine W.widen (k := 5 * sh) (n := 6 * (5 * sh)) (by omega) (by omega) ?_
                  exact ih_18 _ (by omega) 1 y_95 rfl (by omega) _ _ hP hS (Nat.le_trans (by omega) hg0) _ (lv_sub hl [2, 3, 4, 5, 6, 7, 8, 9, 10, 1, 11, 0] rfl)
                · skip
                  refine lv_aload_n hx hb dL_isTold_80 rfl (lv_at hl 3 rfl) ?_
                  refine lv_aload hx hb dL_isTold_81 (lv_at hl 5 rfl) ?_
                  refine lv_aload hx hb dL_isTold_83 (lv_at hl 8 rfl) ?_
                  refine lv_iload hx hb dL_isTold_85 (lv_at hl 11 rfl) ?_
                  refine lv_iconst (v := 1) hx hb dL_isTold_87 (by decide) ?_
                  have hPc := hP.sub (ws' := [(q 0, .inl (cA, 40, .inl (h 0))), (q 2, .inl (cA, 9, .inl (h 2))), (q 5, .inl (cA, 6, .inl (h 5)))]) [0, 2, 5] rfl
                  refine vp_callSi (W.runS (As := [.ref (q 0), .ref (q 2), .ref (q 5), .int (nI 0), .int 1]) (rest := [.int y_60]) ⟨hx, hb, hml, hown, hts⟩ (c_L_ofRange l D cA cZ cL (q 0) (h 0) (q 2) (h 2) (q 5) (h 5) n hn hn4 1 (by decide)) (va_cwS 5 hts gL_isTold_L_ofRange rfl rfl rfl (by decide +kernel) ⟨Nat.le_of_ble_eq_true rfl, Nat.le_of_ble_eq_true rfl⟩) ⟨qPre_blind, qPre_at hPc hK⟩ rfl rfl hl.1 rfl (lv_room (Nat.le_of_ble_eq_true rfl)) dL_isTold_88 ⟨by show 5 * sh + 0 ≤ 60; omega, by show 6 * (5 * sh) + 0 ≤ 360; omega⟩) (fun z_88 hz_88 => ?_)
                  refine lv_goto (tgt := 95) hx hb dL_isTold_91 (by decide) ?_
                  refine lv_iadd hx hb dL_isTold_95 ?_
                  refine lv_topi (fun y_95 _ => ?_)
                  refine lv_istore (lv' := [(9, .int y_95), (0, .ref (ad 16)), (1, .int y), (2, .ref (q 0)), (3, .ref (q 1)), (4, .ref (q 2)), (5, .ref (q 3)), (6, .ref (q 4)), (7, .ref (q 5)), (8, .int (nI sh)), (10, .int 0), (11, .int (nI 0))]) hx hb dL_isTold_96 hl (by decide) rfl (fun ls hl => ?_)
                  refine lv_iinc (v := nI (0 + 1)) (lv' := [(11, .int (nI (0 + 1))), (9, .int y_95), (0, .ref (ad 16)), (1, .int y), (2, .ref (q 0)), (3, .ref (q 1)), (4, .ref (q 2)), (5, .ref (q 3)), (6, .ref (q 4)), (7, .ref (q 5)), (8, .int (nI sh)), (10, .int 0)]) hx hb dL_isTold_98 hl (k := 11) rfl (nI_1 (0)) (by decide) rfl (fun ls hl => ?_)
                  refine lv_goto (tgt := 18) hx hb dL_isTold_101 (by decide) ?_
                  refine W.widen (k := 5 * sh) (n := 6 * (5 * sh)) (by omega) (by omega) ?_
                  exact ih_18 _ (by omega) 1 y_95 rfl (by omega) _ _ hP hS (Nat.le_trans (by omega) hg0) _ (lv_sub hl [2, 3, 4, 5, 6, 7, 8, 9, 10, 1, 11, 0] rfl)
        refine W.widen (k := 5 * sh) (n := 6 * (5 * sh)) (by omega) (by omega) ?_
        exact hloop_18 _ 0 0 rfl (Nat.zero_le _) _ _ hP hS hg0 _ (lv_sub hl [3, 4, 5, 6, 7, 8, 9, 10, 11, 2, 1, 0] rfl)
  refine W.widen (k := 5 * 0) (n := 6 * (5 * 0)) (by omega) (by omega) ?_
  exact hloop_3 _ 0 rfl (Nat.zero_le _) _ _ hP hS hg0 _ (lv_sub hl [1, 2, 3, 4, 5, 6, 7, 8, 0] rfl)
