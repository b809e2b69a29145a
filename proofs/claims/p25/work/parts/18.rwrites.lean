theorem n_ne40 {n : Nat} (h : n ≤ 40) (c : ¬ nI n = 40) : n < 40 := by
  rcases Nat.lt_or_ge n 40 with q9 | q9
  · exact q9
  · exact absurd (by rw [show n = 40 by omega]; rfl) c
set_option maxHeartbeats 4000000 in
set_option maxRecDepth 100000 in
/-- a turn of writes on the script of zeros: four calls of it are refused -/
theorem c_L_writes (l : Launch) (hl0 : l.stackTraces = false) (D : va_G) (cA cZ cL : ClassId) (ad q : Nat → Nat) (f : qFs) (g : qGs) (h : Nat → Nat → Int32) (z0 sz : Nat) (hR : RInv f h) : Met l yL_writes wsL_writes ({ frames := 9, cells := 10, slots := 60, locals := 156 } : Room) (va_Pc [.ref (ad 16), .int 0, .int 0, .int 0, .ref (q 0), .ref (q 5)] (qPreZ z0 D (qTy cA cZ cL) (LW cA ad q f g h) sz)) (va_Qi (fun (z : Int32) (u : ((qFs × qGs) × (Nat → Nat → Int32)) × Nat) => RInv u.1.1.1 u.1.2 ∧ (z = 0 ∨ sz + 4 ≤ u.2)) (qAtN D (fun q : Nat => z0 ≤ q) (fun u : (qFs × qGs) × (Nat → Nat → Int32) => LW cA ad q u.1.1 u.1.2 u.2)) (fun q : Nat => z0 ≤ q)) 10 60 (fun q : Nat => z0 ≤ q) := by
  refine Met.ofW (cc := cL_writes) (maxL := 11) (ret := (some .boolean)) (by decide) rfl ?_
  intro p e s m args below meth c s₁ B hml hv
  obtain ⟨rfl, hsz, hz0, hP, hK, hD, hTZ⟩ := hv
  have hx := B.exec
  have hb := B.bytes
  have hr := B.returns
  have hts := atoms_spec (ws := wsL_writes) B.pre
  have hown : s.vm.findClass RL = some m.cls := findClass_of_methodNamed B.named
  have hlocks := B.notSynchronized
  subst hsz
  have hA : ∀ q : Nat, s.heap.size ≤ q → (fun q : Nat => z0 ≤ q) q := fun q h => Nat.le_trans hz0 h
  have hS : va_S (fun q : Nat => z0 ≤ q) s.heap s.heap [] := va_S.rf
  have hg0 : s.heap.size + 0 ≤ s.heap.size := Nat.le_refl _
  have hl := lv_entry ([.ref (ad 16), .int 0, .int 0, .int 0, .ref (q 0), .ref (q 5)]) (n := 11) (Nat.le_of_ble_eq_true rfl)
  rw [lg_entry_eq]
  generalize (lg_sl ([.ref (ad 16), .int 0, .int 0, .int 0, .ref (q 0), .ref (q 5)]) ++ List.replicate (11 - (lg_sl ([.ref (ad 16), .int 0, .int 0, .int 0, .ref (q 0), .ref (q 5)])).length) Slot.unset).toArray = ls at hl ⊢
  have hl : lv_has ls 11 [(0, .ref (ad 16)), (1, .int 0), (2, .int 0), (3, .int 0), (4, .ref (q 0)), (5, .ref (q 5))] := hl
  obtain ⟨hI, h99, hm1, hm4, hm5, n, hn4, hn⟩ := hR
  refine W.widen (k := 0) (n := 6 * 0) (by omega) (by omega) ?_
  refine lv_iload_n hx hb dL_writes_0 rfl (lv_at hl 2 rfl) ?_
  refine lv_bipush (v := 96) hx hb dL_writes_1 (by decide) ?_
  refine lv_iand hx hb dL_writes_3 ?_
  refine lv_topi (fun v_3 hv_3 => ?_)
  have hv_3 : v_3 = 0 := hv_3.trans (by decide)
  subst hv_3
  refine lv_if_eq (tgt := 14) hx hb dL_writes_4 (by decide) (fun c_4 => ?_) (fun c_4 => ?_)
  · skip
    refine lv_iload_n hx hb dL_writes_14 rfl (lv_at hl 2 rfl) ?_
    refine lv_bipush (v := 7) hx hb dL_writes_15 (by decide) ?_
    refine lv_ishr hx hb dL_writes_17 ?_
    refine lv_topi (fun y_17 _ => ?_)
    refine lv_bipush (v := 100) hx hb dL_writes_18 (by decide) ?_
    have hPc : va_P D vwCl [] _ := hP.sub (ws' := []) [] rfl
    refine vp_callSi (W.runS (As := [.int y_17, .int 100]) (rest := []) ⟨hx, hb, hml, hown, hts⟩ (c_L_low l D cA cZ cL  y_17 100 (by decide) (by decide)) (va_cwS 2 hts gL_writes_L_low rfl rfl rfl (by decide +kernel) ⟨Nat.le_of_ble_eq_true rfl, Nat.le_of_ble_eq_true rfl⟩) ⟨qPre_blind, qPre_at hPc hK⟩ rfl rfl hl.1 rfl (lv_room (Nat.le_of_ble_eq_true rfl)) dL_writes_20 ⟨by show 0 + 0 ≤ 10; omega, by show 6 * (0) + 0 ≤ 60; omega⟩) (fun z_20 hz_20 => ?_)
    obtain ⟨⟨kk, hkk, hz9⟩, -⟩ := hz_20
    subst hz9
    refine lv_goto (tgt := 50) hx hb dL_writes_23 (by decide) ?_
    refine lv_istore (lv' := [(6, .int (nI kk)), (0, .ref (ad 16)), (1, .int 0), (2, .int 0), (3, .int 0), (4, .ref (q 0)), (5, .ref (q 5))]) hx hb dL_writes_50 hl (by decide) rfl (fun ls hl => ?_)
    refine lv_iload hx hb dL_writes_52 (lv_at hl 0 rfl) ?_
    refine lv_bipush (v := 99) hx hb dL_writes_54 (by decide) ?_
    refine lv_icmp_le (tgt := 64) hx hb dL_writes_56 (by decide) (fun c_56 => ?_) (fun c_56 => ?_)
    · skip
      refine lv_iload hx hb dL_writes_64 (lv_at hl 0 rfl) ?_
      refine lv_istore (lv' := [(6, .int (nI kk)), (0, .ref (ad 16)), (1, .int 0), (2, .int 0), (3, .int 0), (4, .ref (q 0)), (5, .ref (q 5))]) hx hb dL_writes_66 hl (by decide) rfl (fun ls hl => ?_)
      refine lv_iload_n hx hb dL_writes_68 rfl (lv_at hl 4 rfl) ?_
      refine lv_bipush (v := 40) hx hb dL_writes_69 (by decide) ?_
      have hPc : va_P D vwCl [] _ := hP.sub (ws' := []) [] rfl
      refine vp_callSi (W.runS (As := [.int 0, .int 40]) (rest := []) ⟨hx, hb, hml, hown, hts⟩ (c_L_low l D cA cZ cL  0 40 (by decide) (by decide)) (va_cwS 2 hts gL_writes_L_low rfl rfl rfl (by decide +kernel) ⟨Nat.le_of_ble_eq_true rfl, Nat.le_of_ble_eq_true rfl⟩) ⟨qPre_blind, qPre_at hPc hK⟩ rfl rfl hl.1 rfl (lv_room (Nat.le_of_ble_eq_true rfl)) dL_writes_71 ⟨by show 0 + 0 ≤ 10; omega, by show 6 * (0) + 0 ≤ 60; omega⟩) (fun z_71 hz_71 => ?_)
      obtain ⟨⟨aa, haa, hz8⟩, -⟩ := hz_71
      subst hz8
      refine lv_istore (lv' := [(7, .int (nI aa)), (6, .int (nI kk)), (0, .ref (ad 16)), (1, .int 0), (2, .int 0), (3, .int 0), (4, .ref (q 0)), (5, .ref (q 5))]) hx hb dL_writes_74 hl (by decide) rfl (fun ls hl => ?_)
      refine lv_aload hx hb dL_writes_76 (lv_at hl 6 rfl) ?_
      refine lv_aload hx hb dL_writes_78 (lv_at hl 7 rfl) ?_
      refine lv_iload hx hb dL_writes_80 (lv_at hl 1 rfl) ?_
      have hPc := hP.sub (ws' := [(q 0, .inl (cA, 40, .inl (h 0))), (q 5, .inl (cA, 6, .inl (h 5)))]) [0, 5] rfl
      refine vp_callSi (W.runS (As := [.ref (q 0), .ref (q 5), .int (nI kk)]) (rest := []) ⟨hx, hb, hml, hown, hts⟩ (c_L_member l D cA cZ cL (q 0) (h 0) (q 5) (h 5) n hn hn4 (nI kk)) (va_cwS 3 hts gL_writes_L_member rfl rfl rfl (by decide +kernel) ⟨Nat.le_of_ble_eq_true rfl, Nat.le_of_ble_eq_true rfl⟩) ⟨qPre_blind, qPre_at hPc hK⟩ rfl rfl hl.1 rfl (lv_room (Nat.le_of_ble_eq_true rfl)) dL_writes_82 ⟨by show 0 + 0 ≤ 10; omega, by show 6 * (0) + 0 ≤ 60; omega⟩) (fun z_82 hz_82 => ?_)
      refine lv_istore (lv' := [(8, .int z_82), (7, .int (nI aa)), (6, .int (nI kk)), (0, .ref (ad 16)), (1, .int 0), (2, .int 0), (3, .int 0), (4, .ref (q 0)), (5, .ref (q 5))]) hx hb dL_writes_85 hl (by decide) rfl (fun ls hl => ?_)
      refine lv_iload_n hx hb dL_writes_87 rfl (lv_at hl 4 rfl) ?_
      refine lv_iconst (v := 4) hx hb dL_writes_88 (by decide) ?_
      refine lv_icmp_ge (tgt := 230) hx hb dL_writes_89 (by decide) (fun c_89 => ?_) (fun c_89 => ?_)
      · skip
        exact absurd c_89 (by decide)
      · skip
        refine lv_aload_n hx hb dL_writes_92 rfl (lv_at hl 3 rfl) ?_
        refine lv_bipush (v := 100) hx hb dL_writes_93 (by decide) ?_
        refine lv_bipush (v := 40) hx hb dL_writes_95 (by decide) ?_
        have hPc := hP.sub (ws' := xW cA ad f g) [6, 7, 8, 9, 10, 11, 12, 13, 14, 15, 16, 17] rfl
        have hDc := hD.sub (ws' := xW cA ad f g) [6, 7, 8, 9, 10, 11, 12, 13, 14, 15, 16, 17] (by decide) rfl
        refine qb_calliPN (wc := xW cA ad f g) (wr := rW cA q h) [6, 7, 8, 9, 10, 11, 12, 13, 14, 15, 16, 17] [0, 1, 2, 3, 4, 5] rfl rfl (by decide) (by decide) hP (vx_runSW (As := [.ref (ad 16), .int 100, .int 40]) (rest := []) ⟨hx, hb, hml, hown, hts⟩ (c_L_join l hl0 D cA cZ cL ad f g s.heap.size 100 40 1 0 hI) (vx_cwSW 3 hts gL_writes_L_join rfl rfl rfl (by decide +kernel) ⟨Nat.le_of_ble_eq_true rfl, Nat.le_of_ble_eq_true rfl⟩) ⟨qPreL_blind, qPreL_at hPc hK hDc (fun U hU hW => qTZ_th (qTZ_at hTZ hS (fun _ h => h) U hU hW))⟩ rfl rfl hl.1 rfl (lv_room (Nat.le_of_ble_eq_true rfl)) dL_writes_97 ⟨by show 0 + 1 ≤ 10; omega, by show 6 * (0) + 6 ≤ 60; omega⟩) hD hS hA (fun z_97 u_97 H1 locs hu_97 hmo hP hD hS => ?_)
        obtain ⟨⟨hq5, hq15⟩, hbad⟩ := hu_97
        obtain ⟨uf_97, ug_97⟩ := u_97
        have hq5 : uf_97 5 = f 5 := hq5
        have hq15 : uf_97 15 = f 15 := hq15
        have hI : xI 1 0 uf_97 := ⟨hq5.trans hI.1, hI.2.1, hI.2.2.1, hq15.trans hI.2.2.2.1, hI.2.2.2.2⟩
        have hg1 : s.heap.size + 1 ≤ H1.size := by have h7 := hbad (by decide); have h7 : _ + 1 ≤ H1.size := h7; have h8 := hg0; omega
        have hP : va_P D vwCl (LW cA ad q uf_97 ug_97 h) H1 := hP
        have hD : va_D (fun q : Nat => z0 ≤ q) (LW cA ad q uf_97 ug_97 h) := hD
        clear hDc
        clear hPc
        refine W.widen (k := 1) (n := 6 * (1)) (by omega) (by omega) ?_
        refine lv_sipush (v := (-7100)) hx hb dL_writes_100 (by decide) ?_
        refine lv_icmp_ne (tgt := 145) hx hb dL_writes_103 (by decide) (fun c_103 => ?_) (fun c_103 => ?_)
        · skip
          refine lv_iconst (v := 0) hx hb dL_writes_145 (by decide) ?_
          refine W.widen (k := 10) (n := 60) (by omega) (by omega) ?_
          exact W.zret (v := 0) hx hb hr rfl (fun t ht hW => ⟨⟨0, (((uf_97, ug_97), h), t.heap.size), rfl, by show _ ∧ _; rw [ht]; exact ⟨⟨hI, h99, hm1, hm4, hm5, n, hn4, hn⟩, Or.inl rfl⟩, ⟨⟨by rw [ht]; exact hP, hD⟩, rfl⟩⟩, hS.F ht⟩) hS.2.2 dL_writes_146
        · skip
          refine lv_aload_n hx hb dL_writes_106 rfl (lv_at hl 3 rfl) ?_
          refine lv_iconst (v := (-1)) hx hb dL_writes_107 (by decide) ?_
          refine lv_iconst (v := 0) hx hb dL_writes_108 (by decide) ?_
          have hPc := hP.sub (ws' := xW cA ad uf_97 ug_97) [6, 7, 8, 9, 10, 11, 12, 13, 14, 15, 16, 17] rfl
          have hDc := hD.sub (ws' := xW cA ad uf_97 ug_97) [6, 7, 8, 9, 10, 11, 12, 13, 14, 15, 16, 17] (by decide) rfl
          refine qb_calliPN (wc := xW cA ad uf_97 ug_97) (wr := rW cA q h) [6, 7, 8, 9, 10, 11, 12, 13, 14, 15, 16, 17] [0, 1, 2, 3, 4, 5] rfl rfl (by decide) (by decide) hP (vx_runSW (As := [.ref (ad 16), .int (-1), .int 0]) (rest := []) ⟨hx, hb, hml, hown, hts⟩ (c_L_join l hl0 D cA cZ cL ad uf_97 ug_97 H1.size (-1) 0 1 0 hI) (vx_cwSW 3 hts gL_writes_L_join rfl rfl rfl (by decide +kernel) ⟨Nat.le_of_ble_eq_true rfl, Nat.le_of_ble_eq_true rfl⟩) ⟨qPreL_blind, qPreL_at hPc hK hDc (fun U hU hW => qTZ_th (qTZ_at hTZ hS (fun _ h => h) U hU hW))⟩ rfl rfl hl.1 rfl (lv_room (Nat.le_of_ble_eq_true rfl)) dL_writes_109 ⟨by show 1 + 1 ≤ 10; omega, by show 6 * (1) + 6 ≤ 60; omega⟩) hD hS hA (fun z_109 u_109 H1 locs hu_109 hmo hP hD hS => ?_)
          obtain ⟨⟨hq5, hq15⟩, hbad⟩ := hu_109
          obtain ⟨uf_109, ug_109⟩ := u_109
          have hq5 : uf_109 5 = uf_97 5 := hq5
          have hq15 : uf_109 15 = uf_97 15 := hq15
          have hI : xI 1 0 uf_109 := ⟨hq5.trans hI.1, hI.2.1, hI.2.2.1, hq15.trans hI.2.2.2.1, hI.2.2.2.2⟩
          have hg2 : s.heap.size + 2 ≤ H1.size := by have h7 := hbad (by decide); have h7 : _ + 1 ≤ H1.size := h7; have h8 := hg1; omega
          have hP : va_P D vwCl (LW cA ad q uf_109 ug_109 h) H1 := hP
          have hD : va_D (fun q : Nat => z0 ≤ q) (LW cA ad q uf_109 ug_109 h) := hD
          clear hDc
          clear hPc
          refine W.widen (k := 2) (n := 6 * (2)) (by omega) (by omega) ?_
          refine lv_sipush (v := (-7100)) hx hb dL_writes_112 (by decide) ?_
          refine lv_icmp_ne (tgt := 145) hx hb dL_writes_115 (by decide) (fun c_115 => ?_) (fun c_115 => ?_)
          · skip
            refine lv_iconst (v := 0) hx hb dL_writes_145 (by decide) ?_
            refine W.widen (k := 10) (n := 60) (by omega) (by omega) ?_
            exact W.zret (v := 0) hx hb hr rfl (fun t ht hW => ⟨⟨0, (((uf_109, ug_109), h), t.heap.size), rfl, by show _ ∧ _; rw [ht]; exact ⟨⟨hI, h99, hm1, hm4, hm5, n, hn4, hn⟩, Or.inl rfl⟩, ⟨⟨by rw [ht]; exact hP, hD⟩, rfl⟩⟩, hS.F ht⟩) hS.2.2 dL_writes_146
          · skip
            refine lv_aload_n hx hb dL_writes_118 rfl (lv_at hl 3 rfl) ?_
            refine lv_iload hx hb dL_writes_119 (lv_at hl 2 rfl) ?_
            refine lv_bipush (v := 40) hx hb dL_writes_121 (by decide) ?_
            have hPc := hP.sub (ws' := xW cA ad uf_109 ug_109) [6, 7, 8, 9, 10, 11, 12, 13, 14, 15, 16, 17] rfl
            have hDc := hD.sub (ws' := xW cA ad uf_109 ug_109) [6, 7, 8, 9, 10, 11, 12, 13, 14, 15, 16, 17] (by decide) rfl
            refine qb_calliPN (wc := xW cA ad uf_109 ug_109) (wr := rW cA q h) [6, 7, 8, 9, 10, 11, 12, 13, 14, 15, 16, 17] [0, 1, 2, 3, 4, 5] rfl rfl (by decide) (by decide) hP (vx_runSW (As := [.ref (ad 16), .int (nI kk), .int 40]) (rest := []) ⟨hx, hb, hml, hown, hts⟩ (c_L_join l hl0 D cA cZ cL ad uf_109 ug_109 H1.size (nI kk) 40 1 0 hI) (vx_cwSW 3 hts gL_writes_L_join rfl rfl rfl (by decide +kernel) ⟨Nat.le_of_ble_eq_true rfl, Nat.le_of_ble_eq_true rfl⟩) ⟨qPreL_blind, qPreL_at hPc hK hDc (fun U hU hW => qTZ_th (qTZ_at hTZ hS (fun _ h => h) U hU hW))⟩ rfl rfl hl.1 rfl (lv_room (Nat.le_of_ble_eq_true rfl)) dL_writes_123 ⟨by show 2 + 1 ≤ 10; omega, by show 6 * (2) + 6 ≤ 60; omega⟩) hD hS hA (fun z_123 u_123 H1 locs hu_123 hmo hP hD hS => ?_)
            obtain ⟨⟨hq5, hq15⟩, hbad⟩ := hu_123
            obtain ⟨uf_123, ug_123⟩ := u_123
            have hq5 : uf_123 5 = uf_109 5 := hq5
            have hq15 : uf_123 15 = uf_109 15 := hq15
            have hI : xI 1 0 uf_123 := ⟨hq5.trans hI.1, hI.2.1, hI.2.2.1, hq15.trans hI.2.2.2.1, hI.2.2.2.2⟩
            have hg3 : s.heap.size + 3 ≤ H1.size := by have h7 := hbad ((fun q => absurd q.2 (by decide))); have h7 : _ + 1 ≤ H1.size := h7; have h8 := hg2; omega
            have hP : va_P D vwCl (LW cA ad q uf_123 ug_123 h) H1 := hP
            have hD : va_D (fun q : Nat => z0 ≤ q) (LW cA ad q uf_123 ug_123 h) := hD
            clear hDc
            clear hPc
            refine W.widen (k := 3) (n := 6 * (3)) (by omega) (by omega) ?_
            refine lv_sipush (v := (-7200)) hx hb dL_writes_126 (by decide) ?_
            refine lv_icmp_ne (tgt := 145) hx hb dL_writes_129 (by decide) (fun c_129 => ?_) (fun c_129 => ?_)
            · skip
              refine lv_iconst (v := 0) hx hb dL_writes_145 (by decide) ?_
              refine W.widen (k := 10) (n := 60) (by omega) (by omega) ?_
              exact W.zret (v := 0) hx hb hr rfl (fun t ht hW => ⟨⟨0, (((uf_123, ug_123), h), t.heap.size), rfl, by show _ ∧ _; rw [ht]; exact ⟨⟨hI, h99, hm1, hm4, hm5, n, hn4, hn⟩, Or.inl rfl⟩, ⟨⟨by rw [ht]; exact hP, hD⟩, rfl⟩⟩, hS.F ht⟩) hS.2.2 dL_writes_146
            · skip
              refine lv_aload_n hx hb dL_writes_132 rfl (lv_at hl 3 rfl) ?_
              refine lv_iload hx hb dL_writes_133 (lv_at hl 2 rfl) ?_
              refine lv_iconst (v := (-1)) hx hb dL_writes_135 (by decide) ?_
              have hPc := hP.sub (ws' := xW cA ad uf_123 ug_123) [6, 7, 8, 9, 10, 11, 12, 13, 14, 15, 16, 17] rfl
              have hDc := hD.sub (ws' := xW cA ad uf_123 ug_123) [6, 7, 8, 9, 10, 11, 12, 13, 14, 15, 16, 17] (by decide) rfl
              refine qb_calliPN (wc := xW cA ad uf_123 ug_123) (wr := rW cA q h) [6, 7, 8, 9, 10, 11, 12, 13, 14, 15, 16, 17] [0, 1, 2, 3, 4, 5] rfl rfl (by decide) (by decide) hP (vx_runSW (As := [.ref (ad 16), .int (nI kk), .int (-1)]) (rest := []) ⟨hx, hb, hml, hown, hts⟩ (c_L_join l hl0 D cA cZ cL ad uf_123 ug_123 H1.size (nI kk) (-1) 1 0 hI) (vx_cwSW 3 hts gL_writes_L_join rfl rfl rfl (by decide +kernel) ⟨Nat.le_of_ble_eq_true rfl, Nat.le_of_ble_eq_true rfl⟩) ⟨qPreL_blind, qPreL_at hPc hK hDc (fun U hU hW => qTZ_th (qTZ_at hTZ hS (fun _ h => h) U hU hW))⟩ rfl rfl hl.1 rfl (lv_room (Nat.le_of_ble_eq_true rfl)) dL_writes_136 ⟨by show 3 + 1 ≤ 10; omega, by show 6 * (3) + 6 ≤ 60; omega⟩) hD hS hA (fun z_136 u_136 H1 locs hu_136 hmo hP hD hS => ?_)
              obtain ⟨⟨hq5, hq15⟩, hbad⟩ := hu_136
              obtain ⟨uf_136, ug_136⟩ := u_136
              have hq5 : uf_136 5 = uf_123 5 := hq5
              have hq15 : uf_136 15 = uf_123 15 := hq15
              have hI : xI 1 0 uf_136 := ⟨hq5.trans hI.1, hI.2.1, hI.2.2.1, hq15.trans hI.2.2.2.1, hI.2.2.2.2⟩
              have hg4 : s.heap.size + 4 ≤ H1.size := by have h7 := hbad ((fun q => absurd q.2 (by decide))); have h7 : _ + 1 ≤ H1.size := h7; have h8 := hg3; omega
              have hP : va_P D vwCl (LW cA ad q uf_136 ug_136 h) H1 := hP
              have hD : va_D (fun q : Nat => z0 ≤ q) (LW cA ad q uf_136 ug_136 h) := hD
              clear hDc
              clear hPc
              refine W.widen (k := 4) (n := 6 * (4)) (by omega) (by omega) ?_
              refine lv_sipush (v := (-7200)) hx hb dL_writes_139 (by decide) ?_
              refine lv_icmp_eq (tgt := 147) hx hb dL_writes_142 (by decide) (fun c_142 => ?_) (fun c_142 => ?_)
              · skip
                refine lv_iload hx hb dL_writes_147 (lv_at hl 0 rfl) ?_
                refine lv_if_ge (tgt := 161) hx hb dL_writes_149 (by decide) (fun c_149 => ?_) (fun c_149 => ?_)
                · skip
                  refine lv_aload_n hx hb dL_writes_161 rfl (lv_at hl 3 rfl) ?_
                  refine lv_iload hx hb dL_writes_162 (lv_at hl 2 rfl) ?_
                  refine lv_iload hx hb dL_writes_164 (lv_at hl 1 rfl) ?_
                  have hPc := hP.sub (ws' := xW cA ad uf_136 ug_136) [6, 7, 8, 9, 10, 11, 12, 13, 14, 15, 16, 17] rfl
                  have hDc := hD.sub (ws' := xW cA ad uf_136 ug_136) [6, 7, 8, 9, 10, 11, 12, 13, 14, 15, 16, 17] (by decide) rfl
                  refine qb_calliPN (wc := xW cA ad uf_136 ug_136) (wr := rW cA q h) [6, 7, 8, 9, 10, 11, 12, 13, 14, 15, 16, 17] [0, 1, 2, 3, 4, 5] rfl rfl (by decide) (by decide) hP (vx_runSW (As := [.ref (ad 16), .int (nI kk), .int (nI aa)]) (rest := []) ⟨hx, hb, hml, hown, hts⟩ (c_L_join l hl0 D cA cZ cL ad uf_136 ug_136 H1.size (nI kk) (nI aa) 1 0 hI) (vx_cwSW 3 hts gL_writes_L_join rfl rfl rfl (by decide +kernel) ⟨Nat.le_of_ble_eq_true rfl, Nat.le_of_ble_eq_true rfl⟩) ⟨qPreL_blind, qPreL_at hPc hK hDc (fun U hU hW => qTZ_th (qTZ_at hTZ hS (fun _ h => h) U hU hW))⟩ rfl rfl hl.1 rfl (lv_room (Nat.le_of_ble_eq_true rfl)) dL_writes_166 ⟨by show 4 + 1 ≤ 10; omega, by show 6 * (4) + 6 ≤ 60; omega⟩) hD hS hA (fun z_166 u_166 H1 locs hu_166 hmo hP hD hS => ?_)
                  obtain ⟨⟨hq5, hq15⟩, hbad⟩ := hu_166
                  obtain ⟨uf_166, ug_166⟩ := u_166
                  have hq5 : uf_166 5 = uf_136 5 := hq5
                  have hq15 : uf_166 15 = uf_136 15 := hq15
                  have hI : xI 1 0 uf_166 := ⟨hq5.trans hI.1, hI.2.1, hI.2.2.1, hq15.trans hI.2.2.2.1, hI.2.2.2.2⟩
                  have hg4 : s.heap.size + 4 ≤ H1.size := Nat.le_trans hg4 hmo
                  have hP : va_P D vwCl (LW cA ad q uf_166 ug_166 h) H1 := hP
                  have hD : va_D (fun q : Nat => z0 ≤ q) (LW cA ad q uf_166 ug_166 h) := hD
                  clear hDc
                  clear hPc
                  refine W.widen (k := 5) (n := 6 * (5)) (by omega) (by omega) ?_
                  refine lv_sipush (v := (-7300)) hx hb dL_writes_169 (by decide) ?_
                  refine lv_icmp_ne (tgt := 179) hx hb dL_writes_172 (by decide) (fun c_172 => ?_) (fun c_172 => ?_)
                  · skip
                    refine lv_iconst (v := 0) hx hb dL_writes_179 (by decide) ?_
                    refine W.widen (k := 10) (n := 60) (by omega) (by omega) ?_
                    exact W.zret (v := 0) hx hb hr rfl (fun t ht hW => ⟨⟨0, (((uf_166, ug_166), h), t.heap.size), rfl, by show _ ∧ _; rw [ht]; exact ⟨⟨hI, h99, hm1, hm4, hm5, n, hn4, hn⟩, Or.inl rfl⟩, ⟨⟨by rw [ht]; exact hP, hD⟩, rfl⟩⟩, hS.F ht⟩) hS.2.2 dL_writes_180
                  · skip
                    refine lv_iconst (v := 1) hx hb dL_writes_175 (by decide) ?_
                    refine lv_goto (tgt := 180) hx hb dL_writes_176 (by decide) ?_
                    refine W.widen (k := 10) (n := 60) (by omega) (by omega) ?_
                    exact W.zret (v := 1) hx hb hr rfl (fun t ht hW => ⟨⟨1, (((uf_166, ug_166), h), t.heap.size), rfl, by show _ ∧ _; rw [ht]; exact ⟨⟨hI, h99, hm1, hm4, hm5, n, hn4, hn⟩, Or.inr hg4⟩, ⟨⟨by rw [ht]; exact hP, hD⟩, rfl⟩⟩, hS.F ht⟩) hS.2.2 dL_writes_180
                · skip
                  refine lv_aload hx hb dL_writes_152 (lv_at hl 8 rfl) ?_
                  refine lv_iconst (v := 0) hx hb dL_writes_154 (by decide) ?_
                  refine va_iald hx hb hK hP 5 0 rfl rfl (by unfold vp_in; decide) dL_writes_155 ?_
                  refine lv_topi (fun v_155 hv_155 => ?_)
                  have hv_155 : v_155 = nI n := hv_155.trans (by rw [cl0]; exact hn)
                  subst hv_155
                  refine lv_bipush (v := 40) hx hb dL_writes_156 (by decide) ?_
                  refine lv_icmp_ne (tgt := 181) hx hb dL_writes_158 (by decide) (fun c_158 => ?_) (fun c_158 => ?_)
                  · skip
                    have hlt : n < 40 := n_ne40 hn4 c_158
                    refine lv_aload hx hb dL_writes_181 (lv_at hl 7 rfl) ?_
                    refine lv_aload hx hb dL_writes_183 (lv_at hl 8 rfl) ?_
                    refine lv_iconst (v := 0) hx hb dL_writes_185 (by decide) ?_
                    refine va_iald hx hb hK hP 5 0 rfl rfl (by unfold vp_in; decide) dL_writes_186 ?_
                    refine lv_topi (fun v_186 hv_186 => ?_)
                    have hv_186 : v_186 = nI n := hv_186.trans (by rw [cl0]; exact hn)
                    subst hv_186
                    refine lv_iload hx hb dL_writes_187 (lv_at hl 2 rfl) ?_
                    refine lv_sipush (v := 128) hx hb dL_writes_189 (by decide) ?_
                    refine lv_iload hx hb dL_writes_192 (lv_at hl 1 rfl) ?_
                    refine lv_imul hx hb dL_writes_194 ?_
                    refine lv_topi (fun y_194 _ => ?_)
                    refine lv_iadd hx hb dL_writes_195 ?_
                    refine lv_topi (fun y_195 _ => ?_)
                    refine lv_sipush (v := 8192) hx hb dL_writes_196 (by decide) ?_
                    refine lv_iadd hx hb dL_writes_199 ?_
                    refine lv_topi (fun y_199 _ => ?_)
                    refine rb_iast hx hb hK hP hD hS 0 0 rfl rfl (vp_in_nI hlt (by decide)) dL_writes_200 (fun H1 locs hzz hP hD hS => ?_)
                    have hix : (nI n).toNatClampNeg = n := nI_clamp (by omega)
                    rw [hix] at hP hD
                    have hP : va_P D vwCl (LW cA ad q uf_136 ug_136 (va_up h 0 (upd (h 0) n y_199))) H1 := hP
                    have hD : va_D (fun q : Nat => z0 ≤ q) (LW cA ad q uf_136 ug_136 (va_up h 0 (upd (h 0) n y_199))) := hD
                    have hg4 : s.heap.size + 4 ≤ H1.size := by rw [hzz]; exact hg4
                    refine lv_aload hx hb dL_writes_201 (lv_at hl 8 rfl) ?_
                    refine lv_iconst (v := 0) hx hb dL_writes_203 (by decide) ?_
                    refine lv_dup2_11 hx hb dL_writes_204 rfl rfl ?_
                    refine va_iald hx hb hK hP 5 0 rfl rfl (by unfold vp_in; decide) dL_writes_205 ?_
                    refine lv_topi (fun v_205 hv_205 => ?_)
                    have hv_205 : v_205 = nI n := hv_205.trans (by rw [cl0]; exact hn)
                    subst hv_205
                    refine lv_iconst (v := 1) hx hb dL_writes_206 (by decide) ?_
                    refine lv_iadd hx hb dL_writes_207 ?_
                    refine lv_topi (fun v_207 hv_207 => ?_)
                    have hv_207 : v_207 = nI (n + 1) := hv_207.trans (nI_1 n)
                    subst hv_207
                    refine rb_iast hx hb hK hP hD hS 5 0 rfl rfl (by unfold vp_in; decide) dL_writes_208 (fun H1 locs hzz hP hD hS => ?_)
                    have hix : (0 : Int32).toNatClampNeg = 0 := cl0
                    rw [hix] at hP hD
                    have hP : va_P D vwCl (LW cA ad q uf_136 ug_136 (va_up (va_up h 0 (upd (h 0) n y_199)) 5 (upd ((va_up h 0 (upd (h 0) n y_199)) 5) 0 (nI (n + 1))))) H1 := hP
                    have hD : va_D (fun q : Nat => z0 ≤ q) (LW cA ad q uf_136 ug_136 (va_up (va_up h 0 (upd (h 0) n y_199)) 5 (upd ((va_up h 0 (upd (h 0) n y_199)) 5) 0 (nI (n + 1))))) := hD
                    have hg4 : s.heap.size + 4 ≤ H1.size := by rw [hzz]; exact hg4
                    refine lv_aload_n hx hb dL_writes_209 rfl (lv_at hl 3 rfl) ?_
                    refine lv_iload hx hb dL_writes_210 (lv_at hl 2 rfl) ?_
                    refine lv_iload hx hb dL_writes_212 (lv_at hl 1 rfl) ?_
                    have hPc := hP.sub (ws' := xW cA ad uf_136 ug_136) [6, 7, 8, 9, 10, 11, 12, 13, 14, 15, 16, 17] rfl
                    have hDc := hD.sub (ws' := xW cA ad uf_136 ug_136) [6, 7, 8, 9, 10, 11, 12, 13, 14, 15, 16, 17] (by decide) rfl
                    refine qb_calliPN (wc := xW cA ad uf_136 ug_136) (wr := rW cA q (va_up (va_up h 0 (upd (h 0) n y_199)) 5 (upd ((va_up h 0 (upd (h 0) n y_199)) 5) 0 (nI (n + 1))))) [6, 7, 8, 9, 10, 11, 12, 13, 14, 15, 16, 17] [0, 1, 2, 3, 4, 5] rfl rfl (by decide) (by decide) hP (vx_runSW (As := [.ref (ad 16), .int (nI kk), .int (nI aa)]) (rest := []) ⟨hx, hb, hml, hown, hts⟩ (c_L_join l hl0 D cA cZ cL ad uf_136 ug_136 H1.size (nI kk) (nI aa) 1 0 hI) (vx_cwSW 3 hts gL_writes_L_join rfl rfl rfl (by decide +kernel) ⟨Nat.le_of_ble_eq_true rfl, Nat.le_of_ble_eq_true rfl⟩) ⟨qPreL_blind, qPreL_at hPc hK hDc (fun U hU hW => qTZ_th (qTZ_at hTZ hS (fun _ h => h) U hU hW))⟩ rfl rfl hl.1 rfl (lv_room (Nat.le_of_ble_eq_true rfl)) dL_writes_214 ⟨by show 4 + 1 ≤ 10; omega, by show 6 * (4) + 6 ≤ 60; omega⟩) hD hS hA (fun z_214 u_214 H1 locs hu_214 hmo hP hD hS => ?_)
                    obtain ⟨⟨hq5, hq15⟩, hbad⟩ := hu_214
                    obtain ⟨uf_214, ug_214⟩ := u_214
                    have hq5 : uf_214 5 = uf_136 5 := hq5
                    have hq15 : uf_214 15 = uf_136 15 := hq15
                    have hI : xI 1 0 uf_214 := ⟨hq5.trans hI.1, hI.2.1, hI.2.2.1, hq15.trans hI.2.2.2.1, hI.2.2.2.2⟩
                    have hg4 : s.heap.size + 4 ≤ H1.size := Nat.le_trans hg4 hmo
                    have hP : va_P D vwCl (LW cA ad q uf_214 ug_214 (va_up (va_up h 0 (upd (h 0) n y_199)) 5 (upd ((va_up h 0 (upd (h 0) n y_199)) 5) 0 (nI (n + 1))))) H1 := hP
                    have hD : va_D (fun q : Nat => z0 ≤ q) (LW cA ad q uf_214 ug_214 (va_up (va_up h 0 (upd (h 0) n y_199)) 5 (upd ((va_up h 0 (upd (h 0) n y_199)) 5) 0 (nI (n + 1))))) := hD
                    clear hDc
                    clear hPc
                    refine W.widen (k := 5) (n := 6 * (5)) (by omega) (by omega) ?_
                    refine lv_aload hx hb dL_writes_217 (lv_at hl 8 rfl) ?_
                    refine lv_iconst (v := 0) hx hb dL_writes_219 (by decide) ?_
                    refine va_iald hx hb hK hP 5 0 rfl rfl (by unfold vp_in; decide) dL_writes_220 ?_
                    refine lv_topi (fun y_220 _ => ?_)
                    refine lv_icmp_ne (tgt := 228) hx hb dL_writes_221 (by decide) (fun c_221 => ?_) (fun c_221 => ?_)
                    · skip
                      refine lv_iconst (v := 0) hx hb dL_writes_228 (by decide) ?_
                      refine W.widen (k := 10) (n := 60) (by omega) (by omega) ?_
                      exact W.zret (v := 0) hx hb hr rfl (fun t ht hW => ⟨⟨0, (((uf_214, ug_214), va_up (va_up h 0 (upd (h 0) n y_199)) 5 (upd ((va_up h 0 (upd (h 0) n y_199)) 5) 0 (nI (n + 1)))), t.heap.size), rfl, by show _ ∧ _; rw [ht]; exact ⟨⟨hI, h99, hm1, hm4, hm5, n + 1, hlt, rfl⟩, Or.inl rfl⟩, ⟨⟨by rw [ht]; exact hP, hD⟩, rfl⟩⟩, hS.F ht⟩) hS.2.2 dL_writes_229
                    · skip
                      refine lv_iconst (v := 1) hx hb dL_writes_224 (by decide) ?_
                      refine lv_goto (tgt := 229) hx hb dL_writes_225 (by decide) ?_
                      refine W.widen (k := 10) (n := 60) (by omega) (by omega) ?_
                      exact W.zret (v := 1) hx hb hr rfl (fun t ht hW => ⟨⟨1, (((uf_214, ug_214), va_up (va_up h 0 (upd (h 0) n y_199)) 5 (upd ((va_up h 0 (upd (h 0) n y_199)) 5) 0 (nI (n + 1)))), t.heap.size), rfl, by show _ ∧ _; rw [ht]; exact ⟨⟨hI, h99, hm1, hm4, hm5, n + 1, hlt, rfl⟩, Or.inr hg4⟩, ⟨⟨by rw [ht]; exact hP, hD⟩, rfl⟩⟩, hS.F ht⟩) hS.2.2 dL_writes_229
                  · skip
                    refine lv_aload_n hx hb dL_writes_161 rfl (lv_at hl 3 rfl) ?_
                    refine lv_iload hx hb dL_writes_162 (lv_at hl 2 rfl) ?_
                    refine lv_iload hx hb dL_writes_164 (lv_at hl 1 rfl) ?_
                    have hPc := hP.sub (ws' := xW cA ad uf_136 ug_136) [6, 7, 8, 9, 10, 11, 12, 13, 14, 15, 16, 17] rfl
                    have hDc := hD.sub (ws' := xW cA ad uf_136 ug_136) [6, 7, 8, 9, 10, 11, 12, 13, 14, 15, 16, 17] (by decide) rfl
                    refine qb_calliPN (wc := xW cA ad uf_136 ug_136) (wr := rW cA q h) [6, 7, 8, 9, 10, 11, 12, 13, 14, 15, 16, 17] [0, 1, 2, 3, 4, 5] rfl rfl (by decide) (by decide) hP (vx_runSW (As := [.ref (ad 16), .int (nI kk), .int (nI aa)]) (rest := []) ⟨hx, hb, hml, hown, hts⟩ (c_L_join l hl0 D cA cZ cL ad uf_136 ug_136 H1.size (nI kk) (nI aa) 1 0 hI) (vx_cwSW 3 hts gL_writes_L_join rfl rfl rfl (by decide +kernel) ⟨Nat.le_of_ble_eq_true rfl, Nat.le_of_ble_eq_true rfl⟩) ⟨qPreL_blind, qPreL_at hPc hK hDc (fun U hU hW => qTZ_th (qTZ_at hTZ hS (fun _ h => h) U hU hW))⟩ rfl rfl hl.1 rfl (lv_room (Nat.le_of_ble_eq_true rfl)) dL_writes_166 ⟨by show 4 + 1 ≤ 10; omega, by show 6 * (4) + 6 ≤ 60; omega⟩) hD hS hA (fun z_166 u_166 H1 locs hu_166 hmo hP hD hS => ?_)
                    obtain ⟨⟨hq5, hq15⟩, hbad⟩ := hu_166
                    obtain ⟨uf_166, ug_166⟩ := u_166
                    have hq5 : uf_166 5 = uf_136 5 := hq5
                    have hq15 : uf_166 15 = uf_136 15 := hq15
                    have hI : xI 1 0 uf_166 := ⟨hq5.trans hI.1, hI.2.1, hI.2.2.1, hq15.trans hI.2.2.2.1, hI.2.2.2.2⟩
                    have hg4 : s.heap.size + 4 ≤ H1.size := Nat.le_trans hg4 hmo
                    have hP : va_P D vwCl (LW cA ad q uf_166 ug_166 h) H1 := hP
                    have hD : va_D (fun q : Nat => z0 ≤ q) (LW cA ad q uf_166 ug_166 h) := hD
                    clear hDc
                    clear hPc
                    refine W.widen (k := 5) (n := 6 * (5)) (by omega) (by omega) ?_
                    refine lv_sipush (v := (-7300)) hx hb dL_writes_169 (by decide) ?_
                    refine lv_icmp_ne (tgt := 179) hx hb dL_writes_172 (by decide) (fun c_172 => ?_) (fun c_172 => ?_)
                    · skip
                      refine lv_iconst (v := 0) hx hb dL_writes_179 (by decide) ?_
                      refine W.widen (k := 10) (n := 60) (by omega) (by omega) ?_
                      exact W.zret (v := 0) hx hb hr rfl (fun t ht hW => ⟨⟨0, (((uf_166, ug_166), h), t.heap.size), rfl, by show _ ∧ _; rw [ht]; exact ⟨⟨hI, h99, hm1, hm4, hm5, n, hn4, hn⟩, Or.inl rfl⟩, ⟨⟨by rw [ht]; exact hP, hD⟩, rfl⟩⟩, hS.F ht⟩) hS.2.2 dL_writes_180
                    · skip
                      refine lv_iconst (v := 1) hx hb dL_writes_175 (by decide) ?_
                      refine lv_goto (tgt := 180) hx hb dL_writes_176 (by decide) ?_
                      refine W.widen (k := 10) (n := 60) (by omega) (by omega) ?_
                      exact W.zret (v := 1) hx hb hr rfl (fun t ht hW => ⟨⟨1, (((uf_166, ug_166), h), t.heap.size), rfl, by show _ ∧ _; rw [ht]; exact ⟨⟨hI, h99, hm1, hm4, hm5, n, hn4, hn⟩, Or.inr hg4⟩, ⟨⟨by rw [ht]; exact hP, hD⟩, rfl⟩⟩, hS.F ht⟩) hS.2.2 dL_writes_180
              · skip
                refine lv_iconst (v := 0) hx hb dL_writes_145 (by decide) ?_
                refine W.widen (k := 10) (n := 60) (by omega) (by omega) ?_
                exact W.zret (v := 0) hx hb hr rfl (fun t ht hW => ⟨⟨0, (((uf_136, ug_136), h), t.heap.size), rfl, by show _ ∧ _; rw [ht]; exact ⟨⟨hI, h99, hm1, hm4, hm5, n, hn4, hn⟩, Or.inl rfl⟩, ⟨⟨by rw [ht]; exact hP, hD⟩, rfl⟩⟩, hS.F ht⟩) hS.2.2 dL_writes_146
    · skip
      exact absurd (show nI kk ≤ (99 : Int32) from nI_le (b := 99) (by omega) (by decide)) c_56
  · skip
    exact absurd rfl c_4
