theorem cl0 : (0 : Int32).toNatClampNeg = 0 := by decide
theorem cl1 : (1 : Int32).toNatClampNeg = 1 := by decide
theorem cl4 : (4 : Int32).toNatClampNeg = 4 := by decide
theorem cl5 : (5 : Int32).toNatClampNeg = 5 := by decide
theorem in40 {z : Int32} (h : z = -1 ∨ ∃ j : Nat, j < 40 ∧ z = nI j) (h0 : 0 ≤ z) : vp_in z 40 := by
  rcases h with h | ⟨j, hj, h⟩
  · subst h; exact absurd h0 (by decide)
  · subst h; exact vp_in_nI hj (by decide)
theorem nI_self (v : Int32) : v = nI v.toBitVec.toNat := by
  apply Int32.toBitVec_inj.1
  show v.toBitVec = BitVec.ofNat 32 v.toBitVec.toNat
  rw [BitVec.ofNat_toNat]
  simp
set_option maxHeartbeats 4000000 in
set_option maxRecDepth 100000 in
/-- a number below n out of an int -/
theorem c_L_low (l : Launch) (D : va_G) (cA cZ cL : ClassId)  (x : Int32) (N : Nat) (h0 : 0 < N) (hN : N < 2 ^ 31) : Met l yL_low wsL_low ({ frames := 0, cells := 0, slots := 0, locals := 0 } : Room) (va_Pc [.int x, .int (nI N)] (qPre D (qTy cA cZ cL) ([]))) (vp_Si (fun z => (∃ j : Nat, j < N ∧ z = nI j) ∧ (x = 0 → z = 0))) 0 0 (fun _ => False) := by
  refine Met.ofW (cc := cL_low) (maxL := 2) (ret := (some .int)) (by decide) rfl ?_
  intro p e s m args below meth c s₁ B hml hv
  obtain ⟨rfl, hP, hK⟩ := hv
  have hx := B.exec
  have hb := B.bytes
  have hr := B.returns
  have hlocks := B.notSynchronized
  have hl := lv_entry ([.int x, .int (nI N)]) (n := 2) (Nat.le_of_ble_eq_true rfl)
  rw [lg_entry_eq]
  generalize (lg_sl ([.int x, .int (nI N)]) ++ List.replicate (2 - (lg_sl ([.int x, .int (nI N)])).length) Slot.unset).toArray = ls at hl ⊢
  have hl : lv_has ls 2 [(0, .int x), (1, .int (nI N))] := hl
  refine lv_iload_n hx hb dL_low_0 rfl (lv_at hl 0 rfl) ?_
  refine lv_iconst (v := 1) hx hb dL_low_1 (by decide) ?_
  refine lv_iushr (v := (x.toUInt32 >>> ((1 : Int32).toUInt32 &&& Int32.toUInt32 31)).toInt32) hx hb dL_low_2 rfl ?_
  have hv := pk_ushr x 1 1 (by decide)
  generalize (x.toUInt32 >>> ((1 : Int32).toUInt32 &&& Int32.toUInt32 31)).toInt32 = v at hv ⊢
  have hlt : x.toBitVec.toNat < 2 ^ 32 := x.toBitVec.isLt
  have hve : v = nI (x.toBitVec.toNat / 2 ^ 1) := by rw [← hv]; exact nI_self v
  subst hve
  refine lv_iload_n hx hb dL_low_3 rfl (lv_at hl 1 rfl) ?_
  have hne : ¬ nI N = 0 := fun q => by
    have h7 := congrArg Int32.toInt q
    rw [nI_toInt hN] at h7
    have h8 : (0 : Int32).toInt = 0 := by decide
    omega
  refine lv_irem hx hb dL_low_4 hne ?_
  have hrem := pk_rem (a := x.toBitVec.toNat / 2 ^ 1) (d := N) (by omega) h0 hN
  refine lv_topi (fun y hy => ?_)
  have hy : y = nI (x.toBitVec.toNat / 2 ^ 1 % N) := hy.trans hrem
  subst hy
  exact W.iret (v := nI (x.toBitVec.toNat / 2 ^ 1 % N)) hx hb hr (fun t ht hW => ⟨_, rfl, ⟨⟨_, Nat.mod_lt _ h0, rfl⟩, fun h => by rw [h, show (0 : Int32).toBitVec.toNat / 2 ^ 1 = 0 by decide, Nat.zero_mod]; rfl⟩, ht⟩) (fun q h => nomatch h) dL_low_5
def qPreS (b L : Nat) (xs : Nat → Int32) : State → Prop := fun U => va_X b L xs U U.heap ∧ b < U.heap.size
theorem qPreS_blind {b L : Nat} {xs : Nat → Int32} {av : List Value} : FrameBlind (va_Pc av (qPreS b L xs)) := fun a U g mk q => ⟨q.1, va_X.moved (u := U) (U := U.calling g mk a) (Vm.Alike.refl U.vm) q.2.1, q.2.2⟩
theorem qPreS_at {b L : Nat} {xs : Nat → Int32} {av : List Value} {s : State} {H : Heap} {A : Nat → Prop} {locs : List Loc} (hX : va_X b L xs s s.heap) (hbl : b < s.heap.size) (hbA : ¬ A b) (hS : va_S A s.heap H locs) : ∀ U : State, U.heap = H → s.WarmedH U.vm → va_Pc av (qPreS b L xs) av.toArray U := fun U hU hW => ⟨rfl, by rw [hU]; exact (va_X.moved hW.alike hX).kept (hS.2.1 b hbl hbA), by rw [hU]; exact Nat.lt_of_lt_of_le hbl hS.1⟩
set_option maxHeartbeats 4000000 in
set_option maxRecDepth 100000 in
/-- a cell of the script -/
theorem c_L_cell (l : Launch) (b L : Nat) (xs : Nat → Int32) (k : Nat) (hk : k < L) (hL : L < 2 ^ 31) : Met l yL_cell wsL_cell ({ frames := 0, cells := 0, slots := 0, locals := 0 } : Room) (va_Pc [.ref b, .int (nI k)] (qPreS b L xs)) (vp_Si (fun z => z = xs k)) 0 0 (fun _ => False) := by
  refine Met.ofW (cc := cL_cell) (maxL := 2) (ret := (some .int)) (by decide) rfl ?_
  intro p e s m args below meth c s₁ B hml hv
  obtain ⟨rfl, hX, hbl⟩ := hv
  have hx := B.exec
  have hb := B.bytes
  have hr := B.returns
  have hlocks := B.notSynchronized
  have hS : va_S (fun _ => False) s.heap s.heap [] := va_S.rf
  have hl := lv_entry ([.ref b, .int (nI k)]) (n := 2) (Nat.le_of_ble_eq_true rfl)
  rw [lg_entry_eq]
  generalize (lg_sl ([.ref b, .int (nI k)]) ++ List.replicate (2 - (lg_sl ([.ref b, .int (nI k)])).length) Slot.unset).toArray = ls at hl ⊢
  have hl : lv_has ls 2 [(0, .ref b), (1, .int (nI k))] := hl
  refine lv_iload_n hx hb dL_cell_0 rfl (lv_at hl 1 rfl) ?_
  refine lv_aload_n hx hb dL_cell_1 rfl (lv_at hl 0 rfl) ?_
  refine va_slen hx hb hX hbl (fun h => h) hS dL_cell_2 ?_
  refine lv_icmp_ge (tgt := 12) hx hb dL_cell_3 (by decide) (fun c_3 => ?_) (fun c_3 => ?_)
  · exact absurd c_3 (nI_ge hk hL)
  · refine lv_aload_n hx hb dL_cell_6 rfl (lv_at hl 0 rfl) ?_
    refine lv_iload_n hx hb dL_cell_7 rfl (lv_at hl 1 rfl) ?_
    refine va_sld hx hb hX hbl (fun h => h) hS (vp_in_nI hk hL) dL_cell_8 ?_
    refine lv_goto (tgt := 19) hx hb dL_cell_9 (by decide) ?_
    exact W.iret (v := xs (nI k).toNatClampNeg) hx hb hr (fun t ht hW => ⟨_, rfl, by rw [nI_clamp (by omega)], ht⟩) (fun q h => nomatch h) dL_cell_19
set_option maxHeartbeats 4000000 in
set_option maxRecDepth 100000 in
/-- the place of a member -/
theorem c_L_member (l : Launch) (D : va_G) (cA cZ cL : ClassId) (am : Nat) (fm : Nat → Int32) (ag : Nat) (fg : Nat → Int32) (n : Nat) (hn : fg 0 = nI n) (hn4 : n ≤ 40) (k : Int32) : Met l yL_member wsL_member ({ frames := 0, cells := 0, slots := 0, locals := 0 } : Room) (va_Pc [.ref am, .ref ag, .int k] (qPre D (qTy cA cZ cL) ([(am, .inl (cA, 40, .inl (fm))), (ag, .inl (cA, 6, .inl (fg)))]))) (vp_Si (fun z => z = -1 ∨ ∃ j : Nat, j < 40 ∧ z = nI j)) 0 0 (fun _ => False) := by
  refine Met.ofW (cc := cL_member) (maxL := 4) (ret := (some .int)) (by decide) rfl ?_
  intro p e s m args below meth c s₁ B hml hv
  obtain ⟨rfl, hP, hK⟩ := hv
  have hx := B.exec
  have hb := B.bytes
  have hr := B.returns
  have hts := atoms_spec (ws := wsL_member) B.pre
  have hown : s.vm.findClass RL = some m.cls := findClass_of_methodNamed B.named
  have hlocks := B.notSynchronized
  have hl := lv_entry ([.ref am, .ref ag, .int k]) (n := 4) (Nat.le_of_ble_eq_true rfl)
  rw [lg_entry_eq]
  generalize (lg_sl ([.ref am, .ref ag, .int k]) ++ List.replicate (4 - (lg_sl ([.ref am, .ref ag, .int k])).length) Slot.unset).toArray = ls at hl ⊢
  have hl : lv_has ls 4 [(0, .ref am), (1, .ref ag), (2, .int k)] := hl
  refine lv_iconst (v := 0) hx hb dL_member_0 (by decide) ?_
  refine lv_istore_n (lv' := [(3, .int 0), (0, .ref am), (1, .ref ag), (2, .int k)]) hx hb dL_member_1 rfl hl (by decide) rfl (fun ls hl => ?_)
  have hloop_2 : ∀ (nme : Nat) (i : Nat), n - i = nme → (i ≤ n) → ∀ ls : Array Slot, lv_has ls 4 [(0, .ref am), (1, .ref ag), (2, .int k), (3, .int (nI i))] → W p l e (headSpec wsL_member ({ frames := 0, cells := 0, slots := 0, locals := 0 } : Room)).room s m ([.ref am, .ref ag, .int k] : List Value).toArray below meth c s.heap [] 0 0 (MQ below (vp_Si (fun z => z = -1 ∨ ∃ j : Nat, j < 40 ∧ z = nI j)) ([.ref am, .ref ag, .int k] : List Value).toArray s 0 0 (fun _ => False)) (F0 m 2 ls []) := by
    intro nme
    induction nme using Nat.strongRecOn with
    | ind nme ih_2 =>
      intro i hnme_2 hi ls hl
      refine lv_iload_n hx hb dL_member_2 rfl (lv_at hl 3 rfl) ?_
      refine lv_aload_n hx hb dL_member_3 rfl (lv_at hl 1 rfl) ?_
      refine lv_iconst (v := 0) hx hb dL_member_4 (by decide) ?_
      refine va_iald hx hb hK hP 1 0 rfl rfl (by unfold vp_in; decide) dL_member_5 ?_
      refine lv_topi (fun v_5 hv_5 => ?_)
      have hv_5 : v_5 = nI n := hv_5.trans (by rw [cl0]; exact hn)
      subst hv_5
      refine lv_icmp_ge (tgt := 27) hx hb dL_member_6 (by decide) (fun c_6 => ?_) (fun c_6 => ?_)
      · skip
        refine lv_iconst (v := (-1)) hx hb dL_member_27 (by decide) ?_
        exact W.iret (v := (-1)) hx hb hr (fun t ht hW => ⟨(-1), rfl, (Or.inl rfl), ht⟩) (fun q h => nomatch h) dL_member_28
      · skip
        have hlt : i < n := n_lt c_6 (by omega)
        refine lv_aload_n hx hb dL_member_9 rfl (lv_at hl 0 rfl) ?_
        refine lv_iload_n hx hb dL_member_10 rfl (lv_at hl 3 rfl) ?_
        refine va_iald hx hb hK hP 0 0 rfl rfl (vp_in_nI (by omega) (by decide)) dL_member_11 ?_
        refine lv_topi (fun y_11 _ => ?_)
        refine lv_bipush (v := 127) hx hb dL_member_12 (by decide) ?_
        refine lv_iand hx hb dL_member_14 ?_
        refine lv_topi (fun y_14 _ => ?_)
        refine lv_iload_n hx hb dL_member_15 rfl (lv_at hl 2 rfl) ?_
        refine lv_icmp_ne (tgt := 21) hx hb dL_member_16 (by decide) (fun c_16 => ?_) (fun c_16 => ?_)
        · skip
          refine lv_iinc (v := nI (i + 1)) (lv' := [(3, .int (nI (i + 1))), (0, .ref am), (1, .ref ag), (2, .int k)]) hx hb dL_member_21 hl (k := 3) rfl (nI_1 (i)) (by decide) rfl (fun ls hl => ?_)
          refine lv_goto (tgt := 2) hx hb dL_member_24 (by decide) ?_
          exact ih_2 _ (by omega) (i + 1) rfl (by omega) _ (lv_sub hl [1, 2, 3, 0] rfl)
        · skip
          refine lv_iload_n hx hb dL_member_19 rfl (lv_at hl 3 rfl) ?_
          exact W.iret (v := nI i) hx hb hr (fun t ht hW => ⟨nI i, rfl, (Or.inr ⟨i, by omega, rfl⟩), ht⟩) (fun q h => nomatch h) dL_member_20
  exact hloop_2 _ 0 rfl (Nat.zero_le _) _ (lv_sub hl [1, 2, 3, 0] rfl)
set_option maxHeartbeats 4000000 in
set_option maxRecDepth 100000 in
theorem c_L_range (l : Launch) (D : va_G) (cA cZ cL : ClassId) (ae : Nat) (fe : Nat → Int32) (h99 : fe 0 = 99) (k : Nat) (hk : k < 100) : Met l yL_range wsL_range ({ frames := 0, cells := 0, slots := 0, locals := 0 } : Room) (va_Pc [.ref ae, .int (nI k)] (qPre D (qTy cA cZ cL) ([(ae, .inl (cA, 9, .inl (fe)))]))) (vp_Si (fun z => True)) 0 0 (fun _ => False) := by
  refine Met.ofW (cc := cL_range) (maxL := 3) (ret := (some .int)) (by decide) rfl ?_
  intro p e s m args below meth c s₁ B hml hv
  obtain ⟨rfl, hP, hK⟩ := hv
  have hx := B.exec
  have hb := B.bytes
  have hr := B.returns
  have hts := atoms_spec (ws := wsL_range) B.pre
  have hown : s.vm.findClass RL = some m.cls := findClass_of_methodNamed B.named
  have hlocks := B.notSynchronized
  have hl := lv_entry ([.ref ae, .int (nI k)]) (n := 3) (Nat.le_of_ble_eq_true rfl)
  rw [lg_entry_eq]
  generalize (lg_sl ([.ref ae, .int (nI k)]) ++ List.replicate (3 - (lg_sl ([.ref ae, .int (nI k)])).length) Slot.unset).toArray = ls at hl ⊢
  have hl : lv_has ls 3 [(0, .ref ae), (1, .int (nI k))] := hl
  refine lv_iconst (v := 0) hx hb dL_range_0 (by decide) ?_
  refine lv_istore_n (lv' := [(2, .int 0), (0, .ref ae), (1, .int (nI k))]) hx hb dL_range_1 rfl hl (by decide) rfl (fun ls hl => ?_)
  refine lv_aload_n hx hb dL_range_2 rfl (lv_at hl 1 rfl) ?_
  refine lv_iload_n hx hb dL_range_3 rfl (lv_at hl 0 rfl) ?_
  refine va_iald hx hb hK hP 0 0 rfl rfl (by unfold vp_in; decide) dL_range_4 ?_
  refine lv_topi (fun v_4 hv_4 => ?_)
  have hv_4 : v_4 = 99 := hv_4.trans (by rw [cl0]; exact h99)
  subst hv_4
  refine lv_bipush (v := 127) hx hb dL_range_5 (by decide) ?_
  refine lv_iand hx hb dL_range_7 ?_
  refine lv_topi (fun v_7 hv_7 => ?_)
  have hv_7 : v_7 = 99 := hv_7.trans (by decide)
  subst hv_7
  refine lv_iload_n hx hb dL_range_8 rfl (lv_at hl 2 rfl) ?_
  refine lv_icmp_ge (tgt := 18) hx hb dL_range_9 (by decide) (fun c_9 => ?_) (fun c_9 => ?_)
  · skip
    refine lv_iload_n hx hb dL_range_18 rfl (lv_at hl 0 rfl) ?_
    exact W.iret (v := 0) hx hb hr (fun t ht hW => ⟨0, rfl, trivial, ht⟩) (fun q h => nomatch h) dL_range_19
  · skip
    exact absurd (show nI k ≤ (99 : Int32) from nI_le (b := 99) (by omega) (by decide)) c_9
set_option maxHeartbeats 4000000 in
set_option maxRecDepth 100000 in
theorem c_L_first (l : Launch) (D : va_G) (cA cZ cL : ClassId) (ae : Nat) (fe : Nat → Int32)  : Met l yL_first wsL_first ({ frames := 0, cells := 0, slots := 0, locals := 0 } : Room) (va_Pc [.ref ae, .int (nI 0)] (qPre D (qTy cA cZ cL) ([(ae, .inl (cA, 9, .inl (fe)))]))) (vp_Si (fun z => True)) 0 0 (fun _ => False) := by
  refine Met.ofW (cc := cL_first) (maxL := 2) (ret := (some .int)) (by decide) rfl ?_
  intro p e s m args below meth c s₁ B hml hv
  obtain ⟨rfl, hP, hK⟩ := hv
  have hx := B.exec
  have hb := B.bytes
  have hr := B.returns
  have hts := atoms_spec (ws := wsL_first) B.pre
  have hown : s.vm.findClass RL = some m.cls := findClass_of_methodNamed B.named
  have hlocks := B.notSynchronized
  have hl := lv_entry ([.ref ae, .int (nI 0)]) (n := 2) (Nat.le_of_ble_eq_true rfl)
  rw [lg_entry_eq]
  generalize (lg_sl ([.ref ae, .int (nI 0)]) ++ List.replicate (2 - (lg_sl ([.ref ae, .int (nI 0)])).length) Slot.unset).toArray = ls at hl ⊢
  have hl : lv_has ls 2 [(0, .ref ae), (1, .int (nI 0))] := hl
  refine lv_iload_n hx hb dL_first_0 rfl (lv_at hl 1 rfl) ?_
  refine lv_if_ne (tgt := 8) hx hb dL_first_1 (by decide) (fun c_1 => ?_) (fun c_1 => ?_)
  · skip
    exact absurd rfl c_1
  · skip
    refine lv_iconst (v := 0) hx hb dL_first_4 (by decide) ?_
    refine lv_goto (tgt := 18) hx hb dL_first_5 (by decide) ?_
    exact W.iret (v := 0) hx hb hr (fun t ht hW => ⟨0, rfl, trivial, ht⟩) (fun q h => nomatch h) dL_first_18
set_option maxHeartbeats 4000000 in
set_option maxRecDepth 100000 in
theorem c_L_ofRange (l : Launch) (D : va_G) (cA cZ cL : ClassId) (am : Nat) (fm : Nat → Int32) (ae : Nat) (fe : Nat → Int32) (ag : Nat) (fg : Nat → Int32) (n : Nat) (hn : fg 0 = nI n) (hn4 : n ≤ 40) (w : Int32) (hw : ¬ w = 2) : Met l yL_ofRange wsL_ofRange ({ frames := 1, cells := 0, slots := 0, locals := 21 } : Room) (va_Pc [.ref am, .ref ae, .ref ag, .int (nI 0), .int w] (qPre D (qTy cA cZ cL) ([(am, .inl (cA, 40, .inl (fm))), (ae, .inl (cA, 9, .inl (fe))), (ag, .inl (cA, 6, .inl (fg)))]))) (vp_Si (fun z => True)) 0 0 (fun _ => False) := by
  refine Met.ofW (cc := cL_ofRange) (maxL := 9) (ret := (some .int)) (by decide) rfl ?_
  intro p e s m args below meth c s₁ B hml hv
  obtain ⟨rfl, hP, hK⟩ := hv
  have hx := B.exec
  have hb := B.bytes
  have hr := B.returns
  have hts := atoms_spec (ws := wsL_ofRange) B.pre
  have hown : s.vm.findClass RL = some m.cls := findClass_of_methodNamed B.named
  have hlocks := B.notSynchronized
  have hl := lv_entry ([.ref am, .ref ae, .ref ag, .int (nI 0), .int w]) (n := 9) (Nat.le_of_ble_eq_true rfl)
  rw [lg_entry_eq]
  generalize (lg_sl ([.ref am, .ref ae, .ref ag, .int (nI 0), .int w]) ++ List.replicate (9 - (lg_sl ([.ref am, .ref ae, .ref ag, .int (nI 0), .int w])).length) Slot.unset).toArray = ls at hl ⊢
  have hl : lv_has ls 9 [(0, .ref am), (1, .ref ae), (2, .ref ag), (3, .int (nI 0)), (4, .int w)] := hl
  refine lv_iload hx hb dL_ofRange_0 (lv_at hl 4 rfl) ?_
  refine lv_iconst (v := 2) hx hb dL_ofRange_2 (by decide) ?_
  refine lv_icmp_ne (tgt := 12) hx hb dL_ofRange_3 (by decide) (fun c_3 => ?_) (fun c_3 => ?_)
  · skip
    refine lv_iconst (v := 0) hx hb dL_ofRange_12 (by decide) ?_
    refine lv_istore (lv' := [(5, .int 0), (0, .ref am), (1, .ref ae), (2, .ref ag), (3, .int (nI 0)), (4, .int w)]) hx hb dL_ofRange_13 hl (by decide) rfl (fun ls hl => ?_)
    refine lv_iconst (v := 0) hx hb dL_ofRange_15 (by decide) ?_
    refine lv_istore (lv' := [(6, .int 0), (5, .int 0), (0, .ref am), (1, .ref ae), (2, .ref ag), (3, .int (nI 0)), (4, .int w)]) hx hb dL_ofRange_16 hl (by decide) rfl (fun ls hl => ?_)
    have hloop_18 : ∀ (nme : Nat) (i : Nat) (acc : Int32), n - i = nme → (i ≤ n) → ∀ ls : Array Slot, lv_has ls 9 [(0, .ref am), (1, .ref ae), (2, .ref ag), (3, .int (nI 0)), (4, .int w), (5, .int acc), (6, .int (nI i))] → W p l e (headSpec wsL_ofRange ({ frames := 1, cells := 0, slots := 0, locals := 21 } : Room)).room s m ([.ref am, .ref ae, .ref ag, .int (nI 0), .int w] : List Value).toArray below meth c s.heap [] 0 0 (MQ below (vp_Si (fun z => True)) ([.ref am, .ref ae, .ref ag, .int (nI 0), .int w] : List Value).toArray s 0 0 (fun _ => False)) (F0 m 18 ls []) := by
      intro nme
      induction nme using Nat.strongRecOn with
      | ind nme ih_18 =>
        intro i acc hnme_18 hi ls hl
        refine lv_iload hx hb dL_ofRange_18 (lv_at hl 6 rfl) ?_
        refine lv_aload_n hx hb dL_ofRange_20 rfl (lv_at hl 2 rfl) ?_
        refine lv_iconst (v := 0) hx hb dL_ofRange_21 (by decide) ?_
        refine va_iald hx hb hK hP 2 0 rfl rfl (by unfold vp_in; decide) dL_ofRange_22 ?_
        refine lv_topi (fun v_22 hv_22 => ?_)
        have hv_22 : v_22 = nI n := hv_22.trans (by rw [cl0]; exact hn)
        subst hv_22
        refine lv_icmp_ge (tgt := 135) hx hb dL_ofRange_23 (by decide) (fun c_23 => ?_) (fun c_23 => ?_)
        · skip
          refine lv_iload hx hb dL_ofRange_135 (lv_at hl 5 rfl) ?_
          refine lv_sipush (v := 1000) hx hb dL_ofRange_137 (by decide) ?_
          refine lv_icmp_ne (tgt := 147) hx hb dL_ofRange_140 (by decide) (fun c_140 => ?_) (fun c_140 => ?_)
          · skip
            refine lv_iload hx hb dL_ofRange_147 (lv_at hl 5 rfl) ?_
            exact W.iret (v := acc) hx hb hr (fun t ht hW => ⟨acc, rfl, trivial, ht⟩) (fun q h => nomatch h) dL_ofRange_149
          · skip
            refine lv_iconst (v := (-1)) hx hb dL_ofRange_143 (by decide) ?_
            refine lv_goto (tgt := 149) hx hb dL_ofRange_144 (by decide) ?_
            exact W.iret (v := (-1)) hx hb hr (fun t ht hW => ⟨(-1), rfl, trivial, ht⟩) (fun q h => nomatch h) dL_ofRange_149
        · skip
          have hlt : i < n := n_lt c_23 (by omega)
          refine lv_aload_n hx hb dL_ofRange_26 rfl (lv_at hl 0 rfl) ?_
          refine lv_iload hx hb dL_ofRange_27 (lv_at hl 6 rfl) ?_
          refine va_iald hx hb hK hP 0 0 rfl rfl (vp_in_nI (by omega) (by decide)) dL_ofRange_29 ?_
          refine lv_topi (fun y_29 _ => ?_)
          refine lv_bipush (v := 127) hx hb dL_ofRange_30 (by decide) ?_
          refine lv_iand hx hb dL_ofRange_32 ?_
          refine lv_topi (fun y_32 _ => ?_)
          refine lv_istore (lv' := [(7, .int y_32), (0, .ref am), (1, .ref ae), (2, .ref ag), (3, .int (nI 0)), (4, .int w), (5, .int acc), (6, .int (nI i))]) hx hb dL_ofRange_33 hl (by decide) rfl (fun ls hl => ?_)
          refine lv_iload hx hb dL_ofRange_35 (lv_at hl 0 rfl) ?_
          refine lv_aload_n hx hb dL_ofRange_37 rfl (lv_at hl 2 rfl) ?_
          refine lv_iload_n hx hb dL_ofRange_38 rfl (lv_at hl 4 rfl) ?_
          have hPc := hP.sub (ws' := [(ae, .inl (cA, 9, .inl (fe)))]) [1] rfl
          refine vp_callSi (W.runS (As := [.ref ae, .int (nI 0)]) (rest := [.int y_32]) ⟨hx, hb, hml, hown, hts⟩ (c_L_first l D cA cZ cL ae fe ) (va_cwS 2 hts gL_ofRange_L_first rfl rfl rfl (by decide +kernel) ⟨Nat.le_of_ble_eq_true rfl, Nat.le_of_ble_eq_true rfl⟩) ⟨qPre_blind, qPre_at hPc hK⟩ rfl rfl hl.1 rfl (lv_room (Nat.le_of_ble_eq_true rfl)) dL_ofRange_39 ⟨by show 0 + 0 ≤ 0; omega, by show 0 + 0 ≤ 0; omega⟩) (fun z_39 hz_39 => ?_)
          refine lv_icmp_lt (tgt := 129) hx hb dL_ofRange_42 (by decide) (fun c_42 => ?_) (fun c_42 => ?_)
          · skip
            refine lv_iinc (v := nI (i + 1)) (lv' := [(6, .int (nI (i + 1))), (7, .int y_32), (0, .ref am), (1, .ref ae), (2, .ref ag), (3, .int (nI 0)), (4, .int w), (5, .int acc)]) hx hb dL_ofRange_129 hl (k := 7) rfl (nI_1 (i)) (by decide) rfl (fun ls hl => ?_)
            refine lv_goto (tgt := 18) hx hb dL_ofRange_132 (by decide) ?_
            exact ih_18 _ (by omega) (i + 1) acc rfl (by omega) _ (lv_sub hl [2, 3, 4, 5, 6, 7, 0] rfl)
          · skip
            refine lv_iload hx hb dL_ofRange_45 (lv_at hl 0 rfl) ?_
            refine lv_aload_n hx hb dL_ofRange_47 rfl (lv_at hl 2 rfl) ?_
            refine lv_iload_n hx hb dL_ofRange_48 rfl (lv_at hl 4 rfl) ?_
            refine va_iald hx hb hK hP 1 0 rfl rfl (vp_in_nI (by omega) (by decide)) dL_ofRange_49 ?_
            refine lv_topi (fun y_49 _ => ?_)
            refine lv_bipush (v := 127) hx hb dL_ofRange_50 (by decide) ?_
            refine lv_iand hx hb dL_ofRange_52 ?_
            refine lv_topi (fun y_52 _ => ?_)
            refine lv_icmp_le (tgt := 59) hx hb dL_ofRange_53 (by decide) (fun c_53 => ?_) (fun c_53 => ?_)
            · skip
              refine lv_aload_n hx hb dL_ofRange_59 rfl (lv_at hl 1 rfl) ?_
              refine lv_iload hx hb dL_ofRange_60 (lv_at hl 7 rfl) ?_
              refine va_iald hx hb hK hP 0 0 rfl rfl (vp_in_nI (by omega) (by decide)) dL_ofRange_62 ?_
              refine lv_topi (fun y_62 _ => ?_)
              refine lv_bipush (v := 13) hx hb dL_ofRange_63 (by decide) ?_
              refine lv_ishr hx hb dL_ofRange_65 ?_
              refine lv_topi (fun y_65 _ => ?_)
              refine lv_iconst (v := 1) hx hb dL_ofRange_66 (by decide) ?_
              refine lv_iand hx hb dL_ofRange_67 ?_
              refine lv_topi (fun y_67 _ => ?_)
              refine lv_iconst (v := 1) hx hb dL_ofRange_68 (by decide) ?_
              refine lv_icmp_ne (tgt := 76) hx hb dL_ofRange_69 (by decide) (fun c_69 => ?_) (fun c_69 => ?_)
              · skip
                refine lv_iconst (v := 0) hx hb dL_ofRange_76 (by decide) ?_
                refine lv_istore (lv' := [(8, .int 0), (7, .int y_32), (0, .ref am), (1, .ref ae), (2, .ref ag), (3, .int (nI 0)), (4, .int w), (5, .int acc), (6, .int (nI i))]) hx hb dL_ofRange_77 hl (by decide) rfl (fun ls hl => ?_)
                refine lv_iload hx hb dL_ofRange_79 (lv_at hl 6 rfl) ?_
                refine lv_iconst (v := 2) hx hb dL_ofRange_81 (by decide) ?_
                refine lv_icmp_ne (tgt := 109) hx hb dL_ofRange_82 (by decide) (fun c_82 => ?_) (fun c_82 => ?_)
                · skip
                  refine lv_iload hx hb dL_ofRange_109 (lv_at hl 7 rfl) ?_
                  refine lv_iload hx hb dL_ofRange_111 (lv_at hl 6 rfl) ?_
                  refine lv_if_eq (tgt := 121) hx hb dL_ofRange_113 (by decide) (fun c_113 => ?_) (fun c_113 => ?_)
                  · skip
                    refine lv_iconst (v := 1) hx hb dL_ofRange_121 (by decide) ?_
                    refine lv_goto (tgt := 126) hx hb dL_ofRange_122 (by decide) ?_
                    refine lv_iadd hx hb dL_ofRange_126 ?_
                    refine lv_topi (fun y_126 _ => ?_)
                    refine lv_istore (lv' := [(5, .int y_126), (8, .int 0), (7, .int y_32), (0, .ref am), (1, .ref ae), (2, .ref ag), (3, .int (nI 0)), (4, .int w), (6, .int (nI i))]) hx hb dL_ofRange_127 hl (by decide) rfl (fun ls hl => ?_)
                    refine lv_iinc (v := nI (i + 1)) (lv' := [(6, .int (nI (i + 1))), (5, .int y_126), (8, .int 0), (7, .int y_32), (0, .ref am), (1, .ref ae), (2, .ref ag), (3, .int (nI 0)), (4, .int w)]) hx hb dL_ofRange_129 hl (k := 8) rfl (nI_1 (i)) (by decide) rfl (fun ls hl => ?_)
                    refine lv_goto (tgt := 18) hx hb dL_ofRange_132 (by decide) ?_
                    exact ih_18 _ (by omega) (i + 1) y_126 rfl (by omega) _ (lv_sub hl [4, 5, 6, 7, 8, 1, 0] rfl)
                  · skip
                    refine lv_iload hx hb dL_ofRange_116 (lv_at hl 0 rfl) ?_
                    refine lv_if_eq (tgt := 125) hx hb dL_ofRange_118 (by decide) (fun c_118 => ?_) (fun c_118 => ?_)
                    · skip
                      refine lv_iconst (v := 0) hx hb dL_ofRange_125 (by decide) ?_
                      refine lv_iadd hx hb dL_ofRange_126 ?_
                      refine lv_topi (fun y_126 _ => ?_)
                      refine lv_istore (lv' := [(5, .int y_126), (8, .int 0), (7, .int y_32), (0, .ref am), (1, .ref ae), (2, .ref ag), (3, .int (nI 0)), (4, .int w), (6, .int (nI i))]) hx hb dL_ofRange_127 hl (by decide) rfl (fun ls hl => ?_)
                      refine lv_iinc (v := nI (i + 1)) (lv' := [(6, .int (nI (i + 1))), (5, .int y_126), (8, .int 0), (7, .int y_32), (0, .ref am), (1, .ref ae), (2, .ref ag), (3, .int (nI 0)), (4, .int w)]) hx hb dL_ofRange_129 hl (k := 8) rfl (nI_1 (i)) (by decide) rfl (fun ls hl => ?_)
                      refine lv_goto (tgt := 18) hx hb dL_ofRange_132 (by decide) ?_
                      exact ih_18 _ (by omega) (i + 1) y_126 rfl (by omega) _ (lv_sub hl [4, 5, 6, 7, 8, 1, 0] rfl)
                    · skip
                      refine lv_iconst (v := 1) hx hb dL_ofRange_121 (by decide) ?_
                      refine lv_goto (tgt := 126) hx hb dL_ofRange_122 (by decide) ?_
                      refine lv_iadd hx hb dL_ofRange_126 ?_
                      refine lv_topi (fun y_126 _ => ?_)
                      refine lv_istore (lv' := [(5, .int y_126), (8, .int 0), (7, .int y_32), (0, .ref am), (1, .ref ae), (2, .ref ag), (3, .int (nI 0)), (4, .int w), (6, .int (nI i))]) hx hb dL_ofRange_127 hl (by decide) rfl (fun ls hl => ?_)
                      refine lv_iinc (v := nI (i + 1)) (lv' := [(6, .int (nI (i + 1))), (5, .int y_126), (8, .int 0), (7, .int y_32), (0, .ref am), (1, .ref ae), (2, .ref ag), (3, .int (nI 0)), (4, .int w)]) hx hb dL_ofRange_129 hl (k := 8) rfl (nI_1 (i)) (by decide) rfl (fun ls hl => ?_)
                      refine lv_goto (tgt := 18) hx hb dL_ofRange_132 (by decide) ?_
                      exact ih_18 _ (by omega) (i + 1) y_126 rfl (by omega) _ (lv_sub hl [4, 5, 6, 7, 8, 1, 0] rfl)
                · skip
                  exact absurd c_82 hw
              · skip
                refine lv_iconst (v := 1) hx hb dL_ofRange_72 (by decide) ?_
                refine lv_goto (tgt := 77) hx hb dL_ofRange_73 (by decide) ?_
                refine lv_istore (lv' := [(8, .int 1), (7, .int y_32), (0, .ref am), (1, .ref ae), (2, .ref ag), (3, .int (nI 0)), (4, .int w), (5, .int acc), (6, .int (nI i))]) hx hb dL_ofRange_77 hl (by decide) rfl (fun ls hl => ?_)
                refine lv_iload hx hb dL_ofRange_79 (lv_at hl 6 rfl) ?_
                refine lv_iconst (v := 2) hx hb dL_ofRange_81 (by decide) ?_
                refine lv_icmp_ne (tgt := 109) hx hb dL_ofRange_82 (by decide) (fun c_82 => ?_) (fun c_82 => ?_)
                · skip
                  refine lv_iload hx hb dL_ofRange_109 (lv_at hl 7 rfl) ?_
                  refine lv_iload hx hb dL_ofRange_111 (lv_at hl 6 rfl) ?_
                  refine lv_if_eq (tgt := 121) hx hb dL_ofRange_113 (by decide) (fun c_113 => ?_) (fun c_113 => ?_)
                  · skip
                    refine lv_iconst (v := 1) hx hb dL_ofRange_121 (by decide) ?_
                    refine lv_goto (tgt := 126) hx hb dL_ofRange_122 (by decide) ?_
                    refine lv_iadd hx hb dL_ofRange_126 ?_
                    refine lv_topi (fun y_126 _ => ?_)
                    refine lv_istore (lv' := [(5, .int y_126), (8, .int 1), (7, .int y_32), (0, .ref am), (1, .ref ae), (2, .ref ag), (3, .int (nI 0)), (4, .int w), (6, .int (nI i))]) hx hb dL_ofRange_127 hl (by decide) rfl (fun ls hl => ?_)
                    refine lv_iinc (v := nI (i + 1)) (lv' := [(6, .int (nI (i + 1))), (5, .int y_126), (8, .int 1), (7, .int y_32), (0, .ref am), (1, .ref ae), (2, .ref ag), (3, .int (nI 0)), (4, .int w)]) hx hb dL_ofRange_129 hl (k := 8) rfl (nI_1 (i)) (by decide) rfl (fun ls hl => ?_)
                    refine lv_goto (tgt := 18) hx hb dL_ofRange_132 (by decide) ?_
                    exact ih_18 _ (by omega) (i + 1) y_126 rfl (by omega) _ (lv_sub hl [4, 5, 6, 7, 8, 1, 0] rfl)
                  · skip
                    refine lv_iload hx hb dL_ofRange_116 (lv_at hl 0 rfl) ?_
                    refine lv_if_eq (tgt := 125) hx hb dL_ofRange_118 (by decide) (fun c_118 => ?_) (fun c_118 => ?_)
                    · skip
                      refine lv_iconst (v := 0) hx hb dL_ofRange_125 (by decide) ?_
                      refine lv_iadd hx hb dL_ofRange_126 ?_
                      refine lv_topi (fun y_126 _ => ?_)
                      refine lv_istore (lv' := [(5, .int y_126), (8, .int 1), (7, .int y_32), (0, .ref am), (1, .ref ae), (2, .ref ag), (3, .int (nI 0)), (4, .int w), (6, .int (nI i))]) hx hb dL_ofRange_127 hl (by decide) rfl (fun ls hl => ?_)
                      refine lv_iinc (v := nI (i + 1)) (lv' := [(6, .int (nI (i + 1))), (5, .int y_126), (8, .int 1), (7, .int y_32), (0, .ref am), (1, .ref ae), (2, .ref ag), (3, .int (nI 0)), (4, .int w)]) hx hb dL_ofRange_129 hl (k := 8) rfl (nI_1 (i)) (by decide) rfl (fun ls hl => ?_)
                      refine lv_goto (tgt := 18) hx hb dL_ofRange_132 (by decide) ?_
                      exact ih_18 _ (by omega) (i + 1) y_126 rfl (by omega) _ (lv_sub hl [4, 5, 6, 7, 8, 1, 0] rfl)
                    · skip
                      refine lv_iconst (v := 1) hx hb dL_ofRange_121 (by decide) ?_
                      refine lv_goto (tgt := 126) hx hb dL_ofRange_122 (by decide) ?_
                      refine lv_iadd hx hb dL_ofRange_126 ?_
                      refine lv_topi (fun y_126 _ => ?_)
                      refine lv_istore (lv' := [(5, .int y_126), (8, .int 1), (7, .int y_32), (0, .ref am), (1, .ref ae), (2, .ref ag), (3, .int (nI 0)), (4, .int w), (6, .int (nI i))]) hx hb dL_ofRange_127 hl (by decide) rfl (fun ls hl => ?_)
                      refine lv_iinc (v := nI (i + 1)) (lv' := [(6, .int (nI (i + 1))), (5, .int y_126), (8, .int 1), (7, .int y_32), (0, .ref am), (1, .ref ae), (2, .ref ag), (3, .int (nI 0)), (4, .int w)]) hx hb dL_ofRange_129 hl (k := 8) rfl (nI_1 (i)) (by decide) rfl (fun ls hl => ?_)
                      refine lv_goto (tgt := 18) hx hb dL_ofRange_132 (by decide) ?_
                      exact ih_18 _ (by omega) (i + 1) y_126 rfl (by omega) _ (lv_sub hl [4, 5, 6, 7, 8, 1, 0] rfl)
                · skip
                  exact absurd c_82 hw
            · skip
              refine lv_goto (tgt := 129) hx hb dL_ofRange_56 (by decide) ?_
              refine lv_iinc (v := nI (i + 1)) (lv' := [(6, .int (nI (i + 1))), (7, .int y_32), (0, .ref am), (1, .ref ae), (2, .ref ag), (3, .int (nI 0)), (4, .int w), (5, .int acc)]) hx hb dL_ofRange_129 hl (k := 7) rfl (nI_1 (i)) (by decide) rfl (fun ls hl => ?_)
              refine lv_goto (tgt := 18) hx hb dL_ofRange_132 (by decide) ?_
              exact ih_18 _ (by omega) (i + 1) acc rfl (by omega) _ (lv_sub hl [2, 3, 4, 5, 6, 7, 0] rfl)
    exact hloop_18 _ 0 0 rfl (Nat.zero_le _) _ (lv_sub hl [2, 3, 4, 5, 6, 1, 0] rfl)
  · skip
    exact absurd c_3 hw
set_option maxHeartbeats 4000000 in
set_option maxRecDepth 100000 in
theorem c_L_rolled (l : Launch) (D : va_G) (cA cZ cL : ClassId) (ar : Nat) (fr : Nat → Int32) (ag : Nat) (fg : Nat → Int32) (h4 : fg 4 = nI 0) (k : Int32) : Met l yL_rolled wsL_rolled ({ frames := 0, cells := 0, slots := 0, locals := 0 } : Room) (va_Pc [.ref ar, .ref ag, .int k] (qPre D (qTy cA cZ cL) ([(ar, .inl (cA, 40, .inl (fr))), (ag, .inl (cA, 6, .inl (fg)))]))) (vp_Si (fun z => True)) 0 0 (fun _ => False) := by
  refine Met.ofW (cc := cL_rolled) (maxL := 4) (ret := (some .int)) (by decide) rfl ?_
  intro p e s m args below meth c s₁ B hml hv
  obtain ⟨rfl, hP, hK⟩ := hv
  have hx := B.exec
  have hb := B.bytes
  have hr := B.returns
  have hts := atoms_spec (ws := wsL_rolled) B.pre
  have hown : s.vm.findClass RL = some m.cls := findClass_of_methodNamed B.named
  have hlocks := B.notSynchronized
  have hl := lv_entry ([.ref ar, .ref ag, .int k]) (n := 4) (Nat.le_of_ble_eq_true rfl)
  rw [lg_entry_eq]
  generalize (lg_sl ([.ref ar, .ref ag, .int k]) ++ List.replicate (4 - (lg_sl ([.ref ar, .ref ag, .int k])).length) Slot.unset).toArray = ls at hl ⊢
  have hl : lv_has ls 4 [(0, .ref ar), (1, .ref ag), (2, .int k)] := hl
  refine lv_iconst (v := 0) hx hb dL_rolled_0 (by decide) ?_
  refine lv_istore_n (lv' := [(3, .int 0), (0, .ref ar), (1, .ref ag), (2, .int k)]) hx hb dL_rolled_1 rfl hl (by decide) rfl (fun ls hl => ?_)
  refine lv_iload_n hx hb dL_rolled_2 rfl (lv_at hl 0 rfl) ?_
  refine lv_aload_n hx hb dL_rolled_3 rfl (lv_at hl 2 rfl) ?_
  refine lv_iconst (v := 4) hx hb dL_rolled_4 (by decide) ?_
  refine va_iald hx hb hK hP 1 0 rfl rfl (by unfold vp_in; decide) dL_rolled_5 ?_
  refine lv_topi (fun v_5 hv_5 => ?_)
  have hv_5 : v_5 = nI 0 := hv_5.trans (by rw [cl4]; exact h4)
  subst hv_5
  refine lv_icmp_ge (tgt := 39) hx hb dL_rolled_6 (by decide) (fun c_6 => ?_) (fun c_6 => ?_)
  · skip
    refine lv_iconst (v := (-1)) hx hb dL_rolled_39 (by decide) ?_
    exact W.iret (v := (-1)) hx hb hr (fun t ht hW => ⟨(-1), rfl, trivial, ht⟩) (fun q h => nomatch h) dL_rolled_40
  · skip
    exact absurd (show nI 0 ≤ (0 : Int32) from by decide) c_6
