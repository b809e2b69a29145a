theorem lw_more {L t : Nat} (hL : L ≤ 1536) (h0 : 3 * t ≤ L) (h : ¬ nI L - 3 < nI (3 * t)) : 3 * t + 3 ≤ L := by
  rcases Nat.lt_or_ge L 3 with q | q
  · exfalso
    rcases (show L = 0 ∨ L = 1 ∨ L = 2 by omega) with rfl | rfl | rfl
    · rw [show t = 0 by omega] at h; exact h (by decide)
    · rw [show t = 0 by omega] at h; exact h (by decide)
    · rw [show t = 0 by omega] at h; exact h (by decide)
  · rw [show nI L - 3 = nI (L - 3) from pk_sub (b := 3) q, nI_ltI (by omega) (by omega)] at h
    omega
set_option maxHeartbeats 4000000 in
set_option maxRecDepth 100000 in
theorem law_loop {p : Program} {l : Launch} {e : Env} {s : State} {m : MethodId} {below : List Frame} {meth : Method} {c : Code} {b L : Nat} {xs : Nat → Int32} (hl0 : l.stackTraces = false) (hL : L ≤ 1536) (C0 : lw_At p s m meth c b L xs) {D : va_G} {cA cZ cL : ClassId} (hK : va_K D vwCl (qTy cA cZ cL) s) (hTN : lw_TN s) {ad am : Nat → Nat} {qo : Nat} : ∀ (nme t : Nat), 512 - t = nme → 3 * t ≤ L → ∀ (nR nB : Nat) (f : qFs) (g : qGs) (o : Nat → Int64) (F : qFs) (G : qGs) (H : Heap) (locs : List Loc) (ls : Array Slot), Rel t nR nB f g F G → va_P D vwCl (mW cA cZ am F G ++ lW cA cL ad qo f g o) H → va_D (fun q : Nat => s.heap.size ≤ q) (mW cA cZ am F G ++ lW cA cL ad qo f g o) → va_S (fun q : Nat => s.heap.size ≤ q) s.heap H locs → lv_has ls 7 [(0, .ref b), (1, .ref (ad 16)), (2, .ref (am 18)), (3, .ref qo), (4, .int (nI (3 * t)))] → W p l e room_1 s m #[Value.ref b] below meth c H locs (26 + t) (1598 + 6 * t) (lw_Z below #[Value.ref b] s) (F0 m 23 ls []) := by
  intro nme
  induction nme using Nat.strongRecOn with
  | ind nme ih =>
    intro t hnme ht0 nR nB f g o F G H locs ls hRel hP hD hS hl
    obtain ⟨hx, hb, hr, hml, hown, hts, hX, hbl, hlocks, hgv⟩ := id C0
    have hbA : ¬ (fun q : Nat => s.heap.size ≤ q) b := Nat.not_le.mpr hbl
    refine lv_iload hx hb dL_law_23 (lv_at hl 4 rfl) ?_
    refine lv_aload_n hx hb dL_law_25 rfl (lv_at hl 0 rfl) ?_
    refine va_slen hx hb hX hbl hbA hS dL_law_26 ?_
    refine lv_iconst (v := 3) hx hb dL_law_27 (by decide) ?_
    refine lv_isub hx hb dL_law_28 ?_
    refine lv_icmp_gt (tgt := 1371) hx hb dL_law_29 (by decide) (fun c_1 => ?_) (fun c_1 => ?_)
    · refine lv_iconst (v := 1) hx hb dL_law_1371 (by decide) ?_
      refine va_forget (fun q hq => hS.2.2 q hq) ?_
      have ht5 : t ≤ 512 := by omega
      refine W.widen (k := 1076) (n := 9946) (by omega) (by omega) ?_
      exact lw_ret hx hb hr hlocks dL_law_1372
    · have ht : 3 * t + 3 ≤ L := lw_more hL ht0 c_1
      have K : ∀ (nR nB : Nat) (f : qFs) (g : qGs) (o : Nat → Int64) (F : qFs) (G : qGs) (H : Heap) (locs : List Loc) (ls : Array Slot), Rel (t + 1) nR nB f g F G → va_P D vwCl (mW cA cZ am F G ++ lW cA cL ad qo f g o) H → va_D (fun q : Nat => s.heap.size ≤ q) (mW cA cZ am F G ++ lW cA cL ad qo f g o) → va_S (fun q : Nat => s.heap.size ≤ q) s.heap H locs → lv_has ls 7 [(0, .ref b), (1, .ref (ad 16)), (2, .ref (am 18)), (3, .ref qo), (4, .int (nI (3 * t)))] → W p l e room_1 s m #[Value.ref b] below meth c H locs (26 + (t + 1)) (1598 + 6 * (t + 1)) (lw_Z below #[Value.ref b] s) (F0 m 1365 ls []) := by
        intro nR nB f g o F G H locs ls hRel hP hD hS hl
        refine lv_iinc (v := nI (3 * (t + 1))) (lv' := [(4, .int (nI (3 * (t + 1)))), (0, .ref b), (1, .ref (ad 16)), (2, .ref (am 18)), (3, .ref qo)]) hx hb dL_law_1365 hl (k := 4) rfl (nI_add (3 * t) 3) (by decide) rfl (fun ls hl => ?_)
        refine lv_goto (tgt := 23) hx hb dL_law_1368 (by decide) ?_
        exact ih _ (by omega) (t + 1) rfl (by omega) nR nB f g o F G H locs ls hRel hP hD hS (lv_sub hl [1, 2, 3, 4, 0] rfl)
      refine lv_aload_n hx hb dL_law_32 rfl (lv_at hl 0 rfl) ?_
      refine lv_iload hx hb dL_law_33 (lv_at hl 4 rfl) ?_
      refine va_sld hx hb hX hbl hbA hS (vp_in_nI (by omega) (by omega)) dL_law_35 ?_
      refine lv_bipush (v := 31) hx hb dL_law_36 (by decide) ?_
      refine lv_iand hx hb dL_law_38 ?_
      refine lv_topi (fun y hy => ?_)
      obtain ⟨j, hj, e9⟩ := pk_andE (xs (nI (3 * t)).toNatClampNeg) (m := 31) 5 rfl
      have hy : y = nI j := hy.trans e9
      subst hy
      have hj : j < 32 := hj
      rcases (show j = 0 ∨ j = 1 ∨ j = 2 ∨ j = 3 ∨ j = 4 ∨ j = 5 ∨ j = 6 ∨ j = 7 ∨ j = 8 ∨ j = 9 ∨ j = 10 ∨ j = 11 ∨ j = 12 ∨ j = 13 ∨ j = 14 ∨ j = 15 ∨ j = 16 ∨ j = 17 ∨ j = 18 ∨ j = 19 ∨ j = 20 ∨ j = 21 ∨ j = 22 ∨ j = 23 ∨ j = 24 ∨ j = 25 ∨ j = 26 ∨ j = 27 ∨ j = 28 ∨ j = 29 ∨ j = 30 ∨ j = 31 by omega) with rfl | rfl | rfl | rfl | rfl | rfl | rfl | rfl | rfl | rfl | rfl | rfl | rfl | rfl | rfl | rfl | rfl | rfl | rfl | rfl | rfl | rfl | rfl | rfl | rfl | rfl | rfl | rfl | rfl | rfl | rfl | rfl
      · refine lv_tableIn (off := 101) (tgt := 140) hx hb dL_law_39 (by decide) (by decide) rfl (by decide) ?_
        exact law_c0 hl0 hL C0 hK hTN ht hRel hP hD hS K hl
      · refine lv_tableIn (off := 169) (tgt := 208) hx hb dL_law_39 (by decide) (by decide) rfl (by decide) ?_
        exact law_c1 hl0 hL C0 hK hTN ht hRel hP hD hS K hl
      · refine lv_tableIn (off := 237) (tgt := 276) hx hb dL_law_39 (by decide) (by decide) rfl (by decide) ?_
        exact law_c2 hl0 hL C0 hK hTN ht hRel hP hD hS K hl
      · refine lv_tableIn (off := 293) (tgt := 332) hx hb dL_law_39 (by decide) (by decide) rfl (by decide) ?_
        exact law_c3 hl0 hL C0 hK hTN ht hRel hP hD hS K hl
      · refine lv_tableIn (off := 349) (tgt := 388) hx hb dL_law_39 (by decide) (by decide) rfl (by decide) ?_
        exact law_c4 hl0 hL C0 hK hTN ht hRel hP hD hS K hl
      · refine lv_tableIn (off := 405) (tgt := 444) hx hb dL_law_39 (by decide) (by decide) rfl (by decide) ?_
        exact law_c5 hl0 hL C0 hK hTN ht hRel hP hD hS K hl
      · refine lv_tableIn (off := 461) (tgt := 500) hx hb dL_law_39 (by decide) (by decide) rfl (by decide) ?_
        exact law_c6 hl0 hL C0 hK hTN ht hRel hP hD hS K hl
      · refine lv_tableIn (off := 517) (tgt := 556) hx hb dL_law_39 (by decide) (by decide) rfl (by decide) ?_
        exact law_c7 hl0 hL C0 hK hTN ht hRel hP hD hS K hl
      · refine lv_tableIn (off := 585) (tgt := 624) hx hb dL_law_39 (by decide) (by decide) rfl (by decide) ?_
        exact law_c8 hl0 hL C0 hK hTN ht hRel hP hD hS K hl
      · refine lv_tableIn (off := 641) (tgt := 680) hx hb dL_law_39 (by decide) (by decide) rfl (by decide) ?_
        exact law_c9 hl0 hL C0 hK hTN ht hRel hP hD hS K hl
      · refine lv_tableIn (off := 697) (tgt := 736) hx hb dL_law_39 (by decide) (by decide) rfl (by decide) ?_
        exact law_c10 hl0 hL C0 hK hTN ht hRel hP hD hS K hl
      · refine lv_tableIn (off := 710) (tgt := 749) hx hb dL_law_39 (by decide) (by decide) rfl (by decide) ?_
        exact law_c11 hl0 hL C0 hK hTN ht hRel hP hD hS K hl
      · refine lv_tableIn (off := 766) (tgt := 805) hx hb dL_law_39 (by decide) (by decide) rfl (by decide) ?_
        exact law_c12 hl0 hL C0 hK hTN ht hRel hP hD hS K hl
      · refine lv_tableIn (off := 822) (tgt := 861) hx hb dL_law_39 (by decide) (by decide) rfl (by decide) ?_
        exact law_c13 hl0 hL C0 hK hTN ht hRel hP hD hS K hl
      · refine lv_tableIn (off := 878) (tgt := 917) hx hb dL_law_39 (by decide) (by decide) rfl (by decide) ?_
        exact law_c14 hl0 hL C0 hK hTN ht hRel hP hD hS K hl
      · refine lv_tableIn (off := 922) (tgt := 961) hx hb dL_law_39 (by decide) (by decide) rfl (by decide) ?_
        exact law_c15 hl0 hL C0 hK hTN ht hRel hP hD hS K hl
      · refine lv_tableIn (off := 978) (tgt := 1017) hx hb dL_law_39 (by decide) (by decide) rfl (by decide) ?_
        exact law_c16 hl0 hL C0 hK hTN ht hRel hP hD hS K hl
      · refine lv_tableIn (off := 1034) (tgt := 1073) hx hb dL_law_39 (by decide) (by decide) rfl (by decide) ?_
        exact law_c17 hl0 hL C0 hK hTN ht hRel hP hD hS K hl
      · refine lv_tableIn (off := 1090) (tgt := 1129) hx hb dL_law_39 (by decide) (by decide) rfl (by decide) ?_
        exact law_c18 hl0 hL C0 hK hTN ht hRel hP hD hS K hl
      · refine lv_tableIn (off := 1158) (tgt := 1197) hx hb dL_law_39 (by decide) (by decide) rfl (by decide) ?_
        exact law_c19 hl0 hL C0 hK hTN ht hRel hP hD hS K hl
      · refine lv_tableIn (off := 1214) (tgt := 1253) hx hb dL_law_39 (by decide) (by decide) rfl (by decide) ?_
        exact law_c20 hl0 hL C0 hK hTN ht hRel hP hD hS K hl
      · refine lv_tableIn (off := 1282) (tgt := 1321) hx hb dL_law_39 (by decide) (by decide) rfl (by decide) ?_
        exact law_c21 hl0 hL C0 hK hTN ht hRel hP hD hS K hl
      · refine lv_tableOut (tgt := 1365) hx hb dL_law_39 (Or.inr (by decide)) (by decide) ?_
        exact law_cd hl0 hL C0 hK hTN ht hRel hP hD hS K hl
      · refine lv_tableOut (tgt := 1365) hx hb dL_law_39 (Or.inr (by decide)) (by decide) ?_
        exact law_cd hl0 hL C0 hK hTN ht hRel hP hD hS K hl
      · refine lv_tableOut (tgt := 1365) hx hb dL_law_39 (Or.inr (by decide)) (by decide) ?_
        exact law_cd hl0 hL C0 hK hTN ht hRel hP hD hS K hl
      · refine lv_tableOut (tgt := 1365) hx hb dL_law_39 (Or.inr (by decide)) (by decide) ?_
        exact law_cd hl0 hL C0 hK hTN ht hRel hP hD hS K hl
      · refine lv_tableOut (tgt := 1365) hx hb dL_law_39 (Or.inr (by decide)) (by decide) ?_
        exact law_cd hl0 hL C0 hK hTN ht hRel hP hD hS K hl
      · refine lv_tableOut (tgt := 1365) hx hb dL_law_39 (Or.inr (by decide)) (by decide) ?_
        exact law_cd hl0 hL C0 hK hTN ht hRel hP hD hS K hl
      · refine lv_tableOut (tgt := 1365) hx hb dL_law_39 (Or.inr (by decide)) (by decide) ?_
        exact law_cd hl0 hL C0 hK hTN ht hRel hP hD hS K hl
      · refine lv_tableOut (tgt := 1365) hx hb dL_law_39 (Or.inr (by decide)) (by decide) ?_
        exact law_cd hl0 hL C0 hK hTN ht hRel hP hD hS K hl
      · refine lv_tableOut (tgt := 1365) hx hb dL_law_39 (Or.inr (by decide)) (by decide) ?_
        exact law_cd hl0 hL C0 hK hTN ht hRel hP hD hS K hl
      · refine lv_tableOut (tgt := 1365) hx hb dL_law_39 (Or.inr (by decide)) (by decide) ?_
        exact law_cd hl0 hL C0 hK hTN ht hRel hP hD hS K hl
set_option maxHeartbeats 4000000 in
set_option maxRecDepth 100000 in
theorem whole_start {p : Program} {e : Env} {s : State} {m : MethodId} {below : List Frame} {meth : Method} {c : Code} (l : Launch) (hflags : l.flags = flags0) {b L : Nat} {xs : Nat → Int32} (hL : L ≤ 1536) (C0 : lw_At p s m meth c b L xs) : W p l e room_1 s m #[Value.ref b] below meth c s.heap [] 0 0 (lw_Z below #[Value.ref b] s) (entryFrame m ([Value.ref b] : List Value).toArray 7) := by
  sorry
