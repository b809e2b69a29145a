theorem lw_more {L t : Nat} (hL : L ≤ 1536) (h0 : 3 * t ≤ L) (h : ¬ nI L - 3 < nI (3 * t)) : 3 * t + 3 ≤ L := by
  rcases Nat.lt_or_ge L 3 with q | q
  · exfalso
    rcases (show L = 0 ∨ L = 1 ∨ L = 2 by omega) with rfl | rfl | rfl
    · rw [show t = 0 by omega] at h; exact h (by decide)
    · rw [show t = 0 by omega] at h; exact h (by decide)
    · rw [show t = 0 by omega] at h; exact h (by decide)
  · rw [show nI L - 3 = nI (L - 3) from pk_sub (b := 3) q, nI_ltI (by omega) (by omega)] at h
    omega
set_option maxHeartbeats 4000000 in
set_option maxRecDepth 100000 in
theorem law_loop {p : Program} {l : Launch} {e : Env} {s : State} {m : MethodId} {below : List Frame} {meth : Method} {c : Code} {b L : Nat} {xs : Nat → Int32} (hl0 : l.stackTraces = false) (hL : L ≤ 1536) (C0 : lw_At p s m meth c b L xs) {D : va_G} {cA cZ cL : ClassId} (hK : va_K D vwCl (qTy cA cZ cL) s) (hTN : lw_TN s) {ad am : Nat → Nat} {qo : Nat} : ∀ (nme t : Nat), 512 - t = nme → 3 * t ≤ L → ∀ (nR nB : Nat) (f : qFs) (g : qGs) (o : Nat → Int64) (F : qFs) (G : qGs) (H : Heap) (locs : List Loc) (ls : Array Slot), Rel t nR nB f g F G → va_P D vwCl (mW cA cZ am F G ++ lW cA cL ad qo f g o) H → va_D (fun q : Nat => s.heap.size ≤ q) (mW cA cZ am F G ++ lW cA cL ad qo f g o) → va_S (fun q : Nat => s.heap.size ≤ q) s.heap H locs → lv_has ls 7 [(0, .ref b), (1, .ref (ad 16)), (2, .ref (am 18)), (3, .ref qo), (4, .int (nI (3 * t)))] → W p l e room_1 s m #[Value.ref b] below meth c H locs (26 + t) (1598 + 6 * t) (lw_Z below #[Value.ref b] s) (F0 m 23 ls []) := by
  intro nme
  induction nme using Nat.strongRecOn with
  | ind nme ih =>
    intro t hnme ht0 nR nB f g o F G H locs ls hRel hP hD hS hl
    obtain ⟨hx, hb, hr, hml, hown, hts, hX, hbl, hlocks, hgv⟩ := id C0
    have hbA : ¬ (fun q : Nat => s.heap.size ≤ q) b := Nat.not_le.mpr hbl
    refine lv_iload hx hb dL_law_23 (lv_at hl 4 rfl) ?_
    refine lv_aload_n hx hb dL_law_25 rfl (lv_at hl 0 rfl) ?_
    refine va_slen hx hb hX hbl hbA hS dL_law_26 ?_
    refine lv_iconst (v := 3) hx hb dL_law_27 (by decide) ?_
    refine lv_isub hx hb dL_law_28 ?_
    refine lv_icmp_gt (tgt := 1371) hx hb dL_law_29 (by decide) (fun c_1 => ?_) (fun c_1 => ?_)
    · refine lv_iconst (v := 1) hx hb dL_law_1371 (by decide) ?_
      refine va_forget (fun q hq => hS.2.2 q hq) ?_
      have ht5 : t ≤ 512 := by omega
      refine W.widen (k := 1076) (n := 9946) (by omega) (by omega) ?_
      exact lw_ret hx hb hr hlocks dL_law_1372
    · have ht : 3 * t + 3 ≤ L := lw_more hL ht0 c_1
      have K : ∀ (nR nB : Nat) (f : qFs) (g : qGs) (o : Nat → Int64) (F : qFs) (G : qGs) (H : Heap) (locs : List Loc) (ls : Array Slot), Rel (t + 1) nR nB f g F G → va_P D vwCl (mW cA cZ am F G ++ lW cA cL ad qo f g o) H → va_D (fun q : Nat => s.heap.size ≤ q) (mW cA cZ am F G ++ lW cA cL ad qo f g o) → va_S (fun q : Nat => s.heap.size ≤ q) s.heap H locs → lv_has ls 7 [(0, .ref b), (1, .ref (ad 16)), (2, .ref (am 18)), (3, .ref qo), (4, .int (nI (3 * t)))] → W p l e room_1 s m #[Value.ref b] below meth c H locs (26 + (t + 1)) (1598 + 6 * (t + 1)) (lw_Z below #[Value.ref b] s) (F0 m 1365 ls []) := by
        intro nR nB f g o F G H locs ls hRel hP hD hS hl
        refine lv_iinc (v := nI (3 * (t + 1))) (lv' := [(4, .int (nI (3 * (t + 1)))), (0, .ref b), (1, .ref (ad 16)), (2, .ref (am 18)), (3, .ref qo)]) hx hb dL_law_1365 hl (k := 4) rfl (nI_add (3 * t) 3) (by decide) rfl (fun ls hl => ?_)
        refine lv_goto (tgt := 23) hx hb dL_law_1368 (by decide) ?_
        exact ih _ (by omega) (t + 1) rfl (by omega) nR nB f g o F G H locs ls hRel hP hD hS (lv_sub hl [1, 2, 3, 4, 0] rfl)
      refine lv_aload_n hx hb dL_law_32 rfl (lv_at hl 0 rfl) ?_
      refine lv_iload hx hb dL_law_33 (lv_at hl 4 rfl) ?_
      refine va_sld hx hb hX hbl hbA hS (vp_in_nI (by omega) (by omega)) dL_law_35 ?_
      refine lv_bipush (v := 31) hx hb dL_law_36 (by decide) ?_
      refine lv_iand hx hb dL_law_38 ?_
      refine lv_topi (fun y hy => ?_)
      obtain ⟨j, hj, e9⟩ := pk_andE (xs (nI (3 * t)).toNatClampNeg) (m := 31) 5 rfl
      have hy : y = nI j := hy.trans e9
      subst hy
      have hj : j < 32 := hj
      rcases (show j = 0 ∨ j = 1 ∨ j = 2 ∨ j = 3 ∨ j = 4 ∨ j = 5 ∨ j = 6 ∨ j = 7 ∨ j = 8 ∨ j = 9 ∨ j = 10 ∨ j = 11 ∨ j = 12 ∨ j = 13 ∨ j = 14 ∨ j = 15 ∨ j = 16 ∨ j = 17 ∨ j = 18 ∨ j = 19 ∨ j = 20 ∨ j = 21 ∨ j = 22 ∨ j = 23 ∨ j = 24 ∨ j = 25 ∨ j = 26 ∨ j = 27 ∨ j = 28 ∨ j = 29 ∨ j = 30 ∨ j = 31 by omega) with rfl | rfl | rfl | rfl | rfl | rfl | rfl | rfl | rfl | rfl | rfl | rfl | rfl | rfl | rfl | rfl | rfl | rfl | rfl | rfl | rfl | rfl | rfl | rfl | rfl | rfl | rfl | rfl | rfl | rfl | rfl | rfl
      · refine lv_tableIn (off := 101) (tgt := 140) hx hb dL_law_39 (by decide) (by decide) rfl (by decide) ?_
        exact law_c0 hl0 hL C0 hK hTN ht hRel hP hD hS K hl
      · refine lv_tableIn (off := 169) (tgt := 208) hx hb dL_law_39 (by decide) (by decide) rfl (by decide) ?_
        exact law_c1 hl0 hL C0 hK hTN ht hRel hP hD hS K hl
      · refine lv_tableIn (off := 237) (tgt := 276) hx hb dL_law_39 (by decide) (by decide) rfl (by decide) ?_
        exact law_c2 hl0 hL C0 hK hTN ht hRel hP hD hS K hl
      · refine lv_tableIn (off := 293) (tgt := 332) hx hb dL_law_39 (by decide) (by decide) rfl (by decide) ?_
        exact law_c3 hl0 hL C0 hK hTN ht hRel hP hD hS K hl
      · refine lv_tableIn (off := 349) (tgt := 388) hx hb dL_law_39 (by decide) (by decide) rfl (by decide) ?_
        exact law_c4 hl0 hL C0 hK hTN ht hRel hP hD hS K hl
      · refine lv_tableIn (off := 405) (tgt := 444) hx hb dL_law_39 (by decide) (by decide) rfl (by decide) ?_
        exact law_c5 hl0 hL C0 hK hTN ht hRel hP hD hS K hl
      · refine lv_tableIn (off := 461) (tgt := 500) hx hb dL_law_39 (by decide) (by decide) rfl (by decide) ?_
        exact law_c6 hl0 hL C0 hK hTN ht hRel hP hD hS K hl
      · refine lv_tableIn (off := 517) (tgt := 556) hx hb dL_law_39 (by decide) (by decide) rfl (by decide) ?_
        exact law_c7 hl0 hL C0 hK hTN ht hRel hP hD hS K hl
      · refine lv_tableIn (off := 585) (tgt := 624) hx hb dL_law_39 (by decide) (by decide) rfl (by decide) ?_
        exact law_c8 hl0 hL C0 hK hTN ht hRel hP hD hS K hl
      · refine lv_tableIn (off := 641) (tgt := 680) hx hb dL_law_39 (by decide) (by decide) rfl (by decide) ?_
        exact law_c9 hl0 hL C0 hK hTN ht hRel hP hD hS K hl
      · refine lv_tableIn (off := 697) (tgt := 736) hx hb dL_law_39 (by decide) (by decide) rfl (by decide) ?_
        exact law_c10 hl0 hL C0 hK hTN ht hRel hP hD hS K hl
      · refine lv_tableIn (off := 710) (tgt := 749) hx hb dL_law_39 (by decide) (by decide) rfl (by decide) ?_
        exact law_c11 hl0 hL C0 hK hTN ht hRel hP hD hS K hl
      · refine lv_tableIn (off := 766) (tgt := 805) hx hb dL_law_39 (by decide) (by decide) rfl (by decide) ?_
        exact law_c12 hl0 hL C0 hK hTN ht hRel hP hD hS K hl
      · refine lv_tableIn (off := 822) (tgt := 861) hx hb dL_law_39 (by decide) (by decide) rfl (by decide) ?_
        exact law_c13 hl0 hL C0 hK hTN ht hRel hP hD hS K hl
      · refine lv_tableIn (off := 878) (tgt := 917) hx hb dL_law_39 (by decide) (by decide) rfl (by decide) ?_
        exact law_c14 hl0 hL C0 hK hTN ht hRel hP hD hS K hl
      · refine lv_tableIn (off := 922) (tgt := 961) hx hb dL_law_39 (by decide) (by decide) rfl (by decide) ?_
        exact law_c15 hl0 hL C0 hK hTN ht hRel hP hD hS K hl
      · refine lv_tableIn (off := 978) (tgt := 1017) hx hb dL_law_39 (by decide) (by decide) rfl (by decide) ?_
        exact law_c16 hl0 hL C0 hK hTN ht hRel hP hD hS K hl
      · refine lv_tableIn (off := 1034) (tgt := 1073) hx hb dL_law_39 (by decide) (by decide) rfl (by decide) ?_
        exact law_c17 hl0 hL C0 hK hTN ht hRel hP hD hS K hl
      · refine lv_tableIn (off := 1090) (tgt := 1129) hx hb dL_law_39 (by decide) (by decide) rfl (by decide) ?_
        exact law_c18 hl0 hL C0 hK hTN ht hRel hP hD hS K hl
      · refine lv_tableIn (off := 1158) (tgt := 1197) hx hb dL_law_39 (by decide) (by decide) rfl (by decide) ?_
        exact law_c19 hl0 hL C0 hK hTN ht hRel hP hD hS K hl
      · refine lv_tableIn (off := 1214) (tgt := 1253) hx hb dL_law_39 (by decide) (by decide) rfl (by decide) ?_
        exact law_c20 hl0 hL C0 hK hTN ht hRel hP hD hS K hl
      · refine lv_tableIn (off := 1282) (tgt := 1321) hx hb dL_law_39 (by decide) (by decide) rfl (by decide) ?_
        exact law_c21 hl0 hL C0 hK hTN ht hRel hP hD hS K hl
      · refine lv_tableOut (tgt := 1365) hx hb dL_law_39 (Or.inr (by decide)) (by decide) ?_
        exact law_cd hl0 hL C0 hK hTN ht hRel hP hD hS K hl
      · refine lv_tableOut (tgt := 1365) hx hb dL_law_39 (Or.inr (by decide)) (by decide) ?_
        exact law_cd hl0 hL C0 hK hTN ht hRel hP hD hS K hl
      · refine lv_tableOut (tgt := 1365) hx hb dL_law_39 (Or.inr (by decide)) (by decide) ?_
        exact law_cd hl0 hL C0 hK hTN ht hRel hP hD hS K hl
      · refine lv_tableOut (tgt := 1365) hx hb dL_law_39 (Or.inr (by decide)) (by decide) ?_
        exact law_cd hl0 hL C0 hK hTN ht hRel hP hD hS K hl
      · refine lv_tableOut (tgt := 1365) hx hb dL_law_39 (Or.inr (by decide)) (by decide) ?_
        exact law_cd hl0 hL C0 hK hTN ht hRel hP hD hS K hl
      · refine lv_tableOut (tgt := 1365) hx hb dL_law_39 (Or.inr (by decide)) (by decide) ?_
        exact law_cd hl0 hL C0 hK hTN ht hRel hP hD hS K hl
      · refine lv_tableOut (tgt := 1365) hx hb dL_law_39 (Or.inr (by decide)) (by decide) ?_
        exact law_cd hl0 hL C0 hK hTN ht hRel hP hD hS K hl
      · refine lv_tableOut (tgt := 1365) hx hb dL_law_39 (Or.inr (by decide)) (by decide) ?_
        exact law_cd hl0 hL C0 hK hTN ht hRel hP hD hS K hl
      · refine lv_tableOut (tgt := 1365) hx hb dL_law_39 (Or.inr (by decide)) (by decide) ?_
        exact law_cd hl0 hL C0 hK hTN ht hRel hP hD hS K hl
      · refine lv_tableOut (tgt := 1365) hx hb dL_law_39 (Or.inr (by decide)) (by decide) ?_
        exact law_cd hl0 hL C0 hK hTN ht hRel hP hD hS K hl
set_option maxRecDepth 20000 in
theorem tn_sR : ∀ q ∈ qStr, Cond.stringRef RX0 q.1 q.2 ∈ lw_tbl := by decide +kernel
set_option maxRecDepth 20000 in
theorem tn_sE : ∀ q ∈ qStr, Cond.exactly (Term.string RX0 q.1) "java/lang/String" ∈ flatC (Jvm.Cond.and given_1 narrow_1) := by decide +kernel
set_option maxRecDepth 20000 in
theorem tn_ca : ∀ E ∈ qEx, Cond.castable E E ∈ lw_tbl := by decide +kernel
set_option maxRecDepth 20000 in
theorem tn_de : ∀ Y ∈ qDe, Cond.declares (Bundle.initS Y) ∈ lw_tbl := by decide +kernel
set_option maxRecDepth 20000 in
theorem tn_is : ∀ w ∈ [Cond.isRef (.static Bundle.tN "UNASSIGNED_STACK" Bundle.steD), Cond.isRef (.static Bundle.tN "SUPPRESSED_SENTINEL" Bundle.listD), Cond.not (.castable eIA eIO), Cond.not (.castable eIS eIO), Cond.not (.castable eIS eIA)], w ∈ flatC (Jvm.Cond.and given_1 narrow_1) := by decide +kernel
set_option maxRecDepth 20000 in
theorem tn_la : ∀ w ∈ [Cond.laysStatic Bundle.tN "UNASSIGNED_STACK" Bundle.steD, Cond.laysStatic Bundle.tN "SUPPRESSED_SENTINEL" Bundle.listD, Cond.initialized Bundle.tN, Cond.arrayClass .int, Cond.arrayClass .boolean, Cond.arrayClass .long, Cond.instantiable RX0 16, Cond.instantiable RX1 18, Cond.classLink R_law 8 RX0, Cond.classLink R_law 82 RX1, Cond.initialized RX0, Cond.initialized RX1, Cond.methodLink R_law 81 yX0_init, Cond.methodLink R_law 84 yX1_init, Cond.instanceMethod yX0_init, Cond.instanceMethod yX1_init], w ∈ lw_tbl := by decide +kernel
theorem tn_of {s : State} {b : Nat} (hts : ∀ w ∈ lw_tbl, w.before #[Value.ref b] s = true) (hgv : (Jvm.Cond.and given_1 narrow_1).before #[Value.ref b] s = true) : lw_TN s := by
  have hs := flat_of_before _ hgv
  have hI := fun w h => hs w (tn_is w h)
  have hL := fun w h => hts w (tn_la w h)
  refine ⟨vx_Zqof (hL _ (List.mem_of_getElem? (i := 0) rfl)) (hL _ (List.mem_of_getElem? (i := 2) rfl)) (hI _ (List.mem_of_getElem? (i := 0) rfl)) (fun a h q => absurd q (Nat.not_le.mpr h)), vx_Zqof (hL _ (List.mem_of_getElem? (i := 1) rfl)) (hL _ (List.mem_of_getElem? (i := 2) rfl)) (hI _ (List.mem_of_getElem? (i := 1) rfl)) (fun a h q => absurd q (Nat.not_le.mpr h)), fun q hq => ?_, fun E hE => va_Nw.of rfl (hts _ (tn_ca E hE)), fun Y hY => va_Nw.of rfl (hts _ (tn_de Y hY)), va_Nc.of (hI _ (List.mem_of_getElem? (i := 2) rfl)), va_Nc.of (hI _ (List.mem_of_getElem? (i := 3) rfl)), va_Nc.of (hI _ (List.mem_of_getElem? (i := 4) rfl))⟩
  obtain ⟨a, c, cell, k, q1, _⟩ := Cond.exactly_spec (args := #[Value.ref b]) (first := s) (o := none) (s := s) (idx := []) (t := .string RX0 q.1) (cls := "java/lang/String") (hs _ (tn_sE q hq))
  exact ⟨a, vk_R.of (hts _ (tn_sR q hq)) q1⟩
set_option maxHeartbeats 4000000 in
set_option maxRecDepth 100000 in
theorem whole_start {p : Program} {e : Env} {s : State} {m : MethodId} {below : List Frame} {meth : Method} {c : Code} (l : Launch) (hflags : l.flags = flags0) {b L : Nat} {xs : Nat → Int32} (hL : L ≤ 1536) (C0 : lw_At p s m meth c b L xs) : W p l e room_1 s m #[Value.ref b] below meth c s.heap [] 0 0 (lw_Z below #[Value.ref b] s) (entryFrame m ([Value.ref b] : List Value).toArray 7) := by
  have hl0 : l.stackTraces = false := by unfold Launch.stackTraces; rw [hflags]; decide
  obtain ⟨hx, hb, hr, hml, hown, htsT, hX, hbl, hlocks, hgv⟩ := id C0
  have hTN : lw_TN s := tn_of htsT hgv
  have hW := fun w h => htsT w (tn_la w h)
  have hts := fun w h => htsT w (wsL_law_in w h)
  have hA : ∀ q : Nat, s.heap.size ≤ q → (fun q : Nat => s.heap.size ≤ q) q := fun _ h => h
  have hbA : ¬ (fun q : Nat => s.heap.size ≤ q) b := Nat.not_le.mpr hbl
  have w_iX0 := hW _ (List.mem_of_getElem? (i := 6) rfl)
  have w_iX1 := hW _ (List.mem_of_getElem? (i := 7) rfl)
  have w_cX0 := hW _ (List.mem_of_getElem? (i := 8) rfl)
  have w_cX1 := hW _ (List.mem_of_getElem? (i := 9) rfl)
  have w_nX0 := hW _ (List.mem_of_getElem? (i := 10) rfl)
  have w_nX1 := hW _ (List.mem_of_getElem? (i := 11) rfl)
  have w_mX0 := hW _ (List.mem_of_getElem? (i := 12) rfl)
  have w_mX1 := hW _ (List.mem_of_getElem? (i := 13) rfl)
  have w_sX0 := hW _ (List.mem_of_getElem? (i := 14) rfl)
  have w_sX1 := hW _ (List.mem_of_getElem? (i := 15) rfl)
  obtain ⟨c0, iS0, hKn0⟩ := u_known (C := RX0) (T := TX0) (N := 16) (n := 16) htsT inX0 w_iX0
  obtain ⟨c1, iS1, hKn1⟩ := u_known (C := RX1) (T := TX1) (N := 18) (n := 18) htsT inX1 w_iX1
  obtain ⟨dC, dI, hKc⟩ : ∃ (dC : Nat → ClassId) (dI : Nat → Nat → Nat), ∀ (k : Nat) (q : vw_C), vwCl[k]? = some q → u_Kn s q.1 q.2.1 q.2.2 (dC k) (dI k) := by
    refine ⟨fun k => if k = 0 then c0 else c1, fun k => if k = 0 then iS0 else iS1, ?_⟩
    intro k q hq
    match k, hq with
    | 0, hq => cases hq; exact hKn0
    | 1, hq => cases hq; exact hKn1
    | k + 2, hq => simp [vwCl] at hq
  obtain ⟨cA, hA1, hA2⟩ := q_arr (hW _ (List.mem_of_getElem? (i := 3) rfl))
  obtain ⟨cZ, hZ1, hZ2⟩ := q_arr (hW _ (List.mem_of_getElem? (i := 4) rfl))
  obtain ⟨cL, hL1, hL2⟩ := q_arr (hW _ (List.mem_of_getElem? (i := 5) rfl))
  have hS : va_S (fun q : Nat => s.heap.size ≤ q) s.heap s.heap [] := va_S.rf
  have hK : va_K (dC, dI) vwCl (qTy cA cZ cL) s := by
    refine ⟨hKc, fun k q h => ?_⟩
    match k, h with
    | 0, h => cases h; exact ⟨hA1, hA2⟩
    | 1, h => cases h; exact ⟨hZ1, hZ2⟩
    | 2, h => cases h; exact ⟨hL1, hL2⟩
    | k + 3, h => simp [qTy] at h
  have hP : va_P (dC, dI) vwCl [] s.heap := fun k q h => by simp at h
  have hD : va_D (fun q : Nat => s.heap.size ≤ q) [] := ⟨fun i j p q h => by simp at h, fun k q h => by simp at h⟩
  have hl := lv_entry ([.ref b]) (n := 7) (Nat.le_of_ble_eq_true rfl)
  rw [lg_entry_eq]
  generalize (lg_sl ([.ref b]) ++ List.replicate (7 - (lg_sl ([.ref b])).length) Slot.unset).toArray = ls at hl ⊢
  have hl : lv_has ls 7 [(0, .ref b)] := hl
  refine va_new (ci := 0) (fs := [.null, .int 0, .null, .null, .null, .int 0, .null, .int 0, .int 0, .null, .null, .null, .null, .null, .null, .int 0]) (C := RX0) (T := TX0) (N := 16) hx hb htsT inX0 tyX0 tyX0_ok hown w_cX0 w_iX0 w_nX0 hK hP hD hS hA rfl (fun j hj => by rcases (show j = 0 ∨ j = 1 ∨ j = 2 ∨ j = 3 ∨ j = 4 ∨ j = 5 ∨ j = 6 ∨ j = 7 ∨ j = 8 ∨ j = 9 ∨ j = 10 ∨ j = 11 ∨ j = 12 ∨ j = 13 ∨ j = 14 ∨ j = 15 by omega) with rfl | rfl | rfl | rfl | rfl | rfl | rfl | rfl | rfl | rfl | rfl | rfl | rfl | rfl | rfl | rfl <;> rfl) (Nat.le_of_ble_eq_true rfl) (Nat.le_of_ble_eq_true rfl) dL_law_0 (fun q0 H hP hD hS => ?_)
  have hP : va_P (dC, dI) vwCl [(q0, .inr (0, [.null, .int 0, .null, .null, .null, .int 0, .null, .int 0, .int 0, .null, .null, .null, .null, .null, .null, .int 0]))] H := hP
  have hD : va_D (fun q : Nat => s.heap.size ≤ q) [(q0, .inr (0, [.null, .int 0, .null, .null, .null, .int 0, .null, .int 0, .int 0, .null, .null, .null, .null, .null, .null, .int 0]))] := hD
  refine W.widen (k := 1) (n := 16) (by omega) (by omega) ?_
  refine lv_dup hx hb dL_law_3 rfl ?_
  refine qb_callvP (wc := [(q0, .inr (0, [.null, .int 0, .null, .null, .null, .int 0, .null, .int 0, .int 0, .null, .null, .null, .null, .null, .null, .int 0]))]) (wr := []) [0] [] rfl rfl (by decide) (by decide) hP (va_runI (As := []) (rest := [.ref q0]) ⟨hx, hb, hml, hown, hts⟩ (c_X0_init l (dC, dI) cA cZ cL q0 H.size) (cwI 0 hts gL_law_X0_init rfl rfl rfl w_nX0 w_mX0 w_sX0 rfl (by decide +kernel) ⟨Nat.le_of_ble_eq_true rfl, Nat.le_of_ble_eq_true rfl⟩) ⟨qPreW_blind, qPreW_at hP hK hD⟩ rfl rfl hl.1 rfl (lv_room (Nat.le_of_ble_eq_true rfl)) dL_law_4 ⟨Nat.le_of_ble_eq_true rfl, Nat.le_of_ble_eq_true rfl⟩) hD hS hA (fun ad H locs hu hP1 hD1 hS => ?_)
  subst hu
  have hP : va_P (dC, dI) vwCl (xW cA ad xF0 xG0) H := hP1
  have hD : va_D (fun q : Nat => s.heap.size ≤ q) (xW cA ad xF0 xG0) := hD1
  refine W.widen (k := 12) (n := 900) (by omega) (by omega) ?_
  refine lv_astore_n (lv' := [(1, .ref (ad 16)), (0, .ref b)]) hx hb dL_law_7 rfl hl (by decide) rfl (fun ls hl => ?_)
  refine va_new (ci := 1) (fs := [.int 0, .null, .int 0, .int 0, .null, .null, .null, .null, .int 0, .int 0, .null, .null, .int 0, .null, .null, .null, .null, .null]) (C := RX1) (T := TX1) (N := 18) hx hb htsT inX1 tyX1 tyX1_ok hown w_cX1 w_iX1 w_nX1 hK hP hD hS hA rfl (fun j hj => by rcases (show j = 0 ∨ j = 1 ∨ j = 2 ∨ j = 3 ∨ j = 4 ∨ j = 5 ∨ j = 6 ∨ j = 7 ∨ j = 8 ∨ j = 9 ∨ j = 10 ∨ j = 11 ∨ j = 12 ∨ j = 13 ∨ j = 14 ∨ j = 15 ∨ j = 16 ∨ j = 17 by omega) with rfl | rfl | rfl | rfl | rfl | rfl | rfl | rfl | rfl | rfl | rfl | rfl | rfl | rfl | rfl | rfl | rfl | rfl <;> rfl) (Nat.le_of_ble_eq_true rfl) (Nat.le_of_ble_eq_true rfl) dL_law_8 (fun q1 H hP hD hS => ?_)
  refine W.widen (k := 13) (n := 918) (by omega) (by omega) ?_
  refine lv_dup hx hb dL_law_11 rfl ?_
  have hPc := hP.sub (ws' := [(q1, .inr (1, [.int 0, .null, .int 0, .int 0, .null, .null, .null, .null, .int 0, .int 0, .null, .null, .int 0, .null, .null, .null, .null, .null]))]) [12] rfl
  have hDc := hD.sub (ws' := [(q1, .inr (1, [.int 0, .null, .int 0, .int 0, .null, .null, .null, .null, .int 0, .int 0, .null, .null, .int 0, .null, .null, .null, .null, .null]))]) [12] (by decide) rfl
  refine qb_callvP (wc := [(q1, .inr (1, [.int 0, .null, .int 0, .int 0, .null, .null, .null, .null, .int 0, .int 0, .null, .null, .int 0, .null, .null, .null, .null, .null]))]) (wr := xW cA ad xF0 xG0) [12] [0, 1, 2, 3, 4, 5, 6, 7, 8, 9, 10, 11] rfl rfl (by decide) (by decide) hP (va_runI (As := []) (rest := [.ref q1]) ⟨hx, hb, hml, hown, hts⟩ (c_X1_init l (dC, dI) cA cZ cL q1 H.size) (cwI 0 hts gL_law_X1_init rfl rfl rfl w_nX1 w_mX1 w_sX1 rfl (by decide +kernel) ⟨Nat.le_of_ble_eq_true rfl, Nat.le_of_ble_eq_true rfl⟩) ⟨qPreW_blind, qPreW_at hPc hK hDc⟩ rfl rfl hl.1 rfl (lv_room (Nat.le_of_ble_eq_true rfl)) dL_law_12 ⟨Nat.le_of_ble_eq_true rfl, Nat.le_of_ble_eq_true rfl⟩) hD hS hA (fun am H locs hu hP1 hD1 hS => ?_)
  subst hu
  have hP : va_P (dC, dI) vwCl (xW cA ad xF0 xG0 ++ mW cA cZ am mF0 mG0) H := hP1
  have hD : va_D (fun q : Nat => s.heap.size ≤ q) (xW cA ad xF0 xG0 ++ mW cA cZ am mF0 mG0) := hD1
  refine W.widen (k := 25) (n := 1597) (by omega) (by omega) ?_
  refine lv_astore_n (lv' := [(2, .ref (am 18)), (1, .ref (ad 16)), (0, .ref b)]) hx hb dL_law_15 rfl hl (by decide) rfl (fun ls hl => ?_)
  refine lv_iconst (v := 1) hx hb dL_law_16 (by decide) ?_
  refine qb_newa (atype := .long) (a0 := (1, .inr (.inl (fun _ => 0)))) hx hb (hW _ (List.mem_of_getElem? (i := 5) rfl)) rfl hK hP hD hS hA 2 rfl (fun _ h => h) (fun _ => rfl) (by decide) (by decide) (Nat.le_of_ble_eq_true rfl) (Nat.le_of_ble_eq_true rfl) (Nat.le_of_ble_eq_true rfl) dL_law_17 (fun qo H hP hD hS => ?_)
  have hP := hP.sub (ws' := mW cA cZ am mF0 mG0 ++ lW cA cL ad qo xF0 xG0 (fun _ => 0)) [12, 13, 14, 15, 16, 17, 18, 19, 20, 21, 22, 23, 24, 25, 0, 1, 2, 3, 4, 5, 6, 7, 8, 9, 10, 11] rfl
  have hD := hD.sub (ws' := mW cA cZ am mF0 mG0 ++ lW cA cL ad qo xF0 xG0 (fun _ => 0)) [12, 13, 14, 15, 16, 17, 18, 19, 20, 21, 22, 23, 24, 25, 0, 1, 2, 3, 4, 5, 6, 7, 8, 9, 10, 11] (by decide) rfl
  refine W.widen (k := 26) (n := 1598) (by omega) (by omega) ?_
  refine lv_astore_n (lv' := [(3, .ref qo), (2, .ref (am 18)), (1, .ref (ad 16)), (0, .ref b)]) hx hb dL_law_19 rfl hl (by decide) rfl (fun ls hl => ?_)
  refine lv_iconst (v := 0) hx hb dL_law_20 (by decide) ?_
  refine lv_istore (lv' := [(4, .int 0), (3, .ref qo), (2, .ref (am 18)), (1, .ref (ad 16)), (0, .ref b)]) hx hb dL_law_21 hl (by decide) rfl (fun ls hl => ?_)
  exact law_loop hl0 hL C0 hK hTN 512 0 rfl (Nat.zero_le L) 1 0 xF0 xG0 (fun _ => 0) mF0 mG0 H locs ls Rel_0 hP hD hS (lv_sub hl [4, 3, 2, 1, 0] rfl)
