/-! THE CLAIM OUT OF ONE WALK OF THE LAW'S BODY. Your part is whole_start (and what it stands on); all else here is the same for every law, but numbers. -/
def R_law : String := "ShardBallotsLaw"
def lw_P (b : Addr) (xs : List Int32) (args : Array Value) (s : State) : Prop := args = #[.ref b] ∧ s.IntsAt b xs ∧ xs.length ≤ 1536 ∧ (Jvm.Cond.and given_1 narrow_1).before args s = true
def lw_Q (_ : Array Value) (s : State) (o : Outcome) (t : State) : Prop := o = .returned (some (.int 1)) ∧ Framed s o t [] 1076 9946
def lw_Z (below : List Frame) (a : Array Value) (s : State) : State → Prop := fun t => ∃ o, t.status = .running ∧ Ended t below o ∧ lw_Q a s o t
/-- the law's own end, with 1 on the stack, nothing written that was there before, its room as the claim has it -/
theorem lw_ret {p : Program} {l : Launch} {e : Env} {s : State} {m : MethodId} {below : List Frame} {meth : Method} {c : Code} {b : Nat} (hx : p.tables.exec = Jvm.exec) (hb : c.code = code) (hr : meth.sig.returnType = ret) (hlocks : meth.locks = false) {pc : Nat} {H : Heap} {ls : Array Slot} (hdg : decode code pc = .ok (.ireturn, 1)) : W p l e room_1 s m #[Value.ref b] below meth c H [] 1076 9946 (lw_Z below #[Value.ref b] s) (F0 m pc ls [.int 1]) := by
  intro T hT X
  obtain ⟨fs, hret, hrun, hended, hW, hframe⟩ := X.leave (v := some (.int 1)) (hlocks := hlocks) (fun h => by rw [hr] at h; cases h)
  have hmeth' : T.vm.method? m = some meth := X.method'
  refine ⟨T.setFrames fs, ?_, .returned (some (.int 1)), hrun, hended, rfl, ⟨_, rfl⟩, hW, hframe⟩
  jvm_step X.here [X.here.top, hx, hb, hdg, hmeth', hr, ret, narrow_b1]
  (try refine ⟨rfl, ?_⟩); (try refine ⟨rfl, ?_⟩)
  first | (intro acts; rw [hret _ acts rfl rfl rfl]) | rw [hret _ _ rfl rfl rfl]
  exact Steps.refl _
/-- what holds at the law's entry: the machine, the code, the tables' words (any of lw_tbl by 'hts w (by decide +kernel)'), the script of L ints xs at the cell b, what the Statement gives of the start (any of its parts by flat_of_before) -/
def lw_At (p : Program) (s : State) (m : MethodId) (meth : Method) (c : Code) (b L : Nat) (xs : Nat → Int32) : Prop :=
  p.tables.exec = Jvm.exec ∧ c.code = code ∧ meth.sig.returnType = ret ∧ c.maxLocals = 7 ∧ s.vm.findClass R_law = some m.cls ∧ (∀ w ∈ lw_tbl, w.before #[Value.ref b] s = true) ∧ va_X b L xs s s.heap ∧ b < s.heap.size ∧ meth.locks = false ∧ (Jvm.Cond.and given_1 narrow_1).before #[Value.ref b] s = true
/-- what the statement gives beside the cells: what a throw needs -/
def lw_TN (s : State) : Prop := vx_Zq Bundle.tN "UNASSIGNED_STACK" Bundle.steD (fun q : Nat => s.heap.size ≤ q) s s.heap ∧ vx_Zq Bundle.tN "SUPPRESSED_SENTINEL" Bundle.listD (fun q : Nat => s.heap.size ≤ q) s s.heap ∧ (∀ q ∈ qStr, ∃ sa : Nat, vk_R RX0 q.1 q.2 sa s) ∧ (∀ E ∈ qEx, va_Nw (.castable E E) s) ∧ (∀ Y ∈ qDe, va_Nw (.declares (Bundle.initS Y)) s) ∧ qNC s
theorem lw_pre {s : State} (h : lw_TN s) {H : Heap} {locs : List Loc} (hS : va_S (fun q : Nat => s.heap.size ≤ q) s.heap H locs) {D : va_G} {tys : List (ClassId × FieldType)} {ws : va_W} (hP : va_P D vwCl ws H) (hK : va_K D vwCl tys s) {A : Nat → Prop} (hD : va_D A ws) {av : List Value} : ∀ U : State, U.heap = H → s.WarmedH U.vm → va_Pc av (qPreL D tys ws H.size) av.toArray U := by
  intro U hU hW
  obtain ⟨h1, h2, h3, h4, h5, h6⟩ := h
  refine ⟨rfl, by rw [hU], by rw [hU]; exact hP, va_K.moved hW.alike hK, hD.weaken (fun _ _ _ _ => trivial), ⟨?_, ?_, fun q hq => ?_, fun E hE => va_Nw.warmC hW (h4 E hE), fun Y hY => qNw_warmD hW (h5 Y hY)⟩, qNC_at h6 hW.alike⟩
  · rw [hU]; exact vx_Zq.moved hW.alike ((vx_Zq.kept h1 hS.2.1).narrow (fun _ q => q.elim))
  · rw [hU]; exact vx_Zq.moved hW.alike ((vx_Zq.kept h2 hS.2.1).narrow (fun _ q => q.elim))
  · obtain ⟨sa, h7⟩ := h3 q hq
    exact ⟨sa, vk_R.warm hW h7⟩
theorem lg_same {x y : Int64} (h : x = y) : lg_cmp x y = 0 := by
  subst h
  unfold lg_cmp
  rw [if_neg (by intro q; rw [gt_iff_lt, Int64.lt_iff_toInt_lt] at q; omega), if_pos rfl]
set_option maxHeartbeats 4000000 in
set_option maxRecDepth 100000 in
theorem law_c0 {p : Program} {l : Launch} {e : Env} {s : State} {m : MethodId} {below : List Frame} {meth : Method} {c : Code} {b L : Nat} {xs : Nat → Int32} (hl0 : l.stackTraces = false) (hL : L ≤ 1536) (C0 : lw_At p s m meth c b L xs) {D : va_G} {cA cZ cL : ClassId} (hK : va_K D vwCl (qTy cA cZ cL) s) (hTN : lw_TN s) {ad am : Nat → Nat} {qo : Nat} {t : Nat} (ht : 3 * t + 3 ≤ L) {nR nB : Nat} {f : qFs} {g : qGs} {o : Nat → Int64} {F : qFs} {G : qGs} (hRel : Rel t nR nB f g F G) {H : Heap} {locs : List Loc} (hP : va_P D vwCl (mW cA cZ am F G ++ lW cA cL ad qo f g o) H) (hD : va_D (fun q : Nat => s.heap.size ≤ q) (mW cA cZ am F G ++ lW cA cL ad qo f g o)) (hS : va_S (fun q : Nat => s.heap.size ≤ q) s.heap H locs) (K : ∀ (nR nB : Nat) (f : qFs) (g : qGs) (o : Nat → Int64) (F : qFs) (G : qGs) (H : Heap) (locs : List Loc) (ls : Array Slot), Rel (t + 1) nR nB f g F G → va_P D vwCl (mW cA cZ am F G ++ lW cA cL ad qo f g o) H → va_D (fun q : Nat => s.heap.size ≤ q) (mW cA cZ am F G ++ lW cA cL ad qo f g o) → va_S (fun q : Nat => s.heap.size ≤ q) s.heap H locs → lv_has ls 7 [(0, .ref b), (1, .ref (ad 16)), (2, .ref (am 18)), (3, .ref qo), (4, .int (nI (3 * t)))] → W p l e room_1 s m #[Value.ref b] below meth c H locs (26 + (t + 1)) (1598 + 6 * (t + 1)) (lw_Z below #[Value.ref b] s) (F0 m 1365 ls [])) {ls : Array Slot} (hl : lv_has ls 7 [(0, .ref b), (1, .ref (ad 16)), (2, .ref (am 18)), (3, .ref qo), (4, .int (nI (3 * t)))]) : W p l e room_1 s m #[Value.ref b] below meth c H locs (26 + t) (1598 + 6 * t) (lw_Z below #[Value.ref b] s) (F0 m 140 ls []) := by
  obtain ⟨hx, hb, hr, hml, hown, hts, hX, hbl, hlocks, hgv⟩ := id C0
  have hts := fun w h => hts w (wsL_law_in w h)
  have hA : ∀ q : Nat, s.heap.size ≤ q → (fun q : Nat => s.heap.size ≤ q) q := fun _ h => h
  have hbA : ¬ (fun q : Nat => s.heap.size ≤ q) b := Nat.not_le.mpr hbl
  have h_1 : vp_in (nI (3 * t) + 1) L := by rw [nI_1]; exact vp_in_nI (by omega) (by omega)
  have h_2 : vp_in (nI (3 * t) + 2) L := by rw [show nI (3 * t) + 2 = nI (3 * t + 2) from nI_add _ 2]; exact vp_in_nI (by omega) (by omega)
  refine lv_aload_n hx hb dL_law_140 rfl (lv_at hl 1 rfl) ?_
  refine lv_aload_n hx hb dL_law_141 rfl (lv_at hl 0 rfl) ?_
  refine lv_iload hx hb dL_law_142 (lv_at hl 4 rfl) ?_
  refine lv_iconst (v := 1) hx hb dL_law_144 (by decide) ?_
  refine lv_iadd hx hb dL_law_145 ?_
  refine va_sld hx hb hX hbl hbA hS h_1 dL_law_146 ?_
  refine lv_aload_n hx hb dL_law_147 rfl (lv_at hl 0 rfl) ?_
  refine lv_iload hx hb dL_law_148 (lv_at hl 4 rfl) ?_
  refine lv_iconst (v := 2) hx hb dL_law_150 (by decide) ?_
  refine lv_iadd hx hb dL_law_151 ?_
  refine va_sld hx hb hX hbl hbA hS h_2 dL_law_152 ?_
  refine lv_aload_n hx hb dL_law_153 rfl (lv_at hl 3 rfl) ?_
  have hPl := hP.sub (ws' := lW cA cL ad qo f g o) [13, 14, 15, 16, 17, 18, 19, 20, 21, 22, 23, 24, 25] rfl
  have hDl := hD.sub (ws' := lW cA cL ad qo f g o) [13, 14, 15, 16, 17, 18, 19, 20, 21, 22, 23, 24, 25] (by decide) rfl
  refine qb_calliP (wc := lW cA cL ad qo f g o) (wr := mW cA cZ am F G) [13, 14, 15, 16, 17, 18, 19, 20, 21, 22, 23, 24, 25] [0, 1, 2, 3, 4, 5, 6, 7, 8, 9, 10, 11, 12] rfl rfl (by decide) (by decide) hP (vx_runSW (As := [.ref (ad 16), .int (xs (nI (3 * t) + 1).toNatClampNeg), .int (xs (nI (3 * t) + 2).toNatClampNeg), .ref qo]) (rest := []) ⟨hx, hb, hml, hown, hts⟩ (c_L_join l hl0 D cA cZ cL ad qo f g o H.size (xs (nI (3 * t) + 1).toNatClampNeg) (xs (nI (3 * t) + 2).toNatClampNeg) nR nB hRel.1) (vx_cwSW 4 hts gL_law_L_join rfl rfl rfl (by decide +kernel) ⟨Nat.le_of_ble_eq_true rfl, Nat.le_of_ble_eq_true rfl⟩) ⟨qPreL_blind, lw_pre hTN hS hPl hK hDl⟩ rfl rfl hl.1 rfl (lv_room (Nat.le_of_ble_eq_true rfl)) dL_law_154 ⟨by show 26 + t + 1 ≤ 1076; omega, by show 1598 + 6 * t + 6 ≤ 9946; omega⟩) hD hS hA (fun z u H locs hu hP hD hS => ?_)
  obtain ⟨⟨uf, ug⟩, uo⟩ := u
  have hP : va_P D vwCl (mW cA cZ am F G ++ lW cA cL ad qo uf ug uo) H := hP
  have hD : va_D (fun q : Nat => s.heap.size ≤ q) (mW cA cZ am F G ++ lW cA cL ad qo uf ug uo) := hD
  refine lv_istore (lv' := [(5, .int z), (0, .ref b), (1, .ref (ad 16)), (2, .ref (am 18)), (3, .ref qo), (4, .int (nI (3 * t)))]) hx hb dL_law_157 hl (by decide) rfl (fun ls hl => ?_)
  refine lv_aload_n hx hb dL_law_159 rfl (lv_at hl 3 rfl) ?_
  refine lv_aload_n hx hb dL_law_160 rfl (lv_at hl 1 rfl) ?_
  refine lv_iload hx hb dL_law_161 (lv_at hl 5 rfl) ?_
  refine lv_iconst (v := 1) hx hb dL_law_163 (by decide) ?_
  refine lv_iadd hx hb dL_law_164 ?_
  refine va_sld hx hb hX hbl hbA hS h_1 dL_law_165 ?_
  refine lv_aload_n hx hb dL_law_166 rfl (lv_at hl 1 rfl) ?_
  refine lv_iload hx hb dL_law_167 (lv_at hl 5 rfl) ?_
  refine lv_iconst (v := 2) hx hb dL_law_169 (by decide) ?_
  refine lv_iadd hx hb dL_law_170 ?_
  refine va_sld hx hb hX hbl hbA hS h_2 dL_law_171 ?_
  have hPm := hP.sub (ws' := mW cA cZ am F G) [0, 1, 2, 3, 4, 5, 6, 7, 8, 9, 10, 11, 12] rfl
  have hDm := hD.sub (ws' := mW cA cZ am F G) [0, 1, 2, 3, 4, 5, 6, 7, 8, 9, 10, 11, 12] (by decide) rfl
  refine qb_calliP (wc := mW cA cZ am F G) (wr := lW cA cL ad qo uf ug uo) [0, 1, 2, 3, 4, 5, 6, 7, 8, 9, 10, 11, 12] [13, 14, 15, 16, 17, 18, 19, 20, 21, 22, 23, 24, 25] rfl rfl (by decide) (by decide) hP (va_runV (As := [.int (xs (nI (3 * t) + 1).toNatClampNeg), .int (xs (nI (3 * t) + 2).toNatClampNeg)]) (rest := []) ⟨hx, hb, hml, hown, hts⟩ (c_X1_join l D cA cZ cL am F G H.size (xs (nI (3 * t) + 1).toNatClampNeg) (xs (nI (3 * t) + 2).toNatClampNeg)) (cwV 2 hts gL_law_X1_join rfl rfl rfl (by decide +kernel) ⟨Nat.le_of_ble_eq_true rfl, Nat.le_of_ble_eq_true rfl⟩) ⟨qPreW_blind, va_recv hK hPm (ci := 1) (q0 := 0) rfl rfl, qPreW_at hPm hK hDm⟩ rfl rfl hl.1 rfl (lv_room (Nat.le_of_ble_eq_true rfl)) dL_law_172 ⟨by show 26 + t + 1 + 0 ≤ 1076; omega, by show 1598 + 6 * t + 6 + 0 ≤ 9946; omega⟩) hD hS hA (fun bz v H locs hv hP hD hS => ?_)
  obtain ⟨vf, vg⟩ := v
  have hP := hP.sub (ws' := (mW cA cZ am vf vg ++ lW cA cL ad qo uf ug uo)) [13, 14, 15, 16, 17, 18, 19, 20, 21, 22, 23, 24, 25, 0, 1, 2, 3, 4, 5, 6, 7, 8, 9, 10, 11, 12] rfl
  have hD := hD.sub (ws' := (mW cA cZ am vf vg ++ lW cA cL ad qo uf ug uo)) [13, 14, 15, 16, 17, 18, 19, 20, 21, 22, 23, 24, 25, 0, 1, 2, 3, 4, 5, 6, 7, 8, 9, 10, 11, 12] (by decide) rfl
  refine lv_istore (lv' := [(6, .int bz), (5, .int z), (0, .ref b), (1, .ref (ad 16)), (2, .ref (am 18)), (3, .ref qo), (4, .int (nI (3 * t)))]) hx hb dL_law_175 hl (by decide) rfl (fun ls hl => ?_)
  obtain ⟨hz, ho, nR1, nB1, hRel1⟩ := rel_join hRel (by omega) hu hv
  refine lv_aload_n hx hb dL_law_177 rfl (lv_at hl 4 rfl) ?_
  have hPm := hP.sub (ws' := mW cA cZ am vf vg) [0, 1, 2, 3, 4, 5, 6, 7, 8, 9, 10, 11, 12] rfl
  refine vp_callSi (W.runV (As := []) (rest := []) ⟨hx, hb, hml, hown, hts⟩ (c_X1_thrown l D cA cZ cL am vf vg) (cwV 0 hts gL_law_X1_thrown rfl rfl rfl (by decide +kernel) ⟨Nat.le_of_ble_eq_true rfl, Nat.le_of_ble_eq_true rfl⟩) ⟨qPre_blind, va_recv hK hPm (ci := 1) (q0 := 0) rfl rfl, qPre_at hPm hK⟩ rfl rfl hl.1 rfl (lv_room (Nat.le_of_ble_eq_true rfl)) dL_law_178 ⟨by show 26 + t + 1 + 0 + 0 ≤ 1076; omega, by show 1598 + 6 * t + 6 + 0 + 0 ≤ 9946; omega⟩) (fun z9 hz9 => ?_)
  subst hz9
  refine lv_iload hx hb dL_law_181 (lv_at hl 1 rfl) ?_
  refine lv_icmp_eq (tgt := 188) hx hb dL_law_183 (by decide) (fun c_1 => ?_) (fun c_1 => absurd hz c_1)
  refine lv_iload hx hb dL_law_188 (lv_at hl 1 rfl) ?_
  refine lv_if_ne (tgt := 205) hx hb dL_law_190 (by decide) (fun c_2 => ?_) (fun c_2 => ?_)
  · refine lv_goto (tgt := 1365) hx hb dL_law_205 (by decide) ?_
    refine W.widen (k := 26 + (t + 1)) (n := 1598 + 6 * (t + 1)) (by omega) (by omega) ?_
    exact K _ _ _ _ _ _ _ _ _ _ hRel1 hP hD hS (lv_sub hl [2, 3, 4, 5, 6] rfl)
  · skip
    refine lv_aload_n hx hb dL_law_193 rfl (lv_at hl 5 rfl) ?_
    refine lv_iconst (v := 0) hx hb dL_law_194 (by decide) ?_
    refine va_lald hx hb hK hP 13 2 rfl rfl (by unfold vp_in; decide) dL_law_195 ?_
    refine lv_iload hx hb dL_law_196 (lv_at hl 0 rfl) ?_
    refine lv_i2l (v := bz.toInt64) hx hb dL_law_198 rfl ?_
    refine W.lcmp hx hb dL_law_199 ?_
    refine lv_if_eq (tgt := 205) hx hb dL_law_200 (by decide) (fun c_3 => ?_) (fun c_3 => absurd (lg_same (ho c_2)) c_3)
    refine lv_goto (tgt := 1365) hx hb dL_law_205 (by decide) ?_
    refine W.widen (k := 26 + (t + 1)) (n := 1598 + 6 * (t + 1)) (by omega) (by omega) ?_
    exact K _ _ _ _ _ _ _ _ _ _ hRel1 hP hD hS (lv_sub hl [2, 3, 4, 5, 6] rfl)
set_option maxHeartbeats 4000000 in
set_option maxRecDepth 100000 in
theorem law_c1 {p : Program} {l : Launch} {e : Env} {s : State} {m : MethodId} {below : List Frame} {meth : Method} {c : Code} {b L : Nat} {xs : Nat → Int32} (hl0 : l.stackTraces = false) (hL : L ≤ 1536) (C0 : lw_At p s m meth c b L xs) {D : va_G} {cA cZ cL : ClassId} (hK : va_K D vwCl (qTy cA cZ cL) s) (hTN : lw_TN s) {ad am : Nat → Nat} {qo : Nat} {t : Nat} (ht : 3 * t + 3 ≤ L) {nR nB : Nat} {f : qFs} {g : qGs} {o : Nat → Int64} {F : qFs} {G : qGs} (hRel : Rel t nR nB f g F G) {H : Heap} {locs : List Loc} (hP : va_P D vwCl (mW cA cZ am F G ++ lW cA cL ad qo f g o) H) (hD : va_D (fun q : Nat => s.heap.size ≤ q) (mW cA cZ am F G ++ lW cA cL ad qo f g o)) (hS : va_S (fun q : Nat => s.heap.size ≤ q) s.heap H locs) (K : ∀ (nR nB : Nat) (f : qFs) (g : qGs) (o : Nat → Int64) (F : qFs) (G : qGs) (H : Heap) (locs : List Loc) (ls : Array Slot), Rel (t + 1) nR nB f g F G → va_P D vwCl (mW cA cZ am F G ++ lW cA cL ad qo f g o) H → va_D (fun q : Nat => s.heap.size ≤ q) (mW cA cZ am F G ++ lW cA cL ad qo f g o) → va_S (fun q : Nat => s.heap.size ≤ q) s.heap H locs → lv_has ls 7 [(0, .ref b), (1, .ref (ad 16)), (2, .ref (am 18)), (3, .ref qo), (4, .int (nI (3 * t)))] → W p l e room_1 s m #[Value.ref b] below meth c H locs (26 + (t + 1)) (1598 + 6 * (t + 1)) (lw_Z below #[Value.ref b] s) (F0 m 1365 ls [])) {ls : Array Slot} (hl : lv_has ls 7 [(0, .ref b), (1, .ref (ad 16)), (2, .ref (am 18)), (3, .ref qo), (4, .int (nI (3 * t)))]) : W p l e room_1 s m #[Value.ref b] below meth c H locs (26 + t) (1598 + 6 * t) (lw_Z below #[Value.ref b] s) (F0 m 208 ls []) := by
  obtain ⟨hx, hb, hr, hml, hown, hts, hX, hbl, hlocks, hgv⟩ := id C0
  have hts := fun w h => hts w (wsL_law_in w h)
  have hA : ∀ q : Nat, s.heap.size ≤ q → (fun q : Nat => s.heap.size ≤ q) q := fun _ h => h
  have hbA : ¬ (fun q : Nat => s.heap.size ≤ q) b := Nat.not_le.mpr hbl
  have h_1 : vp_in (nI (3 * t) + 1) L := by rw [nI_1]; exact vp_in_nI (by omega) (by omega)
  have h_2 : vp_in (nI (3 * t) + 2) L := by rw [show nI (3 * t) + 2 = nI (3 * t + 2) from nI_add _ 2]; exact vp_in_nI (by omega) (by omega)
  refine lv_aload_n hx hb dL_law_208 rfl (lv_at hl 1 rfl) ?_
  refine lv_aload_n hx hb dL_law_209 rfl (lv_at hl 0 rfl) ?_
  refine lv_iload hx hb dL_law_210 (lv_at hl 4 rfl) ?_
  refine lv_iconst (v := 1) hx hb dL_law_212 (by decide) ?_
  refine lv_iadd hx hb dL_law_213 ?_
  refine va_sld hx hb hX hbl hbA hS h_1 dL_law_214 ?_
  refine lv_aload_n hx hb dL_law_215 rfl (lv_at hl 0 rfl) ?_
  refine lv_iload hx hb dL_law_216 (lv_at hl 4 rfl) ?_
  refine lv_iconst (v := 2) hx hb dL_law_218 (by decide) ?_
  refine lv_iadd hx hb dL_law_219 ?_
  refine va_sld hx hb hX hbl hbA hS h_2 dL_law_220 ?_
  refine lv_aload_n hx hb dL_law_221 rfl (lv_at hl 3 rfl) ?_
  have hPl := hP.sub (ws' := lW cA cL ad qo f g o) [13, 14, 15, 16, 17, 18, 19, 20, 21, 22, 23, 24, 25] rfl
  have hDl := hD.sub (ws' := lW cA cL ad qo f g o) [13, 14, 15, 16, 17, 18, 19, 20, 21, 22, 23, 24, 25] (by decide) rfl
  refine qb_calliP (wc := lW cA cL ad qo f g o) (wr := mW cA cZ am F G) [13, 14, 15, 16, 17, 18, 19, 20, 21, 22, 23, 24, 25] [0, 1, 2, 3, 4, 5, 6, 7, 8, 9, 10, 11, 12] rfl rfl (by decide) (by decide) hP (vx_runSW (As := [.ref (ad 16), .int (xs (nI (3 * t) + 1).toNatClampNeg), .int (xs (nI (3 * t) + 2).toNatClampNeg), .ref qo]) (rest := []) ⟨hx, hb, hml, hown, hts⟩ (c_L_change l hl0 D cA cZ cL ad qo f g o H.size (xs (nI (3 * t) + 1).toNatClampNeg) (xs (nI (3 * t) + 2).toNatClampNeg) nR nB hRel.1) (vx_cwSW 4 hts gL_law_L_change rfl rfl rfl (by decide +kernel) ⟨Nat.le_of_ble_eq_true rfl, Nat.le_of_ble_eq_true rfl⟩) ⟨qPreL_blind, lw_pre hTN hS hPl hK hDl⟩ rfl rfl hl.1 rfl (lv_room (Nat.le_of_ble_eq_true rfl)) dL_law_222 ⟨by show 26 + t + 1 ≤ 1076; omega, by show 1598 + 6 * t + 6 ≤ 9946; omega⟩) hD hS hA (fun z u H locs hu hP hD hS => ?_)
  obtain ⟨⟨uf, ug⟩, uo⟩ := u
  have hP : va_P D vwCl (mW cA cZ am F G ++ lW cA cL ad qo uf ug uo) H := hP
  have hD : va_D (fun q : Nat => s.heap.size ≤ q) (mW cA cZ am F G ++ lW cA cL ad qo uf ug uo) := hD
  refine lv_istore (lv' := [(5, .int z), (0, .ref b), (1, .ref (ad 16)), (2, .ref (am 18)), (3, .ref qo), (4, .int (nI (3 * t)))]) hx hb dL_law_225 hl (by decide) rfl (fun ls hl => ?_)
  refine lv_aload_n hx hb dL_law_227 rfl (lv_at hl 3 rfl) ?_
  refine lv_aload_n hx hb dL_law_228 rfl (lv_at hl 1 rfl) ?_
  refine lv_iload hx hb dL_law_229 (lv_at hl 5 rfl) ?_
  refine lv_iconst (v := 1) hx hb dL_law_231 (by decide) ?_
  refine lv_iadd hx hb dL_law_232 ?_
  refine va_sld hx hb hX hbl hbA hS h_1 dL_law_233 ?_
  refine lv_aload_n hx hb dL_law_234 rfl (lv_at hl 1 rfl) ?_
  refine lv_iload hx hb dL_law_235 (lv_at hl 5 rfl) ?_
  refine lv_iconst (v := 2) hx hb dL_law_237 (by decide) ?_
  refine lv_iadd hx hb dL_law_238 ?_
  refine va_sld hx hb hX hbl hbA hS h_2 dL_law_239 ?_
  have hPm := hP.sub (ws' := mW cA cZ am F G) [0, 1, 2, 3, 4, 5, 6, 7, 8, 9, 10, 11, 12] rfl
  have hDm := hD.sub (ws' := mW cA cZ am F G) [0, 1, 2, 3, 4, 5, 6, 7, 8, 9, 10, 11, 12] (by decide) rfl
  refine qb_calliP (wc := mW cA cZ am F G) (wr := lW cA cL ad qo uf ug uo) [0, 1, 2, 3, 4, 5, 6, 7, 8, 9, 10, 11, 12] [13, 14, 15, 16, 17, 18, 19, 20, 21, 22, 23, 24, 25] rfl rfl (by decide) (by decide) hP (va_runV (As := [.int (xs (nI (3 * t) + 1).toNatClampNeg), .int (xs (nI (3 * t) + 2).toNatClampNeg)]) (rest := []) ⟨hx, hb, hml, hown, hts⟩ (c_X1_change l D cA cZ cL am F G H.size (xs (nI (3 * t) + 1).toNatClampNeg) (xs (nI (3 * t) + 2).toNatClampNeg)) (cwV 2 hts gL_law_X1_change rfl rfl rfl (by decide +kernel) ⟨Nat.le_of_ble_eq_true rfl, Nat.le_of_ble_eq_true rfl⟩) ⟨qPreW_blind, va_recv hK hPm (ci := 1) (q0 := 0) rfl rfl, qPreW_at hPm hK hDm⟩ rfl rfl hl.1 rfl (lv_room (Nat.le_of_ble_eq_true rfl)) dL_law_240 ⟨by show 26 + t + 1 + 0 ≤ 1076; omega, by show 1598 + 6 * t + 6 + 0 ≤ 9946; omega⟩) hD hS hA (fun bz v H locs hv hP hD hS => ?_)
  obtain ⟨vf, vg⟩ := v
  have hP := hP.sub (ws' := (mW cA cZ am vf vg ++ lW cA cL ad qo uf ug uo)) [13, 14, 15, 16, 17, 18, 19, 20, 21, 22, 23, 24, 25, 0, 1, 2, 3, 4, 5, 6, 7, 8, 9, 10, 11, 12] rfl
  have hD := hD.sub (ws' := (mW cA cZ am vf vg ++ lW cA cL ad qo uf ug uo)) [13, 14, 15, 16, 17, 18, 19, 20, 21, 22, 23, 24, 25, 0, 1, 2, 3, 4, 5, 6, 7, 8, 9, 10, 11, 12] (by decide) rfl
  refine lv_istore (lv' := [(6, .int bz), (5, .int z), (0, .ref b), (1, .ref (ad 16)), (2, .ref (am 18)), (3, .ref qo), (4, .int (nI (3 * t)))]) hx hb dL_law_243 hl (by decide) rfl (fun ls hl => ?_)
  obtain ⟨hz, ho, nR1, nB1, hRel1⟩ := rel_change hRel (by omega) hu hv
  refine lv_aload_n hx hb dL_law_245 rfl (lv_at hl 4 rfl) ?_
  have hPm := hP.sub (ws' := mW cA cZ am vf vg) [0, 1, 2, 3, 4, 5, 6, 7, 8, 9, 10, 11, 12] rfl
  refine vp_callSi (W.runV (As := []) (rest := []) ⟨hx, hb, hml, hown, hts⟩ (c_X1_thrown l D cA cZ cL am vf vg) (cwV 0 hts gL_law_X1_thrown rfl rfl rfl (by decide +kernel) ⟨Nat.le_of_ble_eq_true rfl, Nat.le_of_ble_eq_true rfl⟩) ⟨qPre_blind, va_recv hK hPm (ci := 1) (q0 := 0) rfl rfl, qPre_at hPm hK⟩ rfl rfl hl.1 rfl (lv_room (Nat.le_of_ble_eq_true rfl)) dL_law_246 ⟨by show 26 + t + 1 + 0 + 0 ≤ 1076; omega, by show 1598 + 6 * t + 6 + 0 + 0 ≤ 9946; omega⟩) (fun z9 hz9 => ?_)
  subst hz9
  refine lv_iload hx hb dL_law_249 (lv_at hl 1 rfl) ?_
  refine lv_icmp_eq (tgt := 256) hx hb dL_law_251 (by decide) (fun c_1 => ?_) (fun c_1 => absurd hz c_1)
  refine lv_iload hx hb dL_law_256 (lv_at hl 1 rfl) ?_
  refine lv_if_ne (tgt := 273) hx hb dL_law_258 (by decide) (fun c_2 => ?_) (fun c_2 => ?_)
  · refine lv_goto (tgt := 1365) hx hb dL_law_273 (by decide) ?_
    refine W.widen (k := 26 + (t + 1)) (n := 1598 + 6 * (t + 1)) (by omega) (by omega) ?_
    exact K _ _ _ _ _ _ _ _ _ _ hRel1 hP hD hS (lv_sub hl [2, 3, 4, 5, 6] rfl)
  · skip
    refine lv_aload_n hx hb dL_law_261 rfl (lv_at hl 5 rfl) ?_
    refine lv_iconst (v := 0) hx hb dL_law_262 (by decide) ?_
    refine va_lald hx hb hK hP 13 2 rfl rfl (by unfold vp_in; decide) dL_law_263 ?_
    refine lv_iload hx hb dL_law_264 (lv_at hl 0 rfl) ?_
    refine lv_i2l (v := bz.toInt64) hx hb dL_law_266 rfl ?_
    refine W.lcmp hx hb dL_law_267 ?_
    refine lv_if_eq (tgt := 273) hx hb dL_law_268 (by decide) (fun c_3 => ?_) (fun c_3 => absurd (lg_same (ho c_2)) c_3)
    refine lv_goto (tgt := 1365) hx hb dL_law_273 (by decide) ?_
    refine W.widen (k := 26 + (t + 1)) (n := 1598 + 6 * (t + 1)) (by omega) (by omega) ?_
    exact K _ _ _ _ _ _ _ _ _ _ hRel1 hP hD hS (lv_sub hl [2, 3, 4, 5, 6] rfl)
set_option maxHeartbeats 4000000 in
set_option maxRecDepth 100000 in
theorem law_c2 {p : Program} {l : Launch} {e : Env} {s : State} {m : MethodId} {below : List Frame} {meth : Method} {c : Code} {b L : Nat} {xs : Nat → Int32} (hl0 : l.stackTraces = false) (hL : L ≤ 1536) (C0 : lw_At p s m meth c b L xs) {D : va_G} {cA cZ cL : ClassId} (hK : va_K D vwCl (qTy cA cZ cL) s) (hTN : lw_TN s) {ad am : Nat → Nat} {qo : Nat} {t : Nat} (ht : 3 * t + 3 ≤ L) {nR nB : Nat} {f : qFs} {g : qGs} {o : Nat → Int64} {F : qFs} {G : qGs} (hRel : Rel t nR nB f g F G) {H : Heap} {locs : List Loc} (hP : va_P D vwCl (mW cA cZ am F G ++ lW cA cL ad qo f g o) H) (hD : va_D (fun q : Nat => s.heap.size ≤ q) (mW cA cZ am F G ++ lW cA cL ad qo f g o)) (hS : va_S (fun q : Nat => s.heap.size ≤ q) s.heap H locs) (K : ∀ (nR nB : Nat) (f : qFs) (g : qGs) (o : Nat → Int64) (F : qFs) (G : qGs) (H : Heap) (locs : List Loc) (ls : Array Slot), Rel (t + 1) nR nB f g F G → va_P D vwCl (mW cA cZ am F G ++ lW cA cL ad qo f g o) H → va_D (fun q : Nat => s.heap.size ≤ q) (mW cA cZ am F G ++ lW cA cL ad qo f g o) → va_S (fun q : Nat => s.heap.size ≤ q) s.heap H locs → lv_has ls 7 [(0, .ref b), (1, .ref (ad 16)), (2, .ref (am 18)), (3, .ref qo), (4, .int (nI (3 * t)))] → W p l e room_1 s m #[Value.ref b] below meth c H locs (26 + (t + 1)) (1598 + 6 * (t + 1)) (lw_Z below #[Value.ref b] s) (F0 m 1365 ls [])) {ls : Array Slot} (hl : lv_has ls 7 [(0, .ref b), (1, .ref (ad 16)), (2, .ref (am 18)), (3, .ref qo), (4, .int (nI (3 * t)))]) : W p l e room_1 s m #[Value.ref b] below meth c H locs (26 + t) (1598 + 6 * t) (lw_Z below #[Value.ref b] s) (F0 m 276 ls []) := by
  obtain ⟨hx, hb, hr, hml, hown, hts, hX, hbl, hlocks, hgv⟩ := id C0
  have hts := fun w h => hts w (wsL_law_in w h)
  have hA : ∀ q : Nat, s.heap.size ≤ q → (fun q : Nat => s.heap.size ≤ q) q := fun _ h => h
  have hbA : ¬ (fun q : Nat => s.heap.size ≤ q) b := Nat.not_le.mpr hbl
  have h_1 : vp_in (nI (3 * t) + 1) L := by rw [nI_1]; exact vp_in_nI (by omega) (by omega)
  have h_2 : vp_in (nI (3 * t) + 2) L := by rw [show nI (3 * t) + 2 = nI (3 * t + 2) from nI_add _ 2]; exact vp_in_nI (by omega) (by omega)
  refine lv_aload_n hx hb dL_law_276 rfl (lv_at hl 1 rfl) ?_
  refine lv_aload_n hx hb dL_law_277 rfl (lv_at hl 0 rfl) ?_
  refine lv_iload hx hb dL_law_278 (lv_at hl 4 rfl) ?_
  refine lv_iconst (v := 1) hx hb dL_law_280 (by decide) ?_
  refine lv_iadd hx hb dL_law_281 ?_
  refine va_sld hx hb hX hbl hbA hS h_1 dL_law_282 ?_
  refine lv_aload_n hx hb dL_law_283 rfl (lv_at hl 3 rfl) ?_
  have hPl := hP.sub (ws' := lW cA cL ad qo f g o) [13, 14, 15, 16, 17, 18, 19, 20, 21, 22, 23, 24, 25] rfl
  have hDl := hD.sub (ws' := lW cA cL ad qo f g o) [13, 14, 15, 16, 17, 18, 19, 20, 21, 22, 23, 24, 25] (by decide) rfl
  refine qb_calliP (wc := lW cA cL ad qo f g o) (wr := mW cA cZ am F G) [13, 14, 15, 16, 17, 18, 19, 20, 21, 22, 23, 24, 25] [0, 1, 2, 3, 4, 5, 6, 7, 8, 9, 10, 11, 12] rfl rfl (by decide) (by decide) hP (vx_runSW (As := [.ref (ad 16), .int (xs (nI (3 * t) + 1).toNatClampNeg), .ref qo]) (rest := []) ⟨hx, hb, hml, hown, hts⟩ (c_L_leave l hl0 D cA cZ cL ad qo f g o H.size (xs (nI (3 * t) + 1).toNatClampNeg) nR nB hRel.1) (vx_cwSW 3 hts gL_law_L_leave rfl rfl rfl (by decide +kernel) ⟨Nat.le_of_ble_eq_true rfl, Nat.le_of_ble_eq_true rfl⟩) ⟨qPreL_blind, lw_pre hTN hS hPl hK hDl⟩ rfl rfl hl.1 rfl (lv_room (Nat.le_of_ble_eq_true rfl)) dL_law_284 ⟨by show 26 + t + 1 ≤ 1076; omega, by show 1598 + 6 * t + 6 ≤ 9946; omega⟩) hD hS hA (fun z u H locs hu hP hD hS => ?_)
  obtain ⟨⟨uf, ug⟩, uo⟩ := u
  have hP : va_P D vwCl (mW cA cZ am F G ++ lW cA cL ad qo uf ug uo) H := hP
  have hD : va_D (fun q : Nat => s.heap.size ≤ q) (mW cA cZ am F G ++ lW cA cL ad qo uf ug uo) := hD
  refine lv_istore (lv' := [(5, .int z), (0, .ref b), (1, .ref (ad 16)), (2, .ref (am 18)), (3, .ref qo), (4, .int (nI (3 * t)))]) hx hb dL_law_287 hl (by decide) rfl (fun ls hl => ?_)
  refine lv_aload_n hx hb dL_law_289 rfl (lv_at hl 3 rfl) ?_
  refine lv_aload_n hx hb dL_law_290 rfl (lv_at hl 1 rfl) ?_
  refine lv_iload hx hb dL_law_291 (lv_at hl 5 rfl) ?_
  refine lv_iconst (v := 1) hx hb dL_law_293 (by decide) ?_
  refine lv_iadd hx hb dL_law_294 ?_
  refine va_sld hx hb hX hbl hbA hS h_1 dL_law_295 ?_
  have hPm := hP.sub (ws' := mW cA cZ am F G) [0, 1, 2, 3, 4, 5, 6, 7, 8, 9, 10, 11, 12] rfl
  have hDm := hD.sub (ws' := mW cA cZ am F G) [0, 1, 2, 3, 4, 5, 6, 7, 8, 9, 10, 11, 12] (by decide) rfl
  refine qb_calliP (wc := mW cA cZ am F G) (wr := lW cA cL ad qo uf ug uo) [0, 1, 2, 3, 4, 5, 6, 7, 8, 9, 10, 11, 12] [13, 14, 15, 16, 17, 18, 19, 20, 21, 22, 23, 24, 25] rfl rfl (by decide) (by decide) hP (va_runV (As := [.int (xs (nI (3 * t) + 1).toNatClampNeg)]) (rest := []) ⟨hx, hb, hml, hown, hts⟩ (c_X1_leave l D cA cZ cL am F G H.size (xs (nI (3 * t) + 1).toNatClampNeg)) (cwV 1 hts gL_law_X1_leave rfl rfl rfl (by decide +kernel) ⟨Nat.le_of_ble_eq_true rfl, Nat.le_of_ble_eq_true rfl⟩) ⟨qPreW_blind, va_recv hK hPm (ci := 1) (q0 := 0) rfl rfl, qPreW_at hPm hK hDm⟩ rfl rfl hl.1 rfl (lv_room (Nat.le_of_ble_eq_true rfl)) dL_law_296 ⟨by show 26 + t + 1 + 0 ≤ 1076; omega, by show 1598 + 6 * t + 6 + 0 ≤ 9946; omega⟩) hD hS hA (fun bz v H locs hv hP hD hS => ?_)
  obtain ⟨vf, vg⟩ := v
  have hP := hP.sub (ws' := (mW cA cZ am vf vg ++ lW cA cL ad qo uf ug uo)) [13, 14, 15, 16, 17, 18, 19, 20, 21, 22, 23, 24, 25, 0, 1, 2, 3, 4, 5, 6, 7, 8, 9, 10, 11, 12] rfl
  have hD := hD.sub (ws' := (mW cA cZ am vf vg ++ lW cA cL ad qo uf ug uo)) [13, 14, 15, 16, 17, 18, 19, 20, 21, 22, 23, 24, 25, 0, 1, 2, 3, 4, 5, 6, 7, 8, 9, 10, 11, 12] (by decide) rfl
  refine lv_istore (lv' := [(6, .int bz), (5, .int z), (0, .ref b), (1, .ref (ad 16)), (2, .ref (am 18)), (3, .ref qo), (4, .int (nI (3 * t)))]) hx hb dL_law_299 hl (by decide) rfl (fun ls hl => ?_)
  obtain ⟨hz, ho, nR1, nB1, hRel1⟩ := rel_leave hRel (by omega) hu hv
  refine lv_aload_n hx hb dL_law_301 rfl (lv_at hl 4 rfl) ?_
  have hPm := hP.sub (ws' := mW cA cZ am vf vg) [0, 1, 2, 3, 4, 5, 6, 7, 8, 9, 10, 11, 12] rfl
  refine vp_callSi (W.runV (As := []) (rest := []) ⟨hx, hb, hml, hown, hts⟩ (c_X1_thrown l D cA cZ cL am vf vg) (cwV 0 hts gL_law_X1_thrown rfl rfl rfl (by decide +kernel) ⟨Nat.le_of_ble_eq_true rfl, Nat.le_of_ble_eq_true rfl⟩) ⟨qPre_blind, va_recv hK hPm (ci := 1) (q0 := 0) rfl rfl, qPre_at hPm hK⟩ rfl rfl hl.1 rfl (lv_room (Nat.le_of_ble_eq_true rfl)) dL_law_302 ⟨by show 26 + t + 1 + 0 + 0 ≤ 1076; omega, by show 1598 + 6 * t + 6 + 0 + 0 ≤ 9946; omega⟩) (fun z9 hz9 => ?_)
  subst hz9
  refine lv_iload hx hb dL_law_305 (lv_at hl 1 rfl) ?_
  refine lv_icmp_eq (tgt := 312) hx hb dL_law_307 (by decide) (fun c_1 => ?_) (fun c_1 => absurd hz c_1)
  refine lv_iload hx hb dL_law_312 (lv_at hl 1 rfl) ?_
  refine lv_if_ne (tgt := 329) hx hb dL_law_314 (by decide) (fun c_2 => ?_) (fun c_2 => ?_)
  · refine lv_goto (tgt := 1365) hx hb dL_law_329 (by decide) ?_
    refine W.widen (k := 26 + (t + 1)) (n := 1598 + 6 * (t + 1)) (by omega) (by omega) ?_
    exact K _ _ _ _ _ _ _ _ _ _ hRel1 hP hD hS (lv_sub hl [2, 3, 4, 5, 6] rfl)
  · skip
    refine lv_aload_n hx hb dL_law_317 rfl (lv_at hl 5 rfl) ?_
    refine lv_iconst (v := 0) hx hb dL_law_318 (by decide) ?_
    refine va_lald hx hb hK hP 13 2 rfl rfl (by unfold vp_in; decide) dL_law_319 ?_
    refine lv_iload hx hb dL_law_320 (lv_at hl 0 rfl) ?_
    refine lv_i2l (v := bz.toInt64) hx hb dL_law_322 rfl ?_
    refine W.lcmp hx hb dL_law_323 ?_
    refine lv_if_eq (tgt := 329) hx hb dL_law_324 (by decide) (fun c_3 => ?_) (fun c_3 => absurd (lg_same (ho c_2)) c_3)
    refine lv_goto (tgt := 1365) hx hb dL_law_329 (by decide) ?_
    refine W.widen (k := 26 + (t + 1)) (n := 1598 + 6 * (t + 1)) (by omega) (by omega) ?_
    exact K _ _ _ _ _ _ _ _ _ _ hRel1 hP hD hS (lv_sub hl [2, 3, 4, 5, 6] rfl)
set_option maxHeartbeats 4000000 in
set_option maxRecDepth 100000 in
theorem law_c3 {p : Program} {l : Launch} {e : Env} {s : State} {m : MethodId} {below : List Frame} {meth : Method} {c : Code} {b L : Nat} {xs : Nat → Int32} (hl0 : l.stackTraces = false) (hL : L ≤ 1536) (C0 : lw_At p s m meth c b L xs) {D : va_G} {cA cZ cL : ClassId} (hK : va_K D vwCl (qTy cA cZ cL) s) (hTN : lw_TN s) {ad am : Nat → Nat} {qo : Nat} {t : Nat} (ht : 3 * t + 3 ≤ L) {nR nB : Nat} {f : qFs} {g : qGs} {o : Nat → Int64} {F : qFs} {G : qGs} (hRel : Rel t nR nB f g F G) {H : Heap} {locs : List Loc} (hP : va_P D vwCl (mW cA cZ am F G ++ lW cA cL ad qo f g o) H) (hD : va_D (fun q : Nat => s.heap.size ≤ q) (mW cA cZ am F G ++ lW cA cL ad qo f g o)) (hS : va_S (fun q : Nat => s.heap.size ≤ q) s.heap H locs) (K : ∀ (nR nB : Nat) (f : qFs) (g : qGs) (o : Nat → Int64) (F : qFs) (G : qGs) (H : Heap) (locs : List Loc) (ls : Array Slot), Rel (t + 1) nR nB f g F G → va_P D vwCl (mW cA cZ am F G ++ lW cA cL ad qo f g o) H → va_D (fun q : Nat => s.heap.size ≤ q) (mW cA cZ am F G ++ lW cA cL ad qo f g o) → va_S (fun q : Nat => s.heap.size ≤ q) s.heap H locs → lv_has ls 7 [(0, .ref b), (1, .ref (ad 16)), (2, .ref (am 18)), (3, .ref qo), (4, .int (nI (3 * t)))] → W p l e room_1 s m #[Value.ref b] below meth c H locs (26 + (t + 1)) (1598 + 6 * (t + 1)) (lw_Z below #[Value.ref b] s) (F0 m 1365 ls [])) {ls : Array Slot} (hl : lv_has ls 7 [(0, .ref b), (1, .ref (ad 16)), (2, .ref (am 18)), (3, .ref qo), (4, .int (nI (3 * t)))]) : W p l e room_1 s m #[Value.ref b] below meth c H locs (26 + t) (1598 + 6 * t) (lw_Z below #[Value.ref b] s) (F0 m 332 ls []) := by
  obtain ⟨hx, hb, hr, hml, hown, hts, hX, hbl, hlocks, hgv⟩ := id C0
  have hts := fun w h => hts w (wsL_law_in w h)
  have hA : ∀ q : Nat, s.heap.size ≤ q → (fun q : Nat => s.heap.size ≤ q) q := fun _ h => h
  have hbA : ¬ (fun q : Nat => s.heap.size ≤ q) b := Nat.not_le.mpr hbl
  have h_1 : vp_in (nI (3 * t) + 1) L := by rw [nI_1]; exact vp_in_nI (by omega) (by omega)
  have h_2 : vp_in (nI (3 * t) + 2) L := by rw [show nI (3 * t) + 2 = nI (3 * t + 2) from nI_add _ 2]; exact vp_in_nI (by omega) (by omega)
  refine lv_aload_n hx hb dL_law_332 rfl (lv_at hl 1 rfl) ?_
  refine lv_aload_n hx hb dL_law_333 rfl (lv_at hl 0 rfl) ?_
  refine lv_iload hx hb dL_law_334 (lv_at hl 4 rfl) ?_
  refine lv_iconst (v := 1) hx hb dL_law_336 (by decide) ?_
  refine lv_iadd hx hb dL_law_337 ?_
  refine va_sld hx hb hX hbl hbA hS h_1 dL_law_338 ?_
  refine lv_aload_n hx hb dL_law_339 rfl (lv_at hl 3 rfl) ?_
  have hPl := hP.sub (ws' := lW cA cL ad qo f g o) [13, 14, 15, 16, 17, 18, 19, 20, 21, 22, 23, 24, 25] rfl
  have hDl := hD.sub (ws' := lW cA cL ad qo f g o) [13, 14, 15, 16, 17, 18, 19, 20, 21, 22, 23, 24, 25] (by decide) rfl
  refine qb_calliP (wc := lW cA cL ad qo f g o) (wr := mW cA cZ am F G) [13, 14, 15, 16, 17, 18, 19, 20, 21, 22, 23, 24, 25] [0, 1, 2, 3, 4, 5, 6, 7, 8, 9, 10, 11, 12] rfl rfl (by decide) (by decide) hP (vx_runSW (As := [.ref (ad 16), .int (xs (nI (3 * t) + 1).toNatClampNeg), .ref qo]) (rest := []) ⟨hx, hb, hml, hown, hts⟩ (c_L_address l hl0 D cA cZ cL ad qo f g o H.size (xs (nI (3 * t) + 1).toNatClampNeg) nR nB hRel.1) (vx_cwSW 3 hts gL_law_L_address rfl rfl rfl (by decide +kernel) ⟨Nat.le_of_ble_eq_true rfl, Nat.le_of_ble_eq_true rfl⟩) ⟨qPreL_blind, lw_pre hTN hS hPl hK hDl⟩ rfl rfl hl.1 rfl (lv_room (Nat.le_of_ble_eq_true rfl)) dL_law_340 ⟨by show 26 + t + 1 ≤ 1076; omega, by show 1598 + 6 * t + 6 ≤ 9946; omega⟩) hD hS hA (fun z u H locs hu hP hD hS => ?_)
  obtain ⟨⟨uf, ug⟩, uo⟩ := u
  have hP : va_P D vwCl (mW cA cZ am F G ++ lW cA cL ad qo uf ug uo) H := hP
  have hD : va_D (fun q : Nat => s.heap.size ≤ q) (mW cA cZ am F G ++ lW cA cL ad qo uf ug uo) := hD
  refine lv_istore (lv' := [(5, .int z), (0, .ref b), (1, .ref (ad 16)), (2, .ref (am 18)), (3, .ref qo), (4, .int (nI (3 * t)))]) hx hb dL_law_343 hl (by decide) rfl (fun ls hl => ?_)
  refine lv_aload_n hx hb dL_law_345 rfl (lv_at hl 3 rfl) ?_
  refine lv_aload_n hx hb dL_law_346 rfl (lv_at hl 1 rfl) ?_
  refine lv_iload hx hb dL_law_347 (lv_at hl 5 rfl) ?_
  refine lv_iconst (v := 1) hx hb dL_law_349 (by decide) ?_
  refine lv_iadd hx hb dL_law_350 ?_
  refine va_sld hx hb hX hbl hbA hS h_1 dL_law_351 ?_
  have hPm := hP.sub (ws' := mW cA cZ am F G) [0, 1, 2, 3, 4, 5, 6, 7, 8, 9, 10, 11, 12] rfl
  have hDm := hD.sub (ws' := mW cA cZ am F G) [0, 1, 2, 3, 4, 5, 6, 7, 8, 9, 10, 11, 12] (by decide) rfl
  refine qb_calliP (wc := mW cA cZ am F G) (wr := lW cA cL ad qo uf ug uo) [0, 1, 2, 3, 4, 5, 6, 7, 8, 9, 10, 11, 12] [13, 14, 15, 16, 17, 18, 19, 20, 21, 22, 23, 24, 25] rfl rfl (by decide) (by decide) hP (va_runV (As := [.int (xs (nI (3 * t) + 1).toNatClampNeg)]) (rest := []) ⟨hx, hb, hml, hown, hts⟩ (c_X1_address l D cA cZ cL am F G H.size (xs (nI (3 * t) + 1).toNatClampNeg)) (cwV 1 hts gL_law_X1_address rfl rfl rfl (by decide +kernel) ⟨Nat.le_of_ble_eq_true rfl, Nat.le_of_ble_eq_true rfl⟩) ⟨qPreW_blind, va_recv hK hPm (ci := 1) (q0 := 0) rfl rfl, qPreW_at hPm hK hDm⟩ rfl rfl hl.1 rfl (lv_room (Nat.le_of_ble_eq_true rfl)) dL_law_352 ⟨by show 26 + t + 1 + 0 ≤ 1076; omega, by show 1598 + 6 * t + 6 + 0 ≤ 9946; omega⟩) hD hS hA (fun bz v H locs hv hP hD hS => ?_)
  obtain ⟨vf, vg⟩ := v
  have hP := hP.sub (ws' := (mW cA cZ am vf vg ++ lW cA cL ad qo uf ug uo)) [13, 14, 15, 16, 17, 18, 19, 20, 21, 22, 23, 24, 25, 0, 1, 2, 3, 4, 5, 6, 7, 8, 9, 10, 11, 12] rfl
  have hD := hD.sub (ws' := (mW cA cZ am vf vg ++ lW cA cL ad qo uf ug uo)) [13, 14, 15, 16, 17, 18, 19, 20, 21, 22, 23, 24, 25, 0, 1, 2, 3, 4, 5, 6, 7, 8, 9, 10, 11, 12] (by decide) rfl
  refine lv_istore (lv' := [(6, .int bz), (5, .int z), (0, .ref b), (1, .ref (ad 16)), (2, .ref (am 18)), (3, .ref qo), (4, .int (nI (3 * t)))]) hx hb dL_law_355 hl (by decide) rfl (fun ls hl => ?_)
  obtain ⟨hz, ho, nR1, nB1, hRel1⟩ := rel_address hRel (by omega) hu hv
  refine lv_aload_n hx hb dL_law_357 rfl (lv_at hl 4 rfl) ?_
  have hPm := hP.sub (ws' := mW cA cZ am vf vg) [0, 1, 2, 3, 4, 5, 6, 7, 8, 9, 10, 11, 12] rfl
  refine vp_callSi (W.runV (As := []) (rest := []) ⟨hx, hb, hml, hown, hts⟩ (c_X1_thrown l D cA cZ cL am vf vg) (cwV 0 hts gL_law_X1_thrown rfl rfl rfl (by decide +kernel) ⟨Nat.le_of_ble_eq_true rfl, Nat.le_of_ble_eq_true rfl⟩) ⟨qPre_blind, va_recv hK hPm (ci := 1) (q0 := 0) rfl rfl, qPre_at hPm hK⟩ rfl rfl hl.1 rfl (lv_room (Nat.le_of_ble_eq_true rfl)) dL_law_358 ⟨by show 26 + t + 1 + 0 + 0 ≤ 1076; omega, by show 1598 + 6 * t + 6 + 0 + 0 ≤ 9946; omega⟩) (fun z9 hz9 => ?_)
  subst hz9
  refine lv_iload hx hb dL_law_361 (lv_at hl 1 rfl) ?_
  refine lv_icmp_eq (tgt := 368) hx hb dL_law_363 (by decide) (fun c_1 => ?_) (fun c_1 => absurd hz c_1)
  refine lv_iload hx hb dL_law_368 (lv_at hl 1 rfl) ?_
  refine lv_if_ne (tgt := 385) hx hb dL_law_370 (by decide) (fun c_2 => ?_) (fun c_2 => ?_)
  · refine lv_goto (tgt := 1365) hx hb dL_law_385 (by decide) ?_
    refine W.widen (k := 26 + (t + 1)) (n := 1598 + 6 * (t + 1)) (by omega) (by omega) ?_
    exact K _ _ _ _ _ _ _ _ _ _ hRel1 hP hD hS (lv_sub hl [2, 3, 4, 5, 6] rfl)
  · skip
    refine lv_aload_n hx hb dL_law_373 rfl (lv_at hl 5 rfl) ?_
    refine lv_iconst (v := 0) hx hb dL_law_374 (by decide) ?_
    refine va_lald hx hb hK hP 13 2 rfl rfl (by unfold vp_in; decide) dL_law_375 ?_
    refine lv_iload hx hb dL_law_376 (lv_at hl 0 rfl) ?_
    refine lv_i2l (v := bz.toInt64) hx hb dL_law_378 rfl ?_
    refine W.lcmp hx hb dL_law_379 ?_
    refine lv_if_eq (tgt := 385) hx hb dL_law_380 (by decide) (fun c_3 => ?_) (fun c_3 => absurd (lg_same (ho c_2)) c_3)
    refine lv_goto (tgt := 1365) hx hb dL_law_385 (by decide) ?_
    refine W.widen (k := 26 + (t + 1)) (n := 1598 + 6 * (t + 1)) (by omega) (by omega) ?_
    exact K _ _ _ _ _ _ _ _ _ _ hRel1 hP hD hS (lv_sub hl [2, 3, 4, 5, 6] rfl)
set_option maxHeartbeats 4000000 in
set_option maxRecDepth 100000 in
theorem law_c4 {p : Program} {l : Launch} {e : Env} {s : State} {m : MethodId} {below : List Frame} {meth : Method} {c : Code} {b L : Nat} {xs : Nat → Int32} (hl0 : l.stackTraces = false) (hL : L ≤ 1536) (C0 : lw_At p s m meth c b L xs) {D : va_G} {cA cZ cL : ClassId} (hK : va_K D vwCl (qTy cA cZ cL) s) (hTN : lw_TN s) {ad am : Nat → Nat} {qo : Nat} {t : Nat} (ht : 3 * t + 3 ≤ L) {nR nB : Nat} {f : qFs} {g : qGs} {o : Nat → Int64} {F : qFs} {G : qGs} (hRel : Rel t nR nB f g F G) {H : Heap} {locs : List Loc} (hP : va_P D vwCl (mW cA cZ am F G ++ lW cA cL ad qo f g o) H) (hD : va_D (fun q : Nat => s.heap.size ≤ q) (mW cA cZ am F G ++ lW cA cL ad qo f g o)) (hS : va_S (fun q : Nat => s.heap.size ≤ q) s.heap H locs) (K : ∀ (nR nB : Nat) (f : qFs) (g : qGs) (o : Nat → Int64) (F : qFs) (G : qGs) (H : Heap) (locs : List Loc) (ls : Array Slot), Rel (t + 1) nR nB f g F G → va_P D vwCl (mW cA cZ am F G ++ lW cA cL ad qo f g o) H → va_D (fun q : Nat => s.heap.size ≤ q) (mW cA cZ am F G ++ lW cA cL ad qo f g o) → va_S (fun q : Nat => s.heap.size ≤ q) s.heap H locs → lv_has ls 7 [(0, .ref b), (1, .ref (ad 16)), (2, .ref (am 18)), (3, .ref qo), (4, .int (nI (3 * t)))] → W p l e room_1 s m #[Value.ref b] below meth c H locs (26 + (t + 1)) (1598 + 6 * (t + 1)) (lw_Z below #[Value.ref b] s) (F0 m 1365 ls [])) {ls : Array Slot} (hl : lv_has ls 7 [(0, .ref b), (1, .ref (ad 16)), (2, .ref (am 18)), (3, .ref qo), (4, .int (nI (3 * t)))]) : W p l e room_1 s m #[Value.ref b] below meth c H locs (26 + t) (1598 + 6 * t) (lw_Z below #[Value.ref b] s) (F0 m 388 ls []) := by
  obtain ⟨hx, hb, hr, hml, hown, hts, hX, hbl, hlocks, hgv⟩ := id C0
  have hts := fun w h => hts w (wsL_law_in w h)
  have hA : ∀ q : Nat, s.heap.size ≤ q → (fun q : Nat => s.heap.size ≤ q) q := fun _ h => h
  have hbA : ¬ (fun q : Nat => s.heap.size ≤ q) b := Nat.not_le.mpr hbl
  have h_1 : vp_in (nI (3 * t) + 1) L := by rw [nI_1]; exact vp_in_nI (by omega) (by omega)
  have h_2 : vp_in (nI (3 * t) + 2) L := by rw [show nI (3 * t) + 2 = nI (3 * t + 2) from nI_add _ 2]; exact vp_in_nI (by omega) (by omega)
  refine lv_aload_n hx hb dL_law_388 rfl (lv_at hl 1 rfl) ?_
  refine lv_aload_n hx hb dL_law_389 rfl (lv_at hl 0 rfl) ?_
  refine lv_iload hx hb dL_law_390 (lv_at hl 4 rfl) ?_
  refine lv_iconst (v := 1) hx hb dL_law_392 (by decide) ?_
  refine lv_iadd hx hb dL_law_393 ?_
  refine va_sld hx hb hX hbl hbA hS h_1 dL_law_394 ?_
  refine lv_aload_n hx hb dL_law_395 rfl (lv_at hl 3 rfl) ?_
  have hPl := hP.sub (ws' := lW cA cL ad qo f g o) [13, 14, 15, 16, 17, 18, 19, 20, 21, 22, 23, 24, 25] rfl
  have hDl := hD.sub (ws' := lW cA cL ad qo f g o) [13, 14, 15, 16, 17, 18, 19, 20, 21, 22, 23, 24, 25] (by decide) rfl
  refine qb_calliP (wc := lW cA cL ad qo f g o) (wr := mW cA cZ am F G) [13, 14, 15, 16, 17, 18, 19, 20, 21, 22, 23, 24, 25] [0, 1, 2, 3, 4, 5, 6, 7, 8, 9, 10, 11, 12] rfl rfl (by decide) (by decide) hP (vx_runSW (As := [.ref (ad 16), .int (xs (nI (3 * t) + 1).toNatClampNeg), .ref qo]) (rest := []) ⟨hx, hb, hml, hown, hts⟩ (c_L_inDistrict l hl0 D cA cZ cL ad qo f g o H.size (xs (nI (3 * t) + 1).toNatClampNeg) nR nB hRel.1) (vx_cwSW 3 hts gL_law_L_inDistrict rfl rfl rfl (by decide +kernel) ⟨Nat.le_of_ble_eq_true rfl, Nat.le_of_ble_eq_true rfl⟩) ⟨qPreL_blind, lw_pre hTN hS hPl hK hDl⟩ rfl rfl hl.1 rfl (lv_room (Nat.le_of_ble_eq_true rfl)) dL_law_396 ⟨by show 26 + t + 1 ≤ 1076; omega, by show 1598 + 6 * t + 6 ≤ 9946; omega⟩) hD hS hA (fun z u H locs hu hP hD hS => ?_)
  obtain ⟨⟨uf, ug⟩, uo⟩ := u
  have hP : va_P D vwCl (mW cA cZ am F G ++ lW cA cL ad qo uf ug uo) H := hP
  have hD : va_D (fun q : Nat => s.heap.size ≤ q) (mW cA cZ am F G ++ lW cA cL ad qo uf ug uo) := hD
  refine lv_istore (lv' := [(5, .int z), (0, .ref b), (1, .ref (ad 16)), (2, .ref (am 18)), (3, .ref qo), (4, .int (nI (3 * t)))]) hx hb dL_law_399 hl (by decide) rfl (fun ls hl => ?_)
  refine lv_aload_n hx hb dL_law_401 rfl (lv_at hl 3 rfl) ?_
  refine lv_aload_n hx hb dL_law_402 rfl (lv_at hl 1 rfl) ?_
  refine lv_iload hx hb dL_law_403 (lv_at hl 5 rfl) ?_
  refine lv_iconst (v := 1) hx hb dL_law_405 (by decide) ?_
  refine lv_iadd hx hb dL_law_406 ?_
  refine va_sld hx hb hX hbl hbA hS h_1 dL_law_407 ?_
  have hPm := hP.sub (ws' := mW cA cZ am F G) [0, 1, 2, 3, 4, 5, 6, 7, 8, 9, 10, 11, 12] rfl
  have hDm := hD.sub (ws' := mW cA cZ am F G) [0, 1, 2, 3, 4, 5, 6, 7, 8, 9, 10, 11, 12] (by decide) rfl
  refine qb_calliP (wc := mW cA cZ am F G) (wr := lW cA cL ad qo uf ug uo) [0, 1, 2, 3, 4, 5, 6, 7, 8, 9, 10, 11, 12] [13, 14, 15, 16, 17, 18, 19, 20, 21, 22, 23, 24, 25] rfl rfl (by decide) (by decide) hP (va_runV (As := [.int (xs (nI (3 * t) + 1).toNatClampNeg)]) (rest := []) ⟨hx, hb, hml, hown, hts⟩ (c_X1_inDistrict l D cA cZ cL am F G H.size (xs (nI (3 * t) + 1).toNatClampNeg)) (cwV 1 hts gL_law_X1_inDistrict rfl rfl rfl (by decide +kernel) ⟨Nat.le_of_ble_eq_true rfl, Nat.le_of_ble_eq_true rfl⟩) ⟨qPreW_blind, va_recv hK hPm (ci := 1) (q0 := 0) rfl rfl, qPreW_at hPm hK hDm⟩ rfl rfl hl.1 rfl (lv_room (Nat.le_of_ble_eq_true rfl)) dL_law_408 ⟨by show 26 + t + 1 + 0 ≤ 1076; omega, by show 1598 + 6 * t + 6 + 0 ≤ 9946; omega⟩) hD hS hA (fun bz v H locs hv hP hD hS => ?_)
  obtain ⟨vf, vg⟩ := v
  have hP := hP.sub (ws' := (mW cA cZ am vf vg ++ lW cA cL ad qo uf ug uo)) [13, 14, 15, 16, 17, 18, 19, 20, 21, 22, 23, 24, 25, 0, 1, 2, 3, 4, 5, 6, 7, 8, 9, 10, 11, 12] rfl
  have hD := hD.sub (ws' := (mW cA cZ am vf vg ++ lW cA cL ad qo uf ug uo)) [13, 14, 15, 16, 17, 18, 19, 20, 21, 22, 23, 24, 25, 0, 1, 2, 3, 4, 5, 6, 7, 8, 9, 10, 11, 12] (by decide) rfl
  refine lv_istore (lv' := [(6, .int bz), (5, .int z), (0, .ref b), (1, .ref (ad 16)), (2, .ref (am 18)), (3, .ref qo), (4, .int (nI (3 * t)))]) hx hb dL_law_411 hl (by decide) rfl (fun ls hl => ?_)
  obtain ⟨hz, ho, nR1, nB1, hRel1⟩ := rel_inDistrict hRel (by omega) hu hv
  refine lv_aload_n hx hb dL_law_413 rfl (lv_at hl 4 rfl) ?_
  have hPm := hP.sub (ws' := mW cA cZ am vf vg) [0, 1, 2, 3, 4, 5, 6, 7, 8, 9, 10, 11, 12] rfl
  refine vp_callSi (W.runV (As := []) (rest := []) ⟨hx, hb, hml, hown, hts⟩ (c_X1_thrown l D cA cZ cL am vf vg) (cwV 0 hts gL_law_X1_thrown rfl rfl rfl (by decide +kernel) ⟨Nat.le_of_ble_eq_true rfl, Nat.le_of_ble_eq_true rfl⟩) ⟨qPre_blind, va_recv hK hPm (ci := 1) (q0 := 0) rfl rfl, qPre_at hPm hK⟩ rfl rfl hl.1 rfl (lv_room (Nat.le_of_ble_eq_true rfl)) dL_law_414 ⟨by show 26 + t + 1 + 0 + 0 ≤ 1076; omega, by show 1598 + 6 * t + 6 + 0 + 0 ≤ 9946; omega⟩) (fun z9 hz9 => ?_)
  subst hz9
  refine lv_iload hx hb dL_law_417 (lv_at hl 1 rfl) ?_
  refine lv_icmp_eq (tgt := 424) hx hb dL_law_419 (by decide) (fun c_1 => ?_) (fun c_1 => absurd hz c_1)
  refine lv_iload hx hb dL_law_424 (lv_at hl 1 rfl) ?_
  refine lv_if_ne (tgt := 441) hx hb dL_law_426 (by decide) (fun c_2 => ?_) (fun c_2 => ?_)
  · refine lv_goto (tgt := 1365) hx hb dL_law_441 (by decide) ?_
    refine W.widen (k := 26 + (t + 1)) (n := 1598 + 6 * (t + 1)) (by omega) (by omega) ?_
    exact K _ _ _ _ _ _ _ _ _ _ hRel1 hP hD hS (lv_sub hl [2, 3, 4, 5, 6] rfl)
  · skip
    refine lv_aload_n hx hb dL_law_429 rfl (lv_at hl 5 rfl) ?_
    refine lv_iconst (v := 0) hx hb dL_law_430 (by decide) ?_
    refine va_lald hx hb hK hP 13 2 rfl rfl (by unfold vp_in; decide) dL_law_431 ?_
    refine lv_iload hx hb dL_law_432 (lv_at hl 0 rfl) ?_
    refine lv_i2l (v := bz.toInt64) hx hb dL_law_434 rfl ?_
    refine W.lcmp hx hb dL_law_435 ?_
    refine lv_if_eq (tgt := 441) hx hb dL_law_436 (by decide) (fun c_3 => ?_) (fun c_3 => absurd (lg_same (ho c_2)) c_3)
    refine lv_goto (tgt := 1365) hx hb dL_law_441 (by decide) ?_
    refine W.widen (k := 26 + (t + 1)) (n := 1598 + 6 * (t + 1)) (by omega) (by omega) ?_
    exact K _ _ _ _ _ _ _ _ _ _ hRel1 hP hD hS (lv_sub hl [2, 3, 4, 5, 6] rfl)
set_option maxHeartbeats 4000000 in
set_option maxRecDepth 100000 in
theorem law_c5 {p : Program} {l : Launch} {e : Env} {s : State} {m : MethodId} {below : List Frame} {meth : Method} {c : Code} {b L : Nat} {xs : Nat → Int32} (hl0 : l.stackTraces = false) (hL : L ≤ 1536) (C0 : lw_At p s m meth c b L xs) {D : va_G} {cA cZ cL : ClassId} (hK : va_K D vwCl (qTy cA cZ cL) s) (hTN : lw_TN s) {ad am : Nat → Nat} {qo : Nat} {t : Nat} (ht : 3 * t + 3 ≤ L) {nR nB : Nat} {f : qFs} {g : qGs} {o : Nat → Int64} {F : qFs} {G : qGs} (hRel : Rel t nR nB f g F G) {H : Heap} {locs : List Loc} (hP : va_P D vwCl (mW cA cZ am F G ++ lW cA cL ad qo f g o) H) (hD : va_D (fun q : Nat => s.heap.size ≤ q) (mW cA cZ am F G ++ lW cA cL ad qo f g o)) (hS : va_S (fun q : Nat => s.heap.size ≤ q) s.heap H locs) (K : ∀ (nR nB : Nat) (f : qFs) (g : qGs) (o : Nat → Int64) (F : qFs) (G : qGs) (H : Heap) (locs : List Loc) (ls : Array Slot), Rel (t + 1) nR nB f g F G → va_P D vwCl (mW cA cZ am F G ++ lW cA cL ad qo f g o) H → va_D (fun q : Nat => s.heap.size ≤ q) (mW cA cZ am F G ++ lW cA cL ad qo f g o) → va_S (fun q : Nat => s.heap.size ≤ q) s.heap H locs → lv_has ls 7 [(0, .ref b), (1, .ref (ad 16)), (2, .ref (am 18)), (3, .ref qo), (4, .int (nI (3 * t)))] → W p l e room_1 s m #[Value.ref b] below meth c H locs (26 + (t + 1)) (1598 + 6 * (t + 1)) (lw_Z below #[Value.ref b] s) (F0 m 1365 ls [])) {ls : Array Slot} (hl : lv_has ls 7 [(0, .ref b), (1, .ref (ad 16)), (2, .ref (am 18)), (3, .ref qo), (4, .int (nI (3 * t)))]) : W p l e room_1 s m #[Value.ref b] below meth c H locs (26 + t) (1598 + 6 * t) (lw_Z below #[Value.ref b] s) (F0 m 444 ls []) := by
  obtain ⟨hx, hb, hr, hml, hown, hts, hX, hbl, hlocks, hgv⟩ := id C0
  have hts := fun w h => hts w (wsL_law_in w h)
  have hA : ∀ q : Nat, s.heap.size ≤ q → (fun q : Nat => s.heap.size ≤ q) q := fun _ h => h
  have hbA : ¬ (fun q : Nat => s.heap.size ≤ q) b := Nat.not_le.mpr hbl
  have h_1 : vp_in (nI (3 * t) + 1) L := by rw [nI_1]; exact vp_in_nI (by omega) (by omega)
  have h_2 : vp_in (nI (3 * t) + 2) L := by rw [show nI (3 * t) + 2 = nI (3 * t + 2) from nI_add _ 2]; exact vp_in_nI (by omega) (by omega)
  refine lv_aload_n hx hb dL_law_444 rfl (lv_at hl 1 rfl) ?_
  refine lv_aload_n hx hb dL_law_445 rfl (lv_at hl 0 rfl) ?_
  refine lv_iload hx hb dL_law_446 (lv_at hl 4 rfl) ?_
  refine lv_iconst (v := 1) hx hb dL_law_448 (by decide) ?_
  refine lv_iadd hx hb dL_law_449 ?_
  refine va_sld hx hb hX hbl hbA hS h_1 dL_law_450 ?_
  refine lv_aload_n hx hb dL_law_451 rfl (lv_at hl 3 rfl) ?_
  have hPl := hP.sub (ws' := lW cA cL ad qo f g o) [13, 14, 15, 16, 17, 18, 19, 20, 21, 22, 23, 24, 25] rfl
  have hDl := hD.sub (ws' := lW cA cL ad qo f g o) [13, 14, 15, 16, 17, 18, 19, 20, 21, 22, 23, 24, 25] (by decide) rfl
  refine qb_calliP (wc := lW cA cL ad qo f g o) (wr := mW cA cZ am F G) [13, 14, 15, 16, 17, 18, 19, 20, 21, 22, 23, 24, 25] [0, 1, 2, 3, 4, 5, 6, 7, 8, 9, 10, 11, 12] rfl rfl (by decide) (by decide) hP (vx_runSW (As := [.ref (ad 16), .int (xs (nI (3 * t) + 1).toNatClampNeg), .ref qo]) (rest := []) ⟨hx, hb, hml, hown, hts⟩ (c_L_split l hl0 D cA cZ cL ad qo f g o H.size (xs (nI (3 * t) + 1).toNatClampNeg) nR nB hRel.1) (vx_cwSW 3 hts gL_law_L_split rfl rfl rfl (by decide +kernel) ⟨Nat.le_of_ble_eq_true rfl, Nat.le_of_ble_eq_true rfl⟩) ⟨qPreL_blind, lw_pre hTN hS hPl hK hDl⟩ rfl rfl hl.1 rfl (lv_room (Nat.le_of_ble_eq_true rfl)) dL_law_452 ⟨by show 26 + t + 1 ≤ 1076; omega, by show 1598 + 6 * t + 6 ≤ 9946; omega⟩) hD hS hA (fun z u H locs hu hP hD hS => ?_)
  obtain ⟨⟨uf, ug⟩, uo⟩ := u
  have hP : va_P D vwCl (mW cA cZ am F G ++ lW cA cL ad qo uf ug uo) H := hP
  have hD : va_D (fun q : Nat => s.heap.size ≤ q) (mW cA cZ am F G ++ lW cA cL ad qo uf ug uo) := hD
  refine lv_istore (lv' := [(5, .int z), (0, .ref b), (1, .ref (ad 16)), (2, .ref (am 18)), (3, .ref qo), (4, .int (nI (3 * t)))]) hx hb dL_law_455 hl (by decide) rfl (fun ls hl => ?_)
  refine lv_aload_n hx hb dL_law_457 rfl (lv_at hl 3 rfl) ?_
  refine lv_aload_n hx hb dL_law_458 rfl (lv_at hl 1 rfl) ?_
  refine lv_iload hx hb dL_law_459 (lv_at hl 5 rfl) ?_
  refine lv_iconst (v := 1) hx hb dL_law_461 (by decide) ?_
  refine lv_iadd hx hb dL_law_462 ?_
  refine va_sld hx hb hX hbl hbA hS h_1 dL_law_463 ?_
  have hPm := hP.sub (ws' := mW cA cZ am F G) [0, 1, 2, 3, 4, 5, 6, 7, 8, 9, 10, 11, 12] rfl
  have hDm := hD.sub (ws' := mW cA cZ am F G) [0, 1, 2, 3, 4, 5, 6, 7, 8, 9, 10, 11, 12] (by decide) rfl
  refine qb_calliP (wc := mW cA cZ am F G) (wr := lW cA cL ad qo uf ug uo) [0, 1, 2, 3, 4, 5, 6, 7, 8, 9, 10, 11, 12] [13, 14, 15, 16, 17, 18, 19, 20, 21, 22, 23, 24, 25] rfl rfl (by decide) (by decide) hP (va_runV (As := [.int (xs (nI (3 * t) + 1).toNatClampNeg)]) (rest := []) ⟨hx, hb, hml, hown, hts⟩ (c_X1_split l D cA cZ cL am F G H.size (xs (nI (3 * t) + 1).toNatClampNeg) nR nB hRel.2.1) (cwV 1 hts gL_law_X1_split rfl rfl rfl (by decide +kernel) ⟨Nat.le_of_ble_eq_true rfl, Nat.le_of_ble_eq_true rfl⟩) ⟨qPreW_blind, va_recv hK hPm (ci := 1) (q0 := 0) rfl rfl, qPreW_at hPm hK hDm⟩ rfl rfl hl.1 rfl (lv_room (Nat.le_of_ble_eq_true rfl)) dL_law_464 ⟨by show 26 + t + 1 + 0 ≤ 1076; omega, by show 1598 + 6 * t + 6 + 0 ≤ 9946; omega⟩) hD hS hA (fun bz v H locs hv hP hD hS => ?_)
  obtain ⟨vf, vg⟩ := v
  have hP := hP.sub (ws' := (mW cA cZ am vf vg ++ lW cA cL ad qo uf ug uo)) [13, 14, 15, 16, 17, 18, 19, 20, 21, 22, 23, 24, 25, 0, 1, 2, 3, 4, 5, 6, 7, 8, 9, 10, 11, 12] rfl
  have hD := hD.sub (ws' := (mW cA cZ am vf vg ++ lW cA cL ad qo uf ug uo)) [13, 14, 15, 16, 17, 18, 19, 20, 21, 22, 23, 24, 25, 0, 1, 2, 3, 4, 5, 6, 7, 8, 9, 10, 11, 12] (by decide) rfl
  refine lv_istore (lv' := [(6, .int bz), (5, .int z), (0, .ref b), (1, .ref (ad 16)), (2, .ref (am 18)), (3, .ref qo), (4, .int (nI (3 * t)))]) hx hb dL_law_467 hl (by decide) rfl (fun ls hl => ?_)
  obtain ⟨hz, ho, nR1, nB1, hRel1⟩ := rel_split hRel (by omega) hu hv
  refine lv_aload_n hx hb dL_law_469 rfl (lv_at hl 4 rfl) ?_
  have hPm := hP.sub (ws' := mW cA cZ am vf vg) [0, 1, 2, 3, 4, 5, 6, 7, 8, 9, 10, 11, 12] rfl
  refine vp_callSi (W.runV (As := []) (rest := []) ⟨hx, hb, hml, hown, hts⟩ (c_X1_thrown l D cA cZ cL am vf vg) (cwV 0 hts gL_law_X1_thrown rfl rfl rfl (by decide +kernel) ⟨Nat.le_of_ble_eq_true rfl, Nat.le_of_ble_eq_true rfl⟩) ⟨qPre_blind, va_recv hK hPm (ci := 1) (q0 := 0) rfl rfl, qPre_at hPm hK⟩ rfl rfl hl.1 rfl (lv_room (Nat.le_of_ble_eq_true rfl)) dL_law_470 ⟨by show 26 + t + 1 + 0 + 0 ≤ 1076; omega, by show 1598 + 6 * t + 6 + 0 + 0 ≤ 9946; omega⟩) (fun z9 hz9 => ?_)
  subst hz9
  refine lv_iload hx hb dL_law_473 (lv_at hl 1 rfl) ?_
  refine lv_icmp_eq (tgt := 480) hx hb dL_law_475 (by decide) (fun c_1 => ?_) (fun c_1 => absurd hz c_1)
  refine lv_iload hx hb dL_law_480 (lv_at hl 1 rfl) ?_
  refine lv_if_ne (tgt := 497) hx hb dL_law_482 (by decide) (fun c_2 => ?_) (fun c_2 => ?_)
  · refine lv_goto (tgt := 1365) hx hb dL_law_497 (by decide) ?_
    refine W.widen (k := 26 + (t + 1)) (n := 1598 + 6 * (t + 1)) (by omega) (by omega) ?_
    exact K _ _ _ _ _ _ _ _ _ _ hRel1 hP hD hS (lv_sub hl [2, 3, 4, 5, 6] rfl)
  · skip
    refine lv_aload_n hx hb dL_law_485 rfl (lv_at hl 5 rfl) ?_
    refine lv_iconst (v := 0) hx hb dL_law_486 (by decide) ?_
    refine va_lald hx hb hK hP 13 2 rfl rfl (by unfold vp_in; decide) dL_law_487 ?_
    refine lv_iload hx hb dL_law_488 (lv_at hl 0 rfl) ?_
    refine lv_i2l (v := bz.toInt64) hx hb dL_law_490 rfl ?_
    refine W.lcmp hx hb dL_law_491 ?_
    refine lv_if_eq (tgt := 497) hx hb dL_law_492 (by decide) (fun c_3 => ?_) (fun c_3 => absurd (lg_same (ho c_2)) c_3)
    refine lv_goto (tgt := 1365) hx hb dL_law_497 (by decide) ?_
    refine W.widen (k := 26 + (t + 1)) (n := 1598 + 6 * (t + 1)) (by omega) (by omega) ?_
    exact K _ _ _ _ _ _ _ _ _ _ hRel1 hP hD hS (lv_sub hl [2, 3, 4, 5, 6] rfl)
set_option maxHeartbeats 4000000 in
set_option maxRecDepth 100000 in
theorem law_c6 {p : Program} {l : Launch} {e : Env} {s : State} {m : MethodId} {below : List Frame} {meth : Method} {c : Code} {b L : Nat} {xs : Nat → Int32} (hl0 : l.stackTraces = false) (hL : L ≤ 1536) (C0 : lw_At p s m meth c b L xs) {D : va_G} {cA cZ cL : ClassId} (hK : va_K D vwCl (qTy cA cZ cL) s) (hTN : lw_TN s) {ad am : Nat → Nat} {qo : Nat} {t : Nat} (ht : 3 * t + 3 ≤ L) {nR nB : Nat} {f : qFs} {g : qGs} {o : Nat → Int64} {F : qFs} {G : qGs} (hRel : Rel t nR nB f g F G) {H : Heap} {locs : List Loc} (hP : va_P D vwCl (mW cA cZ am F G ++ lW cA cL ad qo f g o) H) (hD : va_D (fun q : Nat => s.heap.size ≤ q) (mW cA cZ am F G ++ lW cA cL ad qo f g o)) (hS : va_S (fun q : Nat => s.heap.size ≤ q) s.heap H locs) (K : ∀ (nR nB : Nat) (f : qFs) (g : qGs) (o : Nat → Int64) (F : qFs) (G : qGs) (H : Heap) (locs : List Loc) (ls : Array Slot), Rel (t + 1) nR nB f g F G → va_P D vwCl (mW cA cZ am F G ++ lW cA cL ad qo f g o) H → va_D (fun q : Nat => s.heap.size ≤ q) (mW cA cZ am F G ++ lW cA cL ad qo f g o) → va_S (fun q : Nat => s.heap.size ≤ q) s.heap H locs → lv_has ls 7 [(0, .ref b), (1, .ref (ad 16)), (2, .ref (am 18)), (3, .ref qo), (4, .int (nI (3 * t)))] → W p l e room_1 s m #[Value.ref b] below meth c H locs (26 + (t + 1)) (1598 + 6 * (t + 1)) (lw_Z below #[Value.ref b] s) (F0 m 1365 ls [])) {ls : Array Slot} (hl : lv_has ls 7 [(0, .ref b), (1, .ref (ad 16)), (2, .ref (am 18)), (3, .ref qo), (4, .int (nI (3 * t)))]) : W p l e room_1 s m #[Value.ref b] below meth c H locs (26 + t) (1598 + 6 * t) (lw_Z below #[Value.ref b] s) (F0 m 500 ls []) := by
  obtain ⟨hx, hb, hr, hml, hown, hts, hX, hbl, hlocks, hgv⟩ := id C0
  have hts := fun w h => hts w (wsL_law_in w h)
  have hA : ∀ q : Nat, s.heap.size ≤ q → (fun q : Nat => s.heap.size ≤ q) q := fun _ h => h
  have hbA : ¬ (fun q : Nat => s.heap.size ≤ q) b := Nat.not_le.mpr hbl
  have h_1 : vp_in (nI (3 * t) + 1) L := by rw [nI_1]; exact vp_in_nI (by omega) (by omega)
  have h_2 : vp_in (nI (3 * t) + 2) L := by rw [show nI (3 * t) + 2 = nI (3 * t + 2) from nI_add _ 2]; exact vp_in_nI (by omega) (by omega)
  refine lv_aload_n hx hb dL_law_500 rfl (lv_at hl 1 rfl) ?_
  refine lv_aload_n hx hb dL_law_501 rfl (lv_at hl 0 rfl) ?_
  refine lv_iload hx hb dL_law_502 (lv_at hl 4 rfl) ?_
  refine lv_iconst (v := 1) hx hb dL_law_504 (by decide) ?_
  refine lv_iadd hx hb dL_law_505 ?_
  refine va_sld hx hb hX hbl hbA hS h_1 dL_law_506 ?_
  refine lv_aload_n hx hb dL_law_507 rfl (lv_at hl 3 rfl) ?_
  have hPl := hP.sub (ws' := lW cA cL ad qo f g o) [13, 14, 15, 16, 17, 18, 19, 20, 21, 22, 23, 24, 25] rfl
  have hDl := hD.sub (ws' := lW cA cL ad qo f g o) [13, 14, 15, 16, 17, 18, 19, 20, 21, 22, 23, 24, 25] (by decide) rfl
  refine qb_calliP (wc := lW cA cL ad qo f g o) (wr := mW cA cZ am F G) [13, 14, 15, 16, 17, 18, 19, 20, 21, 22, 23, 24, 25] [0, 1, 2, 3, 4, 5, 6, 7, 8, 9, 10, 11, 12] rfl rfl (by decide) (by decide) hP (vx_runSW (As := [.ref (ad 16), .int (xs (nI (3 * t) + 1).toNatClampNeg), .ref qo]) (rest := []) ⟨hx, hb, hml, hown, hts⟩ (c_L_merge l hl0 D cA cZ cL ad qo f g o H.size (xs (nI (3 * t) + 1).toNatClampNeg) nR nB hRel.1) (vx_cwSW 3 hts gL_law_L_merge rfl rfl rfl (by decide +kernel) ⟨Nat.le_of_ble_eq_true rfl, Nat.le_of_ble_eq_true rfl⟩) ⟨qPreL_blind, lw_pre hTN hS hPl hK hDl⟩ rfl rfl hl.1 rfl (lv_room (Nat.le_of_ble_eq_true rfl)) dL_law_508 ⟨by show 26 + t + 1 ≤ 1076; omega, by show 1598 + 6 * t + 6 ≤ 9946; omega⟩) hD hS hA (fun z u H locs hu hP hD hS => ?_)
  obtain ⟨⟨uf, ug⟩, uo⟩ := u
  have hP : va_P D vwCl (mW cA cZ am F G ++ lW cA cL ad qo uf ug uo) H := hP
  have hD : va_D (fun q : Nat => s.heap.size ≤ q) (mW cA cZ am F G ++ lW cA cL ad qo uf ug uo) := hD
  refine lv_istore (lv' := [(5, .int z), (0, .ref b), (1, .ref (ad 16)), (2, .ref (am 18)), (3, .ref qo), (4, .int (nI (3 * t)))]) hx hb dL_law_511 hl (by decide) rfl (fun ls hl => ?_)
  refine lv_aload_n hx hb dL_law_513 rfl (lv_at hl 3 rfl) ?_
  refine lv_aload_n hx hb dL_law_514 rfl (lv_at hl 1 rfl) ?_
  refine lv_iload hx hb dL_law_515 (lv_at hl 5 rfl) ?_
  refine lv_iconst (v := 1) hx hb dL_law_517 (by decide) ?_
  refine lv_iadd hx hb dL_law_518 ?_
  refine va_sld hx hb hX hbl hbA hS h_1 dL_law_519 ?_
  have hPm := hP.sub (ws' := mW cA cZ am F G) [0, 1, 2, 3, 4, 5, 6, 7, 8, 9, 10, 11, 12] rfl
  have hDm := hD.sub (ws' := mW cA cZ am F G) [0, 1, 2, 3, 4, 5, 6, 7, 8, 9, 10, 11, 12] (by decide) rfl
  refine qb_calliP (wc := mW cA cZ am F G) (wr := lW cA cL ad qo uf ug uo) [0, 1, 2, 3, 4, 5, 6, 7, 8, 9, 10, 11, 12] [13, 14, 15, 16, 17, 18, 19, 20, 21, 22, 23, 24, 25] rfl rfl (by decide) (by decide) hP (va_runV (As := [.int (xs (nI (3 * t) + 1).toNatClampNeg)]) (rest := []) ⟨hx, hb, hml, hown, hts⟩ (c_X1_merge l D cA cZ cL am F G H.size (xs (nI (3 * t) + 1).toNatClampNeg) nR nB hRel.2.1) (cwV 1 hts gL_law_X1_merge rfl rfl rfl (by decide +kernel) ⟨Nat.le_of_ble_eq_true rfl, Nat.le_of_ble_eq_true rfl⟩) ⟨qPreW_blind, va_recv hK hPm (ci := 1) (q0 := 0) rfl rfl, qPreW_at hPm hK hDm⟩ rfl rfl hl.1 rfl (lv_room (Nat.le_of_ble_eq_true rfl)) dL_law_520 ⟨by show 26 + t + 1 + 0 ≤ 1076; omega, by show 1598 + 6 * t + 6 + 0 ≤ 9946; omega⟩) hD hS hA (fun bz v H locs hv hP hD hS => ?_)
  obtain ⟨vf, vg⟩ := v
  have hP := hP.sub (ws' := (mW cA cZ am vf vg ++ lW cA cL ad qo uf ug uo)) [13, 14, 15, 16, 17, 18, 19, 20, 21, 22, 23, 24, 25, 0, 1, 2, 3, 4, 5, 6, 7, 8, 9, 10, 11, 12] rfl
  have hD := hD.sub (ws' := (mW cA cZ am vf vg ++ lW cA cL ad qo uf ug uo)) [13, 14, 15, 16, 17, 18, 19, 20, 21, 22, 23, 24, 25, 0, 1, 2, 3, 4, 5, 6, 7, 8, 9, 10, 11, 12] (by decide) rfl
  refine lv_istore (lv' := [(6, .int bz), (5, .int z), (0, .ref b), (1, .ref (ad 16)), (2, .ref (am 18)), (3, .ref qo), (4, .int (nI (3 * t)))]) hx hb dL_law_523 hl (by decide) rfl (fun ls hl => ?_)
  obtain ⟨hz, ho, nR1, nB1, hRel1⟩ := rel_merge hRel (by omega) hu hv
  refine lv_aload_n hx hb dL_law_525 rfl (lv_at hl 4 rfl) ?_
  have hPm := hP.sub (ws' := mW cA cZ am vf vg) [0, 1, 2, 3, 4, 5, 6, 7, 8, 9, 10, 11, 12] rfl
  refine vp_callSi (W.runV (As := []) (rest := []) ⟨hx, hb, hml, hown, hts⟩ (c_X1_thrown l D cA cZ cL am vf vg) (cwV 0 hts gL_law_X1_thrown rfl rfl rfl (by decide +kernel) ⟨Nat.le_of_ble_eq_true rfl, Nat.le_of_ble_eq_true rfl⟩) ⟨qPre_blind, va_recv hK hPm (ci := 1) (q0 := 0) rfl rfl, qPre_at hPm hK⟩ rfl rfl hl.1 rfl (lv_room (Nat.le_of_ble_eq_true rfl)) dL_law_526 ⟨by show 26 + t + 1 + 0 + 0 ≤ 1076; omega, by show 1598 + 6 * t + 6 + 0 + 0 ≤ 9946; omega⟩) (fun z9 hz9 => ?_)
  subst hz9
  refine lv_iload hx hb dL_law_529 (lv_at hl 1 rfl) ?_
  refine lv_icmp_eq (tgt := 536) hx hb dL_law_531 (by decide) (fun c_1 => ?_) (fun c_1 => absurd hz c_1)
  refine lv_iload hx hb dL_law_536 (lv_at hl 1 rfl) ?_
  refine lv_if_ne (tgt := 553) hx hb dL_law_538 (by decide) (fun c_2 => ?_) (fun c_2 => ?_)
  · refine lv_goto (tgt := 1365) hx hb dL_law_553 (by decide) ?_
    refine W.widen (k := 26 + (t + 1)) (n := 1598 + 6 * (t + 1)) (by omega) (by omega) ?_
    exact K _ _ _ _ _ _ _ _ _ _ hRel1 hP hD hS (lv_sub hl [2, 3, 4, 5, 6] rfl)
  · skip
    refine lv_aload_n hx hb dL_law_541 rfl (lv_at hl 5 rfl) ?_
    refine lv_iconst (v := 0) hx hb dL_law_542 (by decide) ?_
    refine va_lald hx hb hK hP 13 2 rfl rfl (by unfold vp_in; decide) dL_law_543 ?_
    refine lv_iload hx hb dL_law_544 (lv_at hl 0 rfl) ?_
    refine lv_i2l (v := bz.toInt64) hx hb dL_law_546 rfl ?_
    refine W.lcmp hx hb dL_law_547 ?_
    refine lv_if_eq (tgt := 553) hx hb dL_law_548 (by decide) (fun c_3 => ?_) (fun c_3 => absurd (lg_same (ho c_2)) c_3)
    refine lv_goto (tgt := 1365) hx hb dL_law_553 (by decide) ?_
    refine W.widen (k := 26 + (t + 1)) (n := 1598 + 6 * (t + 1)) (by omega) (by omega) ?_
    exact K _ _ _ _ _ _ _ _ _ _ hRel1 hP hD hS (lv_sub hl [2, 3, 4, 5, 6] rfl)
set_option maxHeartbeats 4000000 in
set_option maxRecDepth 100000 in
theorem law_c7 {p : Program} {l : Launch} {e : Env} {s : State} {m : MethodId} {below : List Frame} {meth : Method} {c : Code} {b L : Nat} {xs : Nat → Int32} (hl0 : l.stackTraces = false) (hL : L ≤ 1536) (C0 : lw_At p s m meth c b L xs) {D : va_G} {cA cZ cL : ClassId} (hK : va_K D vwCl (qTy cA cZ cL) s) (hTN : lw_TN s) {ad am : Nat → Nat} {qo : Nat} {t : Nat} (ht : 3 * t + 3 ≤ L) {nR nB : Nat} {f : qFs} {g : qGs} {o : Nat → Int64} {F : qFs} {G : qGs} (hRel : Rel t nR nB f g F G) {H : Heap} {locs : List Loc} (hP : va_P D vwCl (mW cA cZ am F G ++ lW cA cL ad qo f g o) H) (hD : va_D (fun q : Nat => s.heap.size ≤ q) (mW cA cZ am F G ++ lW cA cL ad qo f g o)) (hS : va_S (fun q : Nat => s.heap.size ≤ q) s.heap H locs) (K : ∀ (nR nB : Nat) (f : qFs) (g : qGs) (o : Nat → Int64) (F : qFs) (G : qGs) (H : Heap) (locs : List Loc) (ls : Array Slot), Rel (t + 1) nR nB f g F G → va_P D vwCl (mW cA cZ am F G ++ lW cA cL ad qo f g o) H → va_D (fun q : Nat => s.heap.size ≤ q) (mW cA cZ am F G ++ lW cA cL ad qo f g o) → va_S (fun q : Nat => s.heap.size ≤ q) s.heap H locs → lv_has ls 7 [(0, .ref b), (1, .ref (ad 16)), (2, .ref (am 18)), (3, .ref qo), (4, .int (nI (3 * t)))] → W p l e room_1 s m #[Value.ref b] below meth c H locs (26 + (t + 1)) (1598 + 6 * (t + 1)) (lw_Z below #[Value.ref b] s) (F0 m 1365 ls [])) {ls : Array Slot} (hl : lv_has ls 7 [(0, .ref b), (1, .ref (ad 16)), (2, .ref (am 18)), (3, .ref qo), (4, .int (nI (3 * t)))]) : W p l e room_1 s m #[Value.ref b] below meth c H locs (26 + t) (1598 + 6 * t) (lw_Z below #[Value.ref b] s) (F0 m 556 ls []) := by
  obtain ⟨hx, hb, hr, hml, hown, hts, hX, hbl, hlocks, hgv⟩ := id C0
  have hts := fun w h => hts w (wsL_law_in w h)
  have hA : ∀ q : Nat, s.heap.size ≤ q → (fun q : Nat => s.heap.size ≤ q) q := fun _ h => h
  have hbA : ¬ (fun q : Nat => s.heap.size ≤ q) b := Nat.not_le.mpr hbl
  have h_1 : vp_in (nI (3 * t) + 1) L := by rw [nI_1]; exact vp_in_nI (by omega) (by omega)
  have h_2 : vp_in (nI (3 * t) + 2) L := by rw [show nI (3 * t) + 2 = nI (3 * t + 2) from nI_add _ 2]; exact vp_in_nI (by omega) (by omega)
  refine lv_aload_n hx hb dL_law_556 rfl (lv_at hl 1 rfl) ?_
  refine lv_aload_n hx hb dL_law_557 rfl (lv_at hl 0 rfl) ?_
  refine lv_iload hx hb dL_law_558 (lv_at hl 4 rfl) ?_
  refine lv_iconst (v := 1) hx hb dL_law_560 (by decide) ?_
  refine lv_iadd hx hb dL_law_561 ?_
  refine va_sld hx hb hX hbl hbA hS h_1 dL_law_562 ?_
  refine lv_aload_n hx hb dL_law_563 rfl (lv_at hl 0 rfl) ?_
  refine lv_iload hx hb dL_law_564 (lv_at hl 4 rfl) ?_
  refine lv_iconst (v := 2) hx hb dL_law_566 (by decide) ?_
  refine lv_iadd hx hb dL_law_567 ?_
  refine va_sld hx hb hX hbl hbA hS h_2 dL_law_568 ?_
  refine lv_aload_n hx hb dL_law_569 rfl (lv_at hl 3 rfl) ?_
  have hPl := hP.sub (ws' := lW cA cL ad qo f g o) [13, 14, 15, 16, 17, 18, 19, 20, 21, 22, 23, 24, 25] rfl
  have hDl := hD.sub (ws' := lW cA cL ad qo f g o) [13, 14, 15, 16, 17, 18, 19, 20, 21, 22, 23, 24, 25] (by decide) rfl
  refine qb_calliP (wc := lW cA cL ad qo f g o) (wr := mW cA cZ am F G) [13, 14, 15, 16, 17, 18, 19, 20, 21, 22, 23, 24, 25] [0, 1, 2, 3, 4, 5, 6, 7, 8, 9, 10, 11, 12] rfl rfl (by decide) (by decide) hP (vx_runSW (As := [.ref (ad 16), .int (xs (nI (3 * t) + 1).toNatClampNeg), .int (xs (nI (3 * t) + 2).toNatClampNeg), .ref qo]) (rest := []) ⟨hx, hb, hml, hown, hts⟩ (c_L_move l hl0 D cA cZ cL ad qo f g o H.size (xs (nI (3 * t) + 1).toNatClampNeg) (xs (nI (3 * t) + 2).toNatClampNeg) nR nB hRel.1 hRel.xL) (vx_cwSW 4 hts gL_law_L_move rfl rfl rfl (by decide +kernel) ⟨Nat.le_of_ble_eq_true rfl, Nat.le_of_ble_eq_true rfl⟩) ⟨qPreL_blind, lw_pre hTN hS hPl hK hDl⟩ rfl rfl hl.1 rfl (lv_room (Nat.le_of_ble_eq_true rfl)) dL_law_570 ⟨by show 26 + t + 1 ≤ 1076; omega, by show 1598 + 6 * t + 6 ≤ 9946; omega⟩) hD hS hA (fun z u H locs hu hP hD hS => ?_)
  obtain ⟨⟨uf, ug⟩, uo⟩ := u
  have hP : va_P D vwCl (mW cA cZ am F G ++ lW cA cL ad qo uf ug uo) H := hP
  have hD : va_D (fun q : Nat => s.heap.size ≤ q) (mW cA cZ am F G ++ lW cA cL ad qo uf ug uo) := hD
  refine lv_istore (lv' := [(5, .int z), (0, .ref b), (1, .ref (ad 16)), (2, .ref (am 18)), (3, .ref qo), (4, .int (nI (3 * t)))]) hx hb dL_law_573 hl (by decide) rfl (fun ls hl => ?_)
  refine lv_aload_n hx hb dL_law_575 rfl (lv_at hl 3 rfl) ?_
  refine lv_aload_n hx hb dL_law_576 rfl (lv_at hl 1 rfl) ?_
  refine lv_iload hx hb dL_law_577 (lv_at hl 5 rfl) ?_
  refine lv_iconst (v := 1) hx hb dL_law_579 (by decide) ?_
  refine lv_iadd hx hb dL_law_580 ?_
  refine va_sld hx hb hX hbl hbA hS h_1 dL_law_581 ?_
  refine lv_aload_n hx hb dL_law_582 rfl (lv_at hl 1 rfl) ?_
  refine lv_iload hx hb dL_law_583 (lv_at hl 5 rfl) ?_
  refine lv_iconst (v := 2) hx hb dL_law_585 (by decide) ?_
  refine lv_iadd hx hb dL_law_586 ?_
  refine va_sld hx hb hX hbl hbA hS h_2 dL_law_587 ?_
  have hPm := hP.sub (ws' := mW cA cZ am F G) [0, 1, 2, 3, 4, 5, 6, 7, 8, 9, 10, 11, 12] rfl
  have hDm := hD.sub (ws' := mW cA cZ am F G) [0, 1, 2, 3, 4, 5, 6, 7, 8, 9, 10, 11, 12] (by decide) rfl
  refine qb_calliP (wc := mW cA cZ am F G) (wr := lW cA cL ad qo uf ug uo) [0, 1, 2, 3, 4, 5, 6, 7, 8, 9, 10, 11, 12] [13, 14, 15, 16, 17, 18, 19, 20, 21, 22, 23, 24, 25] rfl rfl (by decide) (by decide) hP (va_runV (As := [.int (xs (nI (3 * t) + 1).toNatClampNeg), .int (xs (nI (3 * t) + 2).toNatClampNeg)]) (rest := []) ⟨hx, hb, hml, hown, hts⟩ (c_X1_move l D cA cZ cL am F G H.size (xs (nI (3 * t) + 1).toNatClampNeg) (xs (nI (3 * t) + 2).toNatClampNeg) nR nB hRel.2.1 hRel.mL) (cwV 2 hts gL_law_X1_move rfl rfl rfl (by decide +kernel) ⟨Nat.le_of_ble_eq_true rfl, Nat.le_of_ble_eq_true rfl⟩) ⟨qPreW_blind, va_recv hK hPm (ci := 1) (q0 := 0) rfl rfl, qPreW_at hPm hK hDm⟩ rfl rfl hl.1 rfl (lv_room (Nat.le_of_ble_eq_true rfl)) dL_law_588 ⟨by show 26 + t + 1 + 0 ≤ 1076; omega, by show 1598 + 6 * t + 6 + 0 ≤ 9946; omega⟩) hD hS hA (fun bz v H locs hv hP hD hS => ?_)
  obtain ⟨vf, vg⟩ := v
  have hP := hP.sub (ws' := (mW cA cZ am vf vg ++ lW cA cL ad qo uf ug uo)) [13, 14, 15, 16, 17, 18, 19, 20, 21, 22, 23, 24, 25, 0, 1, 2, 3, 4, 5, 6, 7, 8, 9, 10, 11, 12] rfl
  have hD := hD.sub (ws' := (mW cA cZ am vf vg ++ lW cA cL ad qo uf ug uo)) [13, 14, 15, 16, 17, 18, 19, 20, 21, 22, 23, 24, 25, 0, 1, 2, 3, 4, 5, 6, 7, 8, 9, 10, 11, 12] (by decide) rfl
  refine lv_istore (lv' := [(6, .int bz), (5, .int z), (0, .ref b), (1, .ref (ad 16)), (2, .ref (am 18)), (3, .ref qo), (4, .int (nI (3 * t)))]) hx hb dL_law_591 hl (by decide) rfl (fun ls hl => ?_)
  obtain ⟨hz, ho, nR1, nB1, hRel1⟩ := rel_move hRel (by omega) hu hv
  refine lv_aload_n hx hb dL_law_593 rfl (lv_at hl 4 rfl) ?_
  have hPm := hP.sub (ws' := mW cA cZ am vf vg) [0, 1, 2, 3, 4, 5, 6, 7, 8, 9, 10, 11, 12] rfl
  refine vp_callSi (W.runV (As := []) (rest := []) ⟨hx, hb, hml, hown, hts⟩ (c_X1_thrown l D cA cZ cL am vf vg) (cwV 0 hts gL_law_X1_thrown rfl rfl rfl (by decide +kernel) ⟨Nat.le_of_ble_eq_true rfl, Nat.le_of_ble_eq_true rfl⟩) ⟨qPre_blind, va_recv hK hPm (ci := 1) (q0 := 0) rfl rfl, qPre_at hPm hK⟩ rfl rfl hl.1 rfl (lv_room (Nat.le_of_ble_eq_true rfl)) dL_law_594 ⟨by show 26 + t + 1 + 0 + 0 ≤ 1076; omega, by show 1598 + 6 * t + 6 + 0 + 0 ≤ 9946; omega⟩) (fun z9 hz9 => ?_)
  subst hz9
  refine lv_iload hx hb dL_law_597 (lv_at hl 1 rfl) ?_
  refine lv_icmp_eq (tgt := 604) hx hb dL_law_599 (by decide) (fun c_1 => ?_) (fun c_1 => absurd hz c_1)
  refine lv_iload hx hb dL_law_604 (lv_at hl 1 rfl) ?_
  refine lv_if_ne (tgt := 621) hx hb dL_law_606 (by decide) (fun c_2 => ?_) (fun c_2 => ?_)
  · refine lv_goto (tgt := 1365) hx hb dL_law_621 (by decide) ?_
    refine W.widen (k := 26 + (t + 1)) (n := 1598 + 6 * (t + 1)) (by omega) (by omega) ?_
    exact K _ _ _ _ _ _ _ _ _ _ hRel1 hP hD hS (lv_sub hl [2, 3, 4, 5, 6] rfl)
  · skip
    refine lv_aload_n hx hb dL_law_609 rfl (lv_at hl 5 rfl) ?_
    refine lv_iconst (v := 0) hx hb dL_law_610 (by decide) ?_
    refine va_lald hx hb hK hP 13 2 rfl rfl (by unfold vp_in; decide) dL_law_611 ?_
    refine lv_iload hx hb dL_law_612 (lv_at hl 0 rfl) ?_
    refine lv_i2l (v := bz.toInt64) hx hb dL_law_614 rfl ?_
    refine W.lcmp hx hb dL_law_615 ?_
    refine lv_if_eq (tgt := 621) hx hb dL_law_616 (by decide) (fun c_3 => ?_) (fun c_3 => absurd (lg_same (ho c_2)) c_3)
    refine lv_goto (tgt := 1365) hx hb dL_law_621 (by decide) ?_
    refine W.widen (k := 26 + (t + 1)) (n := 1598 + 6 * (t + 1)) (by omega) (by omega) ?_
    exact K _ _ _ _ _ _ _ _ _ _ hRel1 hP hD hS (lv_sub hl [2, 3, 4, 5, 6] rfl)
set_option maxHeartbeats 4000000 in
set_option maxRecDepth 100000 in
theorem law_c8 {p : Program} {l : Launch} {e : Env} {s : State} {m : MethodId} {below : List Frame} {meth : Method} {c : Code} {b L : Nat} {xs : Nat → Int32} (hl0 : l.stackTraces = false) (hL : L ≤ 1536) (C0 : lw_At p s m meth c b L xs) {D : va_G} {cA cZ cL : ClassId} (hK : va_K D vwCl (qTy cA cZ cL) s) (hTN : lw_TN s) {ad am : Nat → Nat} {qo : Nat} {t : Nat} (ht : 3 * t + 3 ≤ L) {nR nB : Nat} {f : qFs} {g : qGs} {o : Nat → Int64} {F : qFs} {G : qGs} (hRel : Rel t nR nB f g F G) {H : Heap} {locs : List Loc} (hP : va_P D vwCl (mW cA cZ am F G ++ lW cA cL ad qo f g o) H) (hD : va_D (fun q : Nat => s.heap.size ≤ q) (mW cA cZ am F G ++ lW cA cL ad qo f g o)) (hS : va_S (fun q : Nat => s.heap.size ≤ q) s.heap H locs) (K : ∀ (nR nB : Nat) (f : qFs) (g : qGs) (o : Nat → Int64) (F : qFs) (G : qGs) (H : Heap) (locs : List Loc) (ls : Array Slot), Rel (t + 1) nR nB f g F G → va_P D vwCl (mW cA cZ am F G ++ lW cA cL ad qo f g o) H → va_D (fun q : Nat => s.heap.size ≤ q) (mW cA cZ am F G ++ lW cA cL ad qo f g o) → va_S (fun q : Nat => s.heap.size ≤ q) s.heap H locs → lv_has ls 7 [(0, .ref b), (1, .ref (ad 16)), (2, .ref (am 18)), (3, .ref qo), (4, .int (nI (3 * t)))] → W p l e room_1 s m #[Value.ref b] below meth c H locs (26 + (t + 1)) (1598 + 6 * (t + 1)) (lw_Z below #[Value.ref b] s) (F0 m 1365 ls [])) {ls : Array Slot} (hl : lv_has ls 7 [(0, .ref b), (1, .ref (ad 16)), (2, .ref (am 18)), (3, .ref qo), (4, .int (nI (3 * t)))]) : W p l e room_1 s m #[Value.ref b] below meth c H locs (26 + t) (1598 + 6 * t) (lw_Z below #[Value.ref b] s) (F0 m 624 ls []) := by
  obtain ⟨hx, hb, hr, hml, hown, hts, hX, hbl, hlocks, hgv⟩ := id C0
  have hts := fun w h => hts w (wsL_law_in w h)
  have hA : ∀ q : Nat, s.heap.size ≤ q → (fun q : Nat => s.heap.size ≤ q) q := fun _ h => h
  have hbA : ¬ (fun q : Nat => s.heap.size ≤ q) b := Nat.not_le.mpr hbl
  have h_1 : vp_in (nI (3 * t) + 1) L := by rw [nI_1]; exact vp_in_nI (by omega) (by omega)
  have h_2 : vp_in (nI (3 * t) + 2) L := by rw [show nI (3 * t) + 2 = nI (3 * t + 2) from nI_add _ 2]; exact vp_in_nI (by omega) (by omega)
  refine lv_aload_n hx hb dL_law_624 rfl (lv_at hl 1 rfl) ?_
  refine lv_aload_n hx hb dL_law_625 rfl (lv_at hl 0 rfl) ?_
  refine lv_iload hx hb dL_law_626 (lv_at hl 4 rfl) ?_
  refine lv_iconst (v := 1) hx hb dL_law_628 (by decide) ?_
  refine lv_iadd hx hb dL_law_629 ?_
  refine va_sld hx hb hX hbl hbA hS h_1 dL_law_630 ?_
  refine lv_aload_n hx hb dL_law_631 rfl (lv_at hl 3 rfl) ?_
  have hPl := hP.sub (ws' := lW cA cL ad qo f g o) [13, 14, 15, 16, 17, 18, 19, 20, 21, 22, 23, 24, 25] rfl
  have hDl := hD.sub (ws' := lW cA cL ad qo f g o) [13, 14, 15, 16, 17, 18, 19, 20, 21, 22, 23, 24, 25] (by decide) rfl
  refine qb_calliP (wc := lW cA cL ad qo f g o) (wr := mW cA cZ am F G) [13, 14, 15, 16, 17, 18, 19, 20, 21, 22, 23, 24, 25] [0, 1, 2, 3, 4, 5, 6, 7, 8, 9, 10, 11, 12] rfl rfl (by decide) (by decide) hP (vx_runSW (As := [.ref (ad 16), .int (xs (nI (3 * t) + 1).toNatClampNeg), .ref qo]) (rest := []) ⟨hx, hb, hml, hown, hts⟩ (c_L_step l hl0 D cA cZ cL ad qo f g o H.size (xs (nI (3 * t) + 1).toNatClampNeg) nR nB hRel.1 hRel.xL) (vx_cwSW 3 hts gL_law_L_step rfl rfl rfl (by decide +kernel) ⟨Nat.le_of_ble_eq_true rfl, Nat.le_of_ble_eq_true rfl⟩) ⟨qPreL_blind, lw_pre hTN hS hPl hK hDl⟩ rfl rfl hl.1 rfl (lv_room (Nat.le_of_ble_eq_true rfl)) dL_law_632 ⟨by show 26 + t + 1 ≤ 1076; omega, by show 1598 + 6 * t + 6 ≤ 9946; omega⟩) hD hS hA (fun z u H locs hu hP hD hS => ?_)
  obtain ⟨⟨uf, ug⟩, uo⟩ := u
  have hP : va_P D vwCl (mW cA cZ am F G ++ lW cA cL ad qo uf ug uo) H := hP
  have hD : va_D (fun q : Nat => s.heap.size ≤ q) (mW cA cZ am F G ++ lW cA cL ad qo uf ug uo) := hD
  refine lv_istore (lv' := [(5, .int z), (0, .ref b), (1, .ref (ad 16)), (2, .ref (am 18)), (3, .ref qo), (4, .int (nI (3 * t)))]) hx hb dL_law_635 hl (by decide) rfl (fun ls hl => ?_)
  refine lv_aload_n hx hb dL_law_637 rfl (lv_at hl 3 rfl) ?_
  refine lv_aload_n hx hb dL_law_638 rfl (lv_at hl 1 rfl) ?_
  refine lv_iload hx hb dL_law_639 (lv_at hl 5 rfl) ?_
  refine lv_iconst (v := 1) hx hb dL_law_641 (by decide) ?_
  refine lv_iadd hx hb dL_law_642 ?_
  refine va_sld hx hb hX hbl hbA hS h_1 dL_law_643 ?_
  have hPm := hP.sub (ws' := mW cA cZ am F G) [0, 1, 2, 3, 4, 5, 6, 7, 8, 9, 10, 11, 12] rfl
  have hDm := hD.sub (ws' := mW cA cZ am F G) [0, 1, 2, 3, 4, 5, 6, 7, 8, 9, 10, 11, 12] (by decide) rfl
  refine qb_calliP (wc := mW cA cZ am F G) (wr := lW cA cL ad qo uf ug uo) [0, 1, 2, 3, 4, 5, 6, 7, 8, 9, 10, 11, 12] [13, 14, 15, 16, 17, 18, 19, 20, 21, 22, 23, 24, 25] rfl rfl (by decide) (by decide) hP (va_runV (As := [.int (xs (nI (3 * t) + 1).toNatClampNeg)]) (rest := []) ⟨hx, hb, hml, hown, hts⟩ (c_X1_step l D cA cZ cL am F G H.size (xs (nI (3 * t) + 1).toNatClampNeg) nR nB hRel.2.1 hRel.mL) (cwV 1 hts gL_law_X1_step rfl rfl rfl (by decide +kernel) ⟨Nat.le_of_ble_eq_true rfl, Nat.le_of_ble_eq_true rfl⟩) ⟨qPreW_blind, va_recv hK hPm (ci := 1) (q0 := 0) rfl rfl, qPreW_at hPm hK hDm⟩ rfl rfl hl.1 rfl (lv_room (Nat.le_of_ble_eq_true rfl)) dL_law_644 ⟨by show 26 + t + 1 + 0 ≤ 1076; omega, by show 1598 + 6 * t + 6 + 0 ≤ 9946; omega⟩) hD hS hA (fun bz v H locs hv hP hD hS => ?_)
  obtain ⟨vf, vg⟩ := v
  have hP := hP.sub (ws' := (mW cA cZ am vf vg ++ lW cA cL ad qo uf ug uo)) [13, 14, 15, 16, 17, 18, 19, 20, 21, 22, 23, 24, 25, 0, 1, 2, 3, 4, 5, 6, 7, 8, 9, 10, 11, 12] rfl
  have hD := hD.sub (ws' := (mW cA cZ am vf vg ++ lW cA cL ad qo uf ug uo)) [13, 14, 15, 16, 17, 18, 19, 20, 21, 22, 23, 24, 25, 0, 1, 2, 3, 4, 5, 6, 7, 8, 9, 10, 11, 12] (by decide) rfl
  refine lv_istore (lv' := [(6, .int bz), (5, .int z), (0, .ref b), (1, .ref (ad 16)), (2, .ref (am 18)), (3, .ref qo), (4, .int (nI (3 * t)))]) hx hb dL_law_647 hl (by decide) rfl (fun ls hl => ?_)
  obtain ⟨hz, ho, nR1, nB1, hRel1⟩ := rel_step hRel (by omega) hu hv
  refine lv_aload_n hx hb dL_law_649 rfl (lv_at hl 4 rfl) ?_
  have hPm := hP.sub (ws' := mW cA cZ am vf vg) [0, 1, 2, 3, 4, 5, 6, 7, 8, 9, 10, 11, 12] rfl
  refine vp_callSi (W.runV (As := []) (rest := []) ⟨hx, hb, hml, hown, hts⟩ (c_X1_thrown l D cA cZ cL am vf vg) (cwV 0 hts gL_law_X1_thrown rfl rfl rfl (by decide +kernel) ⟨Nat.le_of_ble_eq_true rfl, Nat.le_of_ble_eq_true rfl⟩) ⟨qPre_blind, va_recv hK hPm (ci := 1) (q0 := 0) rfl rfl, qPre_at hPm hK⟩ rfl rfl hl.1 rfl (lv_room (Nat.le_of_ble_eq_true rfl)) dL_law_650 ⟨by show 26 + t + 1 + 0 + 0 ≤ 1076; omega, by show 1598 + 6 * t + 6 + 0 + 0 ≤ 9946; omega⟩) (fun z9 hz9 => ?_)
  subst hz9
  refine lv_iload hx hb dL_law_653 (lv_at hl 1 rfl) ?_
  refine lv_icmp_eq (tgt := 660) hx hb dL_law_655 (by decide) (fun c_1 => ?_) (fun c_1 => absurd hz c_1)
  refine lv_iload hx hb dL_law_660 (lv_at hl 1 rfl) ?_
  refine lv_if_ne (tgt := 677) hx hb dL_law_662 (by decide) (fun c_2 => ?_) (fun c_2 => ?_)
  · refine lv_goto (tgt := 1365) hx hb dL_law_677 (by decide) ?_
    refine W.widen (k := 26 + (t + 1)) (n := 1598 + 6 * (t + 1)) (by omega) (by omega) ?_
    exact K _ _ _ _ _ _ _ _ _ _ hRel1 hP hD hS (lv_sub hl [2, 3, 4, 5, 6] rfl)
  · skip
    refine lv_aload_n hx hb dL_law_665 rfl (lv_at hl 5 rfl) ?_
    refine lv_iconst (v := 0) hx hb dL_law_666 (by decide) ?_
    refine va_lald hx hb hK hP 13 2 rfl rfl (by unfold vp_in; decide) dL_law_667 ?_
    refine lv_iload hx hb dL_law_668 (lv_at hl 0 rfl) ?_
    refine lv_i2l (v := bz.toInt64) hx hb dL_law_670 rfl ?_
    refine W.lcmp hx hb dL_law_671 ?_
    refine lv_if_eq (tgt := 677) hx hb dL_law_672 (by decide) (fun c_3 => ?_) (fun c_3 => absurd (lg_same (ho c_2)) c_3)
    refine lv_goto (tgt := 1365) hx hb dL_law_677 (by decide) ?_
    refine W.widen (k := 26 + (t + 1)) (n := 1598 + 6 * (t + 1)) (by omega) (by omega) ?_
    exact K _ _ _ _ _ _ _ _ _ _ hRel1 hP hD hS (lv_sub hl [2, 3, 4, 5, 6] rfl)
set_option maxHeartbeats 4000000 in
set_option maxRecDepth 100000 in
theorem law_c9 {p : Program} {l : Launch} {e : Env} {s : State} {m : MethodId} {below : List Frame} {meth : Method} {c : Code} {b L : Nat} {xs : Nat → Int32} (hl0 : l.stackTraces = false) (hL : L ≤ 1536) (C0 : lw_At p s m meth c b L xs) {D : va_G} {cA cZ cL : ClassId} (hK : va_K D vwCl (qTy cA cZ cL) s) (hTN : lw_TN s) {ad am : Nat → Nat} {qo : Nat} {t : Nat} (ht : 3 * t + 3 ≤ L) {nR nB : Nat} {f : qFs} {g : qGs} {o : Nat → Int64} {F : qFs} {G : qGs} (hRel : Rel t nR nB f g F G) {H : Heap} {locs : List Loc} (hP : va_P D vwCl (mW cA cZ am F G ++ lW cA cL ad qo f g o) H) (hD : va_D (fun q : Nat => s.heap.size ≤ q) (mW cA cZ am F G ++ lW cA cL ad qo f g o)) (hS : va_S (fun q : Nat => s.heap.size ≤ q) s.heap H locs) (K : ∀ (nR nB : Nat) (f : qFs) (g : qGs) (o : Nat → Int64) (F : qFs) (G : qGs) (H : Heap) (locs : List Loc) (ls : Array Slot), Rel (t + 1) nR nB f g F G → va_P D vwCl (mW cA cZ am F G ++ lW cA cL ad qo f g o) H → va_D (fun q : Nat => s.heap.size ≤ q) (mW cA cZ am F G ++ lW cA cL ad qo f g o) → va_S (fun q : Nat => s.heap.size ≤ q) s.heap H locs → lv_has ls 7 [(0, .ref b), (1, .ref (ad 16)), (2, .ref (am 18)), (3, .ref qo), (4, .int (nI (3 * t)))] → W p l e room_1 s m #[Value.ref b] below meth c H locs (26 + (t + 1)) (1598 + 6 * (t + 1)) (lw_Z below #[Value.ref b] s) (F0 m 1365 ls [])) {ls : Array Slot} (hl : lv_has ls 7 [(0, .ref b), (1, .ref (ad 16)), (2, .ref (am 18)), (3, .ref qo), (4, .int (nI (3 * t)))]) : W p l e room_1 s m #[Value.ref b] below meth c H locs (26 + t) (1598 + 6 * t) (lw_Z below #[Value.ref b] s) (F0 m 680 ls []) := by
  obtain ⟨hx, hb, hr, hml, hown, hts, hX, hbl, hlocks, hgv⟩ := id C0
  have hts := fun w h => hts w (wsL_law_in w h)
  have hA : ∀ q : Nat, s.heap.size ≤ q → (fun q : Nat => s.heap.size ≤ q) q := fun _ h => h
  have hbA : ¬ (fun q : Nat => s.heap.size ≤ q) b := Nat.not_le.mpr hbl
  have h_1 : vp_in (nI (3 * t) + 1) L := by rw [nI_1]; exact vp_in_nI (by omega) (by omega)
  have h_2 : vp_in (nI (3 * t) + 2) L := by rw [show nI (3 * t) + 2 = nI (3 * t + 2) from nI_add _ 2]; exact vp_in_nI (by omega) (by omega)
  refine lv_aload_n hx hb dL_law_680 rfl (lv_at hl 1 rfl) ?_
  refine lv_aload_n hx hb dL_law_681 rfl (lv_at hl 0 rfl) ?_
  refine lv_iload hx hb dL_law_682 (lv_at hl 4 rfl) ?_
  refine lv_iconst (v := 1) hx hb dL_law_684 (by decide) ?_
  refine lv_iadd hx hb dL_law_685 ?_
  refine va_sld hx hb hX hbl hbA hS h_1 dL_law_686 ?_
  refine lv_aload_n hx hb dL_law_687 rfl (lv_at hl 3 rfl) ?_
  have hPl := hP.sub (ws' := lW cA cL ad qo f g o) [13, 14, 15, 16, 17, 18, 19, 20, 21, 22, 23, 24, 25] rfl
  have hDl := hD.sub (ws' := lW cA cL ad qo f g o) [13, 14, 15, 16, 17, 18, 19, 20, 21, 22, 23, 24, 25] (by decide) rfl
  refine qb_calliP (wc := lW cA cL ad qo f g o) (wr := mW cA cZ am F G) [13, 14, 15, 16, 17, 18, 19, 20, 21, 22, 23, 24, 25] [0, 1, 2, 3, 4, 5, 6, 7, 8, 9, 10, 11, 12] rfl rfl (by decide) (by decide) hP (vx_runSW (As := [.ref (ad 16), .int (xs (nI (3 * t) + 1).toNatClampNeg), .ref qo]) (rest := []) ⟨hx, hb, hml, hown, hts⟩ (c_L_giveUp l hl0 D cA cZ cL ad qo f g o H.size (xs (nI (3 * t) + 1).toNatClampNeg) nR nB hRel.1 hRel.xL) (vx_cwSW 3 hts gL_law_L_giveUp rfl rfl rfl (by decide +kernel) ⟨Nat.le_of_ble_eq_true rfl, Nat.le_of_ble_eq_true rfl⟩) ⟨qPreL_blind, lw_pre hTN hS hPl hK hDl⟩ rfl rfl hl.1 rfl (lv_room (Nat.le_of_ble_eq_true rfl)) dL_law_688 ⟨by show 26 + t + 1 ≤ 1076; omega, by show 1598 + 6 * t + 6 ≤ 9946; omega⟩) hD hS hA (fun z u H locs hu hP hD hS => ?_)
  obtain ⟨⟨uf, ug⟩, uo⟩ := u
  have hP : va_P D vwCl (mW cA cZ am F G ++ lW cA cL ad qo uf ug uo) H := hP
  have hD : va_D (fun q : Nat => s.heap.size ≤ q) (mW cA cZ am F G ++ lW cA cL ad qo uf ug uo) := hD
  refine lv_istore (lv' := [(5, .int z), (0, .ref b), (1, .ref (ad 16)), (2, .ref (am 18)), (3, .ref qo), (4, .int (nI (3 * t)))]) hx hb dL_law_691 hl (by decide) rfl (fun ls hl => ?_)
  refine lv_aload_n hx hb dL_law_693 rfl (lv_at hl 3 rfl) ?_
  refine lv_aload_n hx hb dL_law_694 rfl (lv_at hl 1 rfl) ?_
  refine lv_iload hx hb dL_law_695 (lv_at hl 5 rfl) ?_
  refine lv_iconst (v := 1) hx hb dL_law_697 (by decide) ?_
  refine lv_iadd hx hb dL_law_698 ?_
  refine va_sld hx hb hX hbl hbA hS h_1 dL_law_699 ?_
  have hPm := hP.sub (ws' := mW cA cZ am F G) [0, 1, 2, 3, 4, 5, 6, 7, 8, 9, 10, 11, 12] rfl
  have hDm := hD.sub (ws' := mW cA cZ am F G) [0, 1, 2, 3, 4, 5, 6, 7, 8, 9, 10, 11, 12] (by decide) rfl
  refine qb_calliP (wc := mW cA cZ am F G) (wr := lW cA cL ad qo uf ug uo) [0, 1, 2, 3, 4, 5, 6, 7, 8, 9, 10, 11, 12] [13, 14, 15, 16, 17, 18, 19, 20, 21, 22, 23, 24, 25] rfl rfl (by decide) (by decide) hP (va_runV (As := [.int (xs (nI (3 * t) + 1).toNatClampNeg)]) (rest := []) ⟨hx, hb, hml, hown, hts⟩ (c_X1_giveUp l D cA cZ cL am F G H.size (xs (nI (3 * t) + 1).toNatClampNeg) nR nB hRel.2.1 hRel.mL) (cwV 1 hts gL_law_X1_giveUp rfl rfl rfl (by decide +kernel) ⟨Nat.le_of_ble_eq_true rfl, Nat.le_of_ble_eq_true rfl⟩) ⟨qPreW_blind, va_recv hK hPm (ci := 1) (q0 := 0) rfl rfl, qPreW_at hPm hK hDm⟩ rfl rfl hl.1 rfl (lv_room (Nat.le_of_ble_eq_true rfl)) dL_law_700 ⟨by show 26 + t + 1 + 0 ≤ 1076; omega, by show 1598 + 6 * t + 6 + 0 ≤ 9946; omega⟩) hD hS hA (fun bz v H locs hv hP hD hS => ?_)
  obtain ⟨vf, vg⟩ := v
  have hP := hP.sub (ws' := (mW cA cZ am vf vg ++ lW cA cL ad qo uf ug uo)) [13, 14, 15, 16, 17, 18, 19, 20, 21, 22, 23, 24, 25, 0, 1, 2, 3, 4, 5, 6, 7, 8, 9, 10, 11, 12] rfl
  have hD := hD.sub (ws' := (mW cA cZ am vf vg ++ lW cA cL ad qo uf ug uo)) [13, 14, 15, 16, 17, 18, 19, 20, 21, 22, 23, 24, 25, 0, 1, 2, 3, 4, 5, 6, 7, 8, 9, 10, 11, 12] (by decide) rfl
  refine lv_istore (lv' := [(6, .int bz), (5, .int z), (0, .ref b), (1, .ref (ad 16)), (2, .ref (am 18)), (3, .ref qo), (4, .int (nI (3 * t)))]) hx hb dL_law_703 hl (by decide) rfl (fun ls hl => ?_)
  obtain ⟨hz, ho, nR1, nB1, hRel1⟩ := rel_giveUp hRel (by omega) hu hv
  refine lv_aload_n hx hb dL_law_705 rfl (lv_at hl 4 rfl) ?_
  have hPm := hP.sub (ws' := mW cA cZ am vf vg) [0, 1, 2, 3, 4, 5, 6, 7, 8, 9, 10, 11, 12] rfl
  refine vp_callSi (W.runV (As := []) (rest := []) ⟨hx, hb, hml, hown, hts⟩ (c_X1_thrown l D cA cZ cL am vf vg) (cwV 0 hts gL_law_X1_thrown rfl rfl rfl (by decide +kernel) ⟨Nat.le_of_ble_eq_true rfl, Nat.le_of_ble_eq_true rfl⟩) ⟨qPre_blind, va_recv hK hPm (ci := 1) (q0 := 0) rfl rfl, qPre_at hPm hK⟩ rfl rfl hl.1 rfl (lv_room (Nat.le_of_ble_eq_true rfl)) dL_law_706 ⟨by show 26 + t + 1 + 0 + 0 ≤ 1076; omega, by show 1598 + 6 * t + 6 + 0 + 0 ≤ 9946; omega⟩) (fun z9 hz9 => ?_)
  subst hz9
  refine lv_iload hx hb dL_law_709 (lv_at hl 1 rfl) ?_
  refine lv_icmp_eq (tgt := 716) hx hb dL_law_711 (by decide) (fun c_1 => ?_) (fun c_1 => absurd hz c_1)
  refine lv_iload hx hb dL_law_716 (lv_at hl 1 rfl) ?_
  refine lv_if_ne (tgt := 733) hx hb dL_law_718 (by decide) (fun c_2 => ?_) (fun c_2 => ?_)
  · refine lv_goto (tgt := 1365) hx hb dL_law_733 (by decide) ?_
    refine W.widen (k := 26 + (t + 1)) (n := 1598 + 6 * (t + 1)) (by omega) (by omega) ?_
    exact K _ _ _ _ _ _ _ _ _ _ hRel1 hP hD hS (lv_sub hl [2, 3, 4, 5, 6] rfl)
  · skip
    refine lv_aload_n hx hb dL_law_721 rfl (lv_at hl 5 rfl) ?_
    refine lv_iconst (v := 0) hx hb dL_law_722 (by decide) ?_
    refine va_lald hx hb hK hP 13 2 rfl rfl (by unfold vp_in; decide) dL_law_723 ?_
    refine lv_iload hx hb dL_law_724 (lv_at hl 0 rfl) ?_
    refine lv_i2l (v := bz.toInt64) hx hb dL_law_726 rfl ?_
    refine W.lcmp hx hb dL_law_727 ?_
    refine lv_if_eq (tgt := 733) hx hb dL_law_728 (by decide) (fun c_3 => ?_) (fun c_3 => absurd (lg_same (ho c_2)) c_3)
    refine lv_goto (tgt := 1365) hx hb dL_law_733 (by decide) ?_
    refine W.widen (k := 26 + (t + 1)) (n := 1598 + 6 * (t + 1)) (by omega) (by omega) ?_
    exact K _ _ _ _ _ _ _ _ _ _ hRel1 hP hD hS (lv_sub hl [2, 3, 4, 5, 6] rfl)
set_option maxHeartbeats 4000000 in
set_option maxRecDepth 100000 in
theorem law_c10 {p : Program} {l : Launch} {e : Env} {s : State} {m : MethodId} {below : List Frame} {meth : Method} {c : Code} {b L : Nat} {xs : Nat → Int32} (hl0 : l.stackTraces = false) (hL : L ≤ 1536) (C0 : lw_At p s m meth c b L xs) {D : va_G} {cA cZ cL : ClassId} (hK : va_K D vwCl (qTy cA cZ cL) s) (hTN : lw_TN s) {ad am : Nat → Nat} {qo : Nat} {t : Nat} (ht : 3 * t + 3 ≤ L) {nR nB : Nat} {f : qFs} {g : qGs} {o : Nat → Int64} {F : qFs} {G : qGs} (hRel : Rel t nR nB f g F G) {H : Heap} {locs : List Loc} (hP : va_P D vwCl (mW cA cZ am F G ++ lW cA cL ad qo f g o) H) (hD : va_D (fun q : Nat => s.heap.size ≤ q) (mW cA cZ am F G ++ lW cA cL ad qo f g o)) (hS : va_S (fun q : Nat => s.heap.size ≤ q) s.heap H locs) (K : ∀ (nR nB : Nat) (f : qFs) (g : qGs) (o : Nat → Int64) (F : qFs) (G : qGs) (H : Heap) (locs : List Loc) (ls : Array Slot), Rel (t + 1) nR nB f g F G → va_P D vwCl (mW cA cZ am F G ++ lW cA cL ad qo f g o) H → va_D (fun q : Nat => s.heap.size ≤ q) (mW cA cZ am F G ++ lW cA cL ad qo f g o) → va_S (fun q : Nat => s.heap.size ≤ q) s.heap H locs → lv_has ls 7 [(0, .ref b), (1, .ref (ad 16)), (2, .ref (am 18)), (3, .ref qo), (4, .int (nI (3 * t)))] → W p l e room_1 s m #[Value.ref b] below meth c H locs (26 + (t + 1)) (1598 + 6 * (t + 1)) (lw_Z below #[Value.ref b] s) (F0 m 1365 ls [])) {ls : Array Slot} (hl : lv_has ls 7 [(0, .ref b), (1, .ref (ad 16)), (2, .ref (am 18)), (3, .ref qo), (4, .int (nI (3 * t)))]) : W p l e room_1 s m #[Value.ref b] below meth c H locs (26 + t) (1598 + 6 * t) (lw_Z below #[Value.ref b] s) (F0 m 736 ls []) := by
  obtain ⟨hx, hb, hr, hml, hown, hts, hX, hbl, hlocks, hgv⟩ := id C0
  have hts := fun w h => hts w (wsL_law_in w h)
  have hA : ∀ q : Nat, s.heap.size ≤ q → (fun q : Nat => s.heap.size ≤ q) q := fun _ h => h
  have hbA : ¬ (fun q : Nat => s.heap.size ≤ q) b := Nat.not_le.mpr hbl
  have h_1 : vp_in (nI (3 * t) + 1) L := by rw [nI_1]; exact vp_in_nI (by omega) (by omega)
  have h_2 : vp_in (nI (3 * t) + 2) L := by rw [show nI (3 * t) + 2 = nI (3 * t + 2) from nI_add _ 2]; exact vp_in_nI (by omega) (by omega)
  refine lv_aload_n hx hb dL_law_736 rfl (lv_at hl 1 rfl) ?_
  have hPx := hP.sub (ws' := xW cA ad f g) [14, 15, 16, 17, 18, 19, 20, 21, 22, 23, 24, 25] rfl
  refine vp_callSi (W.runV (As := []) (rest := []) ⟨hx, hb, hml, hown, hts⟩ (c_X0_ranges l D cA cZ cL ad f g) (cwV 0 hts gL_law_X0_ranges rfl rfl rfl (by decide +kernel) ⟨Nat.le_of_ble_eq_true rfl, Nat.le_of_ble_eq_true rfl⟩) ⟨qPre_blind, va_recv hK hPx (ci := 0) (q0 := 0) rfl rfl, qPre_at hPx hK⟩ rfl rfl hl.1 rfl (lv_room (Nat.le_of_ble_eq_true rfl)) dL_law_737 ⟨by show 26 + t + 0 ≤ 1076; omega, by show 1598 + 6 * t + 0 ≤ 9946; omega⟩) (fun z hz => ?_)
  subst hz
  refine lv_aload_n hx hb dL_law_740 rfl (lv_at hl 2 rfl) ?_
  have hPm := hP.sub (ws' := mW cA cZ am F G) [0, 1, 2, 3, 4, 5, 6, 7, 8, 9, 10, 11, 12] rfl
  have hDm := hD.sub (ws' := mW cA cZ am F G) [0, 1, 2, 3, 4, 5, 6, 7, 8, 9, 10, 11, 12] (by decide) rfl
  refine qb_calliP (wc := mW cA cZ am F G) (wr := lW cA cL ad qo f g o) [0, 1, 2, 3, 4, 5, 6, 7, 8, 9, 10, 11, 12] [13, 14, 15, 16, 17, 18, 19, 20, 21, 22, 23, 24, 25] rfl rfl (by decide) (by decide) hP (va_runV (As := []) (rest := [.int (f 5)]) ⟨hx, hb, hml, hown, hts⟩ (c_X1_ranges l D cA cZ cL am F G H.size) (cwV 0 hts gL_law_X1_ranges rfl rfl rfl (by decide +kernel) ⟨Nat.le_of_ble_eq_true rfl, Nat.le_of_ble_eq_true rfl⟩) ⟨qPreW_blind, va_recv hK hPm (ci := 1) (q0 := 0) rfl rfl, qPreW_at hPm hK hDm⟩ rfl rfl hl.1 rfl (lv_room (Nat.le_of_ble_eq_true rfl)) dL_law_741 ⟨by show 26 + t + 0 ≤ 1076; omega, by show 1598 + 6 * t + 0 ≤ 9946; omega⟩) hD hS hA (fun bz v H locs hv hP hD hS => ?_)
  obtain ⟨vf, vg⟩ := v
  have hP := hP.sub (ws' := (mW cA cZ am vf vg ++ lW cA cL ad qo f g o)) [13, 14, 15, 16, 17, 18, 19, 20, 21, 22, 23, 24, 25, 0, 1, 2, 3, 4, 5, 6, 7, 8, 9, 10, 11, 12] rfl
  have hD := hD.sub (ws' := (mW cA cZ am vf vg ++ lW cA cL ad qo f g o)) [13, 14, 15, 16, 17, 18, 19, 20, 21, 22, 23, 24, 25, 0, 1, 2, 3, 4, 5, 6, 7, 8, 9, 10, 11, 12] (by decide) rfl
  obtain ⟨hz, hRel1⟩ := rel_ranges hRel (by omega) hv
  refine lv_icmp_eq (tgt := 1365) hx hb dL_law_744 (by decide) (fun c_1 => ?_) (fun c_1 => absurd hz c_1)
  refine W.widen (k := 26 + (t + 1)) (n := 1598 + 6 * (t + 1)) (by omega) (by omega) ?_
  exact K _ _ _ _ _ _ _ _ _ _ hRel1 hP hD hS hl
set_option maxHeartbeats 4000000 in
set_option maxRecDepth 100000 in
theorem law_c11 {p : Program} {l : Launch} {e : Env} {s : State} {m : MethodId} {below : List Frame} {meth : Method} {c : Code} {b L : Nat} {xs : Nat → Int32} (hl0 : l.stackTraces = false) (hL : L ≤ 1536) (C0 : lw_At p s m meth c b L xs) {D : va_G} {cA cZ cL : ClassId} (hK : va_K D vwCl (qTy cA cZ cL) s) (hTN : lw_TN s) {ad am : Nat → Nat} {qo : Nat} {t : Nat} (ht : 3 * t + 3 ≤ L) {nR nB : Nat} {f : qFs} {g : qGs} {o : Nat → Int64} {F : qFs} {G : qGs} (hRel : Rel t nR nB f g F G) {H : Heap} {locs : List Loc} (hP : va_P D vwCl (mW cA cZ am F G ++ lW cA cL ad qo f g o) H) (hD : va_D (fun q : Nat => s.heap.size ≤ q) (mW cA cZ am F G ++ lW cA cL ad qo f g o)) (hS : va_S (fun q : Nat => s.heap.size ≤ q) s.heap H locs) (K : ∀ (nR nB : Nat) (f : qFs) (g : qGs) (o : Nat → Int64) (F : qFs) (G : qGs) (H : Heap) (locs : List Loc) (ls : Array Slot), Rel (t + 1) nR nB f g F G → va_P D vwCl (mW cA cZ am F G ++ lW cA cL ad qo f g o) H → va_D (fun q : Nat => s.heap.size ≤ q) (mW cA cZ am F G ++ lW cA cL ad qo f g o) → va_S (fun q : Nat => s.heap.size ≤ q) s.heap H locs → lv_has ls 7 [(0, .ref b), (1, .ref (ad 16)), (2, .ref (am 18)), (3, .ref qo), (4, .int (nI (3 * t)))] → W p l e room_1 s m #[Value.ref b] below meth c H locs (26 + (t + 1)) (1598 + 6 * (t + 1)) (lw_Z below #[Value.ref b] s) (F0 m 1365 ls [])) {ls : Array Slot} (hl : lv_has ls 7 [(0, .ref b), (1, .ref (ad 16)), (2, .ref (am 18)), (3, .ref qo), (4, .int (nI (3 * t)))]) : W p l e room_1 s m #[Value.ref b] below meth c H locs (26 + t) (1598 + 6 * t) (lw_Z below #[Value.ref b] s) (F0 m 749 ls []) := by
  obtain ⟨hx, hb, hr, hml, hown, hts, hX, hbl, hlocks, hgv⟩ := id C0
  have hts := fun w h => hts w (wsL_law_in w h)
  have hA : ∀ q : Nat, s.heap.size ≤ q → (fun q : Nat => s.heap.size ≤ q) q := fun _ h => h
  have hbA : ¬ (fun q : Nat => s.heap.size ≤ q) b := Nat.not_le.mpr hbl
  have h_1 : vp_in (nI (3 * t) + 1) L := by rw [nI_1]; exact vp_in_nI (by omega) (by omega)
  have h_2 : vp_in (nI (3 * t) + 2) L := by rw [show nI (3 * t) + 2 = nI (3 * t + 2) from nI_add _ 2]; exact vp_in_nI (by omega) (by omega)
  refine lv_aload_n hx hb dL_law_749 rfl (lv_at hl 1 rfl) ?_
  refine lv_aload_n hx hb dL_law_750 rfl (lv_at hl 0 rfl) ?_
  refine lv_iload hx hb dL_law_751 (lv_at hl 4 rfl) ?_
  refine lv_iconst (v := 1) hx hb dL_law_753 (by decide) ?_
  refine lv_iadd hx hb dL_law_754 ?_
  refine va_sld hx hb hX hbl hbA hS h_1 dL_law_755 ?_
  refine lv_aload_n hx hb dL_law_756 rfl (lv_at hl 3 rfl) ?_
  have hPl := hP.sub (ws' := lW cA cL ad qo f g o) [13, 14, 15, 16, 17, 18, 19, 20, 21, 22, 23, 24, 25] rfl
  have hDl := hD.sub (ws' := lW cA cL ad qo f g o) [13, 14, 15, 16, 17, 18, 19, 20, 21, 22, 23, 24, 25] (by decide) rfl
  refine qb_calliP (wc := lW cA cL ad qo f g o) (wr := mW cA cZ am F G) [13, 14, 15, 16, 17, 18, 19, 20, 21, 22, 23, 24, 25] [0, 1, 2, 3, 4, 5, 6, 7, 8, 9, 10, 11, 12] rfl rfl (by decide) (by decide) hP (vx_runSW (As := [.ref (ad 16), .int (xs (nI (3 * t) + 1).toNatClampNeg), .ref qo]) (rest := []) ⟨hx, hb, hml, hown, hts⟩ (c_L_rangeOf l hl0 D cA cZ cL ad qo f g o H.size (xs (nI (3 * t) + 1).toNatClampNeg) nR nB hRel.1) (vx_cwSW 3 hts gL_law_L_rangeOf rfl rfl rfl (by decide +kernel) ⟨Nat.le_of_ble_eq_true rfl, Nat.le_of_ble_eq_true rfl⟩) ⟨qPreL_blind, lw_pre hTN hS hPl hK hDl⟩ rfl rfl hl.1 rfl (lv_room (Nat.le_of_ble_eq_true rfl)) dL_law_757 ⟨by show 26 + t + 1 ≤ 1076; omega, by show 1598 + 6 * t + 6 ≤ 9946; omega⟩) hD hS hA (fun z u H locs hu hP hD hS => ?_)
  obtain ⟨⟨uf, ug⟩, uo⟩ := u
  have hP : va_P D vwCl (mW cA cZ am F G ++ lW cA cL ad qo uf ug uo) H := hP
  have hD : va_D (fun q : Nat => s.heap.size ≤ q) (mW cA cZ am F G ++ lW cA cL ad qo uf ug uo) := hD
  refine lv_istore (lv' := [(5, .int z), (0, .ref b), (1, .ref (ad 16)), (2, .ref (am 18)), (3, .ref qo), (4, .int (nI (3 * t)))]) hx hb dL_law_760 hl (by decide) rfl (fun ls hl => ?_)
  refine lv_aload_n hx hb dL_law_762 rfl (lv_at hl 3 rfl) ?_
  refine lv_aload_n hx hb dL_law_763 rfl (lv_at hl 1 rfl) ?_
  refine lv_iload hx hb dL_law_764 (lv_at hl 5 rfl) ?_
  refine lv_iconst (v := 1) hx hb dL_law_766 (by decide) ?_
  refine lv_iadd hx hb dL_law_767 ?_
  refine va_sld hx hb hX hbl hbA hS h_1 dL_law_768 ?_
  have hPm := hP.sub (ws' := mW cA cZ am F G) [0, 1, 2, 3, 4, 5, 6, 7, 8, 9, 10, 11, 12] rfl
  have hDm := hD.sub (ws' := mW cA cZ am F G) [0, 1, 2, 3, 4, 5, 6, 7, 8, 9, 10, 11, 12] (by decide) rfl
  refine qb_calliP (wc := mW cA cZ am F G) (wr := lW cA cL ad qo uf ug uo) [0, 1, 2, 3, 4, 5, 6, 7, 8, 9, 10, 11, 12] [13, 14, 15, 16, 17, 18, 19, 20, 21, 22, 23, 24, 25] rfl rfl (by decide) (by decide) hP (va_runV (As := [.int (xs (nI (3 * t) + 1).toNatClampNeg)]) (rest := []) ⟨hx, hb, hml, hown, hts⟩ (c_X1_rangeOf l D cA cZ cL am F G H.size (xs (nI (3 * t) + 1).toNatClampNeg) nR nB hRel.2.1) (cwV 1 hts gL_law_X1_rangeOf rfl rfl rfl (by decide +kernel) ⟨Nat.le_of_ble_eq_true rfl, Nat.le_of_ble_eq_true rfl⟩) ⟨qPreW_blind, va_recv hK hPm (ci := 1) (q0 := 0) rfl rfl, qPreW_at hPm hK hDm⟩ rfl rfl hl.1 rfl (lv_room (Nat.le_of_ble_eq_true rfl)) dL_law_769 ⟨by show 26 + t + 1 + 0 ≤ 1076; omega, by show 1598 + 6 * t + 6 + 0 ≤ 9946; omega⟩) hD hS hA (fun bz v H locs hv hP hD hS => ?_)
  obtain ⟨vf, vg⟩ := v
  have hP := hP.sub (ws' := (mW cA cZ am vf vg ++ lW cA cL ad qo uf ug uo)) [13, 14, 15, 16, 17, 18, 19, 20, 21, 22, 23, 24, 25, 0, 1, 2, 3, 4, 5, 6, 7, 8, 9, 10, 11, 12] rfl
  have hD := hD.sub (ws' := (mW cA cZ am vf vg ++ lW cA cL ad qo uf ug uo)) [13, 14, 15, 16, 17, 18, 19, 20, 21, 22, 23, 24, 25, 0, 1, 2, 3, 4, 5, 6, 7, 8, 9, 10, 11, 12] (by decide) rfl
  refine lv_istore (lv' := [(6, .int bz), (5, .int z), (0, .ref b), (1, .ref (ad 16)), (2, .ref (am 18)), (3, .ref qo), (4, .int (nI (3 * t)))]) hx hb dL_law_772 hl (by decide) rfl (fun ls hl => ?_)
  obtain ⟨hz, ho, nR1, nB1, hRel1⟩ := rel_rangeOf hRel (by omega) hu hv
  refine lv_aload_n hx hb dL_law_774 rfl (lv_at hl 4 rfl) ?_
  have hPm := hP.sub (ws' := mW cA cZ am vf vg) [0, 1, 2, 3, 4, 5, 6, 7, 8, 9, 10, 11, 12] rfl
  refine vp_callSi (W.runV (As := []) (rest := []) ⟨hx, hb, hml, hown, hts⟩ (c_X1_thrown l D cA cZ cL am vf vg) (cwV 0 hts gL_law_X1_thrown rfl rfl rfl (by decide +kernel) ⟨Nat.le_of_ble_eq_true rfl, Nat.le_of_ble_eq_true rfl⟩) ⟨qPre_blind, va_recv hK hPm (ci := 1) (q0 := 0) rfl rfl, qPre_at hPm hK⟩ rfl rfl hl.1 rfl (lv_room (Nat.le_of_ble_eq_true rfl)) dL_law_775 ⟨by show 26 + t + 1 + 0 + 0 ≤ 1076; omega, by show 1598 + 6 * t + 6 + 0 + 0 ≤ 9946; omega⟩) (fun z9 hz9 => ?_)
  subst hz9
  refine lv_iload hx hb dL_law_778 (lv_at hl 1 rfl) ?_
  refine lv_icmp_eq (tgt := 785) hx hb dL_law_780 (by decide) (fun c_1 => ?_) (fun c_1 => absurd hz c_1)
  refine lv_iload hx hb dL_law_785 (lv_at hl 1 rfl) ?_
  refine lv_if_ne (tgt := 802) hx hb dL_law_787 (by decide) (fun c_2 => ?_) (fun c_2 => ?_)
  · refine lv_goto (tgt := 1365) hx hb dL_law_802 (by decide) ?_
    refine W.widen (k := 26 + (t + 1)) (n := 1598 + 6 * (t + 1)) (by omega) (by omega) ?_
    exact K _ _ _ _ _ _ _ _ _ _ hRel1 hP hD hS (lv_sub hl [2, 3, 4, 5, 6] rfl)
  · skip
    refine lv_aload_n hx hb dL_law_790 rfl (lv_at hl 5 rfl) ?_
    refine lv_iconst (v := 0) hx hb dL_law_791 (by decide) ?_
    refine va_lald hx hb hK hP 13 2 rfl rfl (by unfold vp_in; decide) dL_law_792 ?_
    refine lv_iload hx hb dL_law_793 (lv_at hl 0 rfl) ?_
    refine lv_i2l (v := bz.toInt64) hx hb dL_law_795 rfl ?_
    refine W.lcmp hx hb dL_law_796 ?_
    refine lv_if_eq (tgt := 802) hx hb dL_law_797 (by decide) (fun c_3 => ?_) (fun c_3 => absurd (lg_same (ho c_2)) c_3)
    refine lv_goto (tgt := 1365) hx hb dL_law_802 (by decide) ?_
    refine W.widen (k := 26 + (t + 1)) (n := 1598 + 6 * (t + 1)) (by omega) (by omega) ?_
    exact K _ _ _ _ _ _ _ _ _ _ hRel1 hP hD hS (lv_sub hl [2, 3, 4, 5, 6] rfl)
set_option maxHeartbeats 4000000 in
set_option maxRecDepth 100000 in
theorem law_c12 {p : Program} {l : Launch} {e : Env} {s : State} {m : MethodId} {below : List Frame} {meth : Method} {c : Code} {b L : Nat} {xs : Nat → Int32} (hl0 : l.stackTraces = false) (hL : L ≤ 1536) (C0 : lw_At p s m meth c b L xs) {D : va_G} {cA cZ cL : ClassId} (hK : va_K D vwCl (qTy cA cZ cL) s) (hTN : lw_TN s) {ad am : Nat → Nat} {qo : Nat} {t : Nat} (ht : 3 * t + 3 ≤ L) {nR nB : Nat} {f : qFs} {g : qGs} {o : Nat → Int64} {F : qFs} {G : qGs} (hRel : Rel t nR nB f g F G) {H : Heap} {locs : List Loc} (hP : va_P D vwCl (mW cA cZ am F G ++ lW cA cL ad qo f g o) H) (hD : va_D (fun q : Nat => s.heap.size ≤ q) (mW cA cZ am F G ++ lW cA cL ad qo f g o)) (hS : va_S (fun q : Nat => s.heap.size ≤ q) s.heap H locs) (K : ∀ (nR nB : Nat) (f : qFs) (g : qGs) (o : Nat → Int64) (F : qFs) (G : qGs) (H : Heap) (locs : List Loc) (ls : Array Slot), Rel (t + 1) nR nB f g F G → va_P D vwCl (mW cA cZ am F G ++ lW cA cL ad qo f g o) H → va_D (fun q : Nat => s.heap.size ≤ q) (mW cA cZ am F G ++ lW cA cL ad qo f g o) → va_S (fun q : Nat => s.heap.size ≤ q) s.heap H locs → lv_has ls 7 [(0, .ref b), (1, .ref (ad 16)), (2, .ref (am 18)), (3, .ref qo), (4, .int (nI (3 * t)))] → W p l e room_1 s m #[Value.ref b] below meth c H locs (26 + (t + 1)) (1598 + 6 * (t + 1)) (lw_Z below #[Value.ref b] s) (F0 m 1365 ls [])) {ls : Array Slot} (hl : lv_has ls 7 [(0, .ref b), (1, .ref (ad 16)), (2, .ref (am 18)), (3, .ref qo), (4, .int (nI (3 * t)))]) : W p l e room_1 s m #[Value.ref b] below meth c H locs (26 + t) (1598 + 6 * t) (lw_Z below #[Value.ref b] s) (F0 m 805 ls []) := by
  obtain ⟨hx, hb, hr, hml, hown, hts, hX, hbl, hlocks, hgv⟩ := id C0
  have hts := fun w h => hts w (wsL_law_in w h)
  have hA : ∀ q : Nat, s.heap.size ≤ q → (fun q : Nat => s.heap.size ≤ q) q := fun _ h => h
  have hbA : ¬ (fun q : Nat => s.heap.size ≤ q) b := Nat.not_le.mpr hbl
  have h_1 : vp_in (nI (3 * t) + 1) L := by rw [nI_1]; exact vp_in_nI (by omega) (by omega)
  have h_2 : vp_in (nI (3 * t) + 2) L := by rw [show nI (3 * t) + 2 = nI (3 * t + 2) from nI_add _ 2]; exact vp_in_nI (by omega) (by omega)
  refine lv_aload_n hx hb dL_law_805 rfl (lv_at hl 1 rfl) ?_
  refine lv_aload_n hx hb dL_law_806 rfl (lv_at hl 0 rfl) ?_
  refine lv_iload hx hb dL_law_807 (lv_at hl 4 rfl) ?_
  refine lv_iconst (v := 1) hx hb dL_law_809 (by decide) ?_
  refine lv_iadd hx hb dL_law_810 ?_
  refine va_sld hx hb hX hbl hbA hS h_1 dL_law_811 ?_
  refine lv_aload_n hx hb dL_law_812 rfl (lv_at hl 3 rfl) ?_
  have hPl := hP.sub (ws' := lW cA cL ad qo f g o) [13, 14, 15, 16, 17, 18, 19, 20, 21, 22, 23, 24, 25] rfl
  have hDl := hD.sub (ws' := lW cA cL ad qo f g o) [13, 14, 15, 16, 17, 18, 19, 20, 21, 22, 23, 24, 25] (by decide) rfl
  refine qb_calliP (wc := lW cA cL ad qo f g o) (wr := mW cA cZ am F G) [13, 14, 15, 16, 17, 18, 19, 20, 21, 22, 23, 24, 25] [0, 1, 2, 3, 4, 5, 6, 7, 8, 9, 10, 11, 12] rfl rfl (by decide) (by decide) hP (vx_runSW (As := [.ref (ad 16), .int (xs (nI (3 * t) + 1).toNatClampNeg), .ref qo]) (rest := []) ⟨hx, hb, hml, hown, hts⟩ (c_L_shardOf l hl0 D cA cZ cL ad qo f g o H.size (xs (nI (3 * t) + 1).toNatClampNeg) nR nB hRel.1) (vx_cwSW 3 hts gL_law_L_shardOf rfl rfl rfl (by decide +kernel) ⟨Nat.le_of_ble_eq_true rfl, Nat.le_of_ble_eq_true rfl⟩) ⟨qPreL_blind, lw_pre hTN hS hPl hK hDl⟩ rfl rfl hl.1 rfl (lv_room (Nat.le_of_ble_eq_true rfl)) dL_law_813 ⟨by show 26 + t + 1 ≤ 1076; omega, by show 1598 + 6 * t + 6 ≤ 9946; omega⟩) hD hS hA (fun z u H locs hu hP hD hS => ?_)
  obtain ⟨⟨uf, ug⟩, uo⟩ := u
  have hP : va_P D vwCl (mW cA cZ am F G ++ lW cA cL ad qo uf ug uo) H := hP
  have hD : va_D (fun q : Nat => s.heap.size ≤ q) (mW cA cZ am F G ++ lW cA cL ad qo uf ug uo) := hD
  refine lv_istore (lv' := [(5, .int z), (0, .ref b), (1, .ref (ad 16)), (2, .ref (am 18)), (3, .ref qo), (4, .int (nI (3 * t)))]) hx hb dL_law_816 hl (by decide) rfl (fun ls hl => ?_)
  refine lv_aload_n hx hb dL_law_818 rfl (lv_at hl 3 rfl) ?_
  refine lv_aload_n hx hb dL_law_819 rfl (lv_at hl 1 rfl) ?_
  refine lv_iload hx hb dL_law_820 (lv_at hl 5 rfl) ?_
  refine lv_iconst (v := 1) hx hb dL_law_822 (by decide) ?_
  refine lv_iadd hx hb dL_law_823 ?_
  refine va_sld hx hb hX hbl hbA hS h_1 dL_law_824 ?_
  have hPm := hP.sub (ws' := mW cA cZ am F G) [0, 1, 2, 3, 4, 5, 6, 7, 8, 9, 10, 11, 12] rfl
  have hDm := hD.sub (ws' := mW cA cZ am F G) [0, 1, 2, 3, 4, 5, 6, 7, 8, 9, 10, 11, 12] (by decide) rfl
  refine qb_calliP (wc := mW cA cZ am F G) (wr := lW cA cL ad qo uf ug uo) [0, 1, 2, 3, 4, 5, 6, 7, 8, 9, 10, 11, 12] [13, 14, 15, 16, 17, 18, 19, 20, 21, 22, 23, 24, 25] rfl rfl (by decide) (by decide) hP (va_runV (As := [.int (xs (nI (3 * t) + 1).toNatClampNeg)]) (rest := []) ⟨hx, hb, hml, hown, hts⟩ (c_X1_shardOf l D cA cZ cL am F G H.size (xs (nI (3 * t) + 1).toNatClampNeg) nR nB hRel.2.1) (cwV 1 hts gL_law_X1_shardOf rfl rfl rfl (by decide +kernel) ⟨Nat.le_of_ble_eq_true rfl, Nat.le_of_ble_eq_true rfl⟩) ⟨qPreW_blind, va_recv hK hPm (ci := 1) (q0 := 0) rfl rfl, qPreW_at hPm hK hDm⟩ rfl rfl hl.1 rfl (lv_room (Nat.le_of_ble_eq_true rfl)) dL_law_825 ⟨by show 26 + t + 1 + 0 ≤ 1076; omega, by show 1598 + 6 * t + 6 + 0 ≤ 9946; omega⟩) hD hS hA (fun bz v H locs hv hP hD hS => ?_)
  obtain ⟨vf, vg⟩ := v
  have hP := hP.sub (ws' := (mW cA cZ am vf vg ++ lW cA cL ad qo uf ug uo)) [13, 14, 15, 16, 17, 18, 19, 20, 21, 22, 23, 24, 25, 0, 1, 2, 3, 4, 5, 6, 7, 8, 9, 10, 11, 12] rfl
  have hD := hD.sub (ws' := (mW cA cZ am vf vg ++ lW cA cL ad qo uf ug uo)) [13, 14, 15, 16, 17, 18, 19, 20, 21, 22, 23, 24, 25, 0, 1, 2, 3, 4, 5, 6, 7, 8, 9, 10, 11, 12] (by decide) rfl
  refine lv_istore (lv' := [(6, .int bz), (5, .int z), (0, .ref b), (1, .ref (ad 16)), (2, .ref (am 18)), (3, .ref qo), (4, .int (nI (3 * t)))]) hx hb dL_law_828 hl (by decide) rfl (fun ls hl => ?_)
  obtain ⟨hz, ho, nR1, nB1, hRel1⟩ := rel_shardOf hRel (by omega) hu hv
  refine lv_aload_n hx hb dL_law_830 rfl (lv_at hl 4 rfl) ?_
  have hPm := hP.sub (ws' := mW cA cZ am vf vg) [0, 1, 2, 3, 4, 5, 6, 7, 8, 9, 10, 11, 12] rfl
  refine vp_callSi (W.runV (As := []) (rest := []) ⟨hx, hb, hml, hown, hts⟩ (c_X1_thrown l D cA cZ cL am vf vg) (cwV 0 hts gL_law_X1_thrown rfl rfl rfl (by decide +kernel) ⟨Nat.le_of_ble_eq_true rfl, Nat.le_of_ble_eq_true rfl⟩) ⟨qPre_blind, va_recv hK hPm (ci := 1) (q0 := 0) rfl rfl, qPre_at hPm hK⟩ rfl rfl hl.1 rfl (lv_room (Nat.le_of_ble_eq_true rfl)) dL_law_831 ⟨by show 26 + t + 1 + 0 + 0 ≤ 1076; omega, by show 1598 + 6 * t + 6 + 0 + 0 ≤ 9946; omega⟩) (fun z9 hz9 => ?_)
  subst hz9
  refine lv_iload hx hb dL_law_834 (lv_at hl 1 rfl) ?_
  refine lv_icmp_eq (tgt := 841) hx hb dL_law_836 (by decide) (fun c_1 => ?_) (fun c_1 => absurd hz c_1)
  refine lv_iload hx hb dL_law_841 (lv_at hl 1 rfl) ?_
  refine lv_if_ne (tgt := 858) hx hb dL_law_843 (by decide) (fun c_2 => ?_) (fun c_2 => ?_)
  · refine lv_goto (tgt := 1365) hx hb dL_law_858 (by decide) ?_
    refine W.widen (k := 26 + (t + 1)) (n := 1598 + 6 * (t + 1)) (by omega) (by omega) ?_
    exact K _ _ _ _ _ _ _ _ _ _ hRel1 hP hD hS (lv_sub hl [2, 3, 4, 5, 6] rfl)
  · skip
    refine lv_aload_n hx hb dL_law_846 rfl (lv_at hl 5 rfl) ?_
    refine lv_iconst (v := 0) hx hb dL_law_847 (by decide) ?_
    refine va_lald hx hb hK hP 13 2 rfl rfl (by unfold vp_in; decide) dL_law_848 ?_
    refine lv_iload hx hb dL_law_849 (lv_at hl 0 rfl) ?_
    refine lv_i2l (v := bz.toInt64) hx hb dL_law_851 rfl ?_
    refine W.lcmp hx hb dL_law_852 ?_
    refine lv_if_eq (tgt := 858) hx hb dL_law_853 (by decide) (fun c_3 => ?_) (fun c_3 => absurd (lg_same (ho c_2)) c_3)
    refine lv_goto (tgt := 1365) hx hb dL_law_858 (by decide) ?_
    refine W.widen (k := 26 + (t + 1)) (n := 1598 + 6 * (t + 1)) (by omega) (by omega) ?_
    exact K _ _ _ _ _ _ _ _ _ _ hRel1 hP hD hS (lv_sub hl [2, 3, 4, 5, 6] rfl)
set_option maxHeartbeats 4000000 in
set_option maxRecDepth 100000 in
theorem law_c13 {p : Program} {l : Launch} {e : Env} {s : State} {m : MethodId} {below : List Frame} {meth : Method} {c : Code} {b L : Nat} {xs : Nat → Int32} (hl0 : l.stackTraces = false) (hL : L ≤ 1536) (C0 : lw_At p s m meth c b L xs) {D : va_G} {cA cZ cL : ClassId} (hK : va_K D vwCl (qTy cA cZ cL) s) (hTN : lw_TN s) {ad am : Nat → Nat} {qo : Nat} {t : Nat} (ht : 3 * t + 3 ≤ L) {nR nB : Nat} {f : qFs} {g : qGs} {o : Nat → Int64} {F : qFs} {G : qGs} (hRel : Rel t nR nB f g F G) {H : Heap} {locs : List Loc} (hP : va_P D vwCl (mW cA cZ am F G ++ lW cA cL ad qo f g o) H) (hD : va_D (fun q : Nat => s.heap.size ≤ q) (mW cA cZ am F G ++ lW cA cL ad qo f g o)) (hS : va_S (fun q : Nat => s.heap.size ≤ q) s.heap H locs) (K : ∀ (nR nB : Nat) (f : qFs) (g : qGs) (o : Nat → Int64) (F : qFs) (G : qGs) (H : Heap) (locs : List Loc) (ls : Array Slot), Rel (t + 1) nR nB f g F G → va_P D vwCl (mW cA cZ am F G ++ lW cA cL ad qo f g o) H → va_D (fun q : Nat => s.heap.size ≤ q) (mW cA cZ am F G ++ lW cA cL ad qo f g o) → va_S (fun q : Nat => s.heap.size ≤ q) s.heap H locs → lv_has ls 7 [(0, .ref b), (1, .ref (ad 16)), (2, .ref (am 18)), (3, .ref qo), (4, .int (nI (3 * t)))] → W p l e room_1 s m #[Value.ref b] below meth c H locs (26 + (t + 1)) (1598 + 6 * (t + 1)) (lw_Z below #[Value.ref b] s) (F0 m 1365 ls [])) {ls : Array Slot} (hl : lv_has ls 7 [(0, .ref b), (1, .ref (ad 16)), (2, .ref (am 18)), (3, .ref qo), (4, .int (nI (3 * t)))]) : W p l e room_1 s m #[Value.ref b] below meth c H locs (26 + t) (1598 + 6 * t) (lw_Z below #[Value.ref b] s) (F0 m 861 ls []) := by
  obtain ⟨hx, hb, hr, hml, hown, hts, hX, hbl, hlocks, hgv⟩ := id C0
  have hts := fun w h => hts w (wsL_law_in w h)
  have hA : ∀ q : Nat, s.heap.size ≤ q → (fun q : Nat => s.heap.size ≤ q) q := fun _ h => h
  have hbA : ¬ (fun q : Nat => s.heap.size ≤ q) b := Nat.not_le.mpr hbl
  have h_1 : vp_in (nI (3 * t) + 1) L := by rw [nI_1]; exact vp_in_nI (by omega) (by omega)
  have h_2 : vp_in (nI (3 * t) + 2) L := by rw [show nI (3 * t) + 2 = nI (3 * t + 2) from nI_add _ 2]; exact vp_in_nI (by omega) (by omega)
  refine lv_aload_n hx hb dL_law_861 rfl (lv_at hl 1 rfl) ?_
  refine lv_aload_n hx hb dL_law_862 rfl (lv_at hl 0 rfl) ?_
  refine lv_iload hx hb dL_law_863 (lv_at hl 4 rfl) ?_
  refine lv_iconst (v := 1) hx hb dL_law_865 (by decide) ?_
  refine lv_iadd hx hb dL_law_866 ?_
  refine va_sld hx hb hX hbl hbA hS h_1 dL_law_867 ?_
  refine lv_aload_n hx hb dL_law_868 rfl (lv_at hl 3 rfl) ?_
  have hPl := hP.sub (ws' := lW cA cL ad qo f g o) [13, 14, 15, 16, 17, 18, 19, 20, 21, 22, 23, 24, 25] rfl
  have hDl := hD.sub (ws' := lW cA cL ad qo f g o) [13, 14, 15, 16, 17, 18, 19, 20, 21, 22, 23, 24, 25] (by decide) rfl
  refine qb_calliP (wc := lW cA cL ad qo f g o) (wr := mW cA cZ am F G) [13, 14, 15, 16, 17, 18, 19, 20, 21, 22, 23, 24, 25] [0, 1, 2, 3, 4, 5, 6, 7, 8, 9, 10, 11, 12] rfl rfl (by decide) (by decide) hP (vx_runSW (As := [.ref (ad 16), .int (xs (nI (3 * t) + 1).toNatClampNeg), .ref qo]) (rest := []) ⟨hx, hb, hml, hown, hts⟩ (c_L_rows l hl0 D cA cZ cL ad qo f g o H.size (xs (nI (3 * t) + 1).toNatClampNeg)) (vx_cwSW 3 hts gL_law_L_rows rfl rfl rfl (by decide +kernel) ⟨Nat.le_of_ble_eq_true rfl, Nat.le_of_ble_eq_true rfl⟩) ⟨qPreL_blind, lw_pre hTN hS hPl hK hDl⟩ rfl rfl hl.1 rfl (lv_room (Nat.le_of_ble_eq_true rfl)) dL_law_869 ⟨by show 26 + t + 1 ≤ 1076; omega, by show 1598 + 6 * t + 6 ≤ 9946; omega⟩) hD hS hA (fun z u H locs hu hP hD hS => ?_)
  obtain ⟨⟨uf, ug⟩, uo⟩ := u
  have hP : va_P D vwCl (mW cA cZ am F G ++ lW cA cL ad qo uf ug uo) H := hP
  have hD : va_D (fun q : Nat => s.heap.size ≤ q) (mW cA cZ am F G ++ lW cA cL ad qo uf ug uo) := hD
  refine lv_istore (lv' := [(5, .int z), (0, .ref b), (1, .ref (ad 16)), (2, .ref (am 18)), (3, .ref qo), (4, .int (nI (3 * t)))]) hx hb dL_law_872 hl (by decide) rfl (fun ls hl => ?_)
  refine lv_aload_n hx hb dL_law_874 rfl (lv_at hl 3 rfl) ?_
  refine lv_aload_n hx hb dL_law_875 rfl (lv_at hl 1 rfl) ?_
  refine lv_iload hx hb dL_law_876 (lv_at hl 5 rfl) ?_
  refine lv_iconst (v := 1) hx hb dL_law_878 (by decide) ?_
  refine lv_iadd hx hb dL_law_879 ?_
  refine va_sld hx hb hX hbl hbA hS h_1 dL_law_880 ?_
  have hPm := hP.sub (ws' := mW cA cZ am F G) [0, 1, 2, 3, 4, 5, 6, 7, 8, 9, 10, 11, 12] rfl
  have hDm := hD.sub (ws' := mW cA cZ am F G) [0, 1, 2, 3, 4, 5, 6, 7, 8, 9, 10, 11, 12] (by decide) rfl
  refine qb_calliP (wc := mW cA cZ am F G) (wr := lW cA cL ad qo uf ug uo) [0, 1, 2, 3, 4, 5, 6, 7, 8, 9, 10, 11, 12] [13, 14, 15, 16, 17, 18, 19, 20, 21, 22, 23, 24, 25] rfl rfl (by decide) (by decide) hP (va_runV (As := [.int (xs (nI (3 * t) + 1).toNatClampNeg)]) (rest := []) ⟨hx, hb, hml, hown, hts⟩ (c_X1_rows l D cA cZ cL am F G H.size (xs (nI (3 * t) + 1).toNatClampNeg) nR nB hRel.2.1 hRel.mL) (cwV 1 hts gL_law_X1_rows rfl rfl rfl (by decide +kernel) ⟨Nat.le_of_ble_eq_true rfl, Nat.le_of_ble_eq_true rfl⟩) ⟨qPreW_blind, va_recv hK hPm (ci := 1) (q0 := 0) rfl rfl, qPreW_at hPm hK hDm⟩ rfl rfl hl.1 rfl (lv_room (Nat.le_of_ble_eq_true rfl)) dL_law_881 ⟨by show 26 + t + 1 + 0 ≤ 1076; omega, by show 1598 + 6 * t + 6 + 0 ≤ 9946; omega⟩) hD hS hA (fun bz v H locs hv hP hD hS => ?_)
  obtain ⟨vf, vg⟩ := v
  have hP := hP.sub (ws' := (mW cA cZ am vf vg ++ lW cA cL ad qo uf ug uo)) [13, 14, 15, 16, 17, 18, 19, 20, 21, 22, 23, 24, 25, 0, 1, 2, 3, 4, 5, 6, 7, 8, 9, 10, 11, 12] rfl
  have hD := hD.sub (ws' := (mW cA cZ am vf vg ++ lW cA cL ad qo uf ug uo)) [13, 14, 15, 16, 17, 18, 19, 20, 21, 22, 23, 24, 25, 0, 1, 2, 3, 4, 5, 6, 7, 8, 9, 10, 11, 12] (by decide) rfl
  refine lv_istore (lv' := [(6, .int bz), (5, .int z), (0, .ref b), (1, .ref (ad 16)), (2, .ref (am 18)), (3, .ref qo), (4, .int (nI (3 * t)))]) hx hb dL_law_884 hl (by decide) rfl (fun ls hl => ?_)
  obtain ⟨hz, ho, nR1, nB1, hRel1⟩ := rel_rows hRel (by omega) hu hv
  refine lv_aload_n hx hb dL_law_886 rfl (lv_at hl 4 rfl) ?_
  have hPm := hP.sub (ws' := mW cA cZ am vf vg) [0, 1, 2, 3, 4, 5, 6, 7, 8, 9, 10, 11, 12] rfl
  refine vp_callSi (W.runV (As := []) (rest := []) ⟨hx, hb, hml, hown, hts⟩ (c_X1_thrown l D cA cZ cL am vf vg) (cwV 0 hts gL_law_X1_thrown rfl rfl rfl (by decide +kernel) ⟨Nat.le_of_ble_eq_true rfl, Nat.le_of_ble_eq_true rfl⟩) ⟨qPre_blind, va_recv hK hPm (ci := 1) (q0 := 0) rfl rfl, qPre_at hPm hK⟩ rfl rfl hl.1 rfl (lv_room (Nat.le_of_ble_eq_true rfl)) dL_law_887 ⟨by show 26 + t + 1 + 0 + 0 ≤ 1076; omega, by show 1598 + 6 * t + 6 + 0 + 0 ≤ 9946; omega⟩) (fun z9 hz9 => ?_)
  subst hz9
  refine lv_iload hx hb dL_law_890 (lv_at hl 1 rfl) ?_
  refine lv_icmp_eq (tgt := 897) hx hb dL_law_892 (by decide) (fun c_1 => ?_) (fun c_1 => absurd hz c_1)
  refine lv_iload hx hb dL_law_897 (lv_at hl 1 rfl) ?_
  refine lv_if_ne (tgt := 914) hx hb dL_law_899 (by decide) (fun c_2 => ?_) (fun c_2 => ?_)
  · refine lv_goto (tgt := 1365) hx hb dL_law_914 (by decide) ?_
    refine W.widen (k := 26 + (t + 1)) (n := 1598 + 6 * (t + 1)) (by omega) (by omega) ?_
    exact K _ _ _ _ _ _ _ _ _ _ hRel1 hP hD hS (lv_sub hl [2, 3, 4, 5, 6] rfl)
  · skip
    refine lv_aload_n hx hb dL_law_902 rfl (lv_at hl 5 rfl) ?_
    refine lv_iconst (v := 0) hx hb dL_law_903 (by decide) ?_
    refine va_lald hx hb hK hP 13 2 rfl rfl (by unfold vp_in; decide) dL_law_904 ?_
    refine lv_iload hx hb dL_law_905 (lv_at hl 0 rfl) ?_
    refine lv_i2l (v := bz.toInt64) hx hb dL_law_907 rfl ?_
    refine W.lcmp hx hb dL_law_908 ?_
    refine lv_if_eq (tgt := 914) hx hb dL_law_909 (by decide) (fun c_3 => ?_) (fun c_3 => absurd (lg_same (ho c_2)) c_3)
    refine lv_goto (tgt := 1365) hx hb dL_law_914 (by decide) ?_
    refine W.widen (k := 26 + (t + 1)) (n := 1598 + 6 * (t + 1)) (by omega) (by omega) ?_
    exact K _ _ _ _ _ _ _ _ _ _ hRel1 hP hD hS (lv_sub hl [2, 3, 4, 5, 6] rfl)
set_option maxHeartbeats 4000000 in
set_option maxRecDepth 100000 in
theorem law_c14 {p : Program} {l : Launch} {e : Env} {s : State} {m : MethodId} {below : List Frame} {meth : Method} {c : Code} {b L : Nat} {xs : Nat → Int32} (hl0 : l.stackTraces = false) (hL : L ≤ 1536) (C0 : lw_At p s m meth c b L xs) {D : va_G} {cA cZ cL : ClassId} (hK : va_K D vwCl (qTy cA cZ cL) s) (hTN : lw_TN s) {ad am : Nat → Nat} {qo : Nat} {t : Nat} (ht : 3 * t + 3 ≤ L) {nR nB : Nat} {f : qFs} {g : qGs} {o : Nat → Int64} {F : qFs} {G : qGs} (hRel : Rel t nR nB f g F G) {H : Heap} {locs : List Loc} (hP : va_P D vwCl (mW cA cZ am F G ++ lW cA cL ad qo f g o) H) (hD : va_D (fun q : Nat => s.heap.size ≤ q) (mW cA cZ am F G ++ lW cA cL ad qo f g o)) (hS : va_S (fun q : Nat => s.heap.size ≤ q) s.heap H locs) (K : ∀ (nR nB : Nat) (f : qFs) (g : qGs) (o : Nat → Int64) (F : qFs) (G : qGs) (H : Heap) (locs : List Loc) (ls : Array Slot), Rel (t + 1) nR nB f g F G → va_P D vwCl (mW cA cZ am F G ++ lW cA cL ad qo f g o) H → va_D (fun q : Nat => s.heap.size ≤ q) (mW cA cZ am F G ++ lW cA cL ad qo f g o) → va_S (fun q : Nat => s.heap.size ≤ q) s.heap H locs → lv_has ls 7 [(0, .ref b), (1, .ref (ad 16)), (2, .ref (am 18)), (3, .ref qo), (4, .int (nI (3 * t)))] → W p l e room_1 s m #[Value.ref b] below meth c H locs (26 + (t + 1)) (1598 + 6 * (t + 1)) (lw_Z below #[Value.ref b] s) (F0 m 1365 ls [])) {ls : Array Slot} (hl : lv_has ls 7 [(0, .ref b), (1, .ref (ad 16)), (2, .ref (am 18)), (3, .ref qo), (4, .int (nI (3 * t)))]) : W p l e room_1 s m #[Value.ref b] below meth c H locs (26 + t) (1598 + 6 * t) (lw_Z below #[Value.ref b] s) (F0 m 917 ls []) := by
  obtain ⟨hx, hb, hr, hml, hown, hts, hX, hbl, hlocks, hgv⟩ := id C0
  have hts := fun w h => hts w (wsL_law_in w h)
  have hA : ∀ q : Nat, s.heap.size ≤ q → (fun q : Nat => s.heap.size ≤ q) q := fun _ h => h
  have hbA : ¬ (fun q : Nat => s.heap.size ≤ q) b := Nat.not_le.mpr hbl
  have h_1 : vp_in (nI (3 * t) + 1) L := by rw [nI_1]; exact vp_in_nI (by omega) (by omega)
  have h_2 : vp_in (nI (3 * t) + 2) L := by rw [show nI (3 * t) + 2 = nI (3 * t + 2) from nI_add _ 2]; exact vp_in_nI (by omega) (by omega)
  refine lv_aload_n hx hb dL_law_917 rfl (lv_at hl 1 rfl) ?_
  refine lv_aload_n hx hb dL_law_918 rfl (lv_at hl 3 rfl) ?_
  have hPl := hP.sub (ws' := lW cA cL ad qo f g o) [13, 14, 15, 16, 17, 18, 19, 20, 21, 22, 23, 24, 25] rfl
  have hDl := hD.sub (ws' := lW cA cL ad qo f g o) [13, 14, 15, 16, 17, 18, 19, 20, 21, 22, 23, 24, 25] (by decide) rfl
  refine qb_calliP (wc := lW cA cL ad qo f g o) (wr := mW cA cZ am F G) [13, 14, 15, 16, 17, 18, 19, 20, 21, 22, 23, 24, 25] [0, 1, 2, 3, 4, 5, 6, 7, 8, 9, 10, 11, 12] rfl rfl (by decide) (by decide) hP (vx_runSW (As := [.ref (ad 16), .ref qo]) (rest := []) ⟨hx, hb, hml, hown, hts⟩ (c_L_fix l hl0 D cA cZ cL ad qo f g o H.size nR nB hRel.1) (vx_cwSW 2 hts gL_law_L_fix rfl rfl rfl (by decide +kernel) ⟨Nat.le_of_ble_eq_true rfl, Nat.le_of_ble_eq_true rfl⟩) ⟨qPreL_blind, lw_pre hTN hS hPl hK hDl⟩ rfl rfl hl.1 rfl (lv_room (Nat.le_of_ble_eq_true rfl)) dL_law_919 ⟨by show 26 + t + 1 ≤ 1076; omega, by show 1598 + 6 * t + 6 ≤ 9946; omega⟩) hD hS hA (fun z u H locs hu hP hD hS => ?_)
  obtain ⟨⟨uf, ug⟩, uo⟩ := u
  have hP : va_P D vwCl (mW cA cZ am F G ++ lW cA cL ad qo uf ug uo) H := hP
  have hD : va_D (fun q : Nat => s.heap.size ≤ q) (mW cA cZ am F G ++ lW cA cL ad qo uf ug uo) := hD
  refine lv_istore (lv' := [(5, .int z), (0, .ref b), (1, .ref (ad 16)), (2, .ref (am 18)), (3, .ref qo), (4, .int (nI (3 * t)))]) hx hb dL_law_922 hl (by decide) rfl (fun ls hl => ?_)
  refine lv_aload_n hx hb dL_law_924 rfl (lv_at hl 3 rfl) ?_
  have hPm := hP.sub (ws' := mW cA cZ am F G) [0, 1, 2, 3, 4, 5, 6, 7, 8, 9, 10, 11, 12] rfl
  have hDm := hD.sub (ws' := mW cA cZ am F G) [0, 1, 2, 3, 4, 5, 6, 7, 8, 9, 10, 11, 12] (by decide) rfl
  refine qb_calliP (wc := mW cA cZ am F G) (wr := lW cA cL ad qo uf ug uo) [0, 1, 2, 3, 4, 5, 6, 7, 8, 9, 10, 11, 12] [13, 14, 15, 16, 17, 18, 19, 20, 21, 22, 23, 24, 25] rfl rfl (by decide) (by decide) hP (va_runV (As := []) (rest := []) ⟨hx, hb, hml, hown, hts⟩ (c_X1_fix l D cA cZ cL am F G H.size ) (cwV 0 hts gL_law_X1_fix rfl rfl rfl (by decide +kernel) ⟨Nat.le_of_ble_eq_true rfl, Nat.le_of_ble_eq_true rfl⟩) ⟨qPreW_blind, va_recv hK hPm (ci := 1) (q0 := 0) rfl rfl, qPreW_at hPm hK hDm⟩ rfl rfl hl.1 rfl (lv_room (Nat.le_of_ble_eq_true rfl)) dL_law_925 ⟨by show 26 + t + 1 + 0 ≤ 1076; omega, by show 1598 + 6 * t + 6 + 0 ≤ 9946; omega⟩) hD hS hA (fun bz v H locs hv hP hD hS => ?_)
  obtain ⟨vf, vg⟩ := v
  have hP := hP.sub (ws' := (mW cA cZ am vf vg ++ lW cA cL ad qo uf ug uo)) [13, 14, 15, 16, 17, 18, 19, 20, 21, 22, 23, 24, 25, 0, 1, 2, 3, 4, 5, 6, 7, 8, 9, 10, 11, 12] rfl
  have hD := hD.sub (ws' := (mW cA cZ am vf vg ++ lW cA cL ad qo uf ug uo)) [13, 14, 15, 16, 17, 18, 19, 20, 21, 22, 23, 24, 25, 0, 1, 2, 3, 4, 5, 6, 7, 8, 9, 10, 11, 12] (by decide) rfl
  refine lv_istore (lv' := [(6, .int bz), (5, .int z), (0, .ref b), (1, .ref (ad 16)), (2, .ref (am 18)), (3, .ref qo), (4, .int (nI (3 * t)))]) hx hb dL_law_928 hl (by decide) rfl (fun ls hl => ?_)
  obtain ⟨hz, ho, nR1, nB1, hRel1⟩ := rel_fix hRel (by omega) hu hv
  refine lv_aload_n hx hb dL_law_930 rfl (lv_at hl 4 rfl) ?_
  have hPm := hP.sub (ws' := mW cA cZ am vf vg) [0, 1, 2, 3, 4, 5, 6, 7, 8, 9, 10, 11, 12] rfl
  refine vp_callSi (W.runV (As := []) (rest := []) ⟨hx, hb, hml, hown, hts⟩ (c_X1_thrown l D cA cZ cL am vf vg) (cwV 0 hts gL_law_X1_thrown rfl rfl rfl (by decide +kernel) ⟨Nat.le_of_ble_eq_true rfl, Nat.le_of_ble_eq_true rfl⟩) ⟨qPre_blind, va_recv hK hPm (ci := 1) (q0 := 0) rfl rfl, qPre_at hPm hK⟩ rfl rfl hl.1 rfl (lv_room (Nat.le_of_ble_eq_true rfl)) dL_law_931 ⟨by show 26 + t + 1 + 0 + 0 ≤ 1076; omega, by show 1598 + 6 * t + 6 + 0 + 0 ≤ 9946; omega⟩) (fun z9 hz9 => ?_)
  subst hz9
  refine lv_iload hx hb dL_law_934 (lv_at hl 1 rfl) ?_
  refine lv_icmp_eq (tgt := 941) hx hb dL_law_936 (by decide) (fun c_1 => ?_) (fun c_1 => absurd hz c_1)
  refine lv_iload hx hb dL_law_941 (lv_at hl 1 rfl) ?_
  refine lv_if_ne (tgt := 958) hx hb dL_law_943 (by decide) (fun c_2 => ?_) (fun c_2 => ?_)
  · refine lv_goto (tgt := 1365) hx hb dL_law_958 (by decide) ?_
    refine W.widen (k := 26 + (t + 1)) (n := 1598 + 6 * (t + 1)) (by omega) (by omega) ?_
    exact K _ _ _ _ _ _ _ _ _ _ hRel1 hP hD hS (lv_sub hl [2, 3, 4, 5, 6] rfl)
  · skip
    refine lv_aload_n hx hb dL_law_946 rfl (lv_at hl 5 rfl) ?_
    refine lv_iconst (v := 0) hx hb dL_law_947 (by decide) ?_
    refine va_lald hx hb hK hP 13 2 rfl rfl (by unfold vp_in; decide) dL_law_948 ?_
    refine lv_iload hx hb dL_law_949 (lv_at hl 0 rfl) ?_
    refine lv_i2l (v := bz.toInt64) hx hb dL_law_951 rfl ?_
    refine W.lcmp hx hb dL_law_952 ?_
    refine lv_if_eq (tgt := 958) hx hb dL_law_953 (by decide) (fun c_3 => ?_) (fun c_3 => absurd (lg_same (ho c_2)) c_3)
    refine lv_goto (tgt := 1365) hx hb dL_law_958 (by decide) ?_
    refine W.widen (k := 26 + (t + 1)) (n := 1598 + 6 * (t + 1)) (by omega) (by omega) ?_
    exact K _ _ _ _ _ _ _ _ _ _ hRel1 hP hD hS (lv_sub hl [2, 3, 4, 5, 6] rfl)
set_option maxHeartbeats 4000000 in
set_option maxRecDepth 100000 in
theorem law_c15 {p : Program} {l : Launch} {e : Env} {s : State} {m : MethodId} {below : List Frame} {meth : Method} {c : Code} {b L : Nat} {xs : Nat → Int32} (hl0 : l.stackTraces = false) (hL : L ≤ 1536) (C0 : lw_At p s m meth c b L xs) {D : va_G} {cA cZ cL : ClassId} (hK : va_K D vwCl (qTy cA cZ cL) s) (hTN : lw_TN s) {ad am : Nat → Nat} {qo : Nat} {t : Nat} (ht : 3 * t + 3 ≤ L) {nR nB : Nat} {f : qFs} {g : qGs} {o : Nat → Int64} {F : qFs} {G : qGs} (hRel : Rel t nR nB f g F G) {H : Heap} {locs : List Loc} (hP : va_P D vwCl (mW cA cZ am F G ++ lW cA cL ad qo f g o) H) (hD : va_D (fun q : Nat => s.heap.size ≤ q) (mW cA cZ am F G ++ lW cA cL ad qo f g o)) (hS : va_S (fun q : Nat => s.heap.size ≤ q) s.heap H locs) (K : ∀ (nR nB : Nat) (f : qFs) (g : qGs) (o : Nat → Int64) (F : qFs) (G : qGs) (H : Heap) (locs : List Loc) (ls : Array Slot), Rel (t + 1) nR nB f g F G → va_P D vwCl (mW cA cZ am F G ++ lW cA cL ad qo f g o) H → va_D (fun q : Nat => s.heap.size ≤ q) (mW cA cZ am F G ++ lW cA cL ad qo f g o) → va_S (fun q : Nat => s.heap.size ≤ q) s.heap H locs → lv_has ls 7 [(0, .ref b), (1, .ref (ad 16)), (2, .ref (am 18)), (3, .ref qo), (4, .int (nI (3 * t)))] → W p l e room_1 s m #[Value.ref b] below meth c H locs (26 + (t + 1)) (1598 + 6 * (t + 1)) (lw_Z below #[Value.ref b] s) (F0 m 1365 ls [])) {ls : Array Slot} (hl : lv_has ls 7 [(0, .ref b), (1, .ref (ad 16)), (2, .ref (am 18)), (3, .ref qo), (4, .int (nI (3 * t)))]) : W p l e room_1 s m #[Value.ref b] below meth c H locs (26 + t) (1598 + 6 * t) (lw_Z below #[Value.ref b] s) (F0 m 961 ls []) := by
  obtain ⟨hx, hb, hr, hml, hown, hts, hX, hbl, hlocks, hgv⟩ := id C0
  have hts := fun w h => hts w (wsL_law_in w h)
  have hA : ∀ q : Nat, s.heap.size ≤ q → (fun q : Nat => s.heap.size ≤ q) q := fun _ h => h
  have hbA : ¬ (fun q : Nat => s.heap.size ≤ q) b := Nat.not_le.mpr hbl
  have h_1 : vp_in (nI (3 * t) + 1) L := by rw [nI_1]; exact vp_in_nI (by omega) (by omega)
  have h_2 : vp_in (nI (3 * t) + 2) L := by rw [show nI (3 * t) + 2 = nI (3 * t + 2) from nI_add _ 2]; exact vp_in_nI (by omega) (by omega)
  refine lv_aload_n hx hb dL_law_961 rfl (lv_at hl 1 rfl) ?_
  refine lv_aload_n hx hb dL_law_962 rfl (lv_at hl 0 rfl) ?_
  refine lv_iload hx hb dL_law_963 (lv_at hl 4 rfl) ?_
  refine lv_iconst (v := 1) hx hb dL_law_965 (by decide) ?_
  refine lv_iadd hx hb dL_law_966 ?_
  refine va_sld hx hb hX hbl hbA hS h_1 dL_law_967 ?_
  refine lv_aload_n hx hb dL_law_968 rfl (lv_at hl 3 rfl) ?_
  have hPl := hP.sub (ws' := lW cA cL ad qo f g o) [13, 14, 15, 16, 17, 18, 19, 20, 21, 22, 23, 24, 25] rfl
  have hDl := hD.sub (ws' := lW cA cL ad qo f g o) [13, 14, 15, 16, 17, 18, 19, 20, 21, 22, 23, 24, 25] (by decide) rfl
  refine qb_calliP (wc := lW cA cL ad qo f g o) (wr := mW cA cZ am F G) [13, 14, 15, 16, 17, 18, 19, 20, 21, 22, 23, 24, 25] [0, 1, 2, 3, 4, 5, 6, 7, 8, 9, 10, 11, 12] rfl rfl (by decide) (by decide) hP (vx_runSW (As := [.ref (ad 16), .int (xs (nI (3 * t) + 1).toNatClampNeg), .ref qo]) (rest := []) ⟨hx, hb, hml, hown, hts⟩ (c_L_onRoll l hl0 D cA cZ cL ad qo f g o H.size (xs (nI (3 * t) + 1).toNatClampNeg)) (vx_cwSW 3 hts gL_law_L_onRoll rfl rfl rfl (by decide +kernel) ⟨Nat.le_of_ble_eq_true rfl, Nat.le_of_ble_eq_true rfl⟩) ⟨qPreL_blind, lw_pre hTN hS hPl hK hDl⟩ rfl rfl hl.1 rfl (lv_room (Nat.le_of_ble_eq_true rfl)) dL_law_969 ⟨by show 26 + t + 1 ≤ 1076; omega, by show 1598 + 6 * t + 6 ≤ 9946; omega⟩) hD hS hA (fun z u H locs hu hP hD hS => ?_)
  obtain ⟨⟨uf, ug⟩, uo⟩ := u
  have hP : va_P D vwCl (mW cA cZ am F G ++ lW cA cL ad qo uf ug uo) H := hP
  have hD : va_D (fun q : Nat => s.heap.size ≤ q) (mW cA cZ am F G ++ lW cA cL ad qo uf ug uo) := hD
  refine lv_istore (lv' := [(5, .int z), (0, .ref b), (1, .ref (ad 16)), (2, .ref (am 18)), (3, .ref qo), (4, .int (nI (3 * t)))]) hx hb dL_law_972 hl (by decide) rfl (fun ls hl => ?_)
  refine lv_aload_n hx hb dL_law_974 rfl (lv_at hl 3 rfl) ?_
  refine lv_aload_n hx hb dL_law_975 rfl (lv_at hl 1 rfl) ?_
  refine lv_iload hx hb dL_law_976 (lv_at hl 5 rfl) ?_
  refine lv_iconst (v := 1) hx hb dL_law_978 (by decide) ?_
  refine lv_iadd hx hb dL_law_979 ?_
  refine va_sld hx hb hX hbl hbA hS h_1 dL_law_980 ?_
  have hPm := hP.sub (ws' := mW cA cZ am F G) [0, 1, 2, 3, 4, 5, 6, 7, 8, 9, 10, 11, 12] rfl
  have hDm := hD.sub (ws' := mW cA cZ am F G) [0, 1, 2, 3, 4, 5, 6, 7, 8, 9, 10, 11, 12] (by decide) rfl
  refine qb_calliP (wc := mW cA cZ am F G) (wr := lW cA cL ad qo uf ug uo) [0, 1, 2, 3, 4, 5, 6, 7, 8, 9, 10, 11, 12] [13, 14, 15, 16, 17, 18, 19, 20, 21, 22, 23, 24, 25] rfl rfl (by decide) (by decide) hP (va_runV (As := [.int (xs (nI (3 * t) + 1).toNatClampNeg)]) (rest := []) ⟨hx, hb, hml, hown, hts⟩ (c_X1_onRoll l D cA cZ cL am F G H.size (xs (nI (3 * t) + 1).toNatClampNeg)) (cwV 1 hts gL_law_X1_onRoll rfl rfl rfl (by decide +kernel) ⟨Nat.le_of_ble_eq_true rfl, Nat.le_of_ble_eq_true rfl⟩) ⟨qPreW_blind, va_recv hK hPm (ci := 1) (q0 := 0) rfl rfl, qPreW_at hPm hK hDm⟩ rfl rfl hl.1 rfl (lv_room (Nat.le_of_ble_eq_true rfl)) dL_law_981 ⟨by show 26 + t + 1 + 0 ≤ 1076; omega, by show 1598 + 6 * t + 6 + 0 ≤ 9946; omega⟩) hD hS hA (fun bz v H locs hv hP hD hS => ?_)
  obtain ⟨vf, vg⟩ := v
  have hP := hP.sub (ws' := (mW cA cZ am vf vg ++ lW cA cL ad qo uf ug uo)) [13, 14, 15, 16, 17, 18, 19, 20, 21, 22, 23, 24, 25, 0, 1, 2, 3, 4, 5, 6, 7, 8, 9, 10, 11, 12] rfl
  have hD := hD.sub (ws' := (mW cA cZ am vf vg ++ lW cA cL ad qo uf ug uo)) [13, 14, 15, 16, 17, 18, 19, 20, 21, 22, 23, 24, 25, 0, 1, 2, 3, 4, 5, 6, 7, 8, 9, 10, 11, 12] (by decide) rfl
  refine lv_istore (lv' := [(6, .int bz), (5, .int z), (0, .ref b), (1, .ref (ad 16)), (2, .ref (am 18)), (3, .ref qo), (4, .int (nI (3 * t)))]) hx hb dL_law_984 hl (by decide) rfl (fun ls hl => ?_)
  obtain ⟨hz, ho, nR1, nB1, hRel1⟩ := rel_onRoll hRel (by omega) hu hv
  refine lv_aload_n hx hb dL_law_986 rfl (lv_at hl 4 rfl) ?_
  have hPm := hP.sub (ws' := mW cA cZ am vf vg) [0, 1, 2, 3, 4, 5, 6, 7, 8, 9, 10, 11, 12] rfl
  refine vp_callSi (W.runV (As := []) (rest := []) ⟨hx, hb, hml, hown, hts⟩ (c_X1_thrown l D cA cZ cL am vf vg) (cwV 0 hts gL_law_X1_thrown rfl rfl rfl (by decide +kernel) ⟨Nat.le_of_ble_eq_true rfl, Nat.le_of_ble_eq_true rfl⟩) ⟨qPre_blind, va_recv hK hPm (ci := 1) (q0 := 0) rfl rfl, qPre_at hPm hK⟩ rfl rfl hl.1 rfl (lv_room (Nat.le_of_ble_eq_true rfl)) dL_law_987 ⟨by show 26 + t + 1 + 0 + 0 ≤ 1076; omega, by show 1598 + 6 * t + 6 + 0 + 0 ≤ 9946; omega⟩) (fun z9 hz9 => ?_)
  subst hz9
  refine lv_iload hx hb dL_law_990 (lv_at hl 1 rfl) ?_
  refine lv_icmp_eq (tgt := 997) hx hb dL_law_992 (by decide) (fun c_1 => ?_) (fun c_1 => absurd hz c_1)
  refine lv_iload hx hb dL_law_997 (lv_at hl 1 rfl) ?_
  refine lv_if_ne (tgt := 1014) hx hb dL_law_999 (by decide) (fun c_2 => ?_) (fun c_2 => ?_)
  · refine lv_goto (tgt := 1365) hx hb dL_law_1014 (by decide) ?_
    refine W.widen (k := 26 + (t + 1)) (n := 1598 + 6 * (t + 1)) (by omega) (by omega) ?_
    exact K _ _ _ _ _ _ _ _ _ _ hRel1 hP hD hS (lv_sub hl [2, 3, 4, 5, 6] rfl)
  · skip
    refine lv_aload_n hx hb dL_law_1002 rfl (lv_at hl 5 rfl) ?_
    refine lv_iconst (v := 0) hx hb dL_law_1003 (by decide) ?_
    refine va_lald hx hb hK hP 13 2 rfl rfl (by unfold vp_in; decide) dL_law_1004 ?_
    refine lv_iload hx hb dL_law_1005 (lv_at hl 0 rfl) ?_
    refine lv_i2l (v := bz.toInt64) hx hb dL_law_1007 rfl ?_
    refine W.lcmp hx hb dL_law_1008 ?_
    refine lv_if_eq (tgt := 1014) hx hb dL_law_1009 (by decide) (fun c_3 => ?_) (fun c_3 => absurd (lg_same (ho c_2)) c_3)
    refine lv_goto (tgt := 1365) hx hb dL_law_1014 (by decide) ?_
    refine W.widen (k := 26 + (t + 1)) (n := 1598 + 6 * (t + 1)) (by omega) (by omega) ?_
    exact K _ _ _ _ _ _ _ _ _ _ hRel1 hP hD hS (lv_sub hl [2, 3, 4, 5, 6] rfl)
set_option maxHeartbeats 4000000 in
set_option maxRecDepth 100000 in
theorem law_c16 {p : Program} {l : Launch} {e : Env} {s : State} {m : MethodId} {below : List Frame} {meth : Method} {c : Code} {b L : Nat} {xs : Nat → Int32} (hl0 : l.stackTraces = false) (hL : L ≤ 1536) (C0 : lw_At p s m meth c b L xs) {D : va_G} {cA cZ cL : ClassId} (hK : va_K D vwCl (qTy cA cZ cL) s) (hTN : lw_TN s) {ad am : Nat → Nat} {qo : Nat} {t : Nat} (ht : 3 * t + 3 ≤ L) {nR nB : Nat} {f : qFs} {g : qGs} {o : Nat → Int64} {F : qFs} {G : qGs} (hRel : Rel t nR nB f g F G) {H : Heap} {locs : List Loc} (hP : va_P D vwCl (mW cA cZ am F G ++ lW cA cL ad qo f g o) H) (hD : va_D (fun q : Nat => s.heap.size ≤ q) (mW cA cZ am F G ++ lW cA cL ad qo f g o)) (hS : va_S (fun q : Nat => s.heap.size ≤ q) s.heap H locs) (K : ∀ (nR nB : Nat) (f : qFs) (g : qGs) (o : Nat → Int64) (F : qFs) (G : qGs) (H : Heap) (locs : List Loc) (ls : Array Slot), Rel (t + 1) nR nB f g F G → va_P D vwCl (mW cA cZ am F G ++ lW cA cL ad qo f g o) H → va_D (fun q : Nat => s.heap.size ≤ q) (mW cA cZ am F G ++ lW cA cL ad qo f g o) → va_S (fun q : Nat => s.heap.size ≤ q) s.heap H locs → lv_has ls 7 [(0, .ref b), (1, .ref (ad 16)), (2, .ref (am 18)), (3, .ref qo), (4, .int (nI (3 * t)))] → W p l e room_1 s m #[Value.ref b] below meth c H locs (26 + (t + 1)) (1598 + 6 * (t + 1)) (lw_Z below #[Value.ref b] s) (F0 m 1365 ls [])) {ls : Array Slot} (hl : lv_has ls 7 [(0, .ref b), (1, .ref (ad 16)), (2, .ref (am 18)), (3, .ref qo), (4, .int (nI (3 * t)))]) : W p l e room_1 s m #[Value.ref b] below meth c H locs (26 + t) (1598 + 6 * t) (lw_Z below #[Value.ref b] s) (F0 m 1017 ls []) := by
  obtain ⟨hx, hb, hr, hml, hown, hts, hX, hbl, hlocks, hgv⟩ := id C0
  have hts := fun w h => hts w (wsL_law_in w h)
  have hA : ∀ q : Nat, s.heap.size ≤ q → (fun q : Nat => s.heap.size ≤ q) q := fun _ h => h
  have hbA : ¬ (fun q : Nat => s.heap.size ≤ q) b := Nat.not_le.mpr hbl
  have h_1 : vp_in (nI (3 * t) + 1) L := by rw [nI_1]; exact vp_in_nI (by omega) (by omega)
  have h_2 : vp_in (nI (3 * t) + 2) L := by rw [show nI (3 * t) + 2 = nI (3 * t + 2) from nI_add _ 2]; exact vp_in_nI (by omega) (by omega)
  refine lv_aload_n hx hb dL_law_1017 rfl (lv_at hl 1 rfl) ?_
  refine lv_aload_n hx hb dL_law_1018 rfl (lv_at hl 0 rfl) ?_
  refine lv_iload hx hb dL_law_1019 (lv_at hl 4 rfl) ?_
  refine lv_iconst (v := 1) hx hb dL_law_1021 (by decide) ?_
  refine lv_iadd hx hb dL_law_1022 ?_
  refine va_sld hx hb hX hbl hbA hS h_1 dL_law_1023 ?_
  refine lv_aload_n hx hb dL_law_1024 rfl (lv_at hl 3 rfl) ?_
  have hPl := hP.sub (ws' := lW cA cL ad qo f g o) [13, 14, 15, 16, 17, 18, 19, 20, 21, 22, 23, 24, 25] rfl
  have hDl := hD.sub (ws' := lW cA cL ad qo f g o) [13, 14, 15, 16, 17, 18, 19, 20, 21, 22, 23, 24, 25] (by decide) rfl
  refine qb_calliP (wc := lW cA cL ad qo f g o) (wr := mW cA cZ am F G) [13, 14, 15, 16, 17, 18, 19, 20, 21, 22, 23, 24, 25] [0, 1, 2, 3, 4, 5, 6, 7, 8, 9, 10, 11, 12] rfl rfl (by decide) (by decide) hP (vx_runSW (As := [.ref (ad 16), .int (xs (nI (3 * t) + 1).toNatClampNeg), .ref qo]) (rest := []) ⟨hx, hb, hml, hown, hts⟩ (c_L_send l hl0 D cA cZ cL ad qo f g o H.size (xs (nI (3 * t) + 1).toNatClampNeg) nR nB hRel.1) (vx_cwSW 3 hts gL_law_L_send rfl rfl rfl (by decide +kernel) ⟨Nat.le_of_ble_eq_true rfl, Nat.le_of_ble_eq_true rfl⟩) ⟨qPreL_blind, lw_pre hTN hS hPl hK hDl⟩ rfl rfl hl.1 rfl (lv_room (Nat.le_of_ble_eq_true rfl)) dL_law_1025 ⟨by show 26 + t + 1 ≤ 1076; omega, by show 1598 + 6 * t + 6 ≤ 9946; omega⟩) hD hS hA (fun z u H locs hu hP hD hS => ?_)
  obtain ⟨⟨uf, ug⟩, uo⟩ := u
  have hP : va_P D vwCl (mW cA cZ am F G ++ lW cA cL ad qo uf ug uo) H := hP
  have hD : va_D (fun q : Nat => s.heap.size ≤ q) (mW cA cZ am F G ++ lW cA cL ad qo uf ug uo) := hD
  refine lv_istore (lv' := [(5, .int z), (0, .ref b), (1, .ref (ad 16)), (2, .ref (am 18)), (3, .ref qo), (4, .int (nI (3 * t)))]) hx hb dL_law_1028 hl (by decide) rfl (fun ls hl => ?_)
  refine lv_aload_n hx hb dL_law_1030 rfl (lv_at hl 3 rfl) ?_
  refine lv_aload_n hx hb dL_law_1031 rfl (lv_at hl 1 rfl) ?_
  refine lv_iload hx hb dL_law_1032 (lv_at hl 5 rfl) ?_
  refine lv_iconst (v := 1) hx hb dL_law_1034 (by decide) ?_
  refine lv_iadd hx hb dL_law_1035 ?_
  refine va_sld hx hb hX hbl hbA hS h_1 dL_law_1036 ?_
  have hPm := hP.sub (ws' := mW cA cZ am F G) [0, 1, 2, 3, 4, 5, 6, 7, 8, 9, 10, 11, 12] rfl
  have hDm := hD.sub (ws' := mW cA cZ am F G) [0, 1, 2, 3, 4, 5, 6, 7, 8, 9, 10, 11, 12] (by decide) rfl
  refine qb_calliP (wc := mW cA cZ am F G) (wr := lW cA cL ad qo uf ug uo) [0, 1, 2, 3, 4, 5, 6, 7, 8, 9, 10, 11, 12] [13, 14, 15, 16, 17, 18, 19, 20, 21, 22, 23, 24, 25] rfl rfl (by decide) (by decide) hP (va_runV (As := [.int (xs (nI (3 * t) + 1).toNatClampNeg)]) (rest := []) ⟨hx, hb, hml, hown, hts⟩ (c_X1_send l D cA cZ cL am F G H.size (xs (nI (3 * t) + 1).toNatClampNeg) nR nB hRel.2.1 hRel.2.2.2.2.2.2.2.2.1) (cwV 1 hts gL_law_X1_send rfl rfl rfl (by decide +kernel) ⟨Nat.le_of_ble_eq_true rfl, Nat.le_of_ble_eq_true rfl⟩) ⟨qPreW_blind, va_recv hK hPm (ci := 1) (q0 := 0) rfl rfl, qPreW_at hPm hK hDm⟩ rfl rfl hl.1 rfl (lv_room (Nat.le_of_ble_eq_true rfl)) dL_law_1037 ⟨by show 26 + t + 1 + 0 ≤ 1076; omega, by show 1598 + 6 * t + 6 + 0 ≤ 9946; omega⟩) hD hS hA (fun bz v H locs hv hP hD hS => ?_)
  obtain ⟨vf, vg⟩ := v
  have hP := hP.sub (ws' := (mW cA cZ am vf vg ++ lW cA cL ad qo uf ug uo)) [13, 14, 15, 16, 17, 18, 19, 20, 21, 22, 23, 24, 25, 0, 1, 2, 3, 4, 5, 6, 7, 8, 9, 10, 11, 12] rfl
  have hD := hD.sub (ws' := (mW cA cZ am vf vg ++ lW cA cL ad qo uf ug uo)) [13, 14, 15, 16, 17, 18, 19, 20, 21, 22, 23, 24, 25, 0, 1, 2, 3, 4, 5, 6, 7, 8, 9, 10, 11, 12] (by decide) rfl
  refine lv_istore (lv' := [(6, .int bz), (5, .int z), (0, .ref b), (1, .ref (ad 16)), (2, .ref (am 18)), (3, .ref qo), (4, .int (nI (3 * t)))]) hx hb dL_law_1040 hl (by decide) rfl (fun ls hl => ?_)
  obtain ⟨hz, ho, nR1, nB1, hRel1⟩ := rel_send hRel (by omega) hu hv
  refine lv_aload_n hx hb dL_law_1042 rfl (lv_at hl 4 rfl) ?_
  have hPm := hP.sub (ws' := mW cA cZ am vf vg) [0, 1, 2, 3, 4, 5, 6, 7, 8, 9, 10, 11, 12] rfl
  refine vp_callSi (W.runV (As := []) (rest := []) ⟨hx, hb, hml, hown, hts⟩ (c_X1_thrown l D cA cZ cL am vf vg) (cwV 0 hts gL_law_X1_thrown rfl rfl rfl (by decide +kernel) ⟨Nat.le_of_ble_eq_true rfl, Nat.le_of_ble_eq_true rfl⟩) ⟨qPre_blind, va_recv hK hPm (ci := 1) (q0 := 0) rfl rfl, qPre_at hPm hK⟩ rfl rfl hl.1 rfl (lv_room (Nat.le_of_ble_eq_true rfl)) dL_law_1043 ⟨by show 26 + t + 1 + 0 + 0 ≤ 1076; omega, by show 1598 + 6 * t + 6 + 0 + 0 ≤ 9946; omega⟩) (fun z9 hz9 => ?_)
  subst hz9
  refine lv_iload hx hb dL_law_1046 (lv_at hl 1 rfl) ?_
  refine lv_icmp_eq (tgt := 1053) hx hb dL_law_1048 (by decide) (fun c_1 => ?_) (fun c_1 => absurd hz c_1)
  refine lv_iload hx hb dL_law_1053 (lv_at hl 1 rfl) ?_
  refine lv_if_ne (tgt := 1070) hx hb dL_law_1055 (by decide) (fun c_2 => ?_) (fun c_2 => ?_)
  · refine lv_goto (tgt := 1365) hx hb dL_law_1070 (by decide) ?_
    refine W.widen (k := 26 + (t + 1)) (n := 1598 + 6 * (t + 1)) (by omega) (by omega) ?_
    exact K _ _ _ _ _ _ _ _ _ _ hRel1 hP hD hS (lv_sub hl [2, 3, 4, 5, 6] rfl)
  · skip
    refine lv_aload_n hx hb dL_law_1058 rfl (lv_at hl 5 rfl) ?_
    refine lv_iconst (v := 0) hx hb dL_law_1059 (by decide) ?_
    refine va_lald hx hb hK hP 13 2 rfl rfl (by unfold vp_in; decide) dL_law_1060 ?_
    refine lv_iload hx hb dL_law_1061 (lv_at hl 0 rfl) ?_
    refine lv_i2l (v := bz.toInt64) hx hb dL_law_1063 rfl ?_
    refine W.lcmp hx hb dL_law_1064 ?_
    refine lv_if_eq (tgt := 1070) hx hb dL_law_1065 (by decide) (fun c_3 => ?_) (fun c_3 => absurd (lg_same (ho c_2)) c_3)
    refine lv_goto (tgt := 1365) hx hb dL_law_1070 (by decide) ?_
    refine W.widen (k := 26 + (t + 1)) (n := 1598 + 6 * (t + 1)) (by omega) (by omega) ?_
    exact K _ _ _ _ _ _ _ _ _ _ hRel1 hP hD hS (lv_sub hl [2, 3, 4, 5, 6] rfl)
set_option maxHeartbeats 4000000 in
set_option maxRecDepth 100000 in
theorem law_c17 {p : Program} {l : Launch} {e : Env} {s : State} {m : MethodId} {below : List Frame} {meth : Method} {c : Code} {b L : Nat} {xs : Nat → Int32} (hl0 : l.stackTraces = false) (hL : L ≤ 1536) (C0 : lw_At p s m meth c b L xs) {D : va_G} {cA cZ cL : ClassId} (hK : va_K D vwCl (qTy cA cZ cL) s) (hTN : lw_TN s) {ad am : Nat → Nat} {qo : Nat} {t : Nat} (ht : 3 * t + 3 ≤ L) {nR nB : Nat} {f : qFs} {g : qGs} {o : Nat → Int64} {F : qFs} {G : qGs} (hRel : Rel t nR nB f g F G) {H : Heap} {locs : List Loc} (hP : va_P D vwCl (mW cA cZ am F G ++ lW cA cL ad qo f g o) H) (hD : va_D (fun q : Nat => s.heap.size ≤ q) (mW cA cZ am F G ++ lW cA cL ad qo f g o)) (hS : va_S (fun q : Nat => s.heap.size ≤ q) s.heap H locs) (K : ∀ (nR nB : Nat) (f : qFs) (g : qGs) (o : Nat → Int64) (F : qFs) (G : qGs) (H : Heap) (locs : List Loc) (ls : Array Slot), Rel (t + 1) nR nB f g F G → va_P D vwCl (mW cA cZ am F G ++ lW cA cL ad qo f g o) H → va_D (fun q : Nat => s.heap.size ≤ q) (mW cA cZ am F G ++ lW cA cL ad qo f g o) → va_S (fun q : Nat => s.heap.size ≤ q) s.heap H locs → lv_has ls 7 [(0, .ref b), (1, .ref (ad 16)), (2, .ref (am 18)), (3, .ref qo), (4, .int (nI (3 * t)))] → W p l e room_1 s m #[Value.ref b] below meth c H locs (26 + (t + 1)) (1598 + 6 * (t + 1)) (lw_Z below #[Value.ref b] s) (F0 m 1365 ls [])) {ls : Array Slot} (hl : lv_has ls 7 [(0, .ref b), (1, .ref (ad 16)), (2, .ref (am 18)), (3, .ref qo), (4, .int (nI (3 * t)))]) : W p l e room_1 s m #[Value.ref b] below meth c H locs (26 + t) (1598 + 6 * t) (lw_Z below #[Value.ref b] s) (F0 m 1073 ls []) := by
  obtain ⟨hx, hb, hr, hml, hown, hts, hX, hbl, hlocks, hgv⟩ := id C0
  have hts := fun w h => hts w (wsL_law_in w h)
  have hA : ∀ q : Nat, s.heap.size ≤ q → (fun q : Nat => s.heap.size ≤ q) q := fun _ h => h
  have hbA : ¬ (fun q : Nat => s.heap.size ≤ q) b := Nat.not_le.mpr hbl
  have h_1 : vp_in (nI (3 * t) + 1) L := by rw [nI_1]; exact vp_in_nI (by omega) (by omega)
  have h_2 : vp_in (nI (3 * t) + 2) L := by rw [show nI (3 * t) + 2 = nI (3 * t + 2) from nI_add _ 2]; exact vp_in_nI (by omega) (by omega)
  refine lv_aload_n hx hb dL_law_1073 rfl (lv_at hl 1 rfl) ?_
  refine lv_aload_n hx hb dL_law_1074 rfl (lv_at hl 0 rfl) ?_
  refine lv_iload hx hb dL_law_1075 (lv_at hl 4 rfl) ?_
  refine lv_iconst (v := 1) hx hb dL_law_1077 (by decide) ?_
  refine lv_iadd hx hb dL_law_1078 ?_
  refine va_sld hx hb hX hbl hbA hS h_1 dL_law_1079 ?_
  refine lv_aload_n hx hb dL_law_1080 rfl (lv_at hl 3 rfl) ?_
  have hPl := hP.sub (ws' := lW cA cL ad qo f g o) [13, 14, 15, 16, 17, 18, 19, 20, 21, 22, 23, 24, 25] rfl
  have hDl := hD.sub (ws' := lW cA cL ad qo f g o) [13, 14, 15, 16, 17, 18, 19, 20, 21, 22, 23, 24, 25] (by decide) rfl
  refine qb_calliP (wc := lW cA cL ad qo f g o) (wr := mW cA cZ am F G) [13, 14, 15, 16, 17, 18, 19, 20, 21, 22, 23, 24, 25] [0, 1, 2, 3, 4, 5, 6, 7, 8, 9, 10, 11, 12] rfl rfl (by decide) (by decide) hP (vx_runSW (As := [.ref (ad 16), .int (xs (nI (3 * t) + 1).toNatClampNeg), .ref qo]) (rest := []) ⟨hx, hb, hml, hown, hts⟩ (c_L_sentTo l hl0 D cA cZ cL ad qo f g o H.size (xs (nI (3 * t) + 1).toNatClampNeg) nR nB hRel.1) (vx_cwSW 3 hts gL_law_L_sentTo rfl rfl rfl (by decide +kernel) ⟨Nat.le_of_ble_eq_true rfl, Nat.le_of_ble_eq_true rfl⟩) ⟨qPreL_blind, lw_pre hTN hS hPl hK hDl⟩ rfl rfl hl.1 rfl (lv_room (Nat.le_of_ble_eq_true rfl)) dL_law_1081 ⟨by show 26 + t + 1 ≤ 1076; omega, by show 1598 + 6 * t + 6 ≤ 9946; omega⟩) hD hS hA (fun z u H locs hu hP hD hS => ?_)
  obtain ⟨⟨uf, ug⟩, uo⟩ := u
  have hP : va_P D vwCl (mW cA cZ am F G ++ lW cA cL ad qo uf ug uo) H := hP
  have hD : va_D (fun q : Nat => s.heap.size ≤ q) (mW cA cZ am F G ++ lW cA cL ad qo uf ug uo) := hD
  refine lv_istore (lv' := [(5, .int z), (0, .ref b), (1, .ref (ad 16)), (2, .ref (am 18)), (3, .ref qo), (4, .int (nI (3 * t)))]) hx hb dL_law_1084 hl (by decide) rfl (fun ls hl => ?_)
  refine lv_aload_n hx hb dL_law_1086 rfl (lv_at hl 3 rfl) ?_
  refine lv_aload_n hx hb dL_law_1087 rfl (lv_at hl 1 rfl) ?_
  refine lv_iload hx hb dL_law_1088 (lv_at hl 5 rfl) ?_
  refine lv_iconst (v := 1) hx hb dL_law_1090 (by decide) ?_
  refine lv_iadd hx hb dL_law_1091 ?_
  refine va_sld hx hb hX hbl hbA hS h_1 dL_law_1092 ?_
  have hPm := hP.sub (ws' := mW cA cZ am F G) [0, 1, 2, 3, 4, 5, 6, 7, 8, 9, 10, 11, 12] rfl
  have hDm := hD.sub (ws' := mW cA cZ am F G) [0, 1, 2, 3, 4, 5, 6, 7, 8, 9, 10, 11, 12] (by decide) rfl
  refine qb_calliP (wc := mW cA cZ am F G) (wr := lW cA cL ad qo uf ug uo) [0, 1, 2, 3, 4, 5, 6, 7, 8, 9, 10, 11, 12] [13, 14, 15, 16, 17, 18, 19, 20, 21, 22, 23, 24, 25] rfl rfl (by decide) (by decide) hP (va_runV (As := [.int (xs (nI (3 * t) + 1).toNatClampNeg)]) (rest := []) ⟨hx, hb, hml, hown, hts⟩ (c_X1_sentTo l D cA cZ cL am F G H.size (xs (nI (3 * t) + 1).toNatClampNeg) nR nB hRel.2.1) (cwV 1 hts gL_law_X1_sentTo rfl rfl rfl (by decide +kernel) ⟨Nat.le_of_ble_eq_true rfl, Nat.le_of_ble_eq_true rfl⟩) ⟨qPreW_blind, va_recv hK hPm (ci := 1) (q0 := 0) rfl rfl, qPreW_at hPm hK hDm⟩ rfl rfl hl.1 rfl (lv_room (Nat.le_of_ble_eq_true rfl)) dL_law_1093 ⟨by show 26 + t + 1 + 0 ≤ 1076; omega, by show 1598 + 6 * t + 6 + 0 ≤ 9946; omega⟩) hD hS hA (fun bz v H locs hv hP hD hS => ?_)
  obtain ⟨vf, vg⟩ := v
  have hP := hP.sub (ws' := (mW cA cZ am vf vg ++ lW cA cL ad qo uf ug uo)) [13, 14, 15, 16, 17, 18, 19, 20, 21, 22, 23, 24, 25, 0, 1, 2, 3, 4, 5, 6, 7, 8, 9, 10, 11, 12] rfl
  have hD := hD.sub (ws' := (mW cA cZ am vf vg ++ lW cA cL ad qo uf ug uo)) [13, 14, 15, 16, 17, 18, 19, 20, 21, 22, 23, 24, 25, 0, 1, 2, 3, 4, 5, 6, 7, 8, 9, 10, 11, 12] (by decide) rfl
  refine lv_istore (lv' := [(6, .int bz), (5, .int z), (0, .ref b), (1, .ref (ad 16)), (2, .ref (am 18)), (3, .ref qo), (4, .int (nI (3 * t)))]) hx hb dL_law_1096 hl (by decide) rfl (fun ls hl => ?_)
  obtain ⟨hz, ho, nR1, nB1, hRel1⟩ := rel_sentTo hRel (by omega) hu hv
  refine lv_aload_n hx hb dL_law_1098 rfl (lv_at hl 4 rfl) ?_
  have hPm := hP.sub (ws' := mW cA cZ am vf vg) [0, 1, 2, 3, 4, 5, 6, 7, 8, 9, 10, 11, 12] rfl
  refine vp_callSi (W.runV (As := []) (rest := []) ⟨hx, hb, hml, hown, hts⟩ (c_X1_thrown l D cA cZ cL am vf vg) (cwV 0 hts gL_law_X1_thrown rfl rfl rfl (by decide +kernel) ⟨Nat.le_of_ble_eq_true rfl, Nat.le_of_ble_eq_true rfl⟩) ⟨qPre_blind, va_recv hK hPm (ci := 1) (q0 := 0) rfl rfl, qPre_at hPm hK⟩ rfl rfl hl.1 rfl (lv_room (Nat.le_of_ble_eq_true rfl)) dL_law_1099 ⟨by show 26 + t + 1 + 0 + 0 ≤ 1076; omega, by show 1598 + 6 * t + 6 + 0 + 0 ≤ 9946; omega⟩) (fun z9 hz9 => ?_)
  subst hz9
  refine lv_iload hx hb dL_law_1102 (lv_at hl 1 rfl) ?_
  refine lv_icmp_eq (tgt := 1109) hx hb dL_law_1104 (by decide) (fun c_1 => ?_) (fun c_1 => absurd hz c_1)
  refine lv_iload hx hb dL_law_1109 (lv_at hl 1 rfl) ?_
  refine lv_if_ne (tgt := 1126) hx hb dL_law_1111 (by decide) (fun c_2 => ?_) (fun c_2 => ?_)
  · refine lv_goto (tgt := 1365) hx hb dL_law_1126 (by decide) ?_
    refine W.widen (k := 26 + (t + 1)) (n := 1598 + 6 * (t + 1)) (by omega) (by omega) ?_
    exact K _ _ _ _ _ _ _ _ _ _ hRel1 hP hD hS (lv_sub hl [2, 3, 4, 5, 6] rfl)
  · skip
    refine lv_aload_n hx hb dL_law_1114 rfl (lv_at hl 5 rfl) ?_
    refine lv_iconst (v := 0) hx hb dL_law_1115 (by decide) ?_
    refine va_lald hx hb hK hP 13 2 rfl rfl (by unfold vp_in; decide) dL_law_1116 ?_
    refine lv_iload hx hb dL_law_1117 (lv_at hl 0 rfl) ?_
    refine lv_i2l (v := bz.toInt64) hx hb dL_law_1119 rfl ?_
    refine W.lcmp hx hb dL_law_1120 ?_
    refine lv_if_eq (tgt := 1126) hx hb dL_law_1121 (by decide) (fun c_3 => ?_) (fun c_3 => absurd (lg_same (ho c_2)) c_3)
    refine lv_goto (tgt := 1365) hx hb dL_law_1126 (by decide) ?_
    refine W.widen (k := 26 + (t + 1)) (n := 1598 + 6 * (t + 1)) (by omega) (by omega) ?_
    exact K _ _ _ _ _ _ _ _ _ _ hRel1 hP hD hS (lv_sub hl [2, 3, 4, 5, 6] rfl)
set_option maxHeartbeats 4000000 in
set_option maxRecDepth 100000 in
theorem law_c18 {p : Program} {l : Launch} {e : Env} {s : State} {m : MethodId} {below : List Frame} {meth : Method} {c : Code} {b L : Nat} {xs : Nat → Int32} (hl0 : l.stackTraces = false) (hL : L ≤ 1536) (C0 : lw_At p s m meth c b L xs) {D : va_G} {cA cZ cL : ClassId} (hK : va_K D vwCl (qTy cA cZ cL) s) (hTN : lw_TN s) {ad am : Nat → Nat} {qo : Nat} {t : Nat} (ht : 3 * t + 3 ≤ L) {nR nB : Nat} {f : qFs} {g : qGs} {o : Nat → Int64} {F : qFs} {G : qGs} (hRel : Rel t nR nB f g F G) {H : Heap} {locs : List Loc} (hP : va_P D vwCl (mW cA cZ am F G ++ lW cA cL ad qo f g o) H) (hD : va_D (fun q : Nat => s.heap.size ≤ q) (mW cA cZ am F G ++ lW cA cL ad qo f g o)) (hS : va_S (fun q : Nat => s.heap.size ≤ q) s.heap H locs) (K : ∀ (nR nB : Nat) (f : qFs) (g : qGs) (o : Nat → Int64) (F : qFs) (G : qGs) (H : Heap) (locs : List Loc) (ls : Array Slot), Rel (t + 1) nR nB f g F G → va_P D vwCl (mW cA cZ am F G ++ lW cA cL ad qo f g o) H → va_D (fun q : Nat => s.heap.size ≤ q) (mW cA cZ am F G ++ lW cA cL ad qo f g o) → va_S (fun q : Nat => s.heap.size ≤ q) s.heap H locs → lv_has ls 7 [(0, .ref b), (1, .ref (ad 16)), (2, .ref (am 18)), (3, .ref qo), (4, .int (nI (3 * t)))] → W p l e room_1 s m #[Value.ref b] below meth c H locs (26 + (t + 1)) (1598 + 6 * (t + 1)) (lw_Z below #[Value.ref b] s) (F0 m 1365 ls [])) {ls : Array Slot} (hl : lv_has ls 7 [(0, .ref b), (1, .ref (ad 16)), (2, .ref (am 18)), (3, .ref qo), (4, .int (nI (3 * t)))]) : W p l e room_1 s m #[Value.ref b] below meth c H locs (26 + t) (1598 + 6 * t) (lw_Z below #[Value.ref b] s) (F0 m 1129 ls []) := by
  obtain ⟨hx, hb, hr, hml, hown, hts, hX, hbl, hlocks, hgv⟩ := id C0
  have hts := fun w h => hts w (wsL_law_in w h)
  have hA : ∀ q : Nat, s.heap.size ≤ q → (fun q : Nat => s.heap.size ≤ q) q := fun _ h => h
  have hbA : ¬ (fun q : Nat => s.heap.size ≤ q) b := Nat.not_le.mpr hbl
  have h_1 : vp_in (nI (3 * t) + 1) L := by rw [nI_1]; exact vp_in_nI (by omega) (by omega)
  have h_2 : vp_in (nI (3 * t) + 2) L := by rw [show nI (3 * t) + 2 = nI (3 * t + 2) from nI_add _ 2]; exact vp_in_nI (by omega) (by omega)
  refine lv_aload_n hx hb dL_law_1129 rfl (lv_at hl 1 rfl) ?_
  refine lv_aload_n hx hb dL_law_1130 rfl (lv_at hl 0 rfl) ?_
  refine lv_iload hx hb dL_law_1131 (lv_at hl 4 rfl) ?_
  refine lv_iconst (v := 1) hx hb dL_law_1133 (by decide) ?_
  refine lv_iadd hx hb dL_law_1134 ?_
  refine va_sld hx hb hX hbl hbA hS h_1 dL_law_1135 ?_
  refine lv_aload_n hx hb dL_law_1136 rfl (lv_at hl 0 rfl) ?_
  refine lv_iload hx hb dL_law_1137 (lv_at hl 4 rfl) ?_
  refine lv_iconst (v := 2) hx hb dL_law_1139 (by decide) ?_
  refine lv_iadd hx hb dL_law_1140 ?_
  refine va_sld hx hb hX hbl hbA hS h_2 dL_law_1141 ?_
  refine lv_aload_n hx hb dL_law_1142 rfl (lv_at hl 3 rfl) ?_
  have hPl := hP.sub (ws' := lW cA cL ad qo f g o) [13, 14, 15, 16, 17, 18, 19, 20, 21, 22, 23, 24, 25] rfl
  have hDl := hD.sub (ws' := lW cA cL ad qo f g o) [13, 14, 15, 16, 17, 18, 19, 20, 21, 22, 23, 24, 25] (by decide) rfl
  refine qb_calliP (wc := lW cA cL ad qo f g o) (wr := mW cA cZ am F G) [13, 14, 15, 16, 17, 18, 19, 20, 21, 22, 23, 24, 25] [0, 1, 2, 3, 4, 5, 6, 7, 8, 9, 10, 11, 12] rfl rfl (by decide) (by decide) hP (vx_runSW (As := [.ref (ad 16), .int (xs (nI (3 * t) + 1).toNatClampNeg), .int (xs (nI (3 * t) + 2).toNatClampNeg), .ref qo]) (rest := []) ⟨hx, hb, hml, hown, hts⟩ (c_L_giveBack l hl0 D cA cZ cL ad qo f g o H.size (xs (nI (3 * t) + 1).toNatClampNeg) (xs (nI (3 * t) + 2).toNatClampNeg) nR nB hRel.1) (vx_cwSW 4 hts gL_law_L_giveBack rfl rfl rfl (by decide +kernel) ⟨Nat.le_of_ble_eq_true rfl, Nat.le_of_ble_eq_true rfl⟩) ⟨qPreL_blind, lw_pre hTN hS hPl hK hDl⟩ rfl rfl hl.1 rfl (lv_room (Nat.le_of_ble_eq_true rfl)) dL_law_1143 ⟨by show 26 + t + 1 ≤ 1076; omega, by show 1598 + 6 * t + 6 ≤ 9946; omega⟩) hD hS hA (fun z u H locs hu hP hD hS => ?_)
  obtain ⟨⟨uf, ug⟩, uo⟩ := u
  have hP : va_P D vwCl (mW cA cZ am F G ++ lW cA cL ad qo uf ug uo) H := hP
  have hD : va_D (fun q : Nat => s.heap.size ≤ q) (mW cA cZ am F G ++ lW cA cL ad qo uf ug uo) := hD
  refine lv_istore (lv' := [(5, .int z), (0, .ref b), (1, .ref (ad 16)), (2, .ref (am 18)), (3, .ref qo), (4, .int (nI (3 * t)))]) hx hb dL_law_1146 hl (by decide) rfl (fun ls hl => ?_)
  refine lv_aload_n hx hb dL_law_1148 rfl (lv_at hl 3 rfl) ?_
  refine lv_aload_n hx hb dL_law_1149 rfl (lv_at hl 1 rfl) ?_
  refine lv_iload hx hb dL_law_1150 (lv_at hl 5 rfl) ?_
  refine lv_iconst (v := 1) hx hb dL_law_1152 (by decide) ?_
  refine lv_iadd hx hb dL_law_1153 ?_
  refine va_sld hx hb hX hbl hbA hS h_1 dL_law_1154 ?_
  refine lv_aload_n hx hb dL_law_1155 rfl (lv_at hl 1 rfl) ?_
  refine lv_iload hx hb dL_law_1156 (lv_at hl 5 rfl) ?_
  refine lv_iconst (v := 2) hx hb dL_law_1158 (by decide) ?_
  refine lv_iadd hx hb dL_law_1159 ?_
  refine va_sld hx hb hX hbl hbA hS h_2 dL_law_1160 ?_
  have hPm := hP.sub (ws' := mW cA cZ am F G) [0, 1, 2, 3, 4, 5, 6, 7, 8, 9, 10, 11, 12] rfl
  have hDm := hD.sub (ws' := mW cA cZ am F G) [0, 1, 2, 3, 4, 5, 6, 7, 8, 9, 10, 11, 12] (by decide) rfl
  refine qb_calliP (wc := mW cA cZ am F G) (wr := lW cA cL ad qo uf ug uo) [0, 1, 2, 3, 4, 5, 6, 7, 8, 9, 10, 11, 12] [13, 14, 15, 16, 17, 18, 19, 20, 21, 22, 23, 24, 25] rfl rfl (by decide) (by decide) hP (va_runV (As := [.int (xs (nI (3 * t) + 1).toNatClampNeg), .int (xs (nI (3 * t) + 2).toNatClampNeg)]) (rest := []) ⟨hx, hb, hml, hown, hts⟩ (c_X1_giveBack l D cA cZ cL am F G H.size (xs (nI (3 * t) + 1).toNatClampNeg) (xs (nI (3 * t) + 2).toNatClampNeg) nR nB hRel.2.1 hRel.mDi) (cwV 2 hts gL_law_X1_giveBack rfl rfl rfl (by decide +kernel) ⟨Nat.le_of_ble_eq_true rfl, Nat.le_of_ble_eq_true rfl⟩) ⟨qPreW_blind, va_recv hK hPm (ci := 1) (q0 := 0) rfl rfl, qPreW_at hPm hK hDm⟩ rfl rfl hl.1 rfl (lv_room (Nat.le_of_ble_eq_true rfl)) dL_law_1161 ⟨by show 26 + t + 1 + 0 ≤ 1076; omega, by show 1598 + 6 * t + 6 + 0 ≤ 9946; omega⟩) hD hS hA (fun bz v H locs hv hP hD hS => ?_)
  obtain ⟨vf, vg⟩ := v
  have hP := hP.sub (ws' := (mW cA cZ am vf vg ++ lW cA cL ad qo uf ug uo)) [13, 14, 15, 16, 17, 18, 19, 20, 21, 22, 23, 24, 25, 0, 1, 2, 3, 4, 5, 6, 7, 8, 9, 10, 11, 12] rfl
  have hD := hD.sub (ws' := (mW cA cZ am vf vg ++ lW cA cL ad qo uf ug uo)) [13, 14, 15, 16, 17, 18, 19, 20, 21, 22, 23, 24, 25, 0, 1, 2, 3, 4, 5, 6, 7, 8, 9, 10, 11, 12] (by decide) rfl
  refine lv_istore (lv' := [(6, .int bz), (5, .int z), (0, .ref b), (1, .ref (ad 16)), (2, .ref (am 18)), (3, .ref qo), (4, .int (nI (3 * t)))]) hx hb dL_law_1164 hl (by decide) rfl (fun ls hl => ?_)
  obtain ⟨hz, ho, nR1, nB1, hRel1⟩ := rel_giveBack hRel (by omega) hu hv
  refine lv_aload_n hx hb dL_law_1166 rfl (lv_at hl 4 rfl) ?_
  have hPm := hP.sub (ws' := mW cA cZ am vf vg) [0, 1, 2, 3, 4, 5, 6, 7, 8, 9, 10, 11, 12] rfl
  refine vp_callSi (W.runV (As := []) (rest := []) ⟨hx, hb, hml, hown, hts⟩ (c_X1_thrown l D cA cZ cL am vf vg) (cwV 0 hts gL_law_X1_thrown rfl rfl rfl (by decide +kernel) ⟨Nat.le_of_ble_eq_true rfl, Nat.le_of_ble_eq_true rfl⟩) ⟨qPre_blind, va_recv hK hPm (ci := 1) (q0 := 0) rfl rfl, qPre_at hPm hK⟩ rfl rfl hl.1 rfl (lv_room (Nat.le_of_ble_eq_true rfl)) dL_law_1167 ⟨by show 26 + t + 1 + 0 + 0 ≤ 1076; omega, by show 1598 + 6 * t + 6 + 0 + 0 ≤ 9946; omega⟩) (fun z9 hz9 => ?_)
  subst hz9
  refine lv_iload hx hb dL_law_1170 (lv_at hl 1 rfl) ?_
  refine lv_icmp_eq (tgt := 1177) hx hb dL_law_1172 (by decide) (fun c_1 => ?_) (fun c_1 => absurd hz c_1)
  refine lv_iload hx hb dL_law_1177 (lv_at hl 1 rfl) ?_
  refine lv_if_ne (tgt := 1194) hx hb dL_law_1179 (by decide) (fun c_2 => ?_) (fun c_2 => ?_)
  · refine lv_goto (tgt := 1365) hx hb dL_law_1194 (by decide) ?_
    refine W.widen (k := 26 + (t + 1)) (n := 1598 + 6 * (t + 1)) (by omega) (by omega) ?_
    exact K _ _ _ _ _ _ _ _ _ _ hRel1 hP hD hS (lv_sub hl [2, 3, 4, 5, 6] rfl)
  · skip
    refine lv_aload_n hx hb dL_law_1182 rfl (lv_at hl 5 rfl) ?_
    refine lv_iconst (v := 0) hx hb dL_law_1183 (by decide) ?_
    refine va_lald hx hb hK hP 13 2 rfl rfl (by unfold vp_in; decide) dL_law_1184 ?_
    refine lv_iload hx hb dL_law_1185 (lv_at hl 0 rfl) ?_
    refine lv_i2l (v := bz.toInt64) hx hb dL_law_1187 rfl ?_
    refine W.lcmp hx hb dL_law_1188 ?_
    refine lv_if_eq (tgt := 1194) hx hb dL_law_1189 (by decide) (fun c_3 => ?_) (fun c_3 => absurd (lg_same (ho c_2)) c_3)
    refine lv_goto (tgt := 1365) hx hb dL_law_1194 (by decide) ?_
    refine W.widen (k := 26 + (t + 1)) (n := 1598 + 6 * (t + 1)) (by omega) (by omega) ?_
    exact K _ _ _ _ _ _ _ _ _ _ hRel1 hP hD hS (lv_sub hl [2, 3, 4, 5, 6] rfl)
set_option maxHeartbeats 4000000 in
set_option maxRecDepth 100000 in
theorem law_c19 {p : Program} {l : Launch} {e : Env} {s : State} {m : MethodId} {below : List Frame} {meth : Method} {c : Code} {b L : Nat} {xs : Nat → Int32} (hl0 : l.stackTraces = false) (hL : L ≤ 1536) (C0 : lw_At p s m meth c b L xs) {D : va_G} {cA cZ cL : ClassId} (hK : va_K D vwCl (qTy cA cZ cL) s) (hTN : lw_TN s) {ad am : Nat → Nat} {qo : Nat} {t : Nat} (ht : 3 * t + 3 ≤ L) {nR nB : Nat} {f : qFs} {g : qGs} {o : Nat → Int64} {F : qFs} {G : qGs} (hRel : Rel t nR nB f g F G) {H : Heap} {locs : List Loc} (hP : va_P D vwCl (mW cA cZ am F G ++ lW cA cL ad qo f g o) H) (hD : va_D (fun q : Nat => s.heap.size ≤ q) (mW cA cZ am F G ++ lW cA cL ad qo f g o)) (hS : va_S (fun q : Nat => s.heap.size ≤ q) s.heap H locs) (K : ∀ (nR nB : Nat) (f : qFs) (g : qGs) (o : Nat → Int64) (F : qFs) (G : qGs) (H : Heap) (locs : List Loc) (ls : Array Slot), Rel (t + 1) nR nB f g F G → va_P D vwCl (mW cA cZ am F G ++ lW cA cL ad qo f g o) H → va_D (fun q : Nat => s.heap.size ≤ q) (mW cA cZ am F G ++ lW cA cL ad qo f g o) → va_S (fun q : Nat => s.heap.size ≤ q) s.heap H locs → lv_has ls 7 [(0, .ref b), (1, .ref (ad 16)), (2, .ref (am 18)), (3, .ref qo), (4, .int (nI (3 * t)))] → W p l e room_1 s m #[Value.ref b] below meth c H locs (26 + (t + 1)) (1598 + 6 * (t + 1)) (lw_Z below #[Value.ref b] s) (F0 m 1365 ls [])) {ls : Array Slot} (hl : lv_has ls 7 [(0, .ref b), (1, .ref (ad 16)), (2, .ref (am 18)), (3, .ref qo), (4, .int (nI (3 * t)))]) : W p l e room_1 s m #[Value.ref b] below meth c H locs (26 + t) (1598 + 6 * t) (lw_Z below #[Value.ref b] s) (F0 m 1197 ls []) := by
  obtain ⟨hx, hb, hr, hml, hown, hts, hX, hbl, hlocks, hgv⟩ := id C0
  have hts := fun w h => hts w (wsL_law_in w h)
  have hA : ∀ q : Nat, s.heap.size ≤ q → (fun q : Nat => s.heap.size ≤ q) q := fun _ h => h
  have hbA : ¬ (fun q : Nat => s.heap.size ≤ q) b := Nat.not_le.mpr hbl
  have h_1 : vp_in (nI (3 * t) + 1) L := by rw [nI_1]; exact vp_in_nI (by omega) (by omega)
  have h_2 : vp_in (nI (3 * t) + 2) L := by rw [show nI (3 * t) + 2 = nI (3 * t + 2) from nI_add _ 2]; exact vp_in_nI (by omega) (by omega)
  refine lv_aload_n hx hb dL_law_1197 rfl (lv_at hl 1 rfl) ?_
  refine lv_aload_n hx hb dL_law_1198 rfl (lv_at hl 0 rfl) ?_
  refine lv_iload hx hb dL_law_1199 (lv_at hl 4 rfl) ?_
  refine lv_iconst (v := 1) hx hb dL_law_1201 (by decide) ?_
  refine lv_iadd hx hb dL_law_1202 ?_
  refine va_sld hx hb hX hbl hbA hS h_1 dL_law_1203 ?_
  refine lv_aload_n hx hb dL_law_1204 rfl (lv_at hl 3 rfl) ?_
  have hPl := hP.sub (ws' := lW cA cL ad qo f g o) [13, 14, 15, 16, 17, 18, 19, 20, 21, 22, 23, 24, 25] rfl
  have hDl := hD.sub (ws' := lW cA cL ad qo f g o) [13, 14, 15, 16, 17, 18, 19, 20, 21, 22, 23, 24, 25] (by decide) rfl
  refine qb_calliP (wc := lW cA cL ad qo f g o) (wr := mW cA cZ am F G) [13, 14, 15, 16, 17, 18, 19, 20, 21, 22, 23, 24, 25] [0, 1, 2, 3, 4, 5, 6, 7, 8, 9, 10, 11, 12] rfl rfl (by decide) (by decide) hP (vx_runSW (As := [.ref (ad 16), .int (xs (nI (3 * t) + 1).toNatClampNeg), .ref qo]) (rest := []) ⟨hx, hb, hml, hown, hts⟩ (c_L_stateOf l hl0 D cA cZ cL ad qo f g o H.size (xs (nI (3 * t) + 1).toNatClampNeg) nR nB hRel.1) (vx_cwSW 3 hts gL_law_L_stateOf rfl rfl rfl (by decide +kernel) ⟨Nat.le_of_ble_eq_true rfl, Nat.le_of_ble_eq_true rfl⟩) ⟨qPreL_blind, lw_pre hTN hS hPl hK hDl⟩ rfl rfl hl.1 rfl (lv_room (Nat.le_of_ble_eq_true rfl)) dL_law_1205 ⟨by show 26 + t + 1 ≤ 1076; omega, by show 1598 + 6 * t + 6 ≤ 9946; omega⟩) hD hS hA (fun z u H locs hu hP hD hS => ?_)
  obtain ⟨⟨uf, ug⟩, uo⟩ := u
  have hP : va_P D vwCl (mW cA cZ am F G ++ lW cA cL ad qo uf ug uo) H := hP
  have hD : va_D (fun q : Nat => s.heap.size ≤ q) (mW cA cZ am F G ++ lW cA cL ad qo uf ug uo) := hD
  refine lv_istore (lv' := [(5, .int z), (0, .ref b), (1, .ref (ad 16)), (2, .ref (am 18)), (3, .ref qo), (4, .int (nI (3 * t)))]) hx hb dL_law_1208 hl (by decide) rfl (fun ls hl => ?_)
  refine lv_aload_n hx hb dL_law_1210 rfl (lv_at hl 3 rfl) ?_
  refine lv_aload_n hx hb dL_law_1211 rfl (lv_at hl 1 rfl) ?_
  refine lv_iload hx hb dL_law_1212 (lv_at hl 5 rfl) ?_
  refine lv_iconst (v := 1) hx hb dL_law_1214 (by decide) ?_
  refine lv_iadd hx hb dL_law_1215 ?_
  refine va_sld hx hb hX hbl hbA hS h_1 dL_law_1216 ?_
  have hPm := hP.sub (ws' := mW cA cZ am F G) [0, 1, 2, 3, 4, 5, 6, 7, 8, 9, 10, 11, 12] rfl
  have hDm := hD.sub (ws' := mW cA cZ am F G) [0, 1, 2, 3, 4, 5, 6, 7, 8, 9, 10, 11, 12] (by decide) rfl
  refine qb_calliP (wc := mW cA cZ am F G) (wr := lW cA cL ad qo uf ug uo) [0, 1, 2, 3, 4, 5, 6, 7, 8, 9, 10, 11, 12] [13, 14, 15, 16, 17, 18, 19, 20, 21, 22, 23, 24, 25] rfl rfl (by decide) (by decide) hP (va_runV (As := [.int (xs (nI (3 * t) + 1).toNatClampNeg)]) (rest := []) ⟨hx, hb, hml, hown, hts⟩ (c_X1_stateOf l D cA cZ cL am F G H.size (xs (nI (3 * t) + 1).toNatClampNeg) nR nB hRel.2.1) (cwV 1 hts gL_law_X1_stateOf rfl rfl rfl (by decide +kernel) ⟨Nat.le_of_ble_eq_true rfl, Nat.le_of_ble_eq_true rfl⟩) ⟨qPreW_blind, va_recv hK hPm (ci := 1) (q0 := 0) rfl rfl, qPreW_at hPm hK hDm⟩ rfl rfl hl.1 rfl (lv_room (Nat.le_of_ble_eq_true rfl)) dL_law_1217 ⟨by show 26 + t + 1 + 0 ≤ 1076; omega, by show 1598 + 6 * t + 6 + 0 ≤ 9946; omega⟩) hD hS hA (fun bz v H locs hv hP hD hS => ?_)
  obtain ⟨vf, vg⟩ := v
  have hP := hP.sub (ws' := (mW cA cZ am vf vg ++ lW cA cL ad qo uf ug uo)) [13, 14, 15, 16, 17, 18, 19, 20, 21, 22, 23, 24, 25, 0, 1, 2, 3, 4, 5, 6, 7, 8, 9, 10, 11, 12] rfl
  have hD := hD.sub (ws' := (mW cA cZ am vf vg ++ lW cA cL ad qo uf ug uo)) [13, 14, 15, 16, 17, 18, 19, 20, 21, 22, 23, 24, 25, 0, 1, 2, 3, 4, 5, 6, 7, 8, 9, 10, 11, 12] (by decide) rfl
  refine lv_istore (lv' := [(6, .int bz), (5, .int z), (0, .ref b), (1, .ref (ad 16)), (2, .ref (am 18)), (3, .ref qo), (4, .int (nI (3 * t)))]) hx hb dL_law_1220 hl (by decide) rfl (fun ls hl => ?_)
  obtain ⟨hz, ho, nR1, nB1, hRel1⟩ := rel_stateOf hRel (by omega) hu hv
  refine lv_aload_n hx hb dL_law_1222 rfl (lv_at hl 4 rfl) ?_
  have hPm := hP.sub (ws' := mW cA cZ am vf vg) [0, 1, 2, 3, 4, 5, 6, 7, 8, 9, 10, 11, 12] rfl
  refine vp_callSi (W.runV (As := []) (rest := []) ⟨hx, hb, hml, hown, hts⟩ (c_X1_thrown l D cA cZ cL am vf vg) (cwV 0 hts gL_law_X1_thrown rfl rfl rfl (by decide +kernel) ⟨Nat.le_of_ble_eq_true rfl, Nat.le_of_ble_eq_true rfl⟩) ⟨qPre_blind, va_recv hK hPm (ci := 1) (q0 := 0) rfl rfl, qPre_at hPm hK⟩ rfl rfl hl.1 rfl (lv_room (Nat.le_of_ble_eq_true rfl)) dL_law_1223 ⟨by show 26 + t + 1 + 0 + 0 ≤ 1076; omega, by show 1598 + 6 * t + 6 + 0 + 0 ≤ 9946; omega⟩) (fun z9 hz9 => ?_)
  subst hz9
  refine lv_iload hx hb dL_law_1226 (lv_at hl 1 rfl) ?_
  refine lv_icmp_eq (tgt := 1233) hx hb dL_law_1228 (by decide) (fun c_1 => ?_) (fun c_1 => absurd hz c_1)
  refine lv_iload hx hb dL_law_1233 (lv_at hl 1 rfl) ?_
  refine lv_if_ne (tgt := 1250) hx hb dL_law_1235 (by decide) (fun c_2 => ?_) (fun c_2 => ?_)
  · refine lv_goto (tgt := 1365) hx hb dL_law_1250 (by decide) ?_
    refine W.widen (k := 26 + (t + 1)) (n := 1598 + 6 * (t + 1)) (by omega) (by omega) ?_
    exact K _ _ _ _ _ _ _ _ _ _ hRel1 hP hD hS (lv_sub hl [2, 3, 4, 5, 6] rfl)
  · skip
    refine lv_aload_n hx hb dL_law_1238 rfl (lv_at hl 5 rfl) ?_
    refine lv_iconst (v := 0) hx hb dL_law_1239 (by decide) ?_
    refine va_lald hx hb hK hP 13 2 rfl rfl (by unfold vp_in; decide) dL_law_1240 ?_
    refine lv_iload hx hb dL_law_1241 (lv_at hl 0 rfl) ?_
    refine lv_i2l (v := bz.toInt64) hx hb dL_law_1243 rfl ?_
    refine W.lcmp hx hb dL_law_1244 ?_
    refine lv_if_eq (tgt := 1250) hx hb dL_law_1245 (by decide) (fun c_3 => ?_) (fun c_3 => absurd (lg_same (ho c_2)) c_3)
    refine lv_goto (tgt := 1365) hx hb dL_law_1250 (by decide) ?_
    refine W.widen (k := 26 + (t + 1)) (n := 1598 + 6 * (t + 1)) (by omega) (by omega) ?_
    exact K _ _ _ _ _ _ _ _ _ _ hRel1 hP hD hS (lv_sub hl [2, 3, 4, 5, 6] rfl)
set_option maxHeartbeats 4000000 in
set_option maxRecDepth 100000 in
theorem law_c20 {p : Program} {l : Launch} {e : Env} {s : State} {m : MethodId} {below : List Frame} {meth : Method} {c : Code} {b L : Nat} {xs : Nat → Int32} (hl0 : l.stackTraces = false) (hL : L ≤ 1536) (C0 : lw_At p s m meth c b L xs) {D : va_G} {cA cZ cL : ClassId} (hK : va_K D vwCl (qTy cA cZ cL) s) (hTN : lw_TN s) {ad am : Nat → Nat} {qo : Nat} {t : Nat} (ht : 3 * t + 3 ≤ L) {nR nB : Nat} {f : qFs} {g : qGs} {o : Nat → Int64} {F : qFs} {G : qGs} (hRel : Rel t nR nB f g F G) {H : Heap} {locs : List Loc} (hP : va_P D vwCl (mW cA cZ am F G ++ lW cA cL ad qo f g o) H) (hD : va_D (fun q : Nat => s.heap.size ≤ q) (mW cA cZ am F G ++ lW cA cL ad qo f g o)) (hS : va_S (fun q : Nat => s.heap.size ≤ q) s.heap H locs) (K : ∀ (nR nB : Nat) (f : qFs) (g : qGs) (o : Nat → Int64) (F : qFs) (G : qGs) (H : Heap) (locs : List Loc) (ls : Array Slot), Rel (t + 1) nR nB f g F G → va_P D vwCl (mW cA cZ am F G ++ lW cA cL ad qo f g o) H → va_D (fun q : Nat => s.heap.size ≤ q) (mW cA cZ am F G ++ lW cA cL ad qo f g o) → va_S (fun q : Nat => s.heap.size ≤ q) s.heap H locs → lv_has ls 7 [(0, .ref b), (1, .ref (ad 16)), (2, .ref (am 18)), (3, .ref qo), (4, .int (nI (3 * t)))] → W p l e room_1 s m #[Value.ref b] below meth c H locs (26 + (t + 1)) (1598 + 6 * (t + 1)) (lw_Z below #[Value.ref b] s) (F0 m 1365 ls [])) {ls : Array Slot} (hl : lv_has ls 7 [(0, .ref b), (1, .ref (ad 16)), (2, .ref (am 18)), (3, .ref qo), (4, .int (nI (3 * t)))]) : W p l e room_1 s m #[Value.ref b] below meth c H locs (26 + t) (1598 + 6 * t) (lw_Z below #[Value.ref b] s) (F0 m 1253 ls []) := by
  obtain ⟨hx, hb, hr, hml, hown, hts, hX, hbl, hlocks, hgv⟩ := id C0
  have hts := fun w h => hts w (wsL_law_in w h)
  have hA : ∀ q : Nat, s.heap.size ≤ q → (fun q : Nat => s.heap.size ≤ q) q := fun _ h => h
  have hbA : ¬ (fun q : Nat => s.heap.size ≤ q) b := Nat.not_le.mpr hbl
  have h_1 : vp_in (nI (3 * t) + 1) L := by rw [nI_1]; exact vp_in_nI (by omega) (by omega)
  have h_2 : vp_in (nI (3 * t) + 2) L := by rw [show nI (3 * t) + 2 = nI (3 * t + 2) from nI_add _ 2]; exact vp_in_nI (by omega) (by omega)
  refine lv_aload_n hx hb dL_law_1253 rfl (lv_at hl 1 rfl) ?_
  refine lv_aload_n hx hb dL_law_1254 rfl (lv_at hl 0 rfl) ?_
  refine lv_iload hx hb dL_law_1255 (lv_at hl 4 rfl) ?_
  refine lv_iconst (v := 1) hx hb dL_law_1257 (by decide) ?_
  refine lv_iadd hx hb dL_law_1258 ?_
  refine va_sld hx hb hX hbl hbA hS h_1 dL_law_1259 ?_
  refine lv_aload_n hx hb dL_law_1260 rfl (lv_at hl 0 rfl) ?_
  refine lv_iload hx hb dL_law_1261 (lv_at hl 4 rfl) ?_
  refine lv_iconst (v := 2) hx hb dL_law_1263 (by decide) ?_
  refine lv_iadd hx hb dL_law_1264 ?_
  refine va_sld hx hb hX hbl hbA hS h_2 dL_law_1265 ?_
  refine lv_aload_n hx hb dL_law_1266 rfl (lv_at hl 3 rfl) ?_
  have hPl := hP.sub (ws' := lW cA cL ad qo f g o) [13, 14, 15, 16, 17, 18, 19, 20, 21, 22, 23, 24, 25] rfl
  have hDl := hD.sub (ws' := lW cA cL ad qo f g o) [13, 14, 15, 16, 17, 18, 19, 20, 21, 22, 23, 24, 25] (by decide) rfl
  refine qb_calliP (wc := lW cA cL ad qo f g o) (wr := mW cA cZ am F G) [13, 14, 15, 16, 17, 18, 19, 20, 21, 22, 23, 24, 25] [0, 1, 2, 3, 4, 5, 6, 7, 8, 9, 10, 11, 12] rfl rfl (by decide) (by decide) hP (vx_runSW (As := [.ref (ad 16), .int (xs (nI (3 * t) + 1).toNatClampNeg), .int (xs (nI (3 * t) + 2).toNatClampNeg), .ref qo]) (rest := []) ⟨hx, hb, hml, hown, hts⟩ (c_L_counted l hl0 D cA cZ cL ad qo f g o H.size (xs (nI (3 * t) + 1).toNatClampNeg) (xs (nI (3 * t) + 2).toNatClampNeg) nR nB hRel.1) (vx_cwSW 4 hts gL_law_L_counted rfl rfl rfl (by decide +kernel) ⟨Nat.le_of_ble_eq_true rfl, Nat.le_of_ble_eq_true rfl⟩) ⟨qPreL_blind, lw_pre hTN hS hPl hK hDl⟩ rfl rfl hl.1 rfl (lv_room (Nat.le_of_ble_eq_true rfl)) dL_law_1267 ⟨by show 26 + t + 1 ≤ 1076; omega, by show 1598 + 6 * t + 6 ≤ 9946; omega⟩) hD hS hA (fun z u H locs hu hP hD hS => ?_)
  obtain ⟨⟨uf, ug⟩, uo⟩ := u
  have hP : va_P D vwCl (mW cA cZ am F G ++ lW cA cL ad qo uf ug uo) H := hP
  have hD : va_D (fun q : Nat => s.heap.size ≤ q) (mW cA cZ am F G ++ lW cA cL ad qo uf ug uo) := hD
  refine lv_istore (lv' := [(5, .int z), (0, .ref b), (1, .ref (ad 16)), (2, .ref (am 18)), (3, .ref qo), (4, .int (nI (3 * t)))]) hx hb dL_law_1270 hl (by decide) rfl (fun ls hl => ?_)
  refine lv_aload_n hx hb dL_law_1272 rfl (lv_at hl 3 rfl) ?_
  refine lv_aload_n hx hb dL_law_1273 rfl (lv_at hl 1 rfl) ?_
  refine lv_iload hx hb dL_law_1274 (lv_at hl 5 rfl) ?_
  refine lv_iconst (v := 1) hx hb dL_law_1276 (by decide) ?_
  refine lv_iadd hx hb dL_law_1277 ?_
  refine va_sld hx hb hX hbl hbA hS h_1 dL_law_1278 ?_
  refine lv_aload_n hx hb dL_law_1279 rfl (lv_at hl 1 rfl) ?_
  refine lv_iload hx hb dL_law_1280 (lv_at hl 5 rfl) ?_
  refine lv_iconst (v := 2) hx hb dL_law_1282 (by decide) ?_
  refine lv_iadd hx hb dL_law_1283 ?_
  refine va_sld hx hb hX hbl hbA hS h_2 dL_law_1284 ?_
  have hPm := hP.sub (ws' := mW cA cZ am F G) [0, 1, 2, 3, 4, 5, 6, 7, 8, 9, 10, 11, 12] rfl
  have hDm := hD.sub (ws' := mW cA cZ am F G) [0, 1, 2, 3, 4, 5, 6, 7, 8, 9, 10, 11, 12] (by decide) rfl
  refine qb_calliP (wc := mW cA cZ am F G) (wr := lW cA cL ad qo uf ug uo) [0, 1, 2, 3, 4, 5, 6, 7, 8, 9, 10, 11, 12] [13, 14, 15, 16, 17, 18, 19, 20, 21, 22, 23, 24, 25] rfl rfl (by decide) (by decide) hP (va_runV (As := [.int (xs (nI (3 * t) + 1).toNatClampNeg), .int (xs (nI (3 * t) + 2).toNatClampNeg)]) (rest := []) ⟨hx, hb, hml, hown, hts⟩ (c_X1_counted l D cA cZ cL am F G H.size (xs (nI (3 * t) + 1).toNatClampNeg) (xs (nI (3 * t) + 2).toNatClampNeg)) (cwV 2 hts gL_law_X1_counted rfl rfl rfl (by decide +kernel) ⟨Nat.le_of_ble_eq_true rfl, Nat.le_of_ble_eq_true rfl⟩) ⟨qPreW_blind, va_recv hK hPm (ci := 1) (q0 := 0) rfl rfl, qPreW_at hPm hK hDm⟩ rfl rfl hl.1 rfl (lv_room (Nat.le_of_ble_eq_true rfl)) dL_law_1285 ⟨by show 26 + t + 1 + 0 ≤ 1076; omega, by show 1598 + 6 * t + 6 + 0 ≤ 9946; omega⟩) hD hS hA (fun bz v H locs hv hP hD hS => ?_)
  obtain ⟨vf, vg⟩ := v
  have hP := hP.sub (ws' := (mW cA cZ am vf vg ++ lW cA cL ad qo uf ug uo)) [13, 14, 15, 16, 17, 18, 19, 20, 21, 22, 23, 24, 25, 0, 1, 2, 3, 4, 5, 6, 7, 8, 9, 10, 11, 12] rfl
  have hD := hD.sub (ws' := (mW cA cZ am vf vg ++ lW cA cL ad qo uf ug uo)) [13, 14, 15, 16, 17, 18, 19, 20, 21, 22, 23, 24, 25, 0, 1, 2, 3, 4, 5, 6, 7, 8, 9, 10, 11, 12] (by decide) rfl
  refine lv_istore (lv' := [(6, .int bz), (5, .int z), (0, .ref b), (1, .ref (ad 16)), (2, .ref (am 18)), (3, .ref qo), (4, .int (nI (3 * t)))]) hx hb dL_law_1288 hl (by decide) rfl (fun ls hl => ?_)
  obtain ⟨hz, ho, nR1, nB1, hRel1⟩ := rel_counted hRel (by omega) hu hv
  refine lv_aload_n hx hb dL_law_1290 rfl (lv_at hl 4 rfl) ?_
  have hPm := hP.sub (ws' := mW cA cZ am vf vg) [0, 1, 2, 3, 4, 5, 6, 7, 8, 9, 10, 11, 12] rfl
  refine vp_callSi (W.runV (As := []) (rest := []) ⟨hx, hb, hml, hown, hts⟩ (c_X1_thrown l D cA cZ cL am vf vg) (cwV 0 hts gL_law_X1_thrown rfl rfl rfl (by decide +kernel) ⟨Nat.le_of_ble_eq_true rfl, Nat.le_of_ble_eq_true rfl⟩) ⟨qPre_blind, va_recv hK hPm (ci := 1) (q0 := 0) rfl rfl, qPre_at hPm hK⟩ rfl rfl hl.1 rfl (lv_room (Nat.le_of_ble_eq_true rfl)) dL_law_1291 ⟨by show 26 + t + 1 + 0 + 0 ≤ 1076; omega, by show 1598 + 6 * t + 6 + 0 + 0 ≤ 9946; omega⟩) (fun z9 hz9 => ?_)
  subst hz9
  refine lv_iload hx hb dL_law_1294 (lv_at hl 1 rfl) ?_
  refine lv_icmp_eq (tgt := 1301) hx hb dL_law_1296 (by decide) (fun c_1 => ?_) (fun c_1 => absurd hz c_1)
  refine lv_iload hx hb dL_law_1301 (lv_at hl 1 rfl) ?_
  refine lv_if_ne (tgt := 1318) hx hb dL_law_1303 (by decide) (fun c_2 => ?_) (fun c_2 => ?_)
  · refine lv_goto (tgt := 1365) hx hb dL_law_1318 (by decide) ?_
    refine W.widen (k := 26 + (t + 1)) (n := 1598 + 6 * (t + 1)) (by omega) (by omega) ?_
    exact K _ _ _ _ _ _ _ _ _ _ hRel1 hP hD hS (lv_sub hl [2, 3, 4, 5, 6] rfl)
  · skip
    refine lv_aload_n hx hb dL_law_1306 rfl (lv_at hl 5 rfl) ?_
    refine lv_iconst (v := 0) hx hb dL_law_1307 (by decide) ?_
    refine va_lald hx hb hK hP 13 2 rfl rfl (by unfold vp_in; decide) dL_law_1308 ?_
    refine lv_iload hx hb dL_law_1309 (lv_at hl 0 rfl) ?_
    refine lv_i2l (v := bz.toInt64) hx hb dL_law_1311 rfl ?_
    refine W.lcmp hx hb dL_law_1312 ?_
    refine lv_if_eq (tgt := 1318) hx hb dL_law_1313 (by decide) (fun c_3 => ?_) (fun c_3 => absurd (lg_same (ho c_2)) c_3)
    refine lv_goto (tgt := 1365) hx hb dL_law_1318 (by decide) ?_
    refine W.widen (k := 26 + (t + 1)) (n := 1598 + 6 * (t + 1)) (by omega) (by omega) ?_
    exact K _ _ _ _ _ _ _ _ _ _ hRel1 hP hD hS (lv_sub hl [2, 3, 4, 5, 6] rfl)
set_option maxHeartbeats 4000000 in
set_option maxRecDepth 100000 in
theorem law_c21 {p : Program} {l : Launch} {e : Env} {s : State} {m : MethodId} {below : List Frame} {meth : Method} {c : Code} {b L : Nat} {xs : Nat → Int32} (hl0 : l.stackTraces = false) (hL : L ≤ 1536) (C0 : lw_At p s m meth c b L xs) {D : va_G} {cA cZ cL : ClassId} (hK : va_K D vwCl (qTy cA cZ cL) s) (hTN : lw_TN s) {ad am : Nat → Nat} {qo : Nat} {t : Nat} (ht : 3 * t + 3 ≤ L) {nR nB : Nat} {f : qFs} {g : qGs} {o : Nat → Int64} {F : qFs} {G : qGs} (hRel : Rel t nR nB f g F G) {H : Heap} {locs : List Loc} (hP : va_P D vwCl (mW cA cZ am F G ++ lW cA cL ad qo f g o) H) (hD : va_D (fun q : Nat => s.heap.size ≤ q) (mW cA cZ am F G ++ lW cA cL ad qo f g o)) (hS : va_S (fun q : Nat => s.heap.size ≤ q) s.heap H locs) (K : ∀ (nR nB : Nat) (f : qFs) (g : qGs) (o : Nat → Int64) (F : qFs) (G : qGs) (H : Heap) (locs : List Loc) (ls : Array Slot), Rel (t + 1) nR nB f g F G → va_P D vwCl (mW cA cZ am F G ++ lW cA cL ad qo f g o) H → va_D (fun q : Nat => s.heap.size ≤ q) (mW cA cZ am F G ++ lW cA cL ad qo f g o) → va_S (fun q : Nat => s.heap.size ≤ q) s.heap H locs → lv_has ls 7 [(0, .ref b), (1, .ref (ad 16)), (2, .ref (am 18)), (3, .ref qo), (4, .int (nI (3 * t)))] → W p l e room_1 s m #[Value.ref b] below meth c H locs (26 + (t + 1)) (1598 + 6 * (t + 1)) (lw_Z below #[Value.ref b] s) (F0 m 1365 ls [])) {ls : Array Slot} (hl : lv_has ls 7 [(0, .ref b), (1, .ref (ad 16)), (2, .ref (am 18)), (3, .ref qo), (4, .int (nI (3 * t)))]) : W p l e room_1 s m #[Value.ref b] below meth c H locs (26 + t) (1598 + 6 * t) (lw_Z below #[Value.ref b] s) (F0 m 1321 ls []) := by
  obtain ⟨hx, hb, hr, hml, hown, hts, hX, hbl, hlocks, hgv⟩ := id C0
  have hts := fun w h => hts w (wsL_law_in w h)
  have hA : ∀ q : Nat, s.heap.size ≤ q → (fun q : Nat => s.heap.size ≤ q) q := fun _ h => h
  have hbA : ¬ (fun q : Nat => s.heap.size ≤ q) b := Nat.not_le.mpr hbl
  have h_1 : vp_in (nI (3 * t) + 1) L := by rw [nI_1]; exact vp_in_nI (by omega) (by omega)
  have h_2 : vp_in (nI (3 * t) + 2) L := by rw [show nI (3 * t) + 2 = nI (3 * t + 2) from nI_add _ 2]; exact vp_in_nI (by omega) (by omega)
  refine lv_aload_n hx hb dL_law_1321 rfl (lv_at hl 1 rfl) ?_
  refine lv_aload_n hx hb dL_law_1322 rfl (lv_at hl 3 rfl) ?_
  have hPl := hP.sub (ws' := lW cA cL ad qo f g o) [13, 14, 15, 16, 17, 18, 19, 20, 21, 22, 23, 24, 25] rfl
  have hDl := hD.sub (ws' := lW cA cL ad qo f g o) [13, 14, 15, 16, 17, 18, 19, 20, 21, 22, 23, 24, 25] (by decide) rfl
  refine qb_calliP (wc := lW cA cL ad qo f g o) (wr := mW cA cZ am F G) [13, 14, 15, 16, 17, 18, 19, 20, 21, 22, 23, 24, 25] [0, 1, 2, 3, 4, 5, 6, 7, 8, 9, 10, 11, 12] rfl rfl (by decide) (by decide) hP (vx_runSW (As := [.ref (ad 16), .ref qo]) (rest := []) ⟨hx, hb, hml, hown, hts⟩ (c_L_close l hl0 D cA cZ cL ad qo f g o H.size nR nB hRel.1) (vx_cwSW 2 hts gL_law_L_close rfl rfl rfl (by decide +kernel) ⟨Nat.le_of_ble_eq_true rfl, Nat.le_of_ble_eq_true rfl⟩) ⟨qPreL_blind, lw_pre hTN hS hPl hK hDl⟩ rfl rfl hl.1 rfl (lv_room (Nat.le_of_ble_eq_true rfl)) dL_law_1323 ⟨by show 26 + t + 1 ≤ 1076; omega, by show 1598 + 6 * t + 6 ≤ 9946; omega⟩) hD hS hA (fun z u H locs hu hP hD hS => ?_)
  obtain ⟨⟨uf, ug⟩, uo⟩ := u
  have hP : va_P D vwCl (mW cA cZ am F G ++ lW cA cL ad qo uf ug uo) H := hP
  have hD : va_D (fun q : Nat => s.heap.size ≤ q) (mW cA cZ am F G ++ lW cA cL ad qo uf ug uo) := hD
  refine lv_istore (lv' := [(5, .int z), (0, .ref b), (1, .ref (ad 16)), (2, .ref (am 18)), (3, .ref qo), (4, .int (nI (3 * t)))]) hx hb dL_law_1326 hl (by decide) rfl (fun ls hl => ?_)
  refine lv_aload_n hx hb dL_law_1328 rfl (lv_at hl 3 rfl) ?_
  have hPm := hP.sub (ws' := mW cA cZ am F G) [0, 1, 2, 3, 4, 5, 6, 7, 8, 9, 10, 11, 12] rfl
  have hDm := hD.sub (ws' := mW cA cZ am F G) [0, 1, 2, 3, 4, 5, 6, 7, 8, 9, 10, 11, 12] (by decide) rfl
  refine qb_calliP (wc := mW cA cZ am F G) (wr := lW cA cL ad qo uf ug uo) [0, 1, 2, 3, 4, 5, 6, 7, 8, 9, 10, 11, 12] [13, 14, 15, 16, 17, 18, 19, 20, 21, 22, 23, 24, 25] rfl rfl (by decide) (by decide) hP (va_runV (As := []) (rest := []) ⟨hx, hb, hml, hown, hts⟩ (c_X1_close l D cA cZ cL am F G H.size nR nB hRel.2.1) (cwV 0 hts gL_law_X1_close rfl rfl rfl (by decide +kernel) ⟨Nat.le_of_ble_eq_true rfl, Nat.le_of_ble_eq_true rfl⟩) ⟨qPreW_blind, va_recv hK hPm (ci := 1) (q0 := 0) rfl rfl, qPreW_at hPm hK hDm⟩ rfl rfl hl.1 rfl (lv_room (Nat.le_of_ble_eq_true rfl)) dL_law_1329 ⟨by show 26 + t + 1 + 0 ≤ 1076; omega, by show 1598 + 6 * t + 6 + 0 ≤ 9946; omega⟩) hD hS hA (fun bz v H locs hv hP hD hS => ?_)
  obtain ⟨vf, vg⟩ := v
  have hP := hP.sub (ws' := (mW cA cZ am vf vg ++ lW cA cL ad qo uf ug uo)) [13, 14, 15, 16, 17, 18, 19, 20, 21, 22, 23, 24, 25, 0, 1, 2, 3, 4, 5, 6, 7, 8, 9, 10, 11, 12] rfl
  have hD := hD.sub (ws' := (mW cA cZ am vf vg ++ lW cA cL ad qo uf ug uo)) [13, 14, 15, 16, 17, 18, 19, 20, 21, 22, 23, 24, 25, 0, 1, 2, 3, 4, 5, 6, 7, 8, 9, 10, 11, 12] (by decide) rfl
  refine lv_istore (lv' := [(6, .int bz), (5, .int z), (0, .ref b), (1, .ref (ad 16)), (2, .ref (am 18)), (3, .ref qo), (4, .int (nI (3 * t)))]) hx hb dL_law_1332 hl (by decide) rfl (fun ls hl => ?_)
  obtain ⟨hz, ho, nR1, nB1, hRel1⟩ := rel_close hRel (by omega) hu hv
  refine lv_aload_n hx hb dL_law_1334 rfl (lv_at hl 4 rfl) ?_
  have hPm := hP.sub (ws' := mW cA cZ am vf vg) [0, 1, 2, 3, 4, 5, 6, 7, 8, 9, 10, 11, 12] rfl
  refine vp_callSi (W.runV (As := []) (rest := []) ⟨hx, hb, hml, hown, hts⟩ (c_X1_thrown l D cA cZ cL am vf vg) (cwV 0 hts gL_law_X1_thrown rfl rfl rfl (by decide +kernel) ⟨Nat.le_of_ble_eq_true rfl, Nat.le_of_ble_eq_true rfl⟩) ⟨qPre_blind, va_recv hK hPm (ci := 1) (q0 := 0) rfl rfl, qPre_at hPm hK⟩ rfl rfl hl.1 rfl (lv_room (Nat.le_of_ble_eq_true rfl)) dL_law_1335 ⟨by show 26 + t + 1 + 0 + 0 ≤ 1076; omega, by show 1598 + 6 * t + 6 + 0 + 0 ≤ 9946; omega⟩) (fun z9 hz9 => ?_)
  subst hz9
  refine lv_iload hx hb dL_law_1338 (lv_at hl 1 rfl) ?_
  refine lv_icmp_eq (tgt := 1345) hx hb dL_law_1340 (by decide) (fun c_1 => ?_) (fun c_1 => absurd hz c_1)
  refine lv_iload hx hb dL_law_1345 (lv_at hl 1 rfl) ?_
  refine lv_if_ne (tgt := 1362) hx hb dL_law_1347 (by decide) (fun c_2 => ?_) (fun c_2 => ?_)
  · refine lv_goto (tgt := 1365) hx hb dL_law_1362 (by decide) ?_
    refine W.widen (k := 26 + (t + 1)) (n := 1598 + 6 * (t + 1)) (by omega) (by omega) ?_
    exact K _ _ _ _ _ _ _ _ _ _ hRel1 hP hD hS (lv_sub hl [2, 3, 4, 5, 6] rfl)
  · skip
    refine lv_aload_n hx hb dL_law_1350 rfl (lv_at hl 5 rfl) ?_
    refine lv_iconst (v := 0) hx hb dL_law_1351 (by decide) ?_
    refine va_lald hx hb hK hP 13 2 rfl rfl (by unfold vp_in; decide) dL_law_1352 ?_
    refine lv_iload hx hb dL_law_1353 (lv_at hl 0 rfl) ?_
    refine lv_i2l (v := bz.toInt64) hx hb dL_law_1355 rfl ?_
    refine W.lcmp hx hb dL_law_1356 ?_
    refine lv_if_eq (tgt := 1362) hx hb dL_law_1357 (by decide) (fun c_3 => ?_) (fun c_3 => absurd (lg_same (ho c_2)) c_3)
    refine lv_goto (tgt := 1365) hx hb dL_law_1362 (by decide) ?_
    refine W.widen (k := 26 + (t + 1)) (n := 1598 + 6 * (t + 1)) (by omega) (by omega) ?_
    exact K _ _ _ _ _ _ _ _ _ _ hRel1 hP hD hS (lv_sub hl [2, 3, 4, 5, 6] rfl)
set_option maxHeartbeats 4000000 in
set_option maxRecDepth 100000 in
theorem law_cd {p : Program} {l : Launch} {e : Env} {s : State} {m : MethodId} {below : List Frame} {meth : Method} {c : Code} {b L : Nat} {xs : Nat → Int32} (hl0 : l.stackTraces = false) (hL : L ≤ 1536) (C0 : lw_At p s m meth c b L xs) {D : va_G} {cA cZ cL : ClassId} (hK : va_K D vwCl (qTy cA cZ cL) s) (hTN : lw_TN s) {ad am : Nat → Nat} {qo : Nat} {t : Nat} (ht : 3 * t + 3 ≤ L) {nR nB : Nat} {f : qFs} {g : qGs} {o : Nat → Int64} {F : qFs} {G : qGs} (hRel : Rel t nR nB f g F G) {H : Heap} {locs : List Loc} (hP : va_P D vwCl (mW cA cZ am F G ++ lW cA cL ad qo f g o) H) (hD : va_D (fun q : Nat => s.heap.size ≤ q) (mW cA cZ am F G ++ lW cA cL ad qo f g o)) (hS : va_S (fun q : Nat => s.heap.size ≤ q) s.heap H locs) (K : ∀ (nR nB : Nat) (f : qFs) (g : qGs) (o : Nat → Int64) (F : qFs) (G : qGs) (H : Heap) (locs : List Loc) (ls : Array Slot), Rel (t + 1) nR nB f g F G → va_P D vwCl (mW cA cZ am F G ++ lW cA cL ad qo f g o) H → va_D (fun q : Nat => s.heap.size ≤ q) (mW cA cZ am F G ++ lW cA cL ad qo f g o) → va_S (fun q : Nat => s.heap.size ≤ q) s.heap H locs → lv_has ls 7 [(0, .ref b), (1, .ref (ad 16)), (2, .ref (am 18)), (3, .ref qo), (4, .int (nI (3 * t)))] → W p l e room_1 s m #[Value.ref b] below meth c H locs (26 + (t + 1)) (1598 + 6 * (t + 1)) (lw_Z below #[Value.ref b] s) (F0 m 1365 ls [])) {ls : Array Slot} (hl : lv_has ls 7 [(0, .ref b), (1, .ref (ad 16)), (2, .ref (am 18)), (3, .ref qo), (4, .int (nI (3 * t)))]) : W p l e room_1 s m #[Value.ref b] below meth c H locs (26 + t) (1598 + 6 * t) (lw_Z below #[Value.ref b] s) (F0 m 1365 ls []) := by
  refine W.widen (k := 26 + (t + 1)) (n := 1598 + 6 * (t + 1)) (by omega) (by omega) ?_
  exact K _ _ _ _ _ _ _ _ _ _ (Rel_next hRel) hP hD hS hl
