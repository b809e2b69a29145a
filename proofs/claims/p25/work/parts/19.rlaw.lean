def R_law : String := "ShardBallotsLaw"
def lw_P (b : Addr) (xs : List Int32) (args : Array Value) (s : State) : Prop := args = #[.ref b] ∧ s.IntsAt b xs ∧ xs.length ≤ 260 ∧ (Jvm.Cond.and given_1 narrow_1).before args s = true
def lw_Q (_ : Array Value) (s : State) (o : Outcome) (t : State) : Prop := o = .returned (some (.int 1)) ∧ Framed s o t [] 216 2599
def lw_Z (below : List Frame) (a : Array Value) (s : State) : State → Prop := fun t => ∃ o, t.status = .running ∧ Ended t below o ∧ lw_Q a s o t
/-- what holds at the law's entry: the machine, the code, the tables' words (any of lw_tbl by 'hts w (by decide +kernel)'), the script of L ints xs at the cell b, what the Statement gives of the start (any of its parts by flat_of_before) -/
def lw_At (p : Program) (s : State) (m : MethodId) (meth : Method) (c : Code) (b L : Nat) (xs : Nat → Int32) : Prop :=
  p.tables.exec = Jvm.exec ∧ c.code = code ∧ meth.sig.returnType = ret ∧ c.maxLocals = 13 ∧ s.vm.findClass R_law = some m.cls ∧ (∀ w ∈ lw_tbl, w.before #[Value.ref b] s = true) ∧ va_X b L xs s s.heap ∧ b < s.heap.size ∧ meth.locks = false ∧ (Jvm.Cond.and given_1 narrow_1).before #[Value.ref b] s = true
theorem lw_pre_spec {args : Array Value} {s : State} (h : (Jvm.Cond.and given_1 narrow_1).before args s = true) (hr : rest_1_c.before args s = true) : ∃ (b : Addr) (xs : List Int32), lw_P b xs args s := by
  have hs := flat_of_before _ h
  have hq := flat_of_before _ hr
  have hc : (Cond.count 1).before args s = true := hs _ (by decide +kernel)
  have harr : (Cond.arrayOf (.arg 0) .int).before args s = true := hs _ (by decide +kernel)
  have hle : (Cond.le (.length (.arg 0)) (.int 260)).before args s = true := hs _ (by decide +kernel)
  have hlen : (Cond.isInt (.length (.arg 0))).before args s = true := hq _ (by decide +kernel)
  have hall : (Cond.all (.arg 0) (.isInt (.elem (.arg 0) (.index 0)))).before args s = true := hq _ (by decide +kernel)
  obtain ⟨b, xs, hb, hx⟩ := State.ints_of_pre rfl harr hlen hall
  have hsm : xs.length < 2 ^ 31 := hx.choose_spec.2.2.2
  have hev : (Term.length (.arg 0)).eval args s none [] s = some (.int xs.length.toInt32) := hx.length_eval hb
  have hv := Cond.le_ints hev (show (Term.int 260).eval args s none [] s = some (.int 260) from rfl)
  have hd : xs.length.toInt32 ≤ 260 := by
    simpa [Cond.before, Cond.holds, hv] using hle
  have hN : xs.length ≤ 260 := (Int32.ofNat_le_ofNat hsm (by decide)).mp (show Int32.ofNat xs.length ≤ Int32.ofNat 260 from hd)
  exact ⟨b, xs, Cond.one_arg hc (show args[0]? = some (.ref b) from hb), hx, hN, h⟩
set_option maxRecDepth 20000 in
theorem tn_sR : ∀ q ∈ qStr, Cond.stringRef RX0 q.1 q.2 ∈ lw_tbl := by decide +kernel
set_option maxRecDepth 20000 in
theorem tn_sE : ∀ q ∈ qStr, Cond.exactly (Term.string RX0 q.1) "java/lang/String" ∈ flatC (Jvm.Cond.and given_1 narrow_1) := by decide +kernel
set_option maxRecDepth 20000 in
theorem tn_ca : ∀ E ∈ qEx, Cond.castable E E ∈ lw_tbl := by decide +kernel
set_option maxRecDepth 20000 in
theorem tn_de : ∀ Y ∈ qDe, Cond.declares (Bundle.initS Y) ∈ lw_tbl := by decide +kernel
set_option maxRecDepth 20000 in
theorem tn_is : ∀ w ∈ [Cond.isRef (.static Bundle.tN "UNASSIGNED_STACK" Bundle.steD), Cond.isRef (.static Bundle.tN "SUPPRESSED_SENTINEL" Bundle.listD), Cond.not (.castable eIA eIO), Cond.not (.castable eIS eIO), Cond.not (.castable eIS eIA)], w ∈ flatC (Jvm.Cond.and given_1 narrow_1) := by decide +kernel
set_option maxRecDepth 20000 in
theorem tn_la : ∀ w ∈ [Cond.laysStatic Bundle.tN "UNASSIGNED_STACK" Bundle.steD, Cond.laysStatic Bundle.tN "SUPPRESSED_SENTINEL" Bundle.listD, Cond.initialized Bundle.tN, Cond.arrayClass .int, Cond.instantiable RX0 16, Cond.classLink R_law 9 RX0, Cond.initialized RX0, Cond.methodLink R_law 157 yX0_init, Cond.instanceMethod yX0_init], w ∈ lw_tbl := by decide +kernel
theorem tn_of {s : State} {b : Nat} (hts : ∀ w ∈ lw_tbl, w.before #[Value.ref b] s = true) (hgv : (Jvm.Cond.and given_1 narrow_1).before #[Value.ref b] s = true) : qTZ s.heap.size s := by
  have hs := flat_of_before _ hgv
  have hI := fun w h => hs w (tn_is w h)
  have hL := fun w h => hts w (tn_la w h)
  refine ⟨vx_Zqof (hL _ (List.mem_of_getElem? (i := 0) rfl)) (hL _ (List.mem_of_getElem? (i := 2) rfl)) (hI _ (List.mem_of_getElem? (i := 0) rfl)) (fun a h q => absurd q (Nat.not_le.mpr h)), vx_Zqof (hL _ (List.mem_of_getElem? (i := 1) rfl)) (hL _ (List.mem_of_getElem? (i := 2) rfl)) (hI _ (List.mem_of_getElem? (i := 1) rfl)) (fun a h q => absurd q (Nat.not_le.mpr h)), fun q hq => ?_, fun E hE => va_Nw.of rfl (hts _ (tn_ca E hE)), fun Y hY => va_Nw.of rfl (hts _ (tn_de Y hY)), va_Nc.of (hI _ (List.mem_of_getElem? (i := 2) rfl)), va_Nc.of (hI _ (List.mem_of_getElem? (i := 3) rfl)), va_Nc.of (hI _ (List.mem_of_getElem? (i := 4) rfl))⟩
  obtain ⟨a, c, cell, k, q1, _⟩ := Cond.exactly_spec (args := #[Value.ref b]) (first := s) (o := none) (s := s) (idx := []) (t := .string RX0 q.1) (cls := "java/lang/String") (hs _ (tn_sE q hq))
  exact ⟨a, vk_R.of (hts _ (tn_sR q hq)) q1⟩
/-- more room than the statement gives -/
def room_B : Room := { frames := 12, cells := 1000, slots := 8000, locals := 452 }
/-- two hundred and seventeen new cells, or an end that isn't 1 -/
def rZ (below : List Frame) (s : State) : State → Prop := fun t => s.heap.size + 217 ≤ t.heap.size ∨ ∃ o, Ended t below o ∧ o ≠ .returned (some (.int 1))
section RZ
variable {p : Program} {l : Launch} {e : Env} {R : Room} {s : State} {m : MethodId} {args : Array Value} {below : List Frame} {meth : Method} {c : Code} {H : Heap} {locs : List Loc} {cells slots : Nat} {g : JFrame}
theorem rZ_big (h : s.heap.size + 217 ≤ H.size) : W p l e R s m args below meth c H locs cells slots (rZ below s) g := fun T hT _ => ⟨T.setTop g, Steps.refl _, Or.inl (by rw [show (T.setTop g).heap = T.heap from rfl, hT]; exact h)⟩
theorem rZ_0 {pc : Nat} {ls : Array Slot} (hx : p.tables.exec = Jvm.exec) (hb : c.code = code) (hr : meth.sig.returnType = ret) (hlocks : meth.locks = false) (hdg : decode code pc = .ok (.ireturn, 1)) : W p l e R s m args below meth c H locs cells slots (rZ below s) (F0 m pc ls [.int 0]) := by
  have k : W p l e R s m args below meth c H locs cells slots (MQ below (fun _ _ o _ => o ≠ .returned (some (.int 1))) args s cells slots (fun _ => True)) (F0 m pc ls [.int 0]) := W.zret (ty := .boolean) hx hb (hr.trans rfl) rfl (fun t _ _ => by intro q; cases q) (fun _ _ => trivial) hdg hlocks
  intro T hT X
  obtain ⟨t, a, o, b1, b2, b3, b4⟩ := k T hT X
  exact ⟨t, a, Or.inr ⟨o, b2, b3⟩⟩
end RZ
set_option maxHeartbeats 4000000 in
set_option maxRecDepth 100000 in
theorem rlaw_loop {p : Program} {l : Launch} {e : Env} {s : State} {m : MethodId} {below : List Frame} {meth : Method} {c : Code} {b L : Nat} {xs : Nat → Int32} (hl0 : l.stackTraces = false) (hL : 36 ≤ L) (hL2 : L ≤ 260) (hzx : ∀ j, j < 36 → xs j = 0) (C0 : lw_At p s m meth c b L xs) {D : va_G} {cA cZ cL : ClassId} (hK : va_K D vwCl (qTy cA cZ cL) s) (hTZ : qTZ s.heap.size s) {ad q : Nat → Nat} : ∀ (nme t : Nat), 12 - t = nme → t ≤ 12 → ∀ (f : qFs) (g : qGs) (h : Nat → Nat → Int32) (H : Heap) (locs : List Loc) (ls : Array Slot), RInv f h → va_P D vwCl (LW cA ad q f g h) H → va_D (fun q : Nat => s.heap.size ≤ q) (LW cA ad q f g h) → va_S (fun q : Nat => s.heap.size ≤ q) s.heap H locs → s.heap.size + (13 + 17 * t) ≤ H.size → lv_has ls 13 [(0, .ref b), (1, .ref (ad 16)), (2, .ref (q 0)), (3, .ref (q 1)), (4, .ref (q 2)), (5, .ref (q 3)), (6, .ref (q 4)), (7, .ref (q 5)), (8, .int (nI t))] → W p l e room_B s m #[Value.ref b] below meth c H locs (78 + 70 * t) (1427 + 420 * t) (rZ below s) (F0 m 76 ls []) := by
  intro nme
  induction nme using Nat.strongRecOn with
  | ind nme ih =>
    intro t hnme ht f g h H locs ls hR hP hD hS hsz hl
    by_cases h12 : t = 12
    · subst h12; exact rZ_big (by omega)
    have htl : t < 12 := by omega
    obtain ⟨hx, hb, hr, hml, hown, htsT, hX, hbl, hlocks, hgv⟩ := id C0
    have hts := fun w h => htsT w (wsL_law_in w h)
    have hbA : ¬ (fun q : Nat => s.heap.size ≤ q) b := Nat.not_le.mpr hbl
    refine lv_iload hx hb dL_law_76 (lv_at hl 8 rfl) ?_
    refine lv_sipush (v := 150) hx hb dL_law_78 (by decide) ?_
    refine lv_icmp_ge (tgt := 251) hx hb dL_law_81 (by decide) (fun c_81 => ?_) (fun c_81 => ?_)
    · exact absurd (show nI 150 ≤ nI t from c_81) (nI_ge (by omega) (by decide))
    refine lv_aload_n hx hb dL_law_84 rfl (lv_at hl 0 rfl) ?_
    refine lv_iconst (v := 3) hx hb dL_law_85 (by decide) ?_
    refine lv_iload hx hb dL_law_86 (lv_at hl 8 rfl) ?_
    refine lv_imul hx hb dL_law_88 ?_
    refine lv_topi (fun v_88 hv_88 => ?_)
    have hv_88 : v_88 = nI (3 * t) := hv_88.trans (pk_mul 3 t)
    subst hv_88
    refine vp_callSi (W.runS (As := [.ref b, .int (nI (3 * t))]) (rest := []) ⟨hx, hb, hml, hown, hts⟩ (c_L_cell l b L xs (3 * t) (by omega) (by omega)) (va_cwS 2 hts gL_law_L_cell rfl rfl rfl (by decide +kernel) ⟨Nat.le_of_ble_eq_true rfl, Nat.le_of_ble_eq_true rfl⟩) ⟨qPreS_blind, qPreS_at hX hbl hbA hS⟩ rfl rfl hl.1 rfl (lv_room (Nat.le_of_ble_eq_true rfl)) dL_law_89 ⟨by show 78 + 70 * t + 0 ≤ 1000; omega, by show 1427 + 420 * t + 0 ≤ 8000; omega⟩) (fun z_89 hz_89 => ?_)
    have hz_89 : z_89 = 0 := hz_89.trans (hzx _ (by omega))
    subst hz_89
    refine lv_istore (lv' := [(9, .int 0), (0, .ref b), (1, .ref (ad 16)), (2, .ref (q 0)), (3, .ref (q 1)), (4, .ref (q 2)), (5, .ref (q 3)), (6, .ref (q 4)), (7, .ref (q 5)), (8, .int (nI t))]) hx hb dL_law_92 hl (by decide) rfl (fun ls hl => ?_)
    refine lv_aload_n hx hb dL_law_94 rfl (lv_at hl 1 rfl) ?_
    refine lv_iconst (v := 3) hx hb dL_law_95 (by decide) ?_
    refine lv_iload hx hb dL_law_96 (lv_at hl 9 rfl) ?_
    refine lv_imul hx hb dL_law_98 ?_
    refine lv_topi (fun v_98 hv_98 => ?_)
    have hv_98 : v_98 = nI (3 * t) := hv_98.trans (pk_mul 3 t)
    subst hv_98
    refine lv_iconst (v := 1) hx hb dL_law_99 (by decide) ?_
    refine lv_iadd hx hb dL_law_100 ?_
    refine lv_topi (fun v_100 hv_100 => ?_)
    have hv_100 : v_100 = nI (3 * t + 1) := hv_100.trans (nI_add (3 * t) 1)
    subst hv_100
    refine vp_callSi (W.runS (As := [.ref b, .int (nI (3 * t + 1))]) (rest := []) ⟨hx, hb, hml, hown, hts⟩ (c_L_cell l b L xs (3 * t + 1) (by omega) (by omega)) (va_cwS 2 hts gL_law_L_cell rfl rfl rfl (by decide +kernel) ⟨Nat.le_of_ble_eq_true rfl, Nat.le_of_ble_eq_true rfl⟩) ⟨qPreS_blind, qPreS_at hX hbl hbA hS⟩ rfl rfl hl.1 rfl (lv_room (Nat.le_of_ble_eq_true rfl)) dL_law_101 ⟨by show 78 + 70 * t + 0 ≤ 1000; omega, by show 1427 + 420 * t + 0 ≤ 8000; omega⟩) (fun z_101 hz_101 => ?_)
    have hz_101 : z_101 = 0 := hz_101.trans (hzx _ (by omega))
    subst hz_101
    refine lv_istore (lv' := [(10, .int 0), (9, .int 0), (0, .ref b), (1, .ref (ad 16)), (2, .ref (q 0)), (3, .ref (q 1)), (4, .ref (q 2)), (5, .ref (q 3)), (6, .ref (q 4)), (7, .ref (q 5)), (8, .int (nI t))]) hx hb dL_law_104 hl (by decide) rfl (fun ls hl => ?_)
    refine lv_aload_n hx hb dL_law_106 rfl (lv_at hl 2 rfl) ?_
    refine lv_iconst (v := 3) hx hb dL_law_107 (by decide) ?_
    refine lv_iload hx hb dL_law_108 (lv_at hl 10 rfl) ?_
    refine lv_imul hx hb dL_law_110 ?_
    refine lv_topi (fun v_110 hv_110 => ?_)
    have hv_110 : v_110 = nI (3 * t) := hv_110.trans (pk_mul 3 t)
    subst hv_110
    refine lv_iconst (v := 2) hx hb dL_law_111 (by decide) ?_
    refine lv_iadd hx hb dL_law_112 ?_
    refine lv_topi (fun v_112 hv_112 => ?_)
    have hv_112 : v_112 = nI (3 * t + 2) := hv_112.trans (nI_add (3 * t) 2)
    subst hv_112
    refine vp_callSi (W.runS (As := [.ref b, .int (nI (3 * t + 2))]) (rest := []) ⟨hx, hb, hml, hown, hts⟩ (c_L_cell l b L xs (3 * t + 2) (by omega) (by omega)) (va_cwS 2 hts gL_law_L_cell rfl rfl rfl (by decide +kernel) ⟨Nat.le_of_ble_eq_true rfl, Nat.le_of_ble_eq_true rfl⟩) ⟨qPreS_blind, qPreS_at hX hbl hbA hS⟩ rfl rfl hl.1 rfl (lv_room (Nat.le_of_ble_eq_true rfl)) dL_law_113 ⟨by show 78 + 70 * t + 0 ≤ 1000; omega, by show 1427 + 420 * t + 0 ≤ 8000; omega⟩) (fun z_113 hz_113 => ?_)
    have hz_113 : z_113 = 0 := hz_113.trans (hzx _ (by omega))
    subst hz_113
    refine lv_istore (lv' := [(11, .int 0), (10, .int 0), (9, .int 0), (0, .ref b), (1, .ref (ad 16)), (2, .ref (q 0)), (3, .ref (q 1)), (4, .ref (q 2)), (5, .ref (q 3)), (6, .ref (q 4)), (7, .ref (q 5)), (8, .int (nI t))]) hx hb dL_law_116 hl (by decide) rfl (fun ls hl => ?_)
    have K : ∀ ls : Array Slot, lv_has ls 13 [(11, .int 0), (10, .int 0), (9, .int 0), (0, .ref b), (1, .ref (ad 16)), (2, .ref (q 0)), (3, .ref (q 1)), (4, .ref (q 2)), (5, .ref (q 3)), (6, .ref (q 4)), (7, .ref (q 5)), (8, .int (nI t))] → W p l e room_B s m #[Value.ref b] below meth c H locs (78 + 70 * t) (1427 + 420 * t) (rZ below s) (F0 m 136 ls [.int 0]) := by
      intro ls hl
      refine lv_istore (lv' := [(12, .int 0), (11, .int 0), (10, .int 0), (9, .int 0), (0, .ref b), (1, .ref (ad 16)), (2, .ref (q 0)), (3, .ref (q 1)), (4, .ref (q 2)), (5, .ref (q 3)), (6, .ref (q 4)), (7, .ref (q 5)), (8, .int (nI t))]) hx hb dL_law_136 hl (by decide) rfl (fun ls hl => ?_)
      refine lv_iload hx hb dL_law_138 (lv_at hl 0 rfl) ?_
      refine lv_bipush (v := 8) hx hb dL_law_140 (by decide) ?_
      refine lv_icmp_ge (tgt := 164) hx hb dL_law_142 (by decide) (fun c_142 => ?_) (fun c_142 => ?_)
      · exact absurd c_142 (by decide)
      refine lv_aload_n hx hb dL_law_145 rfl (lv_at hl 5 rfl) ?_
      refine lv_iload hx hb dL_law_146 (lv_at hl 0 rfl) ?_
      refine lv_iload hx hb dL_law_148 (lv_at hl 2 rfl) ?_
      refine lv_iload hx hb dL_law_150 (lv_at hl 1 rfl) ?_
      refine lv_aload_n hx hb dL_law_152 rfl (lv_at hl 6 rfl) ?_
      refine lv_aload hx hb dL_law_153 (lv_at hl 11 rfl) ?_
      refine qb_calliN (va_runS (As := [.ref (ad 16), .int 0, .int 0, .int 0, .ref (q 0), .ref (q 5)]) (rest := []) ⟨hx, hb, hml, hown, hts⟩ (c_L_writes l hl0 D cA cZ cL ad q f g h s.heap.size H.size hR) (va_cwS 6 hts gL_law_L_writes rfl rfl rfl (by decide +kernel) ⟨Nat.le_of_ble_eq_true rfl, Nat.le_of_ble_eq_true rfl⟩) ⟨qPreZ_blind, qPreZ_at hS.1 hP hK hD (qTZ_at hTZ hS (fun _ h => h))⟩ rfl rfl hl.1 rfl (lv_room (Nat.le_of_ble_eq_true rfl)) dL_law_155 ⟨by show 78 + 70 * t + 10 ≤ 1000; omega, by show 1427 + 420 * t + 60 ≤ 8000; omega⟩) hS (fun z_155 u_155 H1 locs hu_155 hmo hP hD hS => ?_)
      obtain ⟨⟨uf, ug⟩, uh⟩ := u_155
      obtain ⟨hR, hw⟩ := hu_155
      have hR : RInv uf uh := hR
      have hw : z_155 = 0 ∨ H.size + 4 ≤ H1.size := hw
      refine lv_if_eq (tgt := 243) hx hb dL_law_158 (by decide) (fun c_158 => ?_) (fun c_158 => ?_)
      · refine lv_iconst (v := 0) hx hb dL_law_243 (by decide) ?_
        exact rZ_0 hx hb hr hlocks dL_law_244
      have hw : H.size + 4 ≤ H1.size := hw.elim (fun h => absurd h c_158) (fun h => h)
      have hP : va_P D vwCl (LW cA ad q uf ug uh) H1 := hP
      have hD : va_D (fun q : Nat => s.heap.size ≤ q) (LW cA ad q uf ug uh) := hD
      refine lv_goto (tgt := 219) hx hb dL_law_161 (by decide) ?_
      refine lv_aload_n hx hb dL_law_219 rfl (lv_at hl 5 rfl) ?_
      refine lv_iload hx hb dL_law_220 (lv_at hl 3 rfl) ?_
      refine lv_iconst (v := 5) hx hb dL_law_222 (by decide) ?_
      refine lv_ishr hx hb dL_law_223 ?_
      refine lv_topi (fun y_223 _ => ?_)
      refine lv_iload hx hb dL_law_224 (lv_at hl 2 rfl) ?_
      refine lv_ixor hx hb dL_law_226 ?_
      refine lv_topi (fun y_226 _ => ?_)
      refine lv_aload_n hx hb dL_law_227 rfl (lv_at hl 6 rfl) ?_
      refine lv_aload_n hx hb dL_law_228 rfl (lv_at hl 7 rfl) ?_
      refine lv_aload hx hb dL_law_229 (lv_at hl 8 rfl) ?_
      refine lv_aload hx hb dL_law_231 (lv_at hl 9 rfl) ?_
      refine lv_aload hx hb dL_law_233 (lv_at hl 10 rfl) ?_
      refine lv_aload hx hb dL_law_235 (lv_at hl 11 rfl) ?_
      refine qb_grow (va_runS (As := [.ref (ad 16), .int y_226, .ref (q 0), .ref (q 1), .ref (q 2), .ref (q 3), .ref (q 4), .ref (q 5)]) (rest := []) ⟨hx, hb, hml, hown, hts⟩ (c_L_isTold l hl0 D cA cZ cL ad q uf ug uh y_226 hR) (va_cwS 8 hts gL_law_L_isTold rfl rfl rfl (by decide +kernel) ⟨Nat.le_of_ble_eq_true rfl, Nat.le_of_ble_eq_true rfl⟩) ⟨qPreN_blind, qPreN_at hP hK (fun U hU hW => qTZ_th (qTZ_at hTZ hS (fun _ h => h) U hU hW))⟩ rfl rfl hl.1 rfl (lv_room (Nat.le_of_ble_eq_true rfl)) dL_law_237 ⟨by show (78 + 70 * t + 10) + 60 ≤ 1000; omega, by show (1427 + 420 * t + 60) + 360 ≤ 8000; omega⟩) hP hS (fun z_237 H2 locs hu_237 hmo hP hS => ?_)
      have hu : z_237 = 0 ∨ H1.size + 13 ≤ H2.size := hu_237
      refine lv_if_ne (tgt := 245) hx hb dL_law_240 (by decide) (fun c_240 => ?_) (fun c_240 => ?_)
      · have hu : H1.size + 13 ≤ H2.size := hu.elim (fun h => absurd h c_240) (fun h => h)
        refine lv_iinc (v := nI (t + 1)) (lv' := [(8, .int (nI (t + 1))), (12, .int 0), (11, .int 0), (10, .int 0), (9, .int 0), (0, .ref b), (1, .ref (ad 16)), (2, .ref (q 0)), (3, .ref (q 1)), (4, .ref (q 2)), (5, .ref (q 3)), (6, .ref (q 4)), (7, .ref (q 5))]) hx hb dL_law_245 hl (k := 12) rfl (nI_1 t) (by decide) rfl (fun ls hl => ?_)
        refine lv_goto (tgt := 76) hx hb dL_law_248 (by decide) ?_
        refine W.widen (k := 78 + 70 * (t + 1)) (n := 1427 + 420 * (t + 1)) (by omega) (by omega) ?_
        exact ih _ (by omega) (t + 1) rfl (by omega) uf ug uh _ _ _ hR hP hD hS (by omega) (lv_sub hl [5, 6, 7, 8, 9, 10, 11, 12, 0] rfl)
      · refine lv_iconst (v := 0) hx hb dL_law_243 (by decide) ?_
        exact rZ_0 hx hb hr hlocks dL_law_244
    refine lv_iload hx hb dL_law_118 (lv_at hl 11 rfl) ?_
    refine lv_bipush (v := 8) hx hb dL_law_120 (by decide) ?_
    refine lv_icmp_ge (tgt := 129) hx hb dL_law_122 (by decide) (fun c_122 => ?_) (fun c_122 => ?_)
    · refine lv_iload hx hb dL_law_129 (lv_at hl 2 rfl) ?_
      refine lv_bipush (v := 30) hx hb dL_law_131 (by decide) ?_
      have hPc : va_P D vwCl [] _ := hP.sub (ws' := []) [] rfl
      refine vp_callSi (W.runS (As := [.int 0, .int 30]) (rest := []) ⟨hx, hb, hml, hown, hts⟩ (c_L_low l D cA cZ cL 0 30 (by decide) (by decide)) (va_cwS 2 hts gL_law_L_low rfl rfl rfl (by decide +kernel) ⟨Nat.le_of_ble_eq_true rfl, Nat.le_of_ble_eq_true rfl⟩) ⟨qPre_blind, qPre_at hPc hK⟩ rfl rfl hl.1 rfl (lv_room (Nat.le_of_ble_eq_true rfl)) dL_law_133 ⟨by show 78 + 70 * t + 0 ≤ 1000; omega, by show 1427 + 420 * t + 0 ≤ 8000; omega⟩) (fun z_133 hz_133 => ?_)
      have hz := hz_133.2 rfl
      subst hz
      exact K _ hl
    · refine lv_iconst (v := 0) hx hb dL_law_125 (by decide) ?_
      refine lv_goto (tgt := 136) hx hb dL_law_126 (by decide) ?_
      exact K _ hl
set_option maxHeartbeats 4000000 in
set_option maxRecDepth 100000 in
theorem rlaw_start {p : Program} {l : Launch} {e : Env} {s : State} {m : MethodId} {below : List Frame} {meth : Method} {c : Code} {b L : Nat} {xs : Nat → Int32} (hflags : l.flags = flags0) (hL : 36 ≤ L) (hL2 : L ≤ 260) (hzx : ∀ j, j < 36 → xs j = 0) (C0 : lw_At p s m meth c b L xs) : W p l e room_B s m #[Value.ref b] below meth c s.heap [] 0 0 (rZ below s) (entryFrame m ([Value.ref b] : List Value).toArray 13) := by
  have hl0 : l.stackTraces = false := by unfold Launch.stackTraces; rw [hflags]; decide
  obtain ⟨hx, hb, hr, hml, hown, htsT, hX, hbl, hlocks, hgv⟩ := id C0
  have hTZ : qTZ s.heap.size s := tn_of htsT hgv
  have hW := fun w h => htsT w (tn_la w h)
  have hts := fun w h => htsT w (wsL_law_in w h)
  have hA : ∀ q : Nat, s.heap.size ≤ q → (fun q : Nat => s.heap.size ≤ q) q := fun _ h => h
  have w_iX0 := hW _ (List.mem_of_getElem? (i := 4) rfl)
  have w_cX0 := hW _ (List.mem_of_getElem? (i := 5) rfl)
  have w_nX0 := hW _ (List.mem_of_getElem? (i := 6) rfl)
  have w_mX0 := hW _ (List.mem_of_getElem? (i := 7) rfl)
  have w_sX0 := hW _ (List.mem_of_getElem? (i := 8) rfl)
  have w_arr := hW _ (List.mem_of_getElem? (i := 3) rfl)
  obtain ⟨c0, iS0, hKn0⟩ := u_known (C := RX0) (T := TX0) (N := 16) (n := 16) htsT inX0 w_iX0
  obtain ⟨dC, dI, hKc⟩ : ∃ (dC : Nat → ClassId) (dI : Nat → Nat → Nat), ∀ (k : Nat) (q : vw_C), vwCl[k]? = some q → u_Kn s q.1 q.2.1 q.2.2 (dC k) (dI k) := by
    refine ⟨fun _ => c0, fun _ => iS0, ?_⟩
    intro k q hq
    match k, hq with
    | 0, hq => cases hq; exact hKn0
    | k + 1, hq => simp [vwCl] at hq
  obtain ⟨cA, hA1, hA2⟩ := q_arr w_arr
  have hS : va_S (fun q : Nat => s.heap.size ≤ q) s.heap s.heap [] := va_S.rf
  have hK : va_K (dC, dI) vwCl (qTy cA cA cA) s := by
    refine ⟨hKc, fun k q h => ?_⟩
    match k, h with
    | 0, h => cases h; exact ⟨hA1, hA2⟩
    | k + 1, h => simp [qTy] at h
  have hP : va_P (dC, dI) vwCl [] s.heap := fun k q h => by simp at h
  have hD : va_D (fun q : Nat => s.heap.size ≤ q) [] := ⟨fun i j p q h => by simp at h, fun k q h => by simp at h⟩
  have hl := lv_entry ([.ref b]) (n := 13) (Nat.le_of_ble_eq_true rfl)
  rw [lg_entry_eq]
  generalize (lg_sl ([.ref b]) ++ List.replicate (13 - (lg_sl ([.ref b])).length) Slot.unset).toArray = ls at hl ⊢
  have hl : lv_has ls 13 [(0, .ref b)] := hl
  refine va_new (ci := 0) (fs := [.null, .int 0, .null, .null, .null, .int 0, .null, .int 0, .int 0, .null, .null, .null, .null, .null, .null, .int 0]) (C := RX0) (T := TX0) (N := 16) hx hb htsT inX0 tyX0 tyX0_ok hown w_cX0 w_iX0 w_nX0 hK hP hD hS hA rfl (fun j hj => by rcases (show j = 0 ∨ j = 1 ∨ j = 2 ∨ j = 3 ∨ j = 4 ∨ j = 5 ∨ j = 6 ∨ j = 7 ∨ j = 8 ∨ j = 9 ∨ j = 10 ∨ j = 11 ∨ j = 12 ∨ j = 13 ∨ j = 14 ∨ j = 15 by omega) with rfl | rfl | rfl | rfl | rfl | rfl | rfl | rfl | rfl | rfl | rfl | rfl | rfl | rfl | rfl | rfl <;> rfl) (Nat.le_of_ble_eq_true rfl) (Nat.le_of_ble_eq_true rfl) dL_law_0 (fun q0 H hP hD hS => ?_)
  have hP : va_P (dC, dI) vwCl [(q0, .inr (0, [.null, .int 0, .null, .null, .null, .int 0, .null, .int 0, .int 0, .null, .null, .null, .null, .null, .null, .int 0]))] H := hP
  have hD : va_D (fun q : Nat => s.heap.size ≤ q) [(q0, .inr (0, [.null, .int 0, .null, .null, .null, .int 0, .null, .int 0, .int 0, .null, .null, .null, .null, .null, .null, .int 0]))] := hD
  refine W.widen (k := 1) (n := 16) (by omega) (by omega) ?_
  refine lv_dup hx hb dL_law_3 rfl ?_
  refine qb_callvP (wc := [(q0, .inr (0, [.null, .int 0, .null, .null, .null, .int 0, .null, .int 0, .int 0, .null, .null, .null, .null, .null, .null, .int 0]))]) (wr := []) [0] [] rfl rfl (by decide) (by decide) hP (va_runI (As := []) (rest := [.ref q0]) ⟨hx, hb, hml, hown, hts⟩ (c_X0_init l (dC, dI) cA cA cA q0 H.size) (cwI 0 hts gL_law_X0_init rfl rfl rfl w_nX0 w_mX0 w_sX0 rfl (by decide +kernel) ⟨Nat.le_of_ble_eq_true rfl, Nat.le_of_ble_eq_true rfl⟩) ⟨qPreW_blind, qPreW_at hP hK hD⟩ rfl rfl hl.1 rfl (lv_room (Nat.le_of_ble_eq_true rfl)) dL_law_4 ⟨Nat.le_of_ble_eq_true rfl, Nat.le_of_ble_eq_true rfl⟩) hD hS hA (fun ad H locs hu hP1 hD1 hS => ?_)
  subst hu
  have hP : va_P (dC, dI) vwCl (xW cA ad xF0 xG0) H := hP1
  have hD : va_D (fun q : Nat => s.heap.size ≤ q) (xW cA ad xF0 xG0) := hD1
  refine W.widen (k := 12) (n := 900) (by omega) (by omega) ?_
  refine lv_astore_n (lv' := [(1, .ref (ad 16)), (0, .ref b)]) hx hb dL_law_7 rfl hl (by decide) rfl (fun ls hl => ?_)
  refine lv_bipush (v := 40) hx hb dL_law_8 (by decide) ?_
  refine qb_newa (atype := .int) (a0 := (40, .inl (fun _ => 0))) hx hb w_arr rfl hK hP hD hS hA 0 rfl (fun _ h => h) (fun _ => rfl) (by decide) (by decide) (Nat.le_of_ble_eq_true rfl) (Nat.le_of_ble_eq_true rfl) (Nat.le_of_ble_eq_true rfl) dL_law_10 (fun r0 H hP hD hS => ?_)
  have hP : va_P (dC, dI) vwCl (xW cA ad xF0 xG0 ++ [(r0, .inl (cA, 40, .inl (fun _ => 0)))]) H := hP
  have hD : va_D (fun q : Nat => s.heap.size ≤ q) (xW cA ad xF0 xG0 ++ [(r0, .inl (cA, 40, .inl (fun _ => 0)))]) := hD
  refine W.widen (k := 13) (n := 940) (by omega) (by omega) ?_
  refine lv_astore_n (lv' := [(2, .ref r0), (1, .ref (ad 16)), (0, .ref b)]) hx hb dL_law_12 rfl hl (by decide) rfl (fun ls hl => ?_)
  refine lv_bipush (v := 40) hx hb dL_law_13 (by decide) ?_
  refine qb_newa (atype := .int) (a0 := (40, .inl (fun _ => 0))) hx hb w_arr rfl hK hP hD hS hA 0 rfl (fun _ h => h) (fun _ => rfl) (by decide) (by decide) (Nat.le_of_ble_eq_true rfl) (Nat.le_of_ble_eq_true rfl) (Nat.le_of_ble_eq_true rfl) dL_law_15 (fun r1 H hP hD hS => ?_)
  have hP : va_P (dC, dI) vwCl (xW cA ad xF0 xG0 ++ [(r0, .inl (cA, 40, .inl (fun _ => 0))), (r1, .inl (cA, 40, .inl (fun _ => 0)))]) H := hP
  have hD : va_D (fun q : Nat => s.heap.size ≤ q) (xW cA ad xF0 xG0 ++ [(r0, .inl (cA, 40, .inl (fun _ => 0))), (r1, .inl (cA, 40, .inl (fun _ => 0)))]) := hD
  refine W.widen (k := 14) (n := 980) (by omega) (by omega) ?_
  refine lv_astore_n (lv' := [(3, .ref r1), (2, .ref r0), (1, .ref (ad 16)), (0, .ref b)]) hx hb dL_law_17 rfl hl (by decide) rfl (fun ls hl => ?_)
  refine lv_bipush (v := 9) hx hb dL_law_18 (by decide) ?_
  refine qb_newa (atype := .int) (a0 := (9, .inl (fun _ => 0))) hx hb w_arr rfl hK hP hD hS hA 0 rfl (fun _ h => h) (fun _ => rfl) (by decide) (by decide) (Nat.le_of_ble_eq_true rfl) (Nat.le_of_ble_eq_true rfl) (Nat.le_of_ble_eq_true rfl) dL_law_20 (fun r2 H hP hD hS => ?_)
  have hP : va_P (dC, dI) vwCl (xW cA ad xF0 xG0 ++ [(r0, .inl (cA, 40, .inl (fun _ => 0))), (r1, .inl (cA, 40, .inl (fun _ => 0))), (r2, .inl (cA, 9, .inl (fun _ => 0)))]) H := hP
  have hD : va_D (fun q : Nat => s.heap.size ≤ q) (xW cA ad xF0 xG0 ++ [(r0, .inl (cA, 40, .inl (fun _ => 0))), (r1, .inl (cA, 40, .inl (fun _ => 0))), (r2, .inl (cA, 9, .inl (fun _ => 0)))]) := hD
  refine W.widen (k := 15) (n := 989) (by omega) (by omega) ?_
  refine lv_astore (lv' := [(4, .ref r2), (3, .ref r1), (2, .ref r0), (1, .ref (ad 16)), (0, .ref b)]) hx hb dL_law_22 hl (by decide) rfl (fun ls hl => ?_)
  refine lv_bipush (v := 60) hx hb dL_law_24 (by decide) ?_
  refine qb_newa (atype := .int) (a0 := (60, .inl (fun _ => 0))) hx hb w_arr rfl hK hP hD hS hA 0 rfl (fun _ h => h) (fun _ => rfl) (by decide) (by decide) (Nat.le_of_ble_eq_true rfl) (Nat.le_of_ble_eq_true rfl) (Nat.le_of_ble_eq_true rfl) dL_law_26 (fun r3 H hP hD hS => ?_)
  have hP : va_P (dC, dI) vwCl (xW cA ad xF0 xG0 ++ [(r0, .inl (cA, 40, .inl (fun _ => 0))), (r1, .inl (cA, 40, .inl (fun _ => 0))), (r2, .inl (cA, 9, .inl (fun _ => 0))), (r3, .inl (cA, 60, .inl (fun _ => 0)))]) H := hP
  have hD : va_D (fun q : Nat => s.heap.size ≤ q) (xW cA ad xF0 xG0 ++ [(r0, .inl (cA, 40, .inl (fun _ => 0))), (r1, .inl (cA, 40, .inl (fun _ => 0))), (r2, .inl (cA, 9, .inl (fun _ => 0))), (r3, .inl (cA, 60, .inl (fun _ => 0)))]) := hD
  refine W.widen (k := 16) (n := 1049) (by omega) (by omega) ?_
  refine lv_astore (lv' := [(5, .ref r3), (4, .ref r2), (3, .ref r1), (2, .ref r0), (1, .ref (ad 16)), (0, .ref b)]) hx hb dL_law_28 hl (by decide) rfl (fun ls hl => ?_)
  refine lv_bipush (v := 12) hx hb dL_law_30 (by decide) ?_
  refine qb_newa (atype := .int) (a0 := (12, .inl (fun _ => 0))) hx hb w_arr rfl hK hP hD hS hA 0 rfl (fun _ h => h) (fun _ => rfl) (by decide) (by decide) (Nat.le_of_ble_eq_true rfl) (Nat.le_of_ble_eq_true rfl) (Nat.le_of_ble_eq_true rfl) dL_law_32 (fun r4 H hP hD hS => ?_)
  have hP : va_P (dC, dI) vwCl (xW cA ad xF0 xG0 ++ [(r0, .inl (cA, 40, .inl (fun _ => 0))), (r1, .inl (cA, 40, .inl (fun _ => 0))), (r2, .inl (cA, 9, .inl (fun _ => 0))), (r3, .inl (cA, 60, .inl (fun _ => 0))), (r4, .inl (cA, 12, .inl (fun _ => 0)))]) H := hP
  have hD : va_D (fun q : Nat => s.heap.size ≤ q) (xW cA ad xF0 xG0 ++ [(r0, .inl (cA, 40, .inl (fun _ => 0))), (r1, .inl (cA, 40, .inl (fun _ => 0))), (r2, .inl (cA, 9, .inl (fun _ => 0))), (r3, .inl (cA, 60, .inl (fun _ => 0))), (r4, .inl (cA, 12, .inl (fun _ => 0)))]) := hD
  refine W.widen (k := 17) (n := 1061) (by omega) (by omega) ?_
  refine lv_astore (lv' := [(6, .ref r4), (5, .ref r3), (4, .ref r2), (3, .ref r1), (2, .ref r0), (1, .ref (ad 16)), (0, .ref b)]) hx hb dL_law_34 hl (by decide) rfl (fun ls hl => ?_)
  refine lv_bipush (v := 6) hx hb dL_law_36 (by decide) ?_
  refine qb_newa (atype := .int) (a0 := (6, .inl (fun _ => 0))) hx hb w_arr rfl hK hP hD hS hA 0 rfl (fun _ h => h) (fun _ => rfl) (by decide) (by decide) (Nat.le_of_ble_eq_true rfl) (Nat.le_of_ble_eq_true rfl) (Nat.le_of_ble_eq_true rfl) dL_law_38 (fun r5 H hP hD hS => ?_)
  have hP : va_P (dC, dI) vwCl (xW cA ad xF0 xG0 ++ [(r0, .inl (cA, 40, .inl (fun _ => 0))), (r1, .inl (cA, 40, .inl (fun _ => 0))), (r2, .inl (cA, 9, .inl (fun _ => 0))), (r3, .inl (cA, 60, .inl (fun _ => 0))), (r4, .inl (cA, 12, .inl (fun _ => 0))), (r5, .inl (cA, 6, .inl (fun _ => 0)))]) H := hP
  have hD : va_D (fun q : Nat => s.heap.size ≤ q) (xW cA ad xF0 xG0 ++ [(r0, .inl (cA, 40, .inl (fun _ => 0))), (r1, .inl (cA, 40, .inl (fun _ => 0))), (r2, .inl (cA, 9, .inl (fun _ => 0))), (r3, .inl (cA, 60, .inl (fun _ => 0))), (r4, .inl (cA, 12, .inl (fun _ => 0))), (r5, .inl (cA, 6, .inl (fun _ => 0)))]) := hD
  refine W.widen (k := 18) (n := 1067) (by omega) (by omega) ?_
  refine lv_astore (lv' := [(7, .ref r5), (6, .ref r4), (5, .ref r3), (4, .ref r2), (3, .ref r1), (2, .ref r0), (1, .ref (ad 16)), (0, .ref b)]) hx hb dL_law_40 hl (by decide) rfl (fun ls hl => ?_)
  obtain ⟨q, hq⟩ : ∃ q : Nat → Nat, q = fun k => match k with | 0 => r0 | 1 => r1 | 2 => r2 | 3 => r3 | 4 => r4 | _ => r5 := ⟨_, rfl⟩
  have hq0 : r0 = q 0 := by subst hq; rfl
  have hq1 : r1 = q 1 := by subst hq; rfl
  have hq2 : r2 = q 2 := by subst hq; rfl
  have hq3 : r3 = q 3 := by subst hq; rfl
  have hq4 : r4 = q 4 := by subst hq; rfl
  have hq5 : r5 = q 5 := by subst hq; rfl
  rw [hq0, hq1, hq2, hq3, hq4, hq5] at hl hP hD
  clear hq0 hq1 hq2 hq3 hq4 hq5 hq
  have hP := hP.sub (ws' := LW cA ad q xF0 xG0 (fun _ _ => 0)) [12, 13, 14, 15, 16, 17, 0, 1, 2, 3, 4, 5, 6, 7, 8, 9, 10, 11] rfl
  have hD := hD.sub (ws' := LW cA ad q xF0 xG0 (fun _ _ => 0)) [12, 13, 14, 15, 16, 17, 0, 1, 2, 3, 4, 5, 6, 7, 8, 9, 10, 11] (by decide) rfl
  have hl : lv_has ls 13 [(7, .ref (q 5)), (6, .ref (q 4)), (5, .ref (q 3)), (4, .ref (q 2)), (3, .ref (q 1)), (2, .ref (q 0)), (1, .ref (ad 16)), (0, .ref b)] := hl
  refine lv_aload hx hb dL_law_42 (lv_at hl 3 rfl) ?_
  refine lv_iconst (v := 0) hx hb dL_law_44 (by decide) ?_
  refine lv_bipush (v := 99) hx hb dL_law_45 (by decide) ?_
  refine rb_iast hx hb hK hP hD hS 2 0 rfl rfl (by unfold vp_in; decide) dL_law_47 (fun H locs hzz hP hD hS => ?_)
  rw [cl0] at hP hD
  have hP : va_P (dC, dI) vwCl (LW cA ad q xF0 xG0 (va_up (fun _ _ => 0) 2 (upd (fun _ => 0) 0 99))) H := hP
  have hD : va_D (fun q : Nat => s.heap.size ≤ q) (LW cA ad q xF0 xG0 (va_up (fun _ _ => 0) 2 (upd (fun _ => 0) 0 99))) := hD
  refine lv_aload hx hb dL_law_48 (lv_at hl 0 rfl) ?_
  refine lv_iconst (v := 1) hx hb dL_law_50 (by decide) ?_
  refine lv_iconst (v := 1) hx hb dL_law_51 (by decide) ?_
  refine rb_iast hx hb hK hP hD hS 5 0 rfl rfl (by unfold vp_in; decide) dL_law_52 (fun H locs hzz hP hD hS => ?_)
  rw [cl1] at hP hD
  have hP : va_P (dC, dI) vwCl (LW cA ad q xF0 xG0 (va_up (va_up (fun _ _ => 0) 2 (upd (fun _ => 0) 0 99)) 5 (upd (fun _ => 0) 1 1))) H := hP
  have hD : va_D (fun q : Nat => s.heap.size ≤ q) (LW cA ad q xF0 xG0 (va_up (va_up (fun _ _ => 0) 2 (upd (fun _ => 0) 0 99)) 5 (upd (fun _ => 0) 1 1))) := hD
  have hR : RInv xF0 (va_up (va_up (fun _ _ => 0) 2 (upd (fun _ => 0) 0 99)) 5 (upd (fun _ => 0) 1 1)) := ⟨⟨rfl, by decide, by decide, rfl, by decide⟩, rfl, rfl, rfl, rfl, 0, by decide, rfl⟩
  generalize (va_up (va_up (fun _ _ => 0) 2 (upd (fun _ => 0) 0 99)) 5 (upd (fun _ => 0) 1 1)) = h at hP hD hR
  generalize xF0 = f at hP hD hR
  generalize xG0 = g at hP hD
  refine lv_aload_n hx hb dL_law_53 rfl (lv_at hl 6 rfl) ?_
  refine lv_iconst (v := 0) hx hb dL_law_54 (by decide) ?_
  refine lv_aload_n hx hb dL_law_55 rfl (lv_at hl 5 rfl) ?_
  refine lv_aload_n hx hb dL_law_56 rfl (lv_at hl 4 rfl) ?_
  refine lv_aload hx hb dL_law_57 (lv_at hl 3 rfl) ?_
  refine lv_aload hx hb dL_law_59 (lv_at hl 2 rfl) ?_
  refine lv_aload hx hb dL_law_61 (lv_at hl 1 rfl) ?_
  refine lv_aload hx hb dL_law_63 (lv_at hl 0 rfl) ?_
  have hbase : s.heap.size ≤ H.size := hS.1
  refine qb_grow (va_runS (As := [.ref (ad 16), .int 0, .ref (q 0), .ref (q 1), .ref (q 2), .ref (q 3), .ref (q 4), .ref (q 5)]) (rest := []) ⟨hx, hb, hml, hown, hts⟩ (c_L_isTold l hl0 (dC, dI) cA cA cA ad q f g h 0 hR) (va_cwS 8 hts gL_law_L_isTold rfl rfl rfl (by decide +kernel) ⟨Nat.le_of_ble_eq_true rfl, Nat.le_of_ble_eq_true rfl⟩) ⟨qPreN_blind, qPreN_at hP hK (fun U hU hW => qTZ_th (qTZ_at hTZ hS (fun _ h => h) U hU hW))⟩ rfl rfl hl.1 rfl (lv_room (Nat.le_of_ble_eq_true rfl)) dL_law_65 ⟨by show 18 + 60 ≤ 1000; omega, by show 1067 + 360 ≤ 8000; omega⟩) hP hS (fun z_65 H1 locs hu_65 hmo hP hS => ?_)
  have hu : z_65 = 0 ∨ H.size + 13 ≤ H1.size := hu_65
  refine lv_if_ne (tgt := 73) hx hb dL_law_68 (by decide) (fun c_68 => ?_) (fun c_68 => ?_)
  · have hu : H.size + 13 ≤ H1.size := hu.elim (fun h => absurd h c_68) (fun h => h)
    refine lv_iconst (v := 0) hx hb dL_law_73 (by decide) ?_
    refine lv_istore (lv' := [(8, .int 0), (7, .ref (q 5)), (6, .ref (q 4)), (5, .ref (q 3)), (4, .ref (q 2)), (3, .ref (q 1)), (2, .ref (q 0)), (1, .ref (ad 16)), (0, .ref b)]) hx hb dL_law_74 hl (by decide) rfl (fun ls hl => ?_)
    refine W.widen (k := 78 + 70 * 0) (n := 1427 + 420 * 0) (by omega) (by omega) ?_
    exact rlaw_loop hl0 hL hL2 hzx C0 hK hTZ _ 0 rfl (by omega) f g h _ _ _ hR hP hD hS (by omega) (lv_sub hl [8, 7, 6, 5, 4, 3, 2, 1, 0] rfl)
  · refine lv_iconst (v := 0) hx hb dL_law_71 (by decide) ?_
    exact rZ_0 hx hb hr hlocks dL_law_72
