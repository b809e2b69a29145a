theorem qMet_ofWH {l : Launch} {y : MethodName} {ws ws' : List Cond} {rm : Room} {Pc : Array Value → State → Prop} {Qc : Array Value → State → Outcome → State → Prop} {mc ms : Nat} {free : Addr → Prop} {cc : ByteArray} {maxL : Nat} {ret : Option FieldType} {hh : List (Nat × Nat × Nat × Nat)}
    (hy : plainName y.cls = true) (hw : ws = Cond.codeWith y cc maxL ret hh :: ws')
    (body : ∀ p e s m args below meth c s₁, BodyLoose p l y (headSpec ws rm) cc maxL ret e s m args below meth c s₁ → c.maxLocals = maxL → Pc args s →
      W p l e (headSpec ws rm).room s m args below meth c s.heap [] 0 0 (MQ below Qc args s mc ms free) (entryFrame m args maxL)) : Met l y ws rm Pc Qc mc ms free := by
  refine MetFree.of_bodyS (code := cc) (maxLocals := maxL) (ret := ret) hy ?_ ?_
  · intro args s m h hn
    obtain ⟨m9, meth, c, hn9, h1, h2, h3, h4, -, h5, h6, -⟩ := Cond.codeWith_spec (atoms_spec (ws := ws) h _ (by rw [hw]; exact List.mem_cons_self))
    cases hn.symm.trans hn9
    exact ⟨meth, c, h1, h2, h3, h4, h5, h6⟩
  · intro p e s m args below meth c s₁ B hml hP _
    have hh0 : s₁.heap = s.heap := by rw [B.state]; rfl
    obtain ⟨t, a1, o, b1, b2, b3⟩ := body p e s m args below meth c s₁ B hml hP s₁ hh0 (Stand.of_body B)
    exact ⟨t, o, a1, b1, b2, ⟨b3.1, b3.2⟩⟩
/-- which exceptions are none of another's kind -/
def qNC (U : State) : Prop := va_Nc eIA eIO U ∧ va_Nc eIS eIO U ∧ va_Nc eIS eIA U
theorem qNc_moved {C T : String} {s U : State} (hvm : s.vm.Alike U.vm) (h : va_Nc C T s) : va_Nc C T U := va_Nc.moved hvm h
theorem qNC_at {s U : State} (h : qNC s) (hvm : s.vm.Alike U.vm) : qNC U := ⟨qNc_moved hvm h.1, qNc_moved hvm h.2.1, qNc_moved hvm h.2.2⟩
def qPreL (D : va_G) (tys : List (ClassId × FieldType)) (ws : va_W) (sz : Nat) : State → Prop := fun U => U.heap.size = sz ∧ va_P D vwCl ws U.heap ∧ va_K D vwCl tys U ∧ va_D (fun _ => True) ws ∧ qTH U ∧ qNC U
theorem qPreL_blind {D : va_G} {tys : List (ClassId × FieldType)} {ws : va_W} {av : List Value} {sz : Nat} : FrameBlind (va_Pc av (qPreL D tys ws sz)) := fun a U g mk q => ⟨q.1, q.2.1, q.2.2.1, va_K.moved (u := U) (U := U.calling g mk a) (Vm.Alike.refl U.vm) q.2.2.2.1, q.2.2.2.2.1, qTH_call q.2.2.2.2.2.1, qNC_at (U := U.calling g mk a) q.2.2.2.2.2.2 (Vm.Alike.refl U.vm)⟩
section QL
variable {p : Program} {l : Launch} {e : Env} {R : Room} {s : State} {m : MethodId} {args : Array Value} {below : List Frame} {meth : Method} {c : Code} {H : Heap} {locs : List Loc} {cells slots mc ms : Nat} {Q : State → Prop} {pc : Nat} {ls : Array Slot} {st0 rest : List Value} {a : Array Value}
variable {D : va_G} {ws wc wr : va_W} {A0 : Nat → Prop} {H0 : Heap} {P : String → Prop}
/-- a call that may write a part of the world, or throw -/
theorem qb_calliX {S : Type} {post : Int32 → S → Prop} {wf : S → va_W} (isC isR : List Nat) (hC : isC.map (fun i => ws[i]?) = wc.map some) (hR : isR.map (fun i => ws[i]?) = wr.map some) (hn : va_nd isR = true) (hdis : ∀ i ∈ isR, i ∉ isC) (hP : va_P D vwCl ws H)
    (hr : vx_Run p l e R s m args below meth c H locs cells slots mc ms (F0 m pc ls st0) rest (va_Qi post (qAt D (va_A wc H.size) wf) (va_A wc H.size) a) (qX P) (va_A wc H.size)) (hD : va_D A0 ws) (hS : va_S A0 H0 H locs) (hA : ∀ q, H0.size ≤ q → A0 q)
    (kx : ∀ (E : String) (ce : Cell) (q9 : Addr) (H1 : Heap) (locs1 : List Loc), P E → va_P D vwCl ws H1 → va_S A0 H0 H1 locs1 → H1[q9]? = some ce → ce.vm = .none → s.vm.findClass E = some ce.cls → vx_W p l e R s m args below meth c H1 locs1 (cells + mc) (slots + ms) Q (F0 m pc ls rest) q9)
    (kk : ∀ (r : Int32) (u : S) (H1 : Heap) (locs1 : List Loc), post r u → va_P D vwCl (wr ++ wf u) H1 → va_D A0 (wr ++ wf u) → va_S A0 H0 H1 locs1 → W p l e R s m args below meth c H1 locs1 (cells + mc) (slots + ms) Q (F0 m (pc + 3) ls (.int r :: rest))) : W p l e R s m args below meth c H locs cells slots Q (F0 m pc ls st0) := by
  have hF : ∀ q, va_A wc H.size q → A0 q := va_free hD hS hA isC hC
  intro T hT X
  rcases hr T hT X with ⟨v, st₀, t, T', L, h0, X', hL, e1, e2, ⟨⟨r, u, hv, hp, hb⟩, hFr⟩, st⟩ | ⟨q, st₀, t, T', L, E, ce, h0, X', hL, e1, e2, hx, hce, hcv, hcl, st⟩
  · cases hv
    obtain ⟨k1, k2, k3⟩ := vx_keep h0 e1 hS (fun q _ h => hF q h) hF hL hFr
    obtain ⟨b1, b2⟩ := hb
    rw [← e1] at b1
    obtain ⟨g1, g2⟩ := va_join hP hD isC isR hC hR hn hdis k2 hF b1 b2
    obtain ⟨t2, a1, c1⟩ := kk r u T'.heap (locs ++ L) hp g1 g2 k3 T' rfl X'
    exact ⟨t2, st t2 a1, c1⟩
  · obtain ⟨k1, k2, k3⟩ := vx_keep (A1 := fun _ => False) h0 e1 hS (fun q _ h => h.elim) hF hL ⟨hx.2.1, fun q h1 _ => hx.2.2 q h1⟩
    have hP1 : va_P D vwCl ws T'.heap := hP.kept (fun k q hk => k2 q.1 ((hP k q hk).lt) (fun h => h))
    obtain ⟨t2, a1, c1⟩ := kx E ce q T'.heap (locs ++ L) hx.1 hP1 k3 (by rw [e1]; exact hce) hcv hcl T' rfl X'
    exact ⟨t2, st.trans a1, c1⟩
/-- a call that only reads, or throws -/
theorem qb_readX {post : Int32 → Prop} (hP : va_P D vwCl ws H)
    (hr : vx_Run p l e R s m args below meth c H locs cells slots mc ms (F0 m pc ls st0) rest (vp_Si post a) (qX P) (fun _ => False)) (hS : va_S A0 H0 H locs)
    (kx : ∀ (E : String) (ce : Cell) (q9 : Addr) (H1 : Heap) (locs1 : List Loc), P E → va_P D vwCl ws H1 → va_S A0 H0 H1 locs1 → H1[q9]? = some ce → ce.vm = .none → s.vm.findClass E = some ce.cls → vx_W p l e R s m args below meth c H1 locs1 (cells + mc) (slots + ms) Q (F0 m pc ls rest) q9)
    (kk : ∀ (r : Int32), post r → W p l e R s m args below meth c H locs (cells + mc) (slots + ms) Q (F0 m (pc + 3) ls (.int r :: rest))) : W p l e R s m args below meth c H locs cells slots Q (F0 m pc ls st0) := by
  intro T hT X
  rcases hr T hT X with ⟨v, st₀, t, T', L, h0, X', hL, e1, e2, ⟨r, hv, hp, hh⟩, st⟩ | ⟨q, st₀, t, T', L, E, ce, h0, X', hL, e1, e2, hx, hce, hcv, hcl, st⟩
  · cases hv
    obtain ⟨t2, a1, c1⟩ := kk r hp T' (by rw [e1, hh, h0]) (Stand.forget X' (fun q h => (hL q h).elim))
    exact ⟨t2, st t2 a1, c1⟩
  · obtain ⟨k1, k2, k3⟩ := vx_keep (free := fun _ => False) (A0 := A0) (A1 := fun _ => False) h0 e1 hS (fun q _ h => h.elim) (fun q h => h.elim) hL ⟨hx.2.1, fun q h1 _ => hx.2.2 q h1⟩
    have hP1 : va_P D vwCl ws T'.heap := hP.kept (fun k q hk => k2 q.1 ((hP k q hk).lt) (fun h => h))
    obtain ⟨t2, a1, c1⟩ := kx E ce q T'.heap (locs ++ L) hx.1 hP1 k3 (by rw [e1]; exact hce) hcv hcl T' rfl X'
    exact ⟨t2, st.trans a1, c1⟩
end QL
abbrev oW (cL : ClassId) (qo : Nat) (o : Nat → Int64) : Nat × va_E := (qo, .inl (cL, 1, .inr (.inl o)))
abbrev lW (cA cL : ClassId) (ad : Nat → Nat) (qo : Nat) (f : qFs) (g : qGs) (o : Nat → Int64) : va_W := oW cL qo o :: xW cA ad f g
set_option maxHeartbeats 4000000 in
set_option maxRecDepth 100000 in
/-- the law asks join -/
theorem c_L_join (l : Launch) (hl0 : l.stackTraces = false) (D : va_G) (cA cZ cL : ClassId) (ad : Nat → Nat) (qo : Nat) (f : qFs) (g : qGs) (o : Nat → Int64) (sz : Nat) (k : Int32) (a : Int32) (nR : Nat) (nB : Nat) (hI : xI nR nB f) : Met l yL_join wsL_join ({ frames := 8, cells := 1, slots := 6, locals := 132 } : Room) (va_Pc [.ref (ad 16), .int k, .int a, .ref qo] (qPreL D (qTy cA cZ cL) (lW cA cL ad qo f g o) sz)) (va_Qi (fun (z : Int32) (u : (qFs × qGs) × (Nat → Int64)) => (z = 0 ∧ ∃ rv : Int32, ((xKey k ∧ xAdr a ∧ xRead nR f g k = -1 ∧ f 1 < 40) ∧ rv = f 1 + 1 ∧ u.1.1 = va_up f 1 (f 1 + 1) ∧ u.1.2 = xWriteG nR f g k a) ∧ u.2 0 = rv.toInt64) ∨ (z = 1 ∧ (¬ xKey k) ∧ u = ((f, g), o)) ∨ (z = 2 ∧ (xKey k ∧ ¬ xAdr a) ∧ u = ((f, g), o)) ∨ (z = 3 ∧ (xKey k ∧ xAdr a ∧ (¬ xRead nR f g k = -1 ∨ ¬ f 1 < 40)) ∧ u = ((f, g), o))) (qAt D (va_A (lW cA cL ad qo f g o) sz) (fun u : (qFs × qGs) × (Nat → Int64) => lW cA cL ad qo u.1.1 u.1.2 u.2)) (va_A (lW cA cL ad qo f g o) sz)) 1 6 (va_A (lW cA cL ad qo f g o) sz) := by
  refine qMet_ofWH (cc := cL_join) (maxL := 5) (ret := (some .int)) (hh := [(0, 10, 13, 13), (0, 10, 17, 15), (0, 10, 21, 17)]) (by decide) rfl ?_
  intro p e s m args below meth c s₁ B hml hv
  obtain ⟨rfl, hsz, hP, hK, hD0, hTH, hNC⟩ := hv
  have hx := B.exec
  have hb := B.bytes
  have hr := B.returns
  have hts := atoms_spec (ws := wsL_join) B.pre
  have hown : s.vm.findClass RL = some m.cls := findClass_of_methodNamed B.named
  have hlocks := B.notSynchronized
  have hTab := vx_table (x := yL_join) B (hts _ List.mem_cons_self)
  subst hsz
  have hD := hD0.self (sz := s.heap.size)
  generalize hAe : va_A (lW cA cL ad qo f g o) s.heap.size = A at hD ⊢
  have hA : ∀ q : Nat, s.heap.size ≤ q → A q := fun q h => by rw [← hAe]; exact Or.inr h
  have hS : va_S A s.heap s.heap [] := va_S.rf
  have hl := lv_entry ([.ref (ad 16), .int k, .int a, .ref qo]) (n := 5) (Nat.le_of_ble_eq_true rfl)
  rw [lg_entry_eq]
  generalize (lg_sl ([.ref (ad 16), .int k, .int a, .ref qo]) ++ List.replicate (5 - (lg_sl ([.ref (ad 16), .int k, .int a, .ref qo])).length) Slot.unset).toArray = ls at hl ⊢
  have hl : lv_has ls 5 [(0, .ref (ad 16)), (1, .int k), (2, .int a), (3, .ref qo)] := hl
  refine lv_aload_n hx hb dL_join_0 rfl (lv_at hl 3 rfl) ?_
  refine lv_iconst (v := 0) hx hb dL_join_1 (by decide) ?_
  refine lv_aload_n hx hb dL_join_2 rfl (lv_at hl 0 rfl) ?_
  refine lv_iload_n hx hb dL_join_3 rfl (lv_at hl 1 rfl) ?_
  refine lv_iload_n hx hb dL_join_4 rfl (lv_at hl 2 rfl) ?_
  have hPc := hP.sub (ws' := xW cA ad f g) [1, 2, 3, 4, 5, 6, 7, 8, 9, 10, 11, 12] rfl
  have hDc := hD.sub (ws' := xW cA ad f g) [1, 2, 3, 4, 5, 6, 7, 8, 9, 10, 11, 12] (by decide) rfl
  refine qb_calliX (wc := xW cA ad f g) (wr := [oW cL qo o]) [1, 2, 3, 4, 5, 6, 7, 8, 9, 10, 11, 12] [0] rfl rfl (by decide) (by decide) hP (vx_runV (As := [.int k, .int a]) (rest := [.int 0, .ref qo]) ⟨hx, hb, hml, hown, hts⟩ (c_X0_join l hl0 D cA cZ cL ad f g s.heap.size k a nR nB hI) (cwV 2 hts gL_join_X0_join rfl rfl rfl (by decide +kernel) ⟨Nat.le_of_ble_eq_true rfl, Nat.le_of_ble_eq_true rfl⟩) ⟨qPreX_blind, va_recv hK hPc (ci := 0) (q0 := 0) rfl rfl, qPreX_at hPc hK hDc (fun U hU hW => qTH_at hTH hU hW)⟩ rfl rfl hl.1 rfl (lv_room (Nat.le_of_ble_eq_true rfl)) dL_join_5 ⟨Nat.le_of_ble_eq_true rfl, Nat.le_of_ble_eq_true rfl⟩) hD hS hA (fun E ce q9 H locs hE hP hS hcell hcv hcl => ?_) (fun rv u H locs hu hP hD hS => ?_)
  · rcases hE with ⟨rfl, hc⟩ | ⟨rfl, hc⟩ | ⟨rfl, hc⟩
    · skip
      refine vx_catch (name := eIO) hown [] (⟨0, 10, 13, 13⟩ : ExceptionTableEntry) [(⟨0, 10, 17, 15⟩ : ExceptionTableEntry), (⟨0, 10, 21, 17⟩ : ExceptionTableEntry)] (by rw [hTab]; rfl) (fun _ h => nomatch h) (by decide) (by decide) (hts _ (List.mem_cons_of_mem _ (List.mem_append_left _ (List.mem_append_left _ (List.mem_append_left _ (List.mem_append_left _ (List.mem_append_left _ (List.mem_of_getElem? (i := 0) rfl)))))))) (va_Nw.use rfl (hTH.2.2.2.1 eIO (by decide))) hcell hcv hcl ?_
      refine lv_astore (lv' := [(4, .ref q9), (0, .ref (ad 16)), (1, .int k), (2, .int a), (3, .ref qo)]) hx hb dL_join_13 hl (by decide) rfl (fun ls hl => ?_)
      refine lv_iconst (v := 1) hx hb dL_join_15 (by decide) ?_
      exact W.iret (v := 1) hx hb hr (fun t ht hW => ⟨⟨1, ((f, g), o), rfl, (Or.inr (Or.inl (⟨rfl, hc, rfl⟩))), by rw [ht]; exact hP, hD⟩, hS.F ht⟩) hS.2.2 dL_join_16
    · skip
      refine vx_catch (name := eIA) hown [(⟨0, 10, 13, 13⟩ : ExceptionTableEntry)] (⟨0, 10, 17, 15⟩ : ExceptionTableEntry) [(⟨0, 10, 21, 17⟩ : ExceptionTableEntry)] (by rw [hTab]; rfl) (List.forall_mem_cons.mpr ⟨Or.inr ⟨by decide, _, (hts _ (List.mem_cons_of_mem _ (List.mem_append_left _ (List.mem_append_left _ (List.mem_append_left _ (List.mem_append_left _ (List.mem_append_left _ (List.mem_of_getElem? (i := 0) rfl)))))))), hNC.1⟩, (fun _ h => nomatch h)⟩) (by decide) (by decide) (hts _ (List.mem_cons_of_mem _ (List.mem_append_left _ (List.mem_append_left _ (List.mem_append_left _ (List.mem_append_left _ (List.mem_append_left _ (List.mem_of_getElem? (i := 1) rfl)))))))) (va_Nw.use rfl (hTH.2.2.2.1 eIA (by decide))) hcell hcv hcl ?_
      refine lv_astore (lv' := [(4, .ref q9), (0, .ref (ad 16)), (1, .int k), (2, .int a), (3, .ref qo)]) hx hb dL_join_17 hl (by decide) rfl (fun ls hl => ?_)
      refine lv_iconst (v := 2) hx hb dL_join_19 (by decide) ?_
      exact W.iret (v := 2) hx hb hr (fun t ht hW => ⟨⟨2, ((f, g), o), rfl, (Or.inr (Or.inr (Or.inl (⟨rfl, hc, rfl⟩)))), by rw [ht]; exact hP, hD⟩, hS.F ht⟩) hS.2.2 dL_join_20
    · skip
      refine vx_catch (name := eIS) hown [(⟨0, 10, 13, 13⟩ : ExceptionTableEntry), (⟨0, 10, 17, 15⟩ : ExceptionTableEntry)] (⟨0, 10, 21, 17⟩ : ExceptionTableEntry) [] (by rw [hTab]; rfl) (List.forall_mem_cons.mpr ⟨Or.inr ⟨by decide, _, (hts _ (List.mem_cons_of_mem _ (List.mem_append_left _ (List.mem_append_left _ (List.mem_append_left _ (List.mem_append_left _ (List.mem_append_left _ (List.mem_of_getElem? (i := 0) rfl)))))))), hNC.2.1⟩, (List.forall_mem_cons.mpr ⟨Or.inr ⟨by decide, _, (hts _ (List.mem_cons_of_mem _ (List.mem_append_left _ (List.mem_append_left _ (List.mem_append_left _ (List.mem_append_left _ (List.mem_append_left _ (List.mem_of_getElem? (i := 1) rfl)))))))), hNC.2.2⟩, (fun _ h => nomatch h)⟩)⟩) (by decide) (by decide) (hts _ (List.mem_cons_of_mem _ (List.mem_append_left _ (List.mem_append_left _ (List.mem_append_left _ (List.mem_append_left _ (List.mem_append_left _ (List.mem_of_getElem? (i := 2) rfl)))))))) (va_Nw.use rfl (hTH.2.2.2.1 eIS (by decide))) hcell hcv hcl ?_
      refine lv_astore (lv' := [(4, .ref q9), (0, .ref (ad 16)), (1, .int k), (2, .int a), (3, .ref qo)]) hx hb dL_join_21 hl (by decide) rfl (fun ls hl => ?_)
      refine lv_iconst (v := 3) hx hb dL_join_23 (by decide) ?_
      exact W.iret (v := 3) hx hb hr (fun t ht hW => ⟨⟨3, ((f, g), o), rfl, (Or.inr (Or.inr (Or.inr (⟨rfl, hc, rfl⟩)))), by rw [ht]; exact hP, hD⟩, hS.F ht⟩) hS.2.2 dL_join_24
  · refine lv_i2l (v := rv.toInt64) hx hb dL_join_8 rfl ?_
    obtain ⟨uf, ug⟩ := u
    have hP : va_P D vwCl (lW cA cL ad qo uf ug o) H := hP
    have hD : va_D A (lW cA cL ad qo uf ug o) := hD
    refine va_last hx hb hK hP hD hS 0 2 rfl rfl (by unfold vp_in; decide) dL_join_9 (fun H locs hP hD hS => ?_)
    have hP : va_P D vwCl (lW cA cL ad qo uf ug (vp_updL o (0 : Int32).toNatClampNeg rv.toInt64)) H := hP
    have hD : va_D A (lW cA cL ad qo uf ug (vp_updL o (0 : Int32).toNatClampNeg rv.toInt64)) := hD
    refine lv_goto (tgt := 25) hx hb dL_join_10 (by decide) ?_
    refine lv_iconst (v := 0) hx hb dL_join_25 (by decide) ?_
    exact W.iret (v := 0) hx hb hr (fun t ht hW => ⟨⟨0, ((uf, ug), vp_updL o (0 : Int32).toNatClampNeg rv.toInt64), rfl, (Or.inl (⟨rfl, rv, hu, rfl⟩)), by rw [ht]; exact hP, hD⟩, hS.F ht⟩) hS.2.2 dL_join_26
set_option maxHeartbeats 4000000 in
set_option maxRecDepth 100000 in
/-- the law asks change -/
theorem c_L_change (l : Launch) (hl0 : l.stackTraces = false) (D : va_G) (cA cZ cL : ClassId) (ad : Nat → Nat) (qo : Nat) (f : qFs) (g : qGs) (o : Nat → Int64) (sz : Nat) (k : Int32) (a : Int32) (nR : Nat) (nB : Nat) (hI : xI nR nB f) : Met l yL_change wsL_change ({ frames := 8, cells := 1, slots := 6, locals := 151 } : Room) (va_Pc [.ref (ad 16), .int k, .int a, .ref qo] (qPreL D (qTy cA cZ cL) (lW cA cL ad qo f g o) sz)) (va_Qi (fun (z : Int32) (u : (qFs × qGs) × (Nat → Int64)) => (z = 0 ∧ ∃ rv : Int32, ((xKey k ∧ xAdr a ∧ ¬ xRead nR f g k = -1) ∧ rv = xRead nR f g k ∧ u.1.1 = f ∧ u.1.2 = xWriteG nR f g k a) ∧ u.2 0 = rv.toInt64) ∨ (z = 1 ∧ (¬ xKey k) ∧ u = ((f, g), o)) ∨ (z = 2 ∧ (xKey k ∧ ¬ xAdr a) ∧ u = ((f, g), o)) ∨ (z = 3 ∧ (xKey k ∧ xAdr a ∧ xRead nR f g k = -1) ∧ u = ((f, g), o))) (qAt D (va_A (lW cA cL ad qo f g o) sz) (fun u : (qFs × qGs) × (Nat → Int64) => lW cA cL ad qo u.1.1 u.1.2 u.2)) (va_A (lW cA cL ad qo f g o) sz)) 1 6 (va_A (lW cA cL ad qo f g o) sz) := by
  refine qMet_ofWH (cc := cL_change) (maxL := 5) (ret := (some .int)) (hh := [(0, 10, 13, 13), (0, 10, 17, 15), (0, 10, 21, 17)]) (by decide) rfl ?_
  intro p e s m args below meth c s₁ B hml hv
  obtain ⟨rfl, hsz, hP, hK, hD0, hTH, hNC⟩ := hv
  have hx := B.exec
  have hb := B.bytes
  have hr := B.returns
  have hts := atoms_spec (ws := wsL_change) B.pre
  have hown : s.vm.findClass RL = some m.cls := findClass_of_methodNamed B.named
  have hlocks := B.notSynchronized
  have hTab := vx_table (x := yL_change) B (hts _ List.mem_cons_self)
  subst hsz
  have hD := hD0.self (sz := s.heap.size)
  generalize hAe : va_A (lW cA cL ad qo f g o) s.heap.size = A at hD ⊢
  have hA : ∀ q : Nat, s.heap.size ≤ q → A q := fun q h => by rw [← hAe]; exact Or.inr h
  have hS : va_S A s.heap s.heap [] := va_S.rf
  have hl := lv_entry ([.ref (ad 16), .int k, .int a, .ref qo]) (n := 5) (Nat.le_of_ble_eq_true rfl)
  rw [lg_entry_eq]
  generalize (lg_sl ([.ref (ad 16), .int k, .int a, .ref qo]) ++ List.replicate (5 - (lg_sl ([.ref (ad 16), .int k, .int a, .ref qo])).length) Slot.unset).toArray = ls at hl ⊢
  have hl : lv_has ls 5 [(0, .ref (ad 16)), (1, .int k), (2, .int a), (3, .ref qo)] := hl
  refine lv_aload_n hx hb dL_change_0 rfl (lv_at hl 3 rfl) ?_
  refine lv_iconst (v := 0) hx hb dL_change_1 (by decide) ?_
  refine lv_aload_n hx hb dL_change_2 rfl (lv_at hl 0 rfl) ?_
  refine lv_iload_n hx hb dL_change_3 rfl (lv_at hl 1 rfl) ?_
  refine lv_iload_n hx hb dL_change_4 rfl (lv_at hl 2 rfl) ?_
  have hPc := hP.sub (ws' := xW cA ad f g) [1, 2, 3, 4, 5, 6, 7, 8, 9, 10, 11, 12] rfl
  have hDc := hD.sub (ws' := xW cA ad f g) [1, 2, 3, 4, 5, 6, 7, 8, 9, 10, 11, 12] (by decide) rfl
  refine qb_calliX (wc := xW cA ad f g) (wr := [oW cL qo o]) [1, 2, 3, 4, 5, 6, 7, 8, 9, 10, 11, 12] [0] rfl rfl (by decide) (by decide) hP (vx_runV (As := [.int k, .int a]) (rest := [.int 0, .ref qo]) ⟨hx, hb, hml, hown, hts⟩ (c_X0_change l hl0 D cA cZ cL ad f g s.heap.size k a nR nB hI) (cwV 2 hts gL_change_X0_change rfl rfl rfl (by decide +kernel) ⟨Nat.le_of_ble_eq_true rfl, Nat.le_of_ble_eq_true rfl⟩) ⟨qPreX_blind, va_recv hK hPc (ci := 0) (q0 := 0) rfl rfl, qPreX_at hPc hK hDc (fun U hU hW => qTH_at hTH hU hW)⟩ rfl rfl hl.1 rfl (lv_room (Nat.le_of_ble_eq_true rfl)) dL_change_5 ⟨Nat.le_of_ble_eq_true rfl, Nat.le_of_ble_eq_true rfl⟩) hD hS hA (fun E ce q9 H locs hE hP hS hcell hcv hcl => ?_) (fun rv u H locs hu hP hD hS => ?_)
  · rcases hE with ⟨rfl, hc⟩ | ⟨rfl, hc⟩ | ⟨rfl, hc⟩
    · skip
      refine vx_catch (name := eIO) hown [] (⟨0, 10, 13, 13⟩ : ExceptionTableEntry) [(⟨0, 10, 17, 15⟩ : ExceptionTableEntry), (⟨0, 10, 21, 17⟩ : ExceptionTableEntry)] (by rw [hTab]; rfl) (fun _ h => nomatch h) (by decide) (by decide) (hts _ (List.mem_cons_of_mem _ (List.mem_append_left _ (List.mem_append_left _ (List.mem_append_left _ (List.mem_append_left _ (List.mem_append_left _ (List.mem_of_getElem? (i := 0) rfl)))))))) (va_Nw.use rfl (hTH.2.2.2.1 eIO (by decide))) hcell hcv hcl ?_
      refine lv_astore (lv' := [(4, .ref q9), (0, .ref (ad 16)), (1, .int k), (2, .int a), (3, .ref qo)]) hx hb dL_change_13 hl (by decide) rfl (fun ls hl => ?_)
      refine lv_iconst (v := 1) hx hb dL_change_15 (by decide) ?_
      exact W.iret (v := 1) hx hb hr (fun t ht hW => ⟨⟨1, ((f, g), o), rfl, (Or.inr (Or.inl (⟨rfl, hc, rfl⟩))), by rw [ht]; exact hP, hD⟩, hS.F ht⟩) hS.2.2 dL_change_16
    · skip
      refine vx_catch (name := eIA) hown [(⟨0, 10, 13, 13⟩ : ExceptionTableEntry)] (⟨0, 10, 17, 15⟩ : ExceptionTableEntry) [(⟨0, 10, 21, 17⟩ : ExceptionTableEntry)] (by rw [hTab]; rfl) (List.forall_mem_cons.mpr ⟨Or.inr ⟨by decide, _, (hts _ (List.mem_cons_of_mem _ (List.mem_append_left _ (List.mem_append_left _ (List.mem_append_left _ (List.mem_append_left _ (List.mem_append_left _ (List.mem_of_getElem? (i := 0) rfl)))))))), hNC.1⟩, (fun _ h => nomatch h)⟩) (by decide) (by decide) (hts _ (List.mem_cons_of_mem _ (List.mem_append_left _ (List.mem_append_left _ (List.mem_append_left _ (List.mem_append_left _ (List.mem_append_left _ (List.mem_of_getElem? (i := 1) rfl)))))))) (va_Nw.use rfl (hTH.2.2.2.1 eIA (by decide))) hcell hcv hcl ?_
      refine lv_astore (lv' := [(4, .ref q9), (0, .ref (ad 16)), (1, .int k), (2, .int a), (3, .ref qo)]) hx hb dL_change_17 hl (by decide) rfl (fun ls hl => ?_)
      refine lv_iconst (v := 2) hx hb dL_change_19 (by decide) ?_
      exact W.iret (v := 2) hx hb hr (fun t ht hW => ⟨⟨2, ((f, g), o), rfl, (Or.inr (Or.inr (Or.inl (⟨rfl, hc, rfl⟩)))), by rw [ht]; exact hP, hD⟩, hS.F ht⟩) hS.2.2 dL_change_20
    · skip
      refine vx_catch (name := eIS) hown [(⟨0, 10, 13, 13⟩ : ExceptionTableEntry), (⟨0, 10, 17, 15⟩ : ExceptionTableEntry)] (⟨0, 10, 21, 17⟩ : ExceptionTableEntry) [] (by rw [hTab]; rfl) (List.forall_mem_cons.mpr ⟨Or.inr ⟨by decide, _, (hts _ (List.mem_cons_of_mem _ (List.mem_append_left _ (List.mem_append_left _ (List.mem_append_left _ (List.mem_append_left _ (List.mem_append_left _ (List.mem_of_getElem? (i := 0) rfl)))))))), hNC.2.1⟩, (List.forall_mem_cons.mpr ⟨Or.inr ⟨by decide, _, (hts _ (List.mem_cons_of_mem _ (List.mem_append_left _ (List.mem_append_left _ (List.mem_append_left _ (List.mem_append_left _ (List.mem_append_left _ (List.mem_of_getElem? (i := 1) rfl)))))))), hNC.2.2⟩, (fun _ h => nomatch h)⟩)⟩) (by decide) (by decide) (hts _ (List.mem_cons_of_mem _ (List.mem_append_left _ (List.mem_append_left _ (List.mem_append_left _ (List.mem_append_left _ (List.mem_append_left _ (List.mem_of_getElem? (i := 2) rfl)))))))) (va_Nw.use rfl (hTH.2.2.2.1 eIS (by decide))) hcell hcv hcl ?_
      refine lv_astore (lv' := [(4, .ref q9), (0, .ref (ad 16)), (1, .int k), (2, .int a), (3, .ref qo)]) hx hb dL_change_21 hl (by decide) rfl (fun ls hl => ?_)
      refine lv_iconst (v := 3) hx hb dL_change_23 (by decide) ?_
      exact W.iret (v := 3) hx hb hr (fun t ht hW => ⟨⟨3, ((f, g), o), rfl, (Or.inr (Or.inr (Or.inr (⟨rfl, hc, rfl⟩)))), by rw [ht]; exact hP, hD⟩, hS.F ht⟩) hS.2.2 dL_change_24
  · refine lv_i2l (v := rv.toInt64) hx hb dL_change_8 rfl ?_
    obtain ⟨uf, ug⟩ := u
    have hP : va_P D vwCl (lW cA cL ad qo uf ug o) H := hP
    have hD : va_D A (lW cA cL ad qo uf ug o) := hD
    refine va_last hx hb hK hP hD hS 0 2 rfl rfl (by unfold vp_in; decide) dL_change_9 (fun H locs hP hD hS => ?_)
    have hP : va_P D vwCl (lW cA cL ad qo uf ug (vp_updL o (0 : Int32).toNatClampNeg rv.toInt64)) H := hP
    have hD : va_D A (lW cA cL ad qo uf ug (vp_updL o (0 : Int32).toNatClampNeg rv.toInt64)) := hD
    refine lv_goto (tgt := 25) hx hb dL_change_10 (by decide) ?_
    refine lv_iconst (v := 0) hx hb dL_change_25 (by decide) ?_
    exact W.iret (v := 0) hx hb hr (fun t ht hW => ⟨⟨0, ((uf, ug), vp_updL o (0 : Int32).toNatClampNeg rv.toInt64), rfl, (Or.inl (⟨rfl, rv, hu, rfl⟩)), by rw [ht]; exact hP, hD⟩, hS.F ht⟩) hS.2.2 dL_change_26
set_option maxHeartbeats 4000000 in
set_option maxRecDepth 100000 in
/-- the law asks leave -/
theorem c_L_leave (l : Launch) (hl0 : l.stackTraces = false) (D : va_G) (cA cZ cL : ClassId) (ad : Nat → Nat) (qo : Nat) (f : qFs) (g : qGs) (o : Nat → Int64) (sz : Nat) (k : Int32) (nR : Nat) (nB : Nat) (hI : xI nR nB f) : Met l yL_leave wsL_leave ({ frames := 8, cells := 1, slots := 6, locals := 150 } : Room) (va_Pc [.ref (ad 16), .int k, .ref qo] (qPreL D (qTy cA cZ cL) (lW cA cL ad qo f g o) sz)) (va_Qi (fun (z : Int32) (u : (qFs × qGs) × (Nat → Int64)) => (z = 0 ∧ ∃ rv : Int32, ((xKey k ∧ ¬ xRead nR f g k = -1) ∧ rv = xRead nR f g k ∧ u.1.1 = va_up f 1 (f 1 - 1) ∧ u.1.2 = xWriteG nR f g k (-1)) ∧ u.2 0 = rv.toInt64) ∨ (z = 1 ∧ (¬ xKey k) ∧ u = ((f, g), o)) ∨ (z = 2 ∧ (xKey k ∧ xRead nR f g k = -1) ∧ u = ((f, g), o))) (qAt D (va_A (lW cA cL ad qo f g o) sz) (fun u : (qFs × qGs) × (Nat → Int64) => lW cA cL ad qo u.1.1 u.1.2 u.2)) (va_A (lW cA cL ad qo f g o) sz)) 1 6 (va_A (lW cA cL ad qo f g o) sz) := by
  refine qMet_ofWH (cc := cL_leave) (maxL := 4) (ret := (some .int)) (hh := [(0, 9, 12, 13), (0, 9, 15, 17)]) (by decide) rfl ?_
  intro p e s m args below meth c s₁ B hml hv
  obtain ⟨rfl, hsz, hP, hK, hD0, hTH, hNC⟩ := hv
  have hx := B.exec
  have hb := B.bytes
  have hr := B.returns
  have hts := atoms_spec (ws := wsL_leave) B.pre
  have hown : s.vm.findClass RL = some m.cls := findClass_of_methodNamed B.named
  have hlocks := B.notSynchronized
  have hTab := vx_table (x := yL_leave) B (hts _ List.mem_cons_self)
  subst hsz
  have hD := hD0.self (sz := s.heap.size)
  generalize hAe : va_A (lW cA cL ad qo f g o) s.heap.size = A at hD ⊢
  have hA : ∀ q : Nat, s.heap.size ≤ q → A q := fun q h => by rw [← hAe]; exact Or.inr h
  have hS : va_S A s.heap s.heap [] := va_S.rf
  have hl := lv_entry ([.ref (ad 16), .int k, .ref qo]) (n := 4) (Nat.le_of_ble_eq_true rfl)
  rw [lg_entry_eq]
  generalize (lg_sl ([.ref (ad 16), .int k, .ref qo]) ++ List.replicate (4 - (lg_sl ([.ref (ad 16), .int k, .ref qo])).length) Slot.unset).toArray = ls at hl ⊢
  have hl : lv_has ls 4 [(0, .ref (ad 16)), (1, .int k), (2, .ref qo)] := hl
  refine lv_aload_n hx hb dL_leave_0 rfl (lv_at hl 2 rfl) ?_
  refine lv_iconst (v := 0) hx hb dL_leave_1 (by decide) ?_
  refine lv_aload_n hx hb dL_leave_2 rfl (lv_at hl 0 rfl) ?_
  refine lv_iload_n hx hb dL_leave_3 rfl (lv_at hl 1 rfl) ?_
  have hPc := hP.sub (ws' := xW cA ad f g) [1, 2, 3, 4, 5, 6, 7, 8, 9, 10, 11, 12] rfl
  have hDc := hD.sub (ws' := xW cA ad f g) [1, 2, 3, 4, 5, 6, 7, 8, 9, 10, 11, 12] (by decide) rfl
  refine qb_calliX (wc := xW cA ad f g) (wr := [oW cL qo o]) [1, 2, 3, 4, 5, 6, 7, 8, 9, 10, 11, 12] [0] rfl rfl (by decide) (by decide) hP (vx_runV (As := [.int k]) (rest := [.int 0, .ref qo]) ⟨hx, hb, hml, hown, hts⟩ (c_X0_leave l hl0 D cA cZ cL ad f g s.heap.size k nR nB hI) (cwV 1 hts gL_leave_X0_leave rfl rfl rfl (by decide +kernel) ⟨Nat.le_of_ble_eq_true rfl, Nat.le_of_ble_eq_true rfl⟩) ⟨qPreX_blind, va_recv hK hPc (ci := 0) (q0 := 0) rfl rfl, qPreX_at hPc hK hDc (fun U hU hW => qTH_at hTH hU hW)⟩ rfl rfl hl.1 rfl (lv_room (Nat.le_of_ble_eq_true rfl)) dL_leave_4 ⟨Nat.le_of_ble_eq_true rfl, Nat.le_of_ble_eq_true rfl⟩) hD hS hA (fun E ce q9 H locs hE hP hS hcell hcv hcl => ?_) (fun rv u H locs hu hP hD hS => ?_)
  · rcases hE with ⟨rfl, hc⟩ | ⟨rfl, hc⟩
    · skip
      refine vx_catch (name := eIO) hown [] (⟨0, 9, 12, 13⟩ : ExceptionTableEntry) [(⟨0, 9, 15, 17⟩ : ExceptionTableEntry)] (by rw [hTab]; rfl) (fun _ h => nomatch h) (by decide) (by decide) (hts _ (List.mem_cons_of_mem _ (List.mem_append_left _ (List.mem_append_left _ (List.mem_append_left _ (List.mem_append_left _ (List.mem_of_getElem? (i := 0) rfl))))))) (va_Nw.use rfl (hTH.2.2.2.1 eIO (by decide))) hcell hcv hcl ?_
      refine lv_astore_n (lv' := [(3, .ref q9), (0, .ref (ad 16)), (1, .int k), (2, .ref qo)]) hx hb dL_leave_12 rfl hl (by decide) rfl (fun ls hl => ?_)
      refine lv_iconst (v := 1) hx hb dL_leave_13 (by decide) ?_
      exact W.iret (v := 1) hx hb hr (fun t ht hW => ⟨⟨1, ((f, g), o), rfl, (Or.inr (Or.inl (⟨rfl, hc, rfl⟩))), by rw [ht]; exact hP, hD⟩, hS.F ht⟩) hS.2.2 dL_leave_14
    · skip
      refine vx_catch (name := eIS) hown [(⟨0, 9, 12, 13⟩ : ExceptionTableEntry)] (⟨0, 9, 15, 17⟩ : ExceptionTableEntry) [] (by rw [hTab]; rfl) (List.forall_mem_cons.mpr ⟨Or.inr ⟨by decide, _, (hts _ (List.mem_cons_of_mem _ (List.mem_append_left _ (List.mem_append_left _ (List.mem_append_left _ (List.mem_append_left _ (List.mem_of_getElem? (i := 0) rfl))))))), hNC.2.1⟩, (fun _ h => nomatch h)⟩) (by decide) (by decide) (hts _ (List.mem_cons_of_mem _ (List.mem_append_left _ (List.mem_append_left _ (List.mem_append_left _ (List.mem_append_left _ (List.mem_of_getElem? (i := 1) rfl))))))) (va_Nw.use rfl (hTH.2.2.2.1 eIS (by decide))) hcell hcv hcl ?_
      refine lv_astore_n (lv' := [(3, .ref q9), (0, .ref (ad 16)), (1, .int k), (2, .ref qo)]) hx hb dL_leave_15 rfl hl (by decide) rfl (fun ls hl => ?_)
      refine lv_iconst (v := 2) hx hb dL_leave_16 (by decide) ?_
      exact W.iret (v := 2) hx hb hr (fun t ht hW => ⟨⟨2, ((f, g), o), rfl, (Or.inr (Or.inr (⟨rfl, hc, rfl⟩))), by rw [ht]; exact hP, hD⟩, hS.F ht⟩) hS.2.2 dL_leave_17
  · refine lv_i2l (v := rv.toInt64) hx hb dL_leave_7 rfl ?_
    obtain ⟨uf, ug⟩ := u
    have hP : va_P D vwCl (lW cA cL ad qo uf ug o) H := hP
    have hD : va_D A (lW cA cL ad qo uf ug o) := hD
    refine va_last hx hb hK hP hD hS 0 2 rfl rfl (by unfold vp_in; decide) dL_leave_8 (fun H locs hP hD hS => ?_)
    have hP : va_P D vwCl (lW cA cL ad qo uf ug (vp_updL o (0 : Int32).toNatClampNeg rv.toInt64)) H := hP
    have hD : va_D A (lW cA cL ad qo uf ug (vp_updL o (0 : Int32).toNatClampNeg rv.toInt64)) := hD
    refine lv_goto (tgt := 18) hx hb dL_leave_9 (by decide) ?_
    refine lv_iconst (v := 0) hx hb dL_leave_18 (by decide) ?_
    exact W.iret (v := 0) hx hb hr (fun t ht hW => ⟨⟨0, ((uf, ug), vp_updL o (0 : Int32).toNatClampNeg rv.toInt64), rfl, (Or.inl (⟨rfl, rv, hu, rfl⟩)), by rw [ht]; exact hP, hD⟩, hS.F ht⟩) hS.2.2 dL_leave_19
set_option maxHeartbeats 4000000 in
set_option maxRecDepth 100000 in
/-- the law asks address -/
theorem c_L_address (l : Launch) (hl0 : l.stackTraces = false) (D : va_G) (cA cZ cL : ClassId) (ad : Nat → Nat) (qo : Nat) (f : qFs) (g : qGs) (o : Nat → Int64) (sz : Nat) (k : Int32) (nR : Nat) (nB : Nat) (hI : xI nR nB f) : Met l yL_address wsL_address ({ frames := 8, cells := 1, slots := 6, locals := 131 } : Room) (va_Pc [.ref (ad 16), .int k, .ref qo] (qPreL D (qTy cA cZ cL) (lW cA cL ad qo f g o) sz)) (va_Qi (fun (z : Int32) (u : (qFs × qGs) × (Nat → Int64)) => (z = 0 ∧ ∃ rv : Int32, (xKey k ∧ rv = xRead nR f g k) ∧ u.1 = (f, g) ∧ u.2 0 = rv.toInt64) ∨ (z = 1 ∧ (¬ xKey k) ∧ u = ((f, g), o))) (qAt D (va_A (lW cA cL ad qo f g o) sz) (fun u : (qFs × qGs) × (Nat → Int64) => lW cA cL ad qo u.1.1 u.1.2 u.2)) (va_A (lW cA cL ad qo f g o) sz)) 1 6 (va_A (lW cA cL ad qo f g o) sz) := by
  refine qMet_ofWH (cc := cL_address) (maxL := 4) (ret := (some .int)) (hh := [(0, 9, 12, 13)]) (by decide) rfl ?_
  intro p e s m args below meth c s₁ B hml hv
  obtain ⟨rfl, hsz, hP, hK, hD0, hTH, hNC⟩ := hv
  have hx := B.exec
  have hb := B.bytes
  have hr := B.returns
  have hts := atoms_spec (ws := wsL_address) B.pre
  have hown : s.vm.findClass RL = some m.cls := findClass_of_methodNamed B.named
  have hlocks := B.notSynchronized
  have hTab := vx_table (x := yL_address) B (hts _ List.mem_cons_self)
  subst hsz
  have hD := hD0.self (sz := s.heap.size)
  generalize hAe : va_A (lW cA cL ad qo f g o) s.heap.size = A at hD ⊢
  have hA : ∀ q : Nat, s.heap.size ≤ q → A q := fun q h => by rw [← hAe]; exact Or.inr h
  have hS : va_S A s.heap s.heap [] := va_S.rf
  have hl := lv_entry ([.ref (ad 16), .int k, .ref qo]) (n := 4) (Nat.le_of_ble_eq_true rfl)
  rw [lg_entry_eq]
  generalize (lg_sl ([.ref (ad 16), .int k, .ref qo]) ++ List.replicate (4 - (lg_sl ([.ref (ad 16), .int k, .ref qo])).length) Slot.unset).toArray = ls at hl ⊢
  have hl : lv_has ls 4 [(0, .ref (ad 16)), (1, .int k), (2, .ref qo)] := hl
  refine lv_aload_n hx hb dL_address_0 rfl (lv_at hl 2 rfl) ?_
  refine lv_iconst (v := 0) hx hb dL_address_1 (by decide) ?_
  refine lv_aload_n hx hb dL_address_2 rfl (lv_at hl 0 rfl) ?_
  refine lv_iload_n hx hb dL_address_3 rfl (lv_at hl 1 rfl) ?_
  have hPc := hP.sub (ws' := xW cA ad f g) [1, 2, 3, 4, 5, 6, 7, 8, 9, 10, 11, 12] rfl
  have hDc := hD.sub (ws' := xW cA ad f g) [1, 2, 3, 4, 5, 6, 7, 8, 9, 10, 11, 12] (by decide) rfl
  refine qb_readX hP (vx_runV (As := [.int k]) (rest := [.int 0, .ref qo]) ⟨hx, hb, hml, hown, hts⟩ (c_X0_address l hl0 D cA cZ cL ad f g k nR nB hI) (cwV 1 hts gL_address_X0_address rfl rfl rfl (by decide +kernel) ⟨Nat.le_of_ble_eq_true rfl, Nat.le_of_ble_eq_true rfl⟩) ⟨qPreT_blind, va_recv hK hPc (ci := 0) (q0 := 0) rfl rfl, qPreT_at hPc hK hTH rfl⟩ rfl rfl hl.1 rfl (lv_room (Nat.le_of_ble_eq_true rfl)) dL_address_4 ⟨Nat.le_of_ble_eq_true rfl, Nat.le_of_ble_eq_true rfl⟩) hS (fun E ce q9 H locs hE hP hS hcell hcv hcl => ?_) (fun rv hu => ?_)
  · obtain ⟨rfl, hc⟩ := hE
    refine vx_catch (name := eIO) hown [] (⟨0, 9, 12, 13⟩ : ExceptionTableEntry) [] (by rw [hTab]; rfl) (fun _ h => nomatch h) (by decide) (by decide) (hts _ (List.mem_cons_of_mem _ (List.mem_append_left _ (List.mem_append_left _ (List.mem_append_left _ (List.mem_of_getElem? (i := 0) rfl)))))) (va_Nw.use rfl (hTH.2.2.2.1 eIO (by decide))) hcell hcv hcl ?_
    refine lv_astore_n (lv' := [(3, .ref q9), (0, .ref (ad 16)), (1, .int k), (2, .ref qo)]) hx hb dL_address_12 rfl hl (by decide) rfl (fun ls hl => ?_)
    refine lv_iconst (v := 1) hx hb dL_address_13 (by decide) ?_
    exact W.iret (v := 1) hx hb hr (fun t ht hW => ⟨⟨1, ((f, g), o), rfl, (Or.inr (⟨rfl, hc, rfl⟩)), by rw [ht]; exact hP, hD⟩, hS.F ht⟩) hS.2.2 dL_address_14
  · refine lv_i2l (v := rv.toInt64) hx hb dL_address_7 rfl ?_
    refine va_last hx hb hK hP hD hS 0 2 rfl rfl (by unfold vp_in; decide) dL_address_8 (fun H locs hP hD hS => ?_)
    have hP : va_P D vwCl (lW cA cL ad qo f g (vp_updL o (0 : Int32).toNatClampNeg rv.toInt64)) H := hP
    have hD : va_D A (lW cA cL ad qo f g (vp_updL o (0 : Int32).toNatClampNeg rv.toInt64)) := hD
    refine lv_goto (tgt := 15) hx hb dL_address_9 (by decide) ?_
    refine lv_iconst (v := 0) hx hb dL_address_15 (by decide) ?_
    exact W.iret (v := 0) hx hb hr (fun t ht hW => ⟨⟨0, ((f, g), vp_updL o (0 : Int32).toNatClampNeg rv.toInt64), rfl, (Or.inl (⟨rfl, rv, hu, rfl, rfl⟩)), by rw [ht]; exact hP, hD⟩, hS.F ht⟩) hS.2.2 dL_address_16
set_option maxHeartbeats 4000000 in
set_option maxRecDepth 100000 in
/-- the law asks inDistrict -/
theorem c_L_inDistrict (l : Launch) (hl0 : l.stackTraces = false) (D : va_G) (cA cZ cL : ClassId) (ad : Nat → Nat) (qo : Nat) (f : qFs) (g : qGs) (o : Nat → Int64) (sz : Nat) (d : Int32) (nR : Nat) (nB : Nat) (hI : xI nR nB f) : Met l yL_inDistrict wsL_inDistrict ({ frames := 8, cells := 1, slots := 6, locals := 133 } : Room) (va_Pc [.ref (ad 16), .int d, .ref qo] (qPreL D (qTy cA cZ cL) (lW cA cL ad qo f g o) sz)) (va_Qi (fun (z : Int32) (u : (qFs × qGs) × (Nat → Int64)) => (z = 0 ∧ ∃ rv : Int32, (xShard d ∧ rv = nI (cnt (fun j => decide (xDist (xRead nR f g (nI j)) = d)) 0 100)) ∧ u.1 = (f, g) ∧ u.2 0 = rv.toInt64) ∨ (z = 1 ∧ (¬ xShard d) ∧ u = ((f, g), o))) (qAt D (va_A (lW cA cL ad qo f g o) sz) (fun u : (qFs × qGs) × (Nat → Int64) => lW cA cL ad qo u.1.1 u.1.2 u.2)) (va_A (lW cA cL ad qo f g o) sz)) 1 6 (va_A (lW cA cL ad qo f g o) sz) := by
  refine qMet_ofWH (cc := cL_inDistrict) (maxL := 4) (ret := (some .int)) (hh := [(0, 9, 12, 13)]) (by decide) rfl ?_
  intro p e s m args below meth c s₁ B hml hv
  obtain ⟨rfl, hsz, hP, hK, hD0, hTH, hNC⟩ := hv
  have hx := B.exec
  have hb := B.bytes
  have hr := B.returns
  have hts := atoms_spec (ws := wsL_inDistrict) B.pre
  have hown : s.vm.findClass RL = some m.cls := findClass_of_methodNamed B.named
  have hlocks := B.notSynchronized
  have hTab := vx_table (x := yL_inDistrict) B (hts _ List.mem_cons_self)
  subst hsz
  have hD := hD0.self (sz := s.heap.size)
  generalize hAe : va_A (lW cA cL ad qo f g o) s.heap.size = A at hD ⊢
  have hA : ∀ q : Nat, s.heap.size ≤ q → A q := fun q h => by rw [← hAe]; exact Or.inr h
  have hS : va_S A s.heap s.heap [] := va_S.rf
  have hl := lv_entry ([.ref (ad 16), .int d, .ref qo]) (n := 4) (Nat.le_of_ble_eq_true rfl)
  rw [lg_entry_eq]
  generalize (lg_sl ([.ref (ad 16), .int d, .ref qo]) ++ List.replicate (4 - (lg_sl ([.ref (ad 16), .int d, .ref qo])).length) Slot.unset).toArray = ls at hl ⊢
  have hl : lv_has ls 4 [(0, .ref (ad 16)), (1, .int d), (2, .ref qo)] := hl
  refine lv_aload_n hx hb dL_inDistrict_0 rfl (lv_at hl 2 rfl) ?_
  refine lv_iconst (v := 0) hx hb dL_inDistrict_1 (by decide) ?_
  refine lv_aload_n hx hb dL_inDistrict_2 rfl (lv_at hl 0 rfl) ?_
  refine lv_iload_n hx hb dL_inDistrict_3 rfl (lv_at hl 1 rfl) ?_
  have hPc := hP.sub (ws' := xW cA ad f g) [1, 2, 3, 4, 5, 6, 7, 8, 9, 10, 11, 12] rfl
  have hDc := hD.sub (ws' := xW cA ad f g) [1, 2, 3, 4, 5, 6, 7, 8, 9, 10, 11, 12] (by decide) rfl
  refine qb_readX hP (vx_runV (As := [.int d]) (rest := [.int 0, .ref qo]) ⟨hx, hb, hml, hown, hts⟩ (c_X0_inDistrict l hl0 D cA cZ cL ad f g d nR nB hI) (cwV 1 hts gL_inDistrict_X0_inDistrict rfl rfl rfl (by decide +kernel) ⟨Nat.le_of_ble_eq_true rfl, Nat.le_of_ble_eq_true rfl⟩) ⟨qPreT_blind, va_recv hK hPc (ci := 0) (q0 := 0) rfl rfl, qPreT_at hPc hK hTH rfl⟩ rfl rfl hl.1 rfl (lv_room (Nat.le_of_ble_eq_true rfl)) dL_inDistrict_4 ⟨Nat.le_of_ble_eq_true rfl, Nat.le_of_ble_eq_true rfl⟩) hS (fun E ce q9 H locs hE hP hS hcell hcv hcl => ?_) (fun rv hu => ?_)
  · obtain ⟨rfl, hc⟩ := hE
    refine vx_catch (name := eIO) hown [] (⟨0, 9, 12, 13⟩ : ExceptionTableEntry) [] (by rw [hTab]; rfl) (fun _ h => nomatch h) (by decide) (by decide) (hts _ (List.mem_cons_of_mem _ (List.mem_append_left _ (List.mem_append_left _ (List.mem_append_left _ (List.mem_of_getElem? (i := 0) rfl)))))) (va_Nw.use rfl (hTH.2.2.2.1 eIO (by decide))) hcell hcv hcl ?_
    refine lv_astore_n (lv' := [(3, .ref q9), (0, .ref (ad 16)), (1, .int d), (2, .ref qo)]) hx hb dL_inDistrict_12 rfl hl (by decide) rfl (fun ls hl => ?_)
    refine lv_iconst (v := 1) hx hb dL_inDistrict_13 (by decide) ?_
    exact W.iret (v := 1) hx hb hr (fun t ht hW => ⟨⟨1, ((f, g), o), rfl, (Or.inr (⟨rfl, hc, rfl⟩)), by rw [ht]; exact hP, hD⟩, hS.F ht⟩) hS.2.2 dL_inDistrict_14
  · refine lv_i2l (v := rv.toInt64) hx hb dL_inDistrict_7 rfl ?_
    refine va_last hx hb hK hP hD hS 0 2 rfl rfl (by unfold vp_in; decide) dL_inDistrict_8 (fun H locs hP hD hS => ?_)
    have hP : va_P D vwCl (lW cA cL ad qo f g (vp_updL o (0 : Int32).toNatClampNeg rv.toInt64)) H := hP
    have hD : va_D A (lW cA cL ad qo f g (vp_updL o (0 : Int32).toNatClampNeg rv.toInt64)) := hD
    refine lv_goto (tgt := 15) hx hb dL_inDistrict_9 (by decide) ?_
    refine lv_iconst (v := 0) hx hb dL_inDistrict_15 (by decide) ?_
    exact W.iret (v := 0) hx hb hr (fun t ht hW => ⟨⟨0, ((f, g), vp_updL o (0 : Int32).toNatClampNeg rv.toInt64), rfl, (Or.inl (⟨rfl, rv, hu, rfl, rfl⟩)), by rw [ht]; exact hP, hD⟩, hS.F ht⟩) hS.2.2 dL_inDistrict_16
set_option maxHeartbeats 4000000 in
set_option maxRecDepth 100000 in
/-- the law asks split -/
theorem c_L_split (l : Launch) (hl0 : l.stackTraces = false) (D : va_G) (cA cZ cL : ClassId) (ad : Nat → Nat) (qo : Nat) (f : qFs) (g : qGs) (o : Nat → Int64) (sz : Nat) (k : Int32) (nR : Nat) (nB : Nat) (hI : xI nR nB f) : Met l yL_split wsL_split ({ frames := 8, cells := 1, slots := 6, locals := 132 } : Room) (va_Pc [.ref (ad 16), .int k, .ref qo] (qPreL D (qTy cA cZ cL) (lW cA cL ad qo f g o) sz)) (va_Qi (fun (z : Int32) (u : (qFs × qGs) × (Nat → Int64)) => (z = 0 ∧ ∃ rv : Int32, ((xKey k ∧ ¬ k = xLast f g (nI (xHold nR g k)) ∧ xTarg f g (nI (xHold nR g k)) = -1 ∧ f 5 < 8) ∧ rv = nI (xHold nR g k + 1) ∧ u.1.1 = va_up f 5 (nI (nR + 1)) ∧ u.1.2 = va_up (xUpG (xHold nR g k) g (nR - xHold nR g k)) 2 (upd (xUpG (xHold nR g k) g (nR - xHold nR g k) 2) (xHold nR g k) k)) ∧ u.2 0 = rv.toInt64) ∨ (z = 1 ∧ (¬ xKey k) ∧ u = ((f, g), o)) ∨ (z = 2 ∧ (xKey k ∧ (k = xLast f g (nI (xHold nR g k)) ∨ ¬ xTarg f g (nI (xHold nR g k)) = -1 ∨ ¬ f 5 < 8)) ∧ u = ((f, g), o))) (qAt D (va_A (lW cA cL ad qo f g o) sz) (fun u : (qFs × qGs) × (Nat → Int64) => lW cA cL ad qo u.1.1 u.1.2 u.2)) (va_A (lW cA cL ad qo f g o) sz)) 1 6 (va_A (lW cA cL ad qo f g o) sz) := by
  refine qMet_ofWH (cc := cL_split) (maxL := 4) (ret := (some .int)) (hh := [(0, 9, 12, 13), (0, 9, 15, 17)]) (by decide) rfl ?_
  intro p e s m args below meth c s₁ B hml hv
  obtain ⟨rfl, hsz, hP, hK, hD0, hTH, hNC⟩ := hv
  have hx := B.exec
  have hb := B.bytes
  have hr := B.returns
  have hts := atoms_spec (ws := wsL_split) B.pre
  have hown : s.vm.findClass RL = some m.cls := findClass_of_methodNamed B.named
  have hlocks := B.notSynchronized
  have hTab := vx_table (x := yL_split) B (hts _ List.mem_cons_self)
  subst hsz
  have hD := hD0.self (sz := s.heap.size)
  generalize hAe : va_A (lW cA cL ad qo f g o) s.heap.size = A at hD ⊢
  have hA : ∀ q : Nat, s.heap.size ≤ q → A q := fun q h => by rw [← hAe]; exact Or.inr h
  have hS : va_S A s.heap s.heap [] := va_S.rf
  have hl := lv_entry ([.ref (ad 16), .int k, .ref qo]) (n := 4) (Nat.le_of_ble_eq_true rfl)
  rw [lg_entry_eq]
  generalize (lg_sl ([.ref (ad 16), .int k, .ref qo]) ++ List.replicate (4 - (lg_sl ([.ref (ad 16), .int k, .ref qo])).length) Slot.unset).toArray = ls at hl ⊢
  have hl : lv_has ls 4 [(0, .ref (ad 16)), (1, .int k), (2, .ref qo)] := hl
  refine lv_aload_n hx hb dL_split_0 rfl (lv_at hl 2 rfl) ?_
  refine lv_iconst (v := 0) hx hb dL_split_1 (by decide) ?_
  refine lv_aload_n hx hb dL_split_2 rfl (lv_at hl 0 rfl) ?_
  refine lv_iload_n hx hb dL_split_3 rfl (lv_at hl 1 rfl) ?_
  have hPc := hP.sub (ws' := xW cA ad f g) [1, 2, 3, 4, 5, 6, 7, 8, 9, 10, 11, 12] rfl
  have hDc := hD.sub (ws' := xW cA ad f g) [1, 2, 3, 4, 5, 6, 7, 8, 9, 10, 11, 12] (by decide) rfl
  refine qb_calliX (wc := xW cA ad f g) (wr := [oW cL qo o]) [1, 2, 3, 4, 5, 6, 7, 8, 9, 10, 11, 12] [0] rfl rfl (by decide) (by decide) hP (vx_runV (As := [.int k]) (rest := [.int 0, .ref qo]) ⟨hx, hb, hml, hown, hts⟩ (c_X0_split l hl0 D cA cZ cL ad f g s.heap.size k nR nB hI) (cwV 1 hts gL_split_X0_split rfl rfl rfl (by decide +kernel) ⟨Nat.le_of_ble_eq_true rfl, Nat.le_of_ble_eq_true rfl⟩) ⟨qPreX_blind, va_recv hK hPc (ci := 0) (q0 := 0) rfl rfl, qPreX_at hPc hK hDc (fun U hU hW => qTH_at hTH hU hW)⟩ rfl rfl hl.1 rfl (lv_room (Nat.le_of_ble_eq_true rfl)) dL_split_4 ⟨Nat.le_of_ble_eq_true rfl, Nat.le_of_ble_eq_true rfl⟩) hD hS hA (fun E ce q9 H locs hE hP hS hcell hcv hcl => ?_) (fun rv u H locs hu hP hD hS => ?_)
  · rcases hE with ⟨rfl, hc⟩ | ⟨rfl, hc⟩
    · skip
      refine vx_catch (name := eIO) hown [] (⟨0, 9, 12, 13⟩ : ExceptionTableEntry) [(⟨0, 9, 15, 17⟩ : ExceptionTableEntry)] (by rw [hTab]; rfl) (fun _ h => nomatch h) (by decide) (by decide) (hts _ (List.mem_cons_of_mem _ (List.mem_append_left _ (List.mem_append_left _ (List.mem_append_left _ (List.mem_append_left _ (List.mem_of_getElem? (i := 0) rfl))))))) (va_Nw.use rfl (hTH.2.2.2.1 eIO (by decide))) hcell hcv hcl ?_
      refine lv_astore_n (lv' := [(3, .ref q9), (0, .ref (ad 16)), (1, .int k), (2, .ref qo)]) hx hb dL_split_12 rfl hl (by decide) rfl (fun ls hl => ?_)
      refine lv_iconst (v := 1) hx hb dL_split_13 (by decide) ?_
      exact W.iret (v := 1) hx hb hr (fun t ht hW => ⟨⟨1, ((f, g), o), rfl, (Or.inr (Or.inl (⟨rfl, hc, rfl⟩))), by rw [ht]; exact hP, hD⟩, hS.F ht⟩) hS.2.2 dL_split_14
    · skip
      refine vx_catch (name := eIS) hown [(⟨0, 9, 12, 13⟩ : ExceptionTableEntry)] (⟨0, 9, 15, 17⟩ : ExceptionTableEntry) [] (by rw [hTab]; rfl) (List.forall_mem_cons.mpr ⟨Or.inr ⟨by decide, _, (hts _ (List.mem_cons_of_mem _ (List.mem_append_left _ (List.mem_append_left _ (List.mem_append_left _ (List.mem_append_left _ (List.mem_of_getElem? (i := 0) rfl))))))), hNC.2.1⟩, (fun _ h => nomatch h)⟩) (by decide) (by decide) (hts _ (List.mem_cons_of_mem _ (List.mem_append_left _ (List.mem_append_left _ (List.mem_append_left _ (List.mem_append_left _ (List.mem_of_getElem? (i := 1) rfl))))))) (va_Nw.use rfl (hTH.2.2.2.1 eIS (by decide))) hcell hcv hcl ?_
      refine lv_astore_n (lv' := [(3, .ref q9), (0, .ref (ad 16)), (1, .int k), (2, .ref qo)]) hx hb dL_split_15 rfl hl (by decide) rfl (fun ls hl => ?_)
      refine lv_iconst (v := 2) hx hb dL_split_16 (by decide) ?_
      exact W.iret (v := 2) hx hb hr (fun t ht hW => ⟨⟨2, ((f, g), o), rfl, (Or.inr (Or.inr (⟨rfl, hc, rfl⟩))), by rw [ht]; exact hP, hD⟩, hS.F ht⟩) hS.2.2 dL_split_17
  · refine lv_i2l (v := rv.toInt64) hx hb dL_split_7 rfl ?_
    obtain ⟨uf, ug⟩ := u
    have hP : va_P D vwCl (lW cA cL ad qo uf ug o) H := hP
    have hD : va_D A (lW cA cL ad qo uf ug o) := hD
    refine va_last hx hb hK hP hD hS 0 2 rfl rfl (by unfold vp_in; decide) dL_split_8 (fun H locs hP hD hS => ?_)
    have hP : va_P D vwCl (lW cA cL ad qo uf ug (vp_updL o (0 : Int32).toNatClampNeg rv.toInt64)) H := hP
    have hD : va_D A (lW cA cL ad qo uf ug (vp_updL o (0 : Int32).toNatClampNeg rv.toInt64)) := hD
    refine lv_goto (tgt := 18) hx hb dL_split_9 (by decide) ?_
    refine lv_iconst (v := 0) hx hb dL_split_18 (by decide) ?_
    exact W.iret (v := 0) hx hb hr (fun t ht hW => ⟨⟨0, ((uf, ug), vp_updL o (0 : Int32).toNatClampNeg rv.toInt64), rfl, (Or.inl (⟨rfl, rv, hu, rfl⟩)), by rw [ht]; exact hP, hD⟩, hS.F ht⟩) hS.2.2 dL_split_19
set_option maxHeartbeats 4000000 in
set_option maxRecDepth 100000 in
/-- the law asks merge -/
theorem c_L_merge (l : Launch) (hl0 : l.stackTraces = false) (D : va_G) (cA cZ cL : ClassId) (ad : Nat → Nat) (qo : Nat) (f : qFs) (g : qGs) (o : Nat → Int64) (sz : Nat) (r : Int32) (nR : Nat) (nB : Nat) (hI : xI nR nB f) : Met l yL_merge wsL_merge ({ frames := 8, cells := 1, slots := 6, locals := 133 } : Room) (va_Pc [.ref (ad 16), .int r, .ref qo] (qPreL D (qTy cA cZ cL) (lW cA cL ad qo f g o) sz)) (va_Qi (fun (z : Int32) (u : (qFs × qGs) × (Nat → Int64)) => (z = 0 ∧ ∃ rv : Int32, ((xRange f r ∧ xRange f (r + 1) ∧ xHome f g r = xHome f g (r + 1) ∧ xTarg f g r = -1 ∧ xTarg f g (r + 1) = -1) ∧ rv = nI (nR - 1) ∧ u.1.1 = va_up f 5 (nI (nR - 1)) ∧ u.1.2 = xDnG g r.toNatClampNeg (nR - 1 - r.toNatClampNeg)) ∧ u.2 0 = rv.toInt64) ∨ (z = 1 ∧ (¬ xRange f r) ∧ u = ((f, g), o)) ∨ (z = 2 ∧ (xRange f r ∧ (¬ xRange f (r + 1) ∨ ¬ xHome f g r = xHome f g (r + 1) ∨ ¬ xTarg f g r = -1 ∨ ¬ xTarg f g (r + 1) = -1)) ∧ u = ((f, g), o))) (qAt D (va_A (lW cA cL ad qo f g o) sz) (fun u : (qFs × qGs) × (Nat → Int64) => lW cA cL ad qo u.1.1 u.1.2 u.2)) (va_A (lW cA cL ad qo f g o) sz)) 1 6 (va_A (lW cA cL ad qo f g o) sz) := by
  refine qMet_ofWH (cc := cL_merge) (maxL := 4) (ret := (some .int)) (hh := [(0, 9, 12, 13), (0, 9, 15, 17)]) (by decide) rfl ?_
  intro p e s m args below meth c s₁ B hml hv
  obtain ⟨rfl, hsz, hP, hK, hD0, hTH, hNC⟩ := hv
  have hx := B.exec
  have hb := B.bytes
  have hr := B.returns
  have hts := atoms_spec (ws := wsL_merge) B.pre
  have hown : s.vm.findClass RL = some m.cls := findClass_of_methodNamed B.named
  have hlocks := B.notSynchronized
  have hTab := vx_table (x := yL_merge) B (hts _ List.mem_cons_self)
  subst hsz
  have hD := hD0.self (sz := s.heap.size)
  generalize hAe : va_A (lW cA cL ad qo f g o) s.heap.size = A at hD ⊢
  have hA : ∀ q : Nat, s.heap.size ≤ q → A q := fun q h => by rw [← hAe]; exact Or.inr h
  have hS : va_S A s.heap s.heap [] := va_S.rf
  have hl := lv_entry ([.ref (ad 16), .int r, .ref qo]) (n := 4) (Nat.le_of_ble_eq_true rfl)
  rw [lg_entry_eq]
  generalize (lg_sl ([.ref (ad 16), .int r, .ref qo]) ++ List.replicate (4 - (lg_sl ([.ref (ad 16), .int r, .ref qo])).length) Slot.unset).toArray = ls at hl ⊢
  have hl : lv_has ls 4 [(0, .ref (ad 16)), (1, .int r), (2, .ref qo)] := hl
  refine lv_aload_n hx hb dL_merge_0 rfl (lv_at hl 2 rfl) ?_
  refine lv_iconst (v := 0) hx hb dL_merge_1 (by decide) ?_
  refine lv_aload_n hx hb dL_merge_2 rfl (lv_at hl 0 rfl) ?_
  refine lv_iload_n hx hb dL_merge_3 rfl (lv_at hl 1 rfl) ?_
  have hPc := hP.sub (ws' := xW cA ad f g) [1, 2, 3, 4, 5, 6, 7, 8, 9, 10, 11, 12] rfl
  have hDc := hD.sub (ws' := xW cA ad f g) [1, 2, 3, 4, 5, 6, 7, 8, 9, 10, 11, 12] (by decide) rfl
  refine qb_calliX (wc := xW cA ad f g) (wr := [oW cL qo o]) [1, 2, 3, 4, 5, 6, 7, 8, 9, 10, 11, 12] [0] rfl rfl (by decide) (by decide) hP (vx_runV (As := [.int r]) (rest := [.int 0, .ref qo]) ⟨hx, hb, hml, hown, hts⟩ (c_X0_merge l hl0 D cA cZ cL ad f g s.heap.size r nR nB hI) (cwV 1 hts gL_merge_X0_merge rfl rfl rfl (by decide +kernel) ⟨Nat.le_of_ble_eq_true rfl, Nat.le_of_ble_eq_true rfl⟩) ⟨qPreX_blind, va_recv hK hPc (ci := 0) (q0 := 0) rfl rfl, qPreX_at hPc hK hDc (fun U hU hW => qTH_at hTH hU hW)⟩ rfl rfl hl.1 rfl (lv_room (Nat.le_of_ble_eq_true rfl)) dL_merge_4 ⟨Nat.le_of_ble_eq_true rfl, Nat.le_of_ble_eq_true rfl⟩) hD hS hA (fun E ce q9 H locs hE hP hS hcell hcv hcl => ?_) (fun rv u H locs hu hP hD hS => ?_)
  · rcases hE with ⟨rfl, hc⟩ | ⟨rfl, hc⟩
    · skip
      refine vx_catch (name := eIO) hown [] (⟨0, 9, 12, 13⟩ : ExceptionTableEntry) [(⟨0, 9, 15, 17⟩ : ExceptionTableEntry)] (by rw [hTab]; rfl) (fun _ h => nomatch h) (by decide) (by decide) (hts _ (List.mem_cons_of_mem _ (List.mem_append_left _ (List.mem_append_left _ (List.mem_append_left _ (List.mem_append_left _ (List.mem_of_getElem? (i := 0) rfl))))))) (va_Nw.use rfl (hTH.2.2.2.1 eIO (by decide))) hcell hcv hcl ?_
      refine lv_astore_n (lv' := [(3, .ref q9), (0, .ref (ad 16)), (1, .int r), (2, .ref qo)]) hx hb dL_merge_12 rfl hl (by decide) rfl (fun ls hl => ?_)
      refine lv_iconst (v := 1) hx hb dL_merge_13 (by decide) ?_
      exact W.iret (v := 1) hx hb hr (fun t ht hW => ⟨⟨1, ((f, g), o), rfl, (Or.inr (Or.inl (⟨rfl, hc, rfl⟩))), by rw [ht]; exact hP, hD⟩, hS.F ht⟩) hS.2.2 dL_merge_14
    · skip
      refine vx_catch (name := eIS) hown [(⟨0, 9, 12, 13⟩ : ExceptionTableEntry)] (⟨0, 9, 15, 17⟩ : ExceptionTableEntry) [] (by rw [hTab]; rfl) (List.forall_mem_cons.mpr ⟨Or.inr ⟨by decide, _, (hts _ (List.mem_cons_of_mem _ (List.mem_append_left _ (List.mem_append_left _ (List.mem_append_left _ (List.mem_append_left _ (List.mem_of_getElem? (i := 0) rfl))))))), hNC.2.1⟩, (fun _ h => nomatch h)⟩) (by decide) (by decide) (hts _ (List.mem_cons_of_mem _ (List.mem_append_left _ (List.mem_append_left _ (List.mem_append_left _ (List.mem_append_left _ (List.mem_of_getElem? (i := 1) rfl))))))) (va_Nw.use rfl (hTH.2.2.2.1 eIS (by decide))) hcell hcv hcl ?_
      refine lv_astore_n (lv' := [(3, .ref q9), (0, .ref (ad 16)), (1, .int r), (2, .ref qo)]) hx hb dL_merge_15 rfl hl (by decide) rfl (fun ls hl => ?_)
      refine lv_iconst (v := 2) hx hb dL_merge_16 (by decide) ?_
      exact W.iret (v := 2) hx hb hr (fun t ht hW => ⟨⟨2, ((f, g), o), rfl, (Or.inr (Or.inr (⟨rfl, hc, rfl⟩))), by rw [ht]; exact hP, hD⟩, hS.F ht⟩) hS.2.2 dL_merge_17
  · refine lv_i2l (v := rv.toInt64) hx hb dL_merge_7 rfl ?_
    obtain ⟨uf, ug⟩ := u
    have hP : va_P D vwCl (lW cA cL ad qo uf ug o) H := hP
    have hD : va_D A (lW cA cL ad qo uf ug o) := hD
    refine va_last hx hb hK hP hD hS 0 2 rfl rfl (by unfold vp_in; decide) dL_merge_8 (fun H locs hP hD hS => ?_)
    have hP : va_P D vwCl (lW cA cL ad qo uf ug (vp_updL o (0 : Int32).toNatClampNeg rv.toInt64)) H := hP
    have hD : va_D A (lW cA cL ad qo uf ug (vp_updL o (0 : Int32).toNatClampNeg rv.toInt64)) := hD
    refine lv_goto (tgt := 18) hx hb dL_merge_9 (by decide) ?_
    refine lv_iconst (v := 0) hx hb dL_merge_18 (by decide) ?_
    exact W.iret (v := 0) hx hb hr (fun t ht hW => ⟨⟨0, ((uf, ug), vp_updL o (0 : Int32).toNatClampNeg rv.toInt64), rfl, (Or.inl (⟨rfl, rv, hu, rfl⟩)), by rw [ht]; exact hP, hD⟩, hS.F ht⟩) hS.2.2 dL_merge_19
set_option maxHeartbeats 4000000 in
set_option maxRecDepth 100000 in
/-- the law asks move -/
theorem c_L_move (l : Launch) (hl0 : l.stackTraces = false) (D : va_G) (cA cZ cL : ClassId) (ad : Nat → Nat) (qo : Nat) (f : qFs) (g : qGs) (o : Nat → Int64) (sz : Nat) (r : Int32) (sh : Int32) (nR : Nat) (nB : Nat) (hI : xI nR nB f) (hL : xL nR g) : Met l yL_move wsL_move ({ frames := 8, cells := 1, slots := 6, locals := 133 } : Room) (va_Pc [.ref (ad 16), .int r, .int sh, .ref qo] (qPreL D (qTy cA cZ cL) (lW cA cL ad qo f g o) sz)) (va_Qi (fun (z : Int32) (u : (qFs × qGs) × (Nat → Int64)) => (z = 0 ∧ ∃ rv : Int32, ((xRange f r ∧ xShard sh ∧ xTarg f g r = -1 ∧ ¬ xHome f g r = sh) ∧ rv = xMany f g (xHome f g r) r ∧ u.1.1 = f ∧ u.1.2 = va_up g 4 (upd (g 4) r.toNatClampNeg sh)) ∧ u.2 0 = rv.toInt64) ∨ (z = 1 ∧ (¬ (xRange f r ∧ xShard sh)) ∧ u = ((f, g), o)) ∨ (z = 2 ∧ ((xRange f r ∧ xShard sh) ∧ (¬ xTarg f g r = -1 ∨ xHome f g r = sh)) ∧ u = ((f, g), o))) (qAt D (va_A (lW cA cL ad qo f g o) sz) (fun u : (qFs × qGs) × (Nat → Int64) => lW cA cL ad qo u.1.1 u.1.2 u.2)) (va_A (lW cA cL ad qo f g o) sz)) 1 6 (va_A (lW cA cL ad qo f g o) sz) := by
  refine qMet_ofWH (cc := cL_move) (maxL := 5) (ret := (some .int)) (hh := [(0, 10, 13, 13), (0, 10, 17, 17)]) (by decide) rfl ?_
  intro p e s m args below meth c s₁ B hml hv
  obtain ⟨rfl, hsz, hP, hK, hD0, hTH, hNC⟩ := hv
  have hx := B.exec
  have hb := B.bytes
  have hr := B.returns
  have hts := atoms_spec (ws := wsL_move) B.pre
  have hown : s.vm.findClass RL = some m.cls := findClass_of_methodNamed B.named
  have hlocks := B.notSynchronized
  have hTab := vx_table (x := yL_move) B (hts _ List.mem_cons_self)
  subst hsz
  have hD := hD0.self (sz := s.heap.size)
  generalize hAe : va_A (lW cA cL ad qo f g o) s.heap.size = A at hD ⊢
  have hA : ∀ q : Nat, s.heap.size ≤ q → A q := fun q h => by rw [← hAe]; exact Or.inr h
  have hS : va_S A s.heap s.heap [] := va_S.rf
  have hl := lv_entry ([.ref (ad 16), .int r, .int sh, .ref qo]) (n := 5) (Nat.le_of_ble_eq_true rfl)
  rw [lg_entry_eq]
  generalize (lg_sl ([.ref (ad 16), .int r, .int sh, .ref qo]) ++ List.replicate (5 - (lg_sl ([.ref (ad 16), .int r, .int sh, .ref qo])).length) Slot.unset).toArray = ls at hl ⊢
  have hl : lv_has ls 5 [(0, .ref (ad 16)), (1, .int r), (2, .int sh), (3, .ref qo)] := hl
  refine lv_aload_n hx hb dL_move_0 rfl (lv_at hl 3 rfl) ?_
  refine lv_iconst (v := 0) hx hb dL_move_1 (by decide) ?_
  refine lv_aload_n hx hb dL_move_2 rfl (lv_at hl 0 rfl) ?_
  refine lv_iload_n hx hb dL_move_3 rfl (lv_at hl 1 rfl) ?_
  refine lv_iload_n hx hb dL_move_4 rfl (lv_at hl 2 rfl) ?_
  have hPc := hP.sub (ws' := xW cA ad f g) [1, 2, 3, 4, 5, 6, 7, 8, 9, 10, 11, 12] rfl
  have hDc := hD.sub (ws' := xW cA ad f g) [1, 2, 3, 4, 5, 6, 7, 8, 9, 10, 11, 12] (by decide) rfl
  refine qb_calliX (wc := xW cA ad f g) (wr := [oW cL qo o]) [1, 2, 3, 4, 5, 6, 7, 8, 9, 10, 11, 12] [0] rfl rfl (by decide) (by decide) hP (vx_runV (As := [.int r, .int sh]) (rest := [.int 0, .ref qo]) ⟨hx, hb, hml, hown, hts⟩ (c_X0_move l hl0 D cA cZ cL ad f g s.heap.size r sh nR nB hI hL) (cwV 2 hts gL_move_X0_move rfl rfl rfl (by decide +kernel) ⟨Nat.le_of_ble_eq_true rfl, Nat.le_of_ble_eq_true rfl⟩) ⟨qPreX_blind, va_recv hK hPc (ci := 0) (q0 := 0) rfl rfl, qPreX_at hPc hK hDc (fun U hU hW => qTH_at hTH hU hW)⟩ rfl rfl hl.1 rfl (lv_room (Nat.le_of_ble_eq_true rfl)) dL_move_5 ⟨Nat.le_of_ble_eq_true rfl, Nat.le_of_ble_eq_true rfl⟩) hD hS hA (fun E ce q9 H locs hE hP hS hcell hcv hcl => ?_) (fun rv u H locs hu hP hD hS => ?_)
  · rcases hE with ⟨rfl, hc⟩ | ⟨rfl, hc⟩
    · skip
      refine vx_catch (name := eIO) hown [] (⟨0, 10, 13, 13⟩ : ExceptionTableEntry) [(⟨0, 10, 17, 17⟩ : ExceptionTableEntry)] (by rw [hTab]; rfl) (fun _ h => nomatch h) (by decide) (by decide) (hts _ (List.mem_cons_of_mem _ (List.mem_append_left _ (List.mem_append_left _ (List.mem_append_left _ (List.mem_append_left _ (List.mem_of_getElem? (i := 0) rfl))))))) (va_Nw.use rfl (hTH.2.2.2.1 eIO (by decide))) hcell hcv hcl ?_
      refine lv_astore (lv' := [(4, .ref q9), (0, .ref (ad 16)), (1, .int r), (2, .int sh), (3, .ref qo)]) hx hb dL_move_13 hl (by decide) rfl (fun ls hl => ?_)
      refine lv_iconst (v := 1) hx hb dL_move_15 (by decide) ?_
      exact W.iret (v := 1) hx hb hr (fun t ht hW => ⟨⟨1, ((f, g), o), rfl, (Or.inr (Or.inl (⟨rfl, hc, rfl⟩))), by rw [ht]; exact hP, hD⟩, hS.F ht⟩) hS.2.2 dL_move_16
    · skip
      refine vx_catch (name := eIS) hown [(⟨0, 10, 13, 13⟩ : ExceptionTableEntry)] (⟨0, 10, 17, 17⟩ : ExceptionTableEntry) [] (by rw [hTab]; rfl) (List.forall_mem_cons.mpr ⟨Or.inr ⟨by decide, _, (hts _ (List.mem_cons_of_mem _ (List.mem_append_left _ (List.mem_append_left _ (List.mem_append_left _ (List.mem_append_left _ (List.mem_of_getElem? (i := 0) rfl))))))), hNC.2.1⟩, (fun _ h => nomatch h)⟩) (by decide) (by decide) (hts _ (List.mem_cons_of_mem _ (List.mem_append_left _ (List.mem_append_left _ (List.mem_append_left _ (List.mem_append_left _ (List.mem_of_getElem? (i := 1) rfl))))))) (va_Nw.use rfl (hTH.2.2.2.1 eIS (by decide))) hcell hcv hcl ?_
      refine lv_astore (lv' := [(4, .ref q9), (0, .ref (ad 16)), (1, .int r), (2, .int sh), (3, .ref qo)]) hx hb dL_move_17 hl (by decide) rfl (fun ls hl => ?_)
      refine lv_iconst (v := 2) hx hb dL_move_19 (by decide) ?_
      exact W.iret (v := 2) hx hb hr (fun t ht hW => ⟨⟨2, ((f, g), o), rfl, (Or.inr (Or.inr (⟨rfl, hc, rfl⟩))), by rw [ht]; exact hP, hD⟩, hS.F ht⟩) hS.2.2 dL_move_20
  · refine lv_i2l (v := rv.toInt64) hx hb dL_move_8 rfl ?_
    obtain ⟨uf, ug⟩ := u
    have hP : va_P D vwCl (lW cA cL ad qo uf ug o) H := hP
    have hD : va_D A (lW cA cL ad qo uf ug o) := hD
    refine va_last hx hb hK hP hD hS 0 2 rfl rfl (by unfold vp_in; decide) dL_move_9 (fun H locs hP hD hS => ?_)
    have hP : va_P D vwCl (lW cA cL ad qo uf ug (vp_updL o (0 : Int32).toNatClampNeg rv.toInt64)) H := hP
    have hD : va_D A (lW cA cL ad qo uf ug (vp_updL o (0 : Int32).toNatClampNeg rv.toInt64)) := hD
    refine lv_goto (tgt := 21) hx hb dL_move_10 (by decide) ?_
    refine lv_iconst (v := 0) hx hb dL_move_21 (by decide) ?_
    exact W.iret (v := 0) hx hb hr (fun t ht hW => ⟨⟨0, ((uf, ug), vp_updL o (0 : Int32).toNatClampNeg rv.toInt64), rfl, (Or.inl (⟨rfl, rv, hu, rfl⟩)), by rw [ht]; exact hP, hD⟩, hS.F ht⟩) hS.2.2 dL_move_22
set_option maxHeartbeats 4000000 in
set_option maxRecDepth 100000 in
/-- the law asks step -/
theorem c_L_step (l : Launch) (hl0 : l.stackTraces = false) (D : va_G) (cA cZ cL : ClassId) (ad : Nat → Nat) (qo : Nat) (f : qFs) (g : qGs) (o : Nat → Int64) (sz : Nat) (r : Int32) (nR : Nat) (nB : Nat) (hI : xI nR nB f) (hL : xL nR g) : Met l yL_step wsL_step ({ frames := 8, cells := 1, slots := 6, locals := 135 } : Room) (va_Pc [.ref (ad 16), .int r, .ref qo] (qPreL D (qTy cA cZ cL) (lW cA cL ad qo f g o) sz)) (va_Qi (fun (z : Int32) (u : (qFs × qGs) × (Nat → Int64)) => (z = 0 ∧ ∃ rv : Int32, ((xRange f r ∧ ¬ xTarg f g r = -1) ∧ rv = xStepK f g r ∧ u.1.1 = f ∧ u.1.2 = xStepG f g r) ∧ u.2 0 = rv.toInt64) ∨ (z = 1 ∧ (¬ xRange f r) ∧ u = ((f, g), o)) ∨ (z = 2 ∧ (xRange f r ∧ xTarg f g r = -1) ∧ u = ((f, g), o))) (qAt D (va_A (lW cA cL ad qo f g o) sz) (fun u : (qFs × qGs) × (Nat → Int64) => lW cA cL ad qo u.1.1 u.1.2 u.2)) (va_A (lW cA cL ad qo f g o) sz)) 1 6 (va_A (lW cA cL ad qo f g o) sz) := by
  refine qMet_ofWH (cc := cL_step) (maxL := 4) (ret := (some .int)) (hh := [(0, 9, 12, 13), (0, 9, 15, 17)]) (by decide) rfl ?_
  intro p e s m args below meth c s₁ B hml hv
  obtain ⟨rfl, hsz, hP, hK, hD0, hTH, hNC⟩ := hv
  have hx := B.exec
  have hb := B.bytes
  have hr := B.returns
  have hts := atoms_spec (ws := wsL_step) B.pre
  have hown : s.vm.findClass RL = some m.cls := findClass_of_methodNamed B.named
  have hlocks := B.notSynchronized
  have hTab := vx_table (x := yL_step) B (hts _ List.mem_cons_self)
  subst hsz
  have hD := hD0.self (sz := s.heap.size)
  generalize hAe : va_A (lW cA cL ad qo f g o) s.heap.size = A at hD ⊢
  have hA : ∀ q : Nat, s.heap.size ≤ q → A q := fun q h => by rw [← hAe]; exact Or.inr h
  have hS : va_S A s.heap s.heap [] := va_S.rf
  have hl := lv_entry ([.ref (ad 16), .int r, .ref qo]) (n := 4) (Nat.le_of_ble_eq_true rfl)
  rw [lg_entry_eq]
  generalize (lg_sl ([.ref (ad 16), .int r, .ref qo]) ++ List.replicate (4 - (lg_sl ([.ref (ad 16), .int r, .ref qo])).length) Slot.unset).toArray = ls at hl ⊢
  have hl : lv_has ls 4 [(0, .ref (ad 16)), (1, .int r), (2, .ref qo)] := hl
  refine lv_aload_n hx hb dL_step_0 rfl (lv_at hl 2 rfl) ?_
  refine lv_iconst (v := 0) hx hb dL_step_1 (by decide) ?_
  refine lv_aload_n hx hb dL_step_2 rfl (lv_at hl 0 rfl) ?_
  refine lv_iload_n hx hb dL_step_3 rfl (lv_at hl 1 rfl) ?_
  have hPc := hP.sub (ws' := xW cA ad f g) [1, 2, 3, 4, 5, 6, 7, 8, 9, 10, 11, 12] rfl
  have hDc := hD.sub (ws' := xW cA ad f g) [1, 2, 3, 4, 5, 6, 7, 8, 9, 10, 11, 12] (by decide) rfl
  refine qb_calliX (wc := xW cA ad f g) (wr := [oW cL qo o]) [1, 2, 3, 4, 5, 6, 7, 8, 9, 10, 11, 12] [0] rfl rfl (by decide) (by decide) hP (vx_runV (As := [.int r]) (rest := [.int 0, .ref qo]) ⟨hx, hb, hml, hown, hts⟩ (c_X0_step l hl0 D cA cZ cL ad f g s.heap.size r nR nB hI hL) (cwV 1 hts gL_step_X0_step rfl rfl rfl (by decide +kernel) ⟨Nat.le_of_ble_eq_true rfl, Nat.le_of_ble_eq_true rfl⟩) ⟨qPreX_blind, va_recv hK hPc (ci := 0) (q0 := 0) rfl rfl, qPreX_at hPc hK hDc (fun U hU hW => qTH_at hTH hU hW)⟩ rfl rfl hl.1 rfl (lv_room (Nat.le_of_ble_eq_true rfl)) dL_step_4 ⟨Nat.le_of_ble_eq_true rfl, Nat.le_of_ble_eq_true rfl⟩) hD hS hA (fun E ce q9 H locs hE hP hS hcell hcv hcl => ?_) (fun rv u H locs hu hP hD hS => ?_)
  · rcases hE with ⟨rfl, hc⟩ | ⟨rfl, hc⟩
    · skip
      refine vx_catch (name := eIO) hown [] (⟨0, 9, 12, 13⟩ : ExceptionTableEntry) [(⟨0, 9, 15, 17⟩ : ExceptionTableEntry)] (by rw [hTab]; rfl) (fun _ h => nomatch h) (by decide) (by decide) (hts _ (List.mem_cons_of_mem _ (List.mem_append_left _ (List.mem_append_left _ (List.mem_append_left _ (List.mem_append_left _ (List.mem_of_getElem? (i := 0) rfl))))))) (va_Nw.use rfl (hTH.2.2.2.1 eIO (by decide))) hcell hcv hcl ?_
      refine lv_astore_n (lv' := [(3, .ref q9), (0, .ref (ad 16)), (1, .int r), (2, .ref qo)]) hx hb dL_step_12 rfl hl (by decide) rfl (fun ls hl => ?_)
      refine lv_iconst (v := 1) hx hb dL_step_13 (by decide) ?_
      exact W.iret (v := 1) hx hb hr (fun t ht hW => ⟨⟨1, ((f, g), o), rfl, (Or.inr (Or.inl (⟨rfl, hc, rfl⟩))), by rw [ht]; exact hP, hD⟩, hS.F ht⟩) hS.2.2 dL_step_14
    · skip
      refine vx_catch (name := eIS) hown [(⟨0, 9, 12, 13⟩ : ExceptionTableEntry)] (⟨0, 9, 15, 17⟩ : ExceptionTableEntry) [] (by rw [hTab]; rfl) (List.forall_mem_cons.mpr ⟨Or.inr ⟨by decide, _, (hts _ (List.mem_cons_of_mem _ (List.mem_append_left _ (List.mem_append_left _ (List.mem_append_left _ (List.mem_append_left _ (List.mem_of_getElem? (i := 0) rfl))))))), hNC.2.1⟩, (fun _ h => nomatch h)⟩) (by decide) (by decide) (hts _ (List.mem_cons_of_mem _ (List.mem_append_left _ (List.mem_append_left _ (List.mem_append_left _ (List.mem_append_left _ (List.mem_of_getElem? (i := 1) rfl))))))) (va_Nw.use rfl (hTH.2.2.2.1 eIS (by decide))) hcell hcv hcl ?_
      refine lv_astore_n (lv' := [(3, .ref q9), (0, .ref (ad 16)), (1, .int r), (2, .ref qo)]) hx hb dL_step_15 rfl hl (by decide) rfl (fun ls hl => ?_)
      refine lv_iconst (v := 2) hx hb dL_step_16 (by decide) ?_
      exact W.iret (v := 2) hx hb hr (fun t ht hW => ⟨⟨2, ((f, g), o), rfl, (Or.inr (Or.inr (⟨rfl, hc, rfl⟩))), by rw [ht]; exact hP, hD⟩, hS.F ht⟩) hS.2.2 dL_step_17
  · refine lv_i2l (v := rv.toInt64) hx hb dL_step_7 rfl ?_
    obtain ⟨uf, ug⟩ := u
    have hP : va_P D vwCl (lW cA cL ad qo uf ug o) H := hP
    have hD : va_D A (lW cA cL ad qo uf ug o) := hD
    refine va_last hx hb hK hP hD hS 0 2 rfl rfl (by unfold vp_in; decide) dL_step_8 (fun H locs hP hD hS => ?_)
    have hP : va_P D vwCl (lW cA cL ad qo uf ug (vp_updL o (0 : Int32).toNatClampNeg rv.toInt64)) H := hP
    have hD : va_D A (lW cA cL ad qo uf ug (vp_updL o (0 : Int32).toNatClampNeg rv.toInt64)) := hD
    refine lv_goto (tgt := 18) hx hb dL_step_9 (by decide) ?_
    refine lv_iconst (v := 0) hx hb dL_step_18 (by decide) ?_
    exact W.iret (v := 0) hx hb hr (fun t ht hW => ⟨⟨0, ((uf, ug), vp_updL o (0 : Int32).toNatClampNeg rv.toInt64), rfl, (Or.inl (⟨rfl, rv, hu, rfl⟩)), by rw [ht]; exact hP, hD⟩, hS.F ht⟩) hS.2.2 dL_step_19
set_option maxHeartbeats 4000000 in
set_option maxRecDepth 100000 in
/-- the law asks giveUp -/
theorem c_L_giveUp (l : Launch) (hl0 : l.stackTraces = false) (D : va_G) (cA cZ cL : ClassId) (ad : Nat → Nat) (qo : Nat) (f : qFs) (g : qGs) (o : Nat → Int64) (sz : Nat) (r : Int32) (nR : Nat) (nB : Nat) (hI : xI nR nB f) (hL : xL nR g) : Met l yL_giveUp wsL_giveUp ({ frames := 8, cells := 1, slots := 6, locals := 134 } : Room) (va_Pc [.ref (ad 16), .int r, .ref qo] (qPreL D (qTy cA cZ cL) (lW cA cL ad qo f g o) sz)) (va_Qi (fun (z : Int32) (u : (qFs × qGs) × (Nat → Int64)) => (z = 0 ∧ ∃ rv : Int32, ((xRange f r ∧ ¬ xTarg f g r = -1) ∧ rv = xMany f g (xTarg f g r) r ∧ u.1.1 = f ∧ u.1.2 = va_up (xDropG f g (xTarg f g r) r) 4 (upd (xDropG f g (xTarg f g r) r 4) r.toNatClampNeg (-1))) ∧ u.2 0 = rv.toInt64) ∨ (z = 1 ∧ (¬ xRange f r) ∧ u = ((f, g), o)) ∨ (z = 2 ∧ (xRange f r ∧ xTarg f g r = -1) ∧ u = ((f, g), o))) (qAt D (va_A (lW cA cL ad qo f g o) sz) (fun u : (qFs × qGs) × (Nat → Int64) => lW cA cL ad qo u.1.1 u.1.2 u.2)) (va_A (lW cA cL ad qo f g o) sz)) 1 6 (va_A (lW cA cL ad qo f g o) sz) := by
  refine qMet_ofWH (cc := cL_giveUp) (maxL := 4) (ret := (some .int)) (hh := [(0, 9, 12, 13), (0, 9, 15, 17)]) (by decide) rfl ?_
  intro p e s m args below meth c s₁ B hml hv
  obtain ⟨rfl, hsz, hP, hK, hD0, hTH, hNC⟩ := hv
  have hx := B.exec
  have hb := B.bytes
  have hr := B.returns
  have hts := atoms_spec (ws := wsL_giveUp) B.pre
  have hown : s.vm.findClass RL = some m.cls := findClass_of_methodNamed B.named
  have hlocks := B.notSynchronized
  have hTab := vx_table (x := yL_giveUp) B (hts _ List.mem_cons_self)
  subst hsz
  have hD := hD0.self (sz := s.heap.size)
  generalize hAe : va_A (lW cA cL ad qo f g o) s.heap.size = A at hD ⊢
  have hA : ∀ q : Nat, s.heap.size ≤ q → A q := fun q h => by rw [← hAe]; exact Or.inr h
  have hS : va_S A s.heap s.heap [] := va_S.rf
  have hl := lv_entry ([.ref (ad 16), .int r, .ref qo]) (n := 4) (Nat.le_of_ble_eq_true rfl)
  rw [lg_entry_eq]
  generalize (lg_sl ([.ref (ad 16), .int r, .ref qo]) ++ List.replicate (4 - (lg_sl ([.ref (ad 16), .int r, .ref qo])).length) Slot.unset).toArray = ls at hl ⊢
  have hl : lv_has ls 4 [(0, .ref (ad 16)), (1, .int r), (2, .ref qo)] := hl
  refine lv_aload_n hx hb dL_giveUp_0 rfl (lv_at hl 2 rfl) ?_
  refine lv_iconst (v := 0) hx hb dL_giveUp_1 (by decide) ?_
  refine lv_aload_n hx hb dL_giveUp_2 rfl (lv_at hl 0 rfl) ?_
  refine lv_iload_n hx hb dL_giveUp_3 rfl (lv_at hl 1 rfl) ?_
  have hPc := hP.sub (ws' := xW cA ad f g) [1, 2, 3, 4, 5, 6, 7, 8, 9, 10, 11, 12] rfl
  have hDc := hD.sub (ws' := xW cA ad f g) [1, 2, 3, 4, 5, 6, 7, 8, 9, 10, 11, 12] (by decide) rfl
  refine qb_calliX (wc := xW cA ad f g) (wr := [oW cL qo o]) [1, 2, 3, 4, 5, 6, 7, 8, 9, 10, 11, 12] [0] rfl rfl (by decide) (by decide) hP (vx_runV (As := [.int r]) (rest := [.int 0, .ref qo]) ⟨hx, hb, hml, hown, hts⟩ (c_X0_giveUp l hl0 D cA cZ cL ad f g s.heap.size r nR nB hI hL) (cwV 1 hts gL_giveUp_X0_giveUp rfl rfl rfl (by decide +kernel) ⟨Nat.le_of_ble_eq_true rfl, Nat.le_of_ble_eq_true rfl⟩) ⟨qPreX_blind, va_recv hK hPc (ci := 0) (q0 := 0) rfl rfl, qPreX_at hPc hK hDc (fun U hU hW => qTH_at hTH hU hW)⟩ rfl rfl hl.1 rfl (lv_room (Nat.le_of_ble_eq_true rfl)) dL_giveUp_4 ⟨Nat.le_of_ble_eq_true rfl, Nat.le_of_ble_eq_true rfl⟩) hD hS hA (fun E ce q9 H locs hE hP hS hcell hcv hcl => ?_) (fun rv u H locs hu hP hD hS => ?_)
  · rcases hE with ⟨rfl, hc⟩ | ⟨rfl, hc⟩
    · skip
      refine vx_catch (name := eIO) hown [] (⟨0, 9, 12, 13⟩ : ExceptionTableEntry) [(⟨0, 9, 15, 17⟩ : ExceptionTableEntry)] (by rw [hTab]; rfl) (fun _ h => nomatch h) (by decide) (by decide) (hts _ (List.mem_cons_of_mem _ (List.mem_append_left _ (List.mem_append_left _ (List.mem_append_left _ (List.mem_append_left _ (List.mem_of_getElem? (i := 0) rfl))))))) (va_Nw.use rfl (hTH.2.2.2.1 eIO (by decide))) hcell hcv hcl ?_
      refine lv_astore_n (lv' := [(3, .ref q9), (0, .ref (ad 16)), (1, .int r), (2, .ref qo)]) hx hb dL_giveUp_12 rfl hl (by decide) rfl (fun ls hl => ?_)
      refine lv_iconst (v := 1) hx hb dL_giveUp_13 (by decide) ?_
      exact W.iret (v := 1) hx hb hr (fun t ht hW => ⟨⟨1, ((f, g), o), rfl, (Or.inr (Or.inl (⟨rfl, hc, rfl⟩))), by rw [ht]; exact hP, hD⟩, hS.F ht⟩) hS.2.2 dL_giveUp_14
    · skip
      refine vx_catch (name := eIS) hown [(⟨0, 9, 12, 13⟩ : ExceptionTableEntry)] (⟨0, 9, 15, 17⟩ : ExceptionTableEntry) [] (by rw [hTab]; rfl) (List.forall_mem_cons.mpr ⟨Or.inr ⟨by decide, _, (hts _ (List.mem_cons_of_mem _ (List.mem_append_left _ (List.mem_append_left _ (List.mem_append_left _ (List.mem_append_left _ (List.mem_of_getElem? (i := 0) rfl))))))), hNC.2.1⟩, (fun _ h => nomatch h)⟩) (by decide) (by decide) (hts _ (List.mem_cons_of_mem _ (List.mem_append_left _ (List.mem_append_left _ (List.mem_append_left _ (List.mem_append_left _ (List.mem_of_getElem? (i := 1) rfl))))))) (va_Nw.use rfl (hTH.2.2.2.1 eIS (by decide))) hcell hcv hcl ?_
      refine lv_astore_n (lv' := [(3, .ref q9), (0, .ref (ad 16)), (1, .int r), (2, .ref qo)]) hx hb dL_giveUp_15 rfl hl (by decide) rfl (fun ls hl => ?_)
      refine lv_iconst (v := 2) hx hb dL_giveUp_16 (by decide) ?_
      exact W.iret (v := 2) hx hb hr (fun t ht hW => ⟨⟨2, ((f, g), o), rfl, (Or.inr (Or.inr (⟨rfl, hc, rfl⟩))), by rw [ht]; exact hP, hD⟩, hS.F ht⟩) hS.2.2 dL_giveUp_17
  · refine lv_i2l (v := rv.toInt64) hx hb dL_giveUp_7 rfl ?_
    obtain ⟨uf, ug⟩ := u
    have hP : va_P D vwCl (lW cA cL ad qo uf ug o) H := hP
    have hD : va_D A (lW cA cL ad qo uf ug o) := hD
    refine va_last hx hb hK hP hD hS 0 2 rfl rfl (by unfold vp_in; decide) dL_giveUp_8 (fun H locs hP hD hS => ?_)
    have hP : va_P D vwCl (lW cA cL ad qo uf ug (vp_updL o (0 : Int32).toNatClampNeg rv.toInt64)) H := hP
    have hD : va_D A (lW cA cL ad qo uf ug (vp_updL o (0 : Int32).toNatClampNeg rv.toInt64)) := hD
    refine lv_goto (tgt := 18) hx hb dL_giveUp_9 (by decide) ?_
    refine lv_iconst (v := 0) hx hb dL_giveUp_18 (by decide) ?_
    exact W.iret (v := 0) hx hb hr (fun t ht hW => ⟨⟨0, ((uf, ug), vp_updL o (0 : Int32).toNatClampNeg rv.toInt64), rfl, (Or.inl (⟨rfl, rv, hu, rfl⟩)), by rw [ht]; exact hP, hD⟩, hS.F ht⟩) hS.2.2 dL_giveUp_19
set_option maxHeartbeats 4000000 in
set_option maxRecDepth 100000 in
/-- the law asks rangeOf -/
theorem c_L_rangeOf (l : Launch) (hl0 : l.stackTraces = false) (D : va_G) (cA cZ cL : ClassId) (ad : Nat → Nat) (qo : Nat) (f : qFs) (g : qGs) (o : Nat → Int64) (sz : Nat) (k : Int32) (nR : Nat) (nB : Nat) (hI : xI nR nB f) : Met l yL_rangeOf wsL_rangeOf ({ frames := 8, cells := 1, slots := 6, locals := 131 } : Room) (va_Pc [.ref (ad 16), .int k, .ref qo] (qPreL D (qTy cA cZ cL) (lW cA cL ad qo f g o) sz)) (va_Qi (fun (z : Int32) (u : (qFs × qGs) × (Nat → Int64)) => (z = 0 ∧ ∃ rv : Int32, (xKey k ∧ rv = nI (xHold nR g k)) ∧ u.1 = (f, g) ∧ u.2 0 = rv.toInt64) ∨ (z = 1 ∧ (¬ xKey k) ∧ u = ((f, g), o))) (qAt D (va_A (lW cA cL ad qo f g o) sz) (fun u : (qFs × qGs) × (Nat → Int64) => lW cA cL ad qo u.1.1 u.1.2 u.2)) (va_A (lW cA cL ad qo f g o) sz)) 1 6 (va_A (lW cA cL ad qo f g o) sz) := by
  refine qMet_ofWH (cc := cL_rangeOf) (maxL := 4) (ret := (some .int)) (hh := [(0, 9, 12, 13)]) (by decide) rfl ?_
  intro p e s m args below meth c s₁ B hml hv
  obtain ⟨rfl, hsz, hP, hK, hD0, hTH, hNC⟩ := hv
  have hx := B.exec
  have hb := B.bytes
  have hr := B.returns
  have hts := atoms_spec (ws := wsL_rangeOf) B.pre
  have hown : s.vm.findClass RL = some m.cls := findClass_of_methodNamed B.named
  have hlocks := B.notSynchronized
  have hTab := vx_table (x := yL_rangeOf) B (hts _ List.mem_cons_self)
  subst hsz
  have hD := hD0.self (sz := s.heap.size)
  generalize hAe : va_A (lW cA cL ad qo f g o) s.heap.size = A at hD ⊢
  have hA : ∀ q : Nat, s.heap.size ≤ q → A q := fun q h => by rw [← hAe]; exact Or.inr h
  have hS : va_S A s.heap s.heap [] := va_S.rf
  have hl := lv_entry ([.ref (ad 16), .int k, .ref qo]) (n := 4) (Nat.le_of_ble_eq_true rfl)
  rw [lg_entry_eq]
  generalize (lg_sl ([.ref (ad 16), .int k, .ref qo]) ++ List.replicate (4 - (lg_sl ([.ref (ad 16), .int k, .ref qo])).length) Slot.unset).toArray = ls at hl ⊢
  have hl : lv_has ls 4 [(0, .ref (ad 16)), (1, .int k), (2, .ref qo)] := hl
  refine lv_aload_n hx hb dL_rangeOf_0 rfl (lv_at hl 2 rfl) ?_
  refine lv_iconst (v := 0) hx hb dL_rangeOf_1 (by decide) ?_
  refine lv_aload_n hx hb dL_rangeOf_2 rfl (lv_at hl 0 rfl) ?_
  refine lv_iload_n hx hb dL_rangeOf_3 rfl (lv_at hl 1 rfl) ?_
  have hPc := hP.sub (ws' := xW cA ad f g) [1, 2, 3, 4, 5, 6, 7, 8, 9, 10, 11, 12] rfl
  have hDc := hD.sub (ws' := xW cA ad f g) [1, 2, 3, 4, 5, 6, 7, 8, 9, 10, 11, 12] (by decide) rfl
  refine qb_readX hP (vx_runV (As := [.int k]) (rest := [.int 0, .ref qo]) ⟨hx, hb, hml, hown, hts⟩ (c_X0_rangeOf l hl0 D cA cZ cL ad f g k nR nB hI) (cwV 1 hts gL_rangeOf_X0_rangeOf rfl rfl rfl (by decide +kernel) ⟨Nat.le_of_ble_eq_true rfl, Nat.le_of_ble_eq_true rfl⟩) ⟨qPreT_blind, va_recv hK hPc (ci := 0) (q0 := 0) rfl rfl, qPreT_at hPc hK hTH rfl⟩ rfl rfl hl.1 rfl (lv_room (Nat.le_of_ble_eq_true rfl)) dL_rangeOf_4 ⟨Nat.le_of_ble_eq_true rfl, Nat.le_of_ble_eq_true rfl⟩) hS (fun E ce q9 H locs hE hP hS hcell hcv hcl => ?_) (fun rv hu => ?_)
  · obtain ⟨rfl, hc⟩ := hE
    refine vx_catch (name := eIO) hown [] (⟨0, 9, 12, 13⟩ : ExceptionTableEntry) [] (by rw [hTab]; rfl) (fun _ h => nomatch h) (by decide) (by decide) (hts _ (List.mem_cons_of_mem _ (List.mem_append_left _ (List.mem_append_left _ (List.mem_append_left _ (List.mem_of_getElem? (i := 0) rfl)))))) (va_Nw.use rfl (hTH.2.2.2.1 eIO (by decide))) hcell hcv hcl ?_
    refine lv_astore_n (lv' := [(3, .ref q9), (0, .ref (ad 16)), (1, .int k), (2, .ref qo)]) hx hb dL_rangeOf_12 rfl hl (by decide) rfl (fun ls hl => ?_)
    refine lv_iconst (v := 1) hx hb dL_rangeOf_13 (by decide) ?_
    exact W.iret (v := 1) hx hb hr (fun t ht hW => ⟨⟨1, ((f, g), o), rfl, (Or.inr (⟨rfl, hc, rfl⟩)), by rw [ht]; exact hP, hD⟩, hS.F ht⟩) hS.2.2 dL_rangeOf_14
  · refine lv_i2l (v := rv.toInt64) hx hb dL_rangeOf_7 rfl ?_
    refine va_last hx hb hK hP hD hS 0 2 rfl rfl (by unfold vp_in; decide) dL_rangeOf_8 (fun H locs hP hD hS => ?_)
    have hP : va_P D vwCl (lW cA cL ad qo f g (vp_updL o (0 : Int32).toNatClampNeg rv.toInt64)) H := hP
    have hD : va_D A (lW cA cL ad qo f g (vp_updL o (0 : Int32).toNatClampNeg rv.toInt64)) := hD
    refine lv_goto (tgt := 15) hx hb dL_rangeOf_9 (by decide) ?_
    refine lv_iconst (v := 0) hx hb dL_rangeOf_15 (by decide) ?_
    exact W.iret (v := 0) hx hb hr (fun t ht hW => ⟨⟨0, ((f, g), vp_updL o (0 : Int32).toNatClampNeg rv.toInt64), rfl, (Or.inl (⟨rfl, rv, hu, rfl, rfl⟩)), by rw [ht]; exact hP, hD⟩, hS.F ht⟩) hS.2.2 dL_rangeOf_16
set_option maxHeartbeats 4000000 in
set_option maxRecDepth 100000 in
/-- the law asks shardOf -/
theorem c_L_shardOf (l : Launch) (hl0 : l.stackTraces = false) (D : va_G) (cA cZ cL : ClassId) (ad : Nat → Nat) (qo : Nat) (f : qFs) (g : qGs) (o : Nat → Int64) (sz : Nat) (r : Int32) (nR : Nat) (nB : Nat) (hI : xI nR nB f) : Met l yL_shardOf wsL_shardOf ({ frames := 8, cells := 1, slots := 6, locals := 132 } : Room) (va_Pc [.ref (ad 16), .int r, .ref qo] (qPreL D (qTy cA cZ cL) (lW cA cL ad qo f g o) sz)) (va_Qi (fun (z : Int32) (u : (qFs × qGs) × (Nat → Int64)) => (z = 0 ∧ ∃ rv : Int32, (xRange f r ∧ rv = g 3 r.toNatClampNeg) ∧ u.1 = (f, g) ∧ u.2 0 = rv.toInt64) ∨ (z = 1 ∧ (¬ xRange f r) ∧ u = ((f, g), o))) (qAt D (va_A (lW cA cL ad qo f g o) sz) (fun u : (qFs × qGs) × (Nat → Int64) => lW cA cL ad qo u.1.1 u.1.2 u.2)) (va_A (lW cA cL ad qo f g o) sz)) 1 6 (va_A (lW cA cL ad qo f g o) sz) := by
  refine qMet_ofWH (cc := cL_shardOf) (maxL := 4) (ret := (some .int)) (hh := [(0, 9, 12, 13)]) (by decide) rfl ?_
  intro p e s m args below meth c s₁ B hml hv
  obtain ⟨rfl, hsz, hP, hK, hD0, hTH, hNC⟩ := hv
  have hx := B.exec
  have hb := B.bytes
  have hr := B.returns
  have hts := atoms_spec (ws := wsL_shardOf) B.pre
  have hown : s.vm.findClass RL = some m.cls := findClass_of_methodNamed B.named
  have hlocks := B.notSynchronized
  have hTab := vx_table (x := yL_shardOf) B (hts _ List.mem_cons_self)
  subst hsz
  have hD := hD0.self (sz := s.heap.size)
  generalize hAe : va_A (lW cA cL ad qo f g o) s.heap.size = A at hD ⊢
  have hA : ∀ q : Nat, s.heap.size ≤ q → A q := fun q h => by rw [← hAe]; exact Or.inr h
  have hS : va_S A s.heap s.heap [] := va_S.rf
  have hl := lv_entry ([.ref (ad 16), .int r, .ref qo]) (n := 4) (Nat.le_of_ble_eq_true rfl)
  rw [lg_entry_eq]
  generalize (lg_sl ([.ref (ad 16), .int r, .ref qo]) ++ List.replicate (4 - (lg_sl ([.ref (ad 16), .int r, .ref qo])).length) Slot.unset).toArray = ls at hl ⊢
  have hl : lv_has ls 4 [(0, .ref (ad 16)), (1, .int r), (2, .ref qo)] := hl
  refine lv_aload_n hx hb dL_shardOf_0 rfl (lv_at hl 2 rfl) ?_
  refine lv_iconst (v := 0) hx hb dL_shardOf_1 (by decide) ?_
  refine lv_aload_n hx hb dL_shardOf_2 rfl (lv_at hl 0 rfl) ?_
  refine lv_iload_n hx hb dL_shardOf_3 rfl (lv_at hl 1 rfl) ?_
  have hPc := hP.sub (ws' := xW cA ad f g) [1, 2, 3, 4, 5, 6, 7, 8, 9, 10, 11, 12] rfl
  have hDc := hD.sub (ws' := xW cA ad f g) [1, 2, 3, 4, 5, 6, 7, 8, 9, 10, 11, 12] (by decide) rfl
  refine qb_readX hP (vx_runV (As := [.int r]) (rest := [.int 0, .ref qo]) ⟨hx, hb, hml, hown, hts⟩ (c_X0_shardOf l hl0 D cA cZ cL ad f g r nR nB hI) (cwV 1 hts gL_shardOf_X0_shardOf rfl rfl rfl (by decide +kernel) ⟨Nat.le_of_ble_eq_true rfl, Nat.le_of_ble_eq_true rfl⟩) ⟨qPreT_blind, va_recv hK hPc (ci := 0) (q0 := 0) rfl rfl, qPreT_at hPc hK hTH rfl⟩ rfl rfl hl.1 rfl (lv_room (Nat.le_of_ble_eq_true rfl)) dL_shardOf_4 ⟨Nat.le_of_ble_eq_true rfl, Nat.le_of_ble_eq_true rfl⟩) hS (fun E ce q9 H locs hE hP hS hcell hcv hcl => ?_) (fun rv hu => ?_)
  · obtain ⟨rfl, hc⟩ := hE
    refine vx_catch (name := eIO) hown [] (⟨0, 9, 12, 13⟩ : ExceptionTableEntry) [] (by rw [hTab]; rfl) (fun _ h => nomatch h) (by decide) (by decide) (hts _ (List.mem_cons_of_mem _ (List.mem_append_left _ (List.mem_append_left _ (List.mem_of_getElem? (i := 0) rfl))))) (va_Nw.use rfl (hTH.2.2.2.1 eIO (by decide))) hcell hcv hcl ?_
    refine lv_astore_n (lv' := [(3, .ref q9), (0, .ref (ad 16)), (1, .int r), (2, .ref qo)]) hx hb dL_shardOf_12 rfl hl (by decide) rfl (fun ls hl => ?_)
    refine lv_iconst (v := 1) hx hb dL_shardOf_13 (by decide) ?_
    exact W.iret (v := 1) hx hb hr (fun t ht hW => ⟨⟨1, ((f, g), o), rfl, (Or.inr (⟨rfl, hc, rfl⟩)), by rw [ht]; exact hP, hD⟩, hS.F ht⟩) hS.2.2 dL_shardOf_14
  · refine lv_i2l (v := rv.toInt64) hx hb dL_shardOf_7 rfl ?_
    refine va_last hx hb hK hP hD hS 0 2 rfl rfl (by unfold vp_in; decide) dL_shardOf_8 (fun H locs hP hD hS => ?_)
    have hP : va_P D vwCl (lW cA cL ad qo f g (vp_updL o (0 : Int32).toNatClampNeg rv.toInt64)) H := hP
    have hD : va_D A (lW cA cL ad qo f g (vp_updL o (0 : Int32).toNatClampNeg rv.toInt64)) := hD
    refine lv_goto (tgt := 15) hx hb dL_shardOf_9 (by decide) ?_
    refine lv_iconst (v := 0) hx hb dL_shardOf_15 (by decide) ?_
    exact W.iret (v := 0) hx hb hr (fun t ht hW => ⟨⟨0, ((f, g), vp_updL o (0 : Int32).toNatClampNeg rv.toInt64), rfl, (Or.inl (⟨rfl, rv, hu, rfl, rfl⟩)), by rw [ht]; exact hP, hD⟩, hS.F ht⟩) hS.2.2 dL_shardOf_16
set_option maxHeartbeats 4000000 in
set_option maxRecDepth 100000 in
/-- the law asks rows -/
theorem c_L_rows (l : Launch) (hl0 : l.stackTraces = false) (D : va_G) (cA cZ cL : ClassId) (ad : Nat → Nat) (qo : Nat) (f : qFs) (g : qGs) (o : Nat → Int64) (sz : Nat) (sh : Int32) : Met l yL_rows wsL_rows ({ frames := 8, cells := 1, slots := 6, locals := 131 } : Room) (va_Pc [.ref (ad 16), .int sh, .ref qo] (qPreL D (qTy cA cZ cL) (lW cA cL ad qo f g o) sz)) (va_Qi (fun (z : Int32) (u : (qFs × qGs) × (Nat → Int64)) => (z = 0 ∧ ∃ rv : Int32, (xShard sh ∧ rv = nI (cnt (xRowP g sh) 0 100)) ∧ u.1 = (f, g) ∧ u.2 0 = rv.toInt64) ∨ (z = 1 ∧ (¬ xShard sh) ∧ u = ((f, g), o))) (qAt D (va_A (lW cA cL ad qo f g o) sz) (fun u : (qFs × qGs) × (Nat → Int64) => lW cA cL ad qo u.1.1 u.1.2 u.2)) (va_A (lW cA cL ad qo f g o) sz)) 1 6 (va_A (lW cA cL ad qo f g o) sz) := by
  refine qMet_ofWH (cc := cL_rows) (maxL := 4) (ret := (some .int)) (hh := [(0, 9, 12, 13)]) (by decide) rfl ?_
  intro p e s m args below meth c s₁ B hml hv
  obtain ⟨rfl, hsz, hP, hK, hD0, hTH, hNC⟩ := hv
  have hx := B.exec
  have hb := B.bytes
  have hr := B.returns
  have hts := atoms_spec (ws := wsL_rows) B.pre
  have hown : s.vm.findClass RL = some m.cls := findClass_of_methodNamed B.named
  have hlocks := B.notSynchronized
  have hTab := vx_table (x := yL_rows) B (hts _ List.mem_cons_self)
  subst hsz
  have hD := hD0.self (sz := s.heap.size)
  generalize hAe : va_A (lW cA cL ad qo f g o) s.heap.size = A at hD ⊢
  have hA : ∀ q : Nat, s.heap.size ≤ q → A q := fun q h => by rw [← hAe]; exact Or.inr h
  have hS : va_S A s.heap s.heap [] := va_S.rf
  have hl := lv_entry ([.ref (ad 16), .int sh, .ref qo]) (n := 4) (Nat.le_of_ble_eq_true rfl)
  rw [lg_entry_eq]
  generalize (lg_sl ([.ref (ad 16), .int sh, .ref qo]) ++ List.replicate (4 - (lg_sl ([.ref (ad 16), .int sh, .ref qo])).length) Slot.unset).toArray = ls at hl ⊢
  have hl : lv_has ls 4 [(0, .ref (ad 16)), (1, .int sh), (2, .ref qo)] := hl
  refine lv_aload_n hx hb dL_rows_0 rfl (lv_at hl 2 rfl) ?_
  refine lv_iconst (v := 0) hx hb dL_rows_1 (by decide) ?_
  refine lv_aload_n hx hb dL_rows_2 rfl (lv_at hl 0 rfl) ?_
  refine lv_iload_n hx hb dL_rows_3 rfl (lv_at hl 1 rfl) ?_
  have hPc := hP.sub (ws' := xW cA ad f g) [1, 2, 3, 4, 5, 6, 7, 8, 9, 10, 11, 12] rfl
  have hDc := hD.sub (ws' := xW cA ad f g) [1, 2, 3, 4, 5, 6, 7, 8, 9, 10, 11, 12] (by decide) rfl
  refine qb_readX hP (vx_runV (As := [.int sh]) (rest := [.int 0, .ref qo]) ⟨hx, hb, hml, hown, hts⟩ (c_X0_rows l hl0 D cA cZ cL ad f g sh) (cwV 1 hts gL_rows_X0_rows rfl rfl rfl (by decide +kernel) ⟨Nat.le_of_ble_eq_true rfl, Nat.le_of_ble_eq_true rfl⟩) ⟨qPreT_blind, va_recv hK hPc (ci := 0) (q0 := 0) rfl rfl, qPreT_at hPc hK hTH rfl⟩ rfl rfl hl.1 rfl (lv_room (Nat.le_of_ble_eq_true rfl)) dL_rows_4 ⟨Nat.le_of_ble_eq_true rfl, Nat.le_of_ble_eq_true rfl⟩) hS (fun E ce q9 H locs hE hP hS hcell hcv hcl => ?_) (fun rv hu => ?_)
  · obtain ⟨rfl, hc⟩ := hE
    refine vx_catch (name := eIO) hown [] (⟨0, 9, 12, 13⟩ : ExceptionTableEntry) [] (by rw [hTab]; rfl) (fun _ h => nomatch h) (by decide) (by decide) (hts _ (List.mem_cons_of_mem _ (List.mem_append_left _ (List.mem_append_left _ (List.mem_append_left _ (List.mem_of_getElem? (i := 0) rfl)))))) (va_Nw.use rfl (hTH.2.2.2.1 eIO (by decide))) hcell hcv hcl ?_
    refine lv_astore_n (lv' := [(3, .ref q9), (0, .ref (ad 16)), (1, .int sh), (2, .ref qo)]) hx hb dL_rows_12 rfl hl (by decide) rfl (fun ls hl => ?_)
    refine lv_iconst (v := 1) hx hb dL_rows_13 (by decide) ?_
    exact W.iret (v := 1) hx hb hr (fun t ht hW => ⟨⟨1, ((f, g), o), rfl, (Or.inr (⟨rfl, hc, rfl⟩)), by rw [ht]; exact hP, hD⟩, hS.F ht⟩) hS.2.2 dL_rows_14
  · refine lv_i2l (v := rv.toInt64) hx hb dL_rows_7 rfl ?_
    refine va_last hx hb hK hP hD hS 0 2 rfl rfl (by unfold vp_in; decide) dL_rows_8 (fun H locs hP hD hS => ?_)
    have hP : va_P D vwCl (lW cA cL ad qo f g (vp_updL o (0 : Int32).toNatClampNeg rv.toInt64)) H := hP
    have hD : va_D A (lW cA cL ad qo f g (vp_updL o (0 : Int32).toNatClampNeg rv.toInt64)) := hD
    refine lv_goto (tgt := 15) hx hb dL_rows_9 (by decide) ?_
    refine lv_iconst (v := 0) hx hb dL_rows_15 (by decide) ?_
    exact W.iret (v := 0) hx hb hr (fun t ht hW => ⟨⟨0, ((f, g), vp_updL o (0 : Int32).toNatClampNeg rv.toInt64), rfl, (Or.inl (⟨rfl, rv, hu, rfl, rfl⟩)), by rw [ht]; exact hP, hD⟩, hS.F ht⟩) hS.2.2 dL_rows_16
set_option maxHeartbeats 4000000 in
set_option maxRecDepth 100000 in
/-- the law asks fix -/
theorem c_L_fix (l : Launch) (hl0 : l.stackTraces = false) (D : va_G) (cA cZ cL : ClassId) (ad : Nat → Nat) (qo : Nat) (f : qFs) (g : qGs) (o : Nat → Int64) (sz : Nat) (nR : Nat) (nB : Nat) (hI : xI nR nB f) : Met l yL_fix wsL_fix ({ frames := 7, cells := 1, slots := 6, locals := 111 } : Room) (va_Pc [.ref (ad 16), .ref qo] (qPreL D (qTy cA cZ cL) (lW cA cL ad qo f g o) sz)) (va_Qi (fun (z : Int32) (u : (qFs × qGs) × (Nat → Int64)) => (z = 0 ∧ ∃ rv : Int32, (f 7 = 0 ∧ rv = f 1 ∧ u.1.1 = va_up (va_up f 7 1) 8 (f 8 + 1) ∧ u.1.2 = va_up g 6 (fun j => if j < 100 then xDist (xRead nR f g (nI j)) else g 6 j)) ∧ u.2 0 = rv.toInt64) ∨ (z = 1 ∧ (¬ f 7 = 0) ∧ u = ((f, g), o))) (qAt D (va_A (lW cA cL ad qo f g o) sz) (fun u : (qFs × qGs) × (Nat → Int64) => lW cA cL ad qo u.1.1 u.1.2 u.2)) (va_A (lW cA cL ad qo f g o) sz)) 1 6 (va_A (lW cA cL ad qo f g o) sz) := by
  refine qMet_ofWH (cc := cL_fix) (maxL := 3) (ret := (some .int)) (hh := [(0, 8, 11, 17)]) (by decide) rfl ?_
  intro p e s m args below meth c s₁ B hml hv
  obtain ⟨rfl, hsz, hP, hK, hD0, hTH, hNC⟩ := hv
  have hx := B.exec
  have hb := B.bytes
  have hr := B.returns
  have hts := atoms_spec (ws := wsL_fix) B.pre
  have hown : s.vm.findClass RL = some m.cls := findClass_of_methodNamed B.named
  have hlocks := B.notSynchronized
  have hTab := vx_table (x := yL_fix) B (hts _ List.mem_cons_self)
  subst hsz
  have hD := hD0.self (sz := s.heap.size)
  generalize hAe : va_A (lW cA cL ad qo f g o) s.heap.size = A at hD ⊢
  have hA : ∀ q : Nat, s.heap.size ≤ q → A q := fun q h => by rw [← hAe]; exact Or.inr h
  have hS : va_S A s.heap s.heap [] := va_S.rf
  have hl := lv_entry ([.ref (ad 16), .ref qo]) (n := 3) (Nat.le_of_ble_eq_true rfl)
  rw [lg_entry_eq]
  generalize (lg_sl ([.ref (ad 16), .ref qo]) ++ List.replicate (3 - (lg_sl ([.ref (ad 16), .ref qo])).length) Slot.unset).toArray = ls at hl ⊢
  have hl : lv_has ls 3 [(0, .ref (ad 16)), (1, .ref qo)] := hl
  refine lv_aload_n hx hb dL_fix_0 rfl (lv_at hl 1 rfl) ?_
  refine lv_iconst (v := 0) hx hb dL_fix_1 (by decide) ?_
  refine lv_aload_n hx hb dL_fix_2 rfl (lv_at hl 0 rfl) ?_
  have hPc := hP.sub (ws' := xW cA ad f g) [1, 2, 3, 4, 5, 6, 7, 8, 9, 10, 11, 12] rfl
  have hDc := hD.sub (ws' := xW cA ad f g) [1, 2, 3, 4, 5, 6, 7, 8, 9, 10, 11, 12] (by decide) rfl
  refine qb_calliX (wc := xW cA ad f g) (wr := [oW cL qo o]) [1, 2, 3, 4, 5, 6, 7, 8, 9, 10, 11, 12] [0] rfl rfl (by decide) (by decide) hP (vx_runV (As := []) (rest := [.int 0, .ref qo]) ⟨hx, hb, hml, hown, hts⟩ (c_X0_fix l hl0 D cA cZ cL ad f g s.heap.size nR nB hI) (cwV 0 hts gL_fix_X0_fix rfl rfl rfl (by decide +kernel) ⟨Nat.le_of_ble_eq_true rfl, Nat.le_of_ble_eq_true rfl⟩) ⟨qPreX_blind, va_recv hK hPc (ci := 0) (q0 := 0) rfl rfl, qPreX_at hPc hK hDc (fun U hU hW => qTH_at hTH hU hW)⟩ rfl rfl hl.1 rfl (lv_room (Nat.le_of_ble_eq_true rfl)) dL_fix_3 ⟨Nat.le_of_ble_eq_true rfl, Nat.le_of_ble_eq_true rfl⟩) hD hS hA (fun E ce q9 H locs hE hP hS hcell hcv hcl => ?_) (fun rv u H locs hu hP hD hS => ?_)
  · obtain ⟨rfl, hc⟩ := hE
    refine vx_catch (name := eIS) hown [] (⟨0, 8, 11, 17⟩ : ExceptionTableEntry) [] (by rw [hTab]; rfl) (fun _ h => nomatch h) (by decide) (by decide) (hts _ (List.mem_cons_of_mem _ (List.mem_append_left _ (List.mem_append_left _ (List.mem_append_left _ (List.mem_of_getElem? (i := 0) rfl)))))) (va_Nw.use rfl (hTH.2.2.2.1 eIS (by decide))) hcell hcv hcl ?_
    refine lv_astore_n (lv' := [(2, .ref q9), (0, .ref (ad 16)), (1, .ref qo)]) hx hb dL_fix_11 rfl hl (by decide) rfl (fun ls hl => ?_)
    refine lv_iconst (v := 1) hx hb dL_fix_12 (by decide) ?_
    exact W.iret (v := 1) hx hb hr (fun t ht hW => ⟨⟨1, ((f, g), o), rfl, (Or.inr (⟨rfl, hc, rfl⟩)), by rw [ht]; exact hP, hD⟩, hS.F ht⟩) hS.2.2 dL_fix_13
  · refine lv_i2l (v := rv.toInt64) hx hb dL_fix_6 rfl ?_
    obtain ⟨uf, ug⟩ := u
    have hP : va_P D vwCl (lW cA cL ad qo uf ug o) H := hP
    have hD : va_D A (lW cA cL ad qo uf ug o) := hD
    refine va_last hx hb hK hP hD hS 0 2 rfl rfl (by unfold vp_in; decide) dL_fix_7 (fun H locs hP hD hS => ?_)
    have hP : va_P D vwCl (lW cA cL ad qo uf ug (vp_updL o (0 : Int32).toNatClampNeg rv.toInt64)) H := hP
    have hD : va_D A (lW cA cL ad qo uf ug (vp_updL o (0 : Int32).toNatClampNeg rv.toInt64)) := hD
    refine lv_goto (tgt := 14) hx hb dL_fix_8 (by decide) ?_
    refine lv_iconst (v := 0) hx hb dL_fix_14 (by decide) ?_
    exact W.iret (v := 0) hx hb hr (fun t ht hW => ⟨⟨0, ((uf, ug), vp_updL o (0 : Int32).toNatClampNeg rv.toInt64), rfl, (Or.inl (⟨rfl, rv, hu, rfl⟩)), by rw [ht]; exact hP, hD⟩, hS.F ht⟩) hS.2.2 dL_fix_15
set_option maxHeartbeats 4000000 in
set_option maxRecDepth 100000 in
/-- the law asks onRoll -/
theorem c_L_onRoll (l : Launch) (hl0 : l.stackTraces = false) (D : va_G) (cA cZ cL : ClassId) (ad : Nat → Nat) (qo : Nat) (f : qFs) (g : qGs) (o : Nat → Int64) (sz : Nat) (k : Int32) : Met l yL_onRoll wsL_onRoll ({ frames := 8, cells := 1, slots := 6, locals := 131 } : Room) (va_Pc [.ref (ad 16), .int k, .ref qo] (qPreL D (qTy cA cZ cL) (lW cA cL ad qo f g o) sz)) (va_Qi (fun (z : Int32) (u : (qFs × qGs) × (Nat → Int64)) => (z = 0 ∧ ∃ rv : Int32, (xKey k ∧ rv = (if f 7 = 0 then -1 else g 6 k.toNatClampNeg)) ∧ u.1 = (f, g) ∧ u.2 0 = rv.toInt64) ∨ (z = 1 ∧ (¬ xKey k) ∧ u = ((f, g), o))) (qAt D (va_A (lW cA cL ad qo f g o) sz) (fun u : (qFs × qGs) × (Nat → Int64) => lW cA cL ad qo u.1.1 u.1.2 u.2)) (va_A (lW cA cL ad qo f g o) sz)) 1 6 (va_A (lW cA cL ad qo f g o) sz) := by
  refine qMet_ofWH (cc := cL_onRoll) (maxL := 4) (ret := (some .int)) (hh := [(0, 9, 12, 13)]) (by decide) rfl ?_
  intro p e s m args below meth c s₁ B hml hv
  obtain ⟨rfl, hsz, hP, hK, hD0, hTH, hNC⟩ := hv
  have hx := B.exec
  have hb := B.bytes
  have hr := B.returns
  have hts := atoms_spec (ws := wsL_onRoll) B.pre
  have hown : s.vm.findClass RL = some m.cls := findClass_of_methodNamed B.named
  have hlocks := B.notSynchronized
  have hTab := vx_table (x := yL_onRoll) B (hts _ List.mem_cons_self)
  subst hsz
  have hD := hD0.self (sz := s.heap.size)
  generalize hAe : va_A (lW cA cL ad qo f g o) s.heap.size = A at hD ⊢
  have hA : ∀ q : Nat, s.heap.size ≤ q → A q := fun q h => by rw [← hAe]; exact Or.inr h
  have hS : va_S A s.heap s.heap [] := va_S.rf
  have hl := lv_entry ([.ref (ad 16), .int k, .ref qo]) (n := 4) (Nat.le_of_ble_eq_true rfl)
  rw [lg_entry_eq]
  generalize (lg_sl ([.ref (ad 16), .int k, .ref qo]) ++ List.replicate (4 - (lg_sl ([.ref (ad 16), .int k, .ref qo])).length) Slot.unset).toArray = ls at hl ⊢
  have hl : lv_has ls 4 [(0, .ref (ad 16)), (1, .int k), (2, .ref qo)] := hl
  refine lv_aload_n hx hb dL_onRoll_0 rfl (lv_at hl 2 rfl) ?_
  refine lv_iconst (v := 0) hx hb dL_onRoll_1 (by decide) ?_
  refine lv_aload_n hx hb dL_onRoll_2 rfl (lv_at hl 0 rfl) ?_
  refine lv_iload_n hx hb dL_onRoll_3 rfl (lv_at hl 1 rfl) ?_
  have hPc := hP.sub (ws' := xW cA ad f g) [1, 2, 3, 4, 5, 6, 7, 8, 9, 10, 11, 12] rfl
  have hDc := hD.sub (ws' := xW cA ad f g) [1, 2, 3, 4, 5, 6, 7, 8, 9, 10, 11, 12] (by decide) rfl
  refine qb_readX hP (vx_runV (As := [.int k]) (rest := [.int 0, .ref qo]) ⟨hx, hb, hml, hown, hts⟩ (c_X0_onRoll l hl0 D cA cZ cL ad f g k) (cwV 1 hts gL_onRoll_X0_onRoll rfl rfl rfl (by decide +kernel) ⟨Nat.le_of_ble_eq_true rfl, Nat.le_of_ble_eq_true rfl⟩) ⟨qPreT_blind, va_recv hK hPc (ci := 0) (q0 := 0) rfl rfl, qPreT_at hPc hK hTH rfl⟩ rfl rfl hl.1 rfl (lv_room (Nat.le_of_ble_eq_true rfl)) dL_onRoll_4 ⟨Nat.le_of_ble_eq_true rfl, Nat.le_of_ble_eq_true rfl⟩) hS (fun E ce q9 H locs hE hP hS hcell hcv hcl => ?_) (fun rv hu => ?_)
  · obtain ⟨rfl, hc⟩ := hE
    refine vx_catch (name := eIO) hown [] (⟨0, 9, 12, 13⟩ : ExceptionTableEntry) [] (by rw [hTab]; rfl) (fun _ h => nomatch h) (by decide) (by decide) (hts _ (List.mem_cons_of_mem _ (List.mem_append_left _ (List.mem_append_left _ (List.mem_of_getElem? (i := 0) rfl))))) (va_Nw.use rfl (hTH.2.2.2.1 eIO (by decide))) hcell hcv hcl ?_
    refine lv_astore_n (lv' := [(3, .ref q9), (0, .ref (ad 16)), (1, .int k), (2, .ref qo)]) hx hb dL_onRoll_12 rfl hl (by decide) rfl (fun ls hl => ?_)
    refine lv_iconst (v := 1) hx hb dL_onRoll_13 (by decide) ?_
    exact W.iret (v := 1) hx hb hr (fun t ht hW => ⟨⟨1, ((f, g), o), rfl, (Or.inr (⟨rfl, hc, rfl⟩)), by rw [ht]; exact hP, hD⟩, hS.F ht⟩) hS.2.2 dL_onRoll_14
  · refine lv_i2l (v := rv.toInt64) hx hb dL_onRoll_7 rfl ?_
    refine va_last hx hb hK hP hD hS 0 2 rfl rfl (by unfold vp_in; decide) dL_onRoll_8 (fun H locs hP hD hS => ?_)
    have hP : va_P D vwCl (lW cA cL ad qo f g (vp_updL o (0 : Int32).toNatClampNeg rv.toInt64)) H := hP
    have hD : va_D A (lW cA cL ad qo f g (vp_updL o (0 : Int32).toNatClampNeg rv.toInt64)) := hD
    refine lv_goto (tgt := 15) hx hb dL_onRoll_9 (by decide) ?_
    refine lv_iconst (v := 0) hx hb dL_onRoll_15 (by decide) ?_
    exact W.iret (v := 0) hx hb hr (fun t ht hW => ⟨⟨0, ((f, g), vp_updL o (0 : Int32).toNatClampNeg rv.toInt64), rfl, (Or.inl (⟨rfl, rv, hu, rfl, rfl⟩)), by rw [ht]; exact hP, hD⟩, hS.F ht⟩) hS.2.2 dL_onRoll_16
set_option maxHeartbeats 4000000 in
set_option maxRecDepth 100000 in
/-- the law asks send -/
theorem c_L_send (l : Launch) (hl0 : l.stackTraces = false) (D : va_G) (cA cZ cL : ClassId) (ad : Nat → Nat) (qo : Nat) (f : qFs) (g : qGs) (o : Nat → Int64) (sz : Nat) (k : Int32) (nR : Nat) (nB : Nat) (hI : xI nR nB f) : Met l yL_send wsL_send ({ frames := 8, cells := 1, slots := 6, locals := 151 } : Room) (va_Pc [.ref (ad 16), .int k, .ref qo] (qPreL D (qTy cA cZ cL) (lW cA cL ad qo f g o) sz)) (va_Qi (fun (z : Int32) (u : (qFs × qGs) × (Nat → Int64)) => (z = 0 ∧ ∃ rv : Int32, ((xKey k ∧ ¬ f 7 = 0 ∧ ¬ g 6 k.toNatClampNeg = -1 ∧ ¬ xRead nR f g k = -1 ∧ ¬ (xBallot f (xSendL f g nB k) ∧ g 13 (xSendL f g nB k).toNatClampNeg = 2) ∧ f 15 < 60) ∧ rv = nI nB ∧ u.1.1 = va_up f 15 (nI (nB + 1)) ∧ u.1.2 = va_up (va_up (va_up (va_up (va_up g 9 (upd (g 9) nB k)) 10 (upd (g 10) nB (f 8))) 11 (upd (g 11) nB (xRead nR f g k))) 12 (upd (g 12) nB (g 6 k.toNatClampNeg))) 13 (upd (xSendS f g nB k) nB 0)) ∧ u.2 0 = rv.toInt64) ∨ (z = 1 ∧ (¬ xKey k) ∧ u = ((f, g), o)) ∨ (z = 2 ∧ (xKey k ∧ (f 7 = 0 ∨ g 6 k.toNatClampNeg = -1 ∨ xRead nR f g k = -1 ∨ (xBallot f (xSendL f g nB k) ∧ g 13 (xSendL f g nB k).toNatClampNeg = 2) ∨ ¬ f 15 < 60)) ∧ u = ((f, g), o))) (qAt D (va_A (lW cA cL ad qo f g o) sz) (fun u : (qFs × qGs) × (Nat → Int64) => lW cA cL ad qo u.1.1 u.1.2 u.2)) (va_A (lW cA cL ad qo f g o) sz)) 1 6 (va_A (lW cA cL ad qo f g o) sz) := by
  refine qMet_ofWH (cc := cL_send) (maxL := 4) (ret := (some .int)) (hh := [(0, 9, 12, 13), (0, 9, 15, 17)]) (by decide) rfl ?_
  intro p e s m args below meth c s₁ B hml hv
  obtain ⟨rfl, hsz, hP, hK, hD0, hTH, hNC⟩ := hv
  have hx := B.exec
  have hb := B.bytes
  have hr := B.returns
  have hts := atoms_spec (ws := wsL_send) B.pre
  have hown : s.vm.findClass RL = some m.cls := findClass_of_methodNamed B.named
  have hlocks := B.notSynchronized
  have hTab := vx_table (x := yL_send) B (hts _ List.mem_cons_self)
  subst hsz
  have hD := hD0.self (sz := s.heap.size)
  generalize hAe : va_A (lW cA cL ad qo f g o) s.heap.size = A at hD ⊢
  have hA : ∀ q : Nat, s.heap.size ≤ q → A q := fun q h => by rw [← hAe]; exact Or.inr h
  have hS : va_S A s.heap s.heap [] := va_S.rf
  have hl := lv_entry ([.ref (ad 16), .int k, .ref qo]) (n := 4) (Nat.le_of_ble_eq_true rfl)
  rw [lg_entry_eq]
  generalize (lg_sl ([.ref (ad 16), .int k, .ref qo]) ++ List.replicate (4 - (lg_sl ([.ref (ad 16), .int k, .ref qo])).length) Slot.unset).toArray = ls at hl ⊢
  have hl : lv_has ls 4 [(0, .ref (ad 16)), (1, .int k), (2, .ref qo)] := hl
  refine lv_aload_n hx hb dL_send_0 rfl (lv_at hl 2 rfl) ?_
  refine lv_iconst (v := 0) hx hb dL_send_1 (by decide) ?_
  refine lv_aload_n hx hb dL_send_2 rfl (lv_at hl 0 rfl) ?_
  refine lv_iload_n hx hb dL_send_3 rfl (lv_at hl 1 rfl) ?_
  have hPc := hP.sub (ws' := xW cA ad f g) [1, 2, 3, 4, 5, 6, 7, 8, 9, 10, 11, 12] rfl
  have hDc := hD.sub (ws' := xW cA ad f g) [1, 2, 3, 4, 5, 6, 7, 8, 9, 10, 11, 12] (by decide) rfl
  refine qb_calliX (wc := xW cA ad f g) (wr := [oW cL qo o]) [1, 2, 3, 4, 5, 6, 7, 8, 9, 10, 11, 12] [0] rfl rfl (by decide) (by decide) hP (vx_runV (As := [.int k]) (rest := [.int 0, .ref qo]) ⟨hx, hb, hml, hown, hts⟩ (c_X0_send l hl0 D cA cZ cL ad f g s.heap.size k nR nB hI) (cwV 1 hts gL_send_X0_send rfl rfl rfl (by decide +kernel) ⟨Nat.le_of_ble_eq_true rfl, Nat.le_of_ble_eq_true rfl⟩) ⟨qPreX_blind, va_recv hK hPc (ci := 0) (q0 := 0) rfl rfl, qPreX_at hPc hK hDc (fun U hU hW => qTH_at hTH hU hW)⟩ rfl rfl hl.1 rfl (lv_room (Nat.le_of_ble_eq_true rfl)) dL_send_4 ⟨Nat.le_of_ble_eq_true rfl, Nat.le_of_ble_eq_true rfl⟩) hD hS hA (fun E ce q9 H locs hE hP hS hcell hcv hcl => ?_) (fun rv u H locs hu hP hD hS => ?_)
  · rcases hE with ⟨rfl, hc⟩ | ⟨rfl, hc⟩
    · skip
      refine vx_catch (name := eIO) hown [] (⟨0, 9, 12, 13⟩ : ExceptionTableEntry) [(⟨0, 9, 15, 17⟩ : ExceptionTableEntry)] (by rw [hTab]; rfl) (fun _ h => nomatch h) (by decide) (by decide) (hts _ (List.mem_cons_of_mem _ (List.mem_append_left _ (List.mem_append_left _ (List.mem_append_left _ (List.mem_append_left _ (List.mem_of_getElem? (i := 0) rfl))))))) (va_Nw.use rfl (hTH.2.2.2.1 eIO (by decide))) hcell hcv hcl ?_
      refine lv_astore_n (lv' := [(3, .ref q9), (0, .ref (ad 16)), (1, .int k), (2, .ref qo)]) hx hb dL_send_12 rfl hl (by decide) rfl (fun ls hl => ?_)
      refine lv_iconst (v := 1) hx hb dL_send_13 (by decide) ?_
      exact W.iret (v := 1) hx hb hr (fun t ht hW => ⟨⟨1, ((f, g), o), rfl, (Or.inr (Or.inl (⟨rfl, hc, rfl⟩))), by rw [ht]; exact hP, hD⟩, hS.F ht⟩) hS.2.2 dL_send_14
    · skip
      refine vx_catch (name := eIS) hown [(⟨0, 9, 12, 13⟩ : ExceptionTableEntry)] (⟨0, 9, 15, 17⟩ : ExceptionTableEntry) [] (by rw [hTab]; rfl) (List.forall_mem_cons.mpr ⟨Or.inr ⟨by decide, _, (hts _ (List.mem_cons_of_mem _ (List.mem_append_left _ (List.mem_append_left _ (List.mem_append_left _ (List.mem_append_left _ (List.mem_of_getElem? (i := 0) rfl))))))), hNC.2.1⟩, (fun _ h => nomatch h)⟩) (by decide) (by decide) (hts _ (List.mem_cons_of_mem _ (List.mem_append_left _ (List.mem_append_left _ (List.mem_append_left _ (List.mem_append_left _ (List.mem_of_getElem? (i := 1) rfl))))))) (va_Nw.use rfl (hTH.2.2.2.1 eIS (by decide))) hcell hcv hcl ?_
      refine lv_astore_n (lv' := [(3, .ref q9), (0, .ref (ad 16)), (1, .int k), (2, .ref qo)]) hx hb dL_send_15 rfl hl (by decide) rfl (fun ls hl => ?_)
      refine lv_iconst (v := 2) hx hb dL_send_16 (by decide) ?_
      exact W.iret (v := 2) hx hb hr (fun t ht hW => ⟨⟨2, ((f, g), o), rfl, (Or.inr (Or.inr (⟨rfl, hc, rfl⟩))), by rw [ht]; exact hP, hD⟩, hS.F ht⟩) hS.2.2 dL_send_17
  · refine lv_i2l (v := rv.toInt64) hx hb dL_send_7 rfl ?_
    obtain ⟨uf, ug⟩ := u
    have hP : va_P D vwCl (lW cA cL ad qo uf ug o) H := hP
    have hD : va_D A (lW cA cL ad qo uf ug o) := hD
    refine va_last hx hb hK hP hD hS 0 2 rfl rfl (by unfold vp_in; decide) dL_send_8 (fun H locs hP hD hS => ?_)
    have hP : va_P D vwCl (lW cA cL ad qo uf ug (vp_updL o (0 : Int32).toNatClampNeg rv.toInt64)) H := hP
    have hD : va_D A (lW cA cL ad qo uf ug (vp_updL o (0 : Int32).toNatClampNeg rv.toInt64)) := hD
    refine lv_goto (tgt := 18) hx hb dL_send_9 (by decide) ?_
    refine lv_iconst (v := 0) hx hb dL_send_18 (by decide) ?_
    exact W.iret (v := 0) hx hb hr (fun t ht hW => ⟨⟨0, ((uf, ug), vp_updL o (0 : Int32).toNatClampNeg rv.toInt64), rfl, (Or.inl (⟨rfl, rv, hu, rfl⟩)), by rw [ht]; exact hP, hD⟩, hS.F ht⟩) hS.2.2 dL_send_19
set_option maxHeartbeats 4000000 in
set_option maxRecDepth 100000 in
/-- the law asks sentTo -/
theorem c_L_sentTo (l : Launch) (hl0 : l.stackTraces = false) (D : va_G) (cA cZ cL : ClassId) (ad : Nat → Nat) (qo : Nat) (f : qFs) (g : qGs) (o : Nat → Int64) (sz : Nat) (b : Int32) (nR : Nat) (nB : Nat) (hI : xI nR nB f) : Met l yL_sentTo wsL_sentTo ({ frames := 8, cells := 1, slots := 6, locals := 132 } : Room) (va_Pc [.ref (ad 16), .int b, .ref qo] (qPreL D (qTy cA cZ cL) (lW cA cL ad qo f g o) sz)) (va_Qi (fun (z : Int32) (u : (qFs × qGs) × (Nat → Int64)) => (z = 0 ∧ ∃ rv : Int32, (xBallot f b ∧ rv = g 11 b.toNatClampNeg) ∧ u.1 = (f, g) ∧ u.2 0 = rv.toInt64) ∨ (z = 1 ∧ (¬ xBallot f b) ∧ u = ((f, g), o))) (qAt D (va_A (lW cA cL ad qo f g o) sz) (fun u : (qFs × qGs) × (Nat → Int64) => lW cA cL ad qo u.1.1 u.1.2 u.2)) (va_A (lW cA cL ad qo f g o) sz)) 1 6 (va_A (lW cA cL ad qo f g o) sz) := by
  refine qMet_ofWH (cc := cL_sentTo) (maxL := 4) (ret := (some .int)) (hh := [(0, 9, 12, 13)]) (by decide) rfl ?_
  intro p e s m args below meth c s₁ B hml hv
  obtain ⟨rfl, hsz, hP, hK, hD0, hTH, hNC⟩ := hv
  have hx := B.exec
  have hb := B.bytes
  have hr := B.returns
  have hts := atoms_spec (ws := wsL_sentTo) B.pre
  have hown : s.vm.findClass RL = some m.cls := findClass_of_methodNamed B.named
  have hlocks := B.notSynchronized
  have hTab := vx_table (x := yL_sentTo) B (hts _ List.mem_cons_self)
  subst hsz
  have hD := hD0.self (sz := s.heap.size)
  generalize hAe : va_A (lW cA cL ad qo f g o) s.heap.size = A at hD ⊢
  have hA : ∀ q : Nat, s.heap.size ≤ q → A q := fun q h => by rw [← hAe]; exact Or.inr h
  have hS : va_S A s.heap s.heap [] := va_S.rf
  have hl := lv_entry ([.ref (ad 16), .int b, .ref qo]) (n := 4) (Nat.le_of_ble_eq_true rfl)
  rw [lg_entry_eq]
  generalize (lg_sl ([.ref (ad 16), .int b, .ref qo]) ++ List.replicate (4 - (lg_sl ([.ref (ad 16), .int b, .ref qo])).length) Slot.unset).toArray = ls at hl ⊢
  have hl : lv_has ls 4 [(0, .ref (ad 16)), (1, .int b), (2, .ref qo)] := hl
  refine lv_aload_n hx hb dL_sentTo_0 rfl (lv_at hl 2 rfl) ?_
  refine lv_iconst (v := 0) hx hb dL_sentTo_1 (by decide) ?_
  refine lv_aload_n hx hb dL_sentTo_2 rfl (lv_at hl 0 rfl) ?_
  refine lv_iload_n hx hb dL_sentTo_3 rfl (lv_at hl 1 rfl) ?_
  have hPc := hP.sub (ws' := xW cA ad f g) [1, 2, 3, 4, 5, 6, 7, 8, 9, 10, 11, 12] rfl
  have hDc := hD.sub (ws' := xW cA ad f g) [1, 2, 3, 4, 5, 6, 7, 8, 9, 10, 11, 12] (by decide) rfl
  refine qb_readX hP (vx_runV (As := [.int b]) (rest := [.int 0, .ref qo]) ⟨hx, hb, hml, hown, hts⟩ (c_X0_sentTo l hl0 D cA cZ cL ad f g b nR nB hI) (cwV 1 hts gL_sentTo_X0_sentTo rfl rfl rfl (by decide +kernel) ⟨Nat.le_of_ble_eq_true rfl, Nat.le_of_ble_eq_true rfl⟩) ⟨qPreT_blind, va_recv hK hPc (ci := 0) (q0 := 0) rfl rfl, qPreT_at hPc hK hTH rfl⟩ rfl rfl hl.1 rfl (lv_room (Nat.le_of_ble_eq_true rfl)) dL_sentTo_4 ⟨Nat.le_of_ble_eq_true rfl, Nat.le_of_ble_eq_true rfl⟩) hS (fun E ce q9 H locs hE hP hS hcell hcv hcl => ?_) (fun rv hu => ?_)
  · obtain ⟨rfl, hc⟩ := hE
    refine vx_catch (name := eIO) hown [] (⟨0, 9, 12, 13⟩ : ExceptionTableEntry) [] (by rw [hTab]; rfl) (fun _ h => nomatch h) (by decide) (by decide) (hts _ (List.mem_cons_of_mem _ (List.mem_append_left _ (List.mem_append_left _ (List.mem_of_getElem? (i := 0) rfl))))) (va_Nw.use rfl (hTH.2.2.2.1 eIO (by decide))) hcell hcv hcl ?_
    refine lv_astore_n (lv' := [(3, .ref q9), (0, .ref (ad 16)), (1, .int b), (2, .ref qo)]) hx hb dL_sentTo_12 rfl hl (by decide) rfl (fun ls hl => ?_)
    refine lv_iconst (v := 1) hx hb dL_sentTo_13 (by decide) ?_
    exact W.iret (v := 1) hx hb hr (fun t ht hW => ⟨⟨1, ((f, g), o), rfl, (Or.inr (⟨rfl, hc, rfl⟩)), by rw [ht]; exact hP, hD⟩, hS.F ht⟩) hS.2.2 dL_sentTo_14
  · refine lv_i2l (v := rv.toInt64) hx hb dL_sentTo_7 rfl ?_
    refine va_last hx hb hK hP hD hS 0 2 rfl rfl (by unfold vp_in; decide) dL_sentTo_8 (fun H locs hP hD hS => ?_)
    have hP : va_P D vwCl (lW cA cL ad qo f g (vp_updL o (0 : Int32).toNatClampNeg rv.toInt64)) H := hP
    have hD : va_D A (lW cA cL ad qo f g (vp_updL o (0 : Int32).toNatClampNeg rv.toInt64)) := hD
    refine lv_goto (tgt := 15) hx hb dL_sentTo_9 (by decide) ?_
    refine lv_iconst (v := 0) hx hb dL_sentTo_15 (by decide) ?_
    exact W.iret (v := 0) hx hb hr (fun t ht hW => ⟨⟨0, ((f, g), vp_updL o (0 : Int32).toNatClampNeg rv.toInt64), rfl, (Or.inl (⟨rfl, rv, hu, rfl, rfl⟩)), by rw [ht]; exact hP, hD⟩, hS.F ht⟩) hS.2.2 dL_sentTo_16
set_option maxHeartbeats 4000000 in
set_option maxRecDepth 100000 in
/-- the law asks giveBack -/
theorem c_L_giveBack (l : Launch) (hl0 : l.stackTraces = false) (D : va_G) (cA cZ cL : ClassId) (ad : Nat → Nat) (qo : Nat) (f : qFs) (g : qGs) (o : Nat → Int64) (sz : Nat) (b : Int32) (ch : Int32) (nR : Nat) (nB : Nat) (hI : xI nR nB f) : Met l yL_giveBack wsL_giveBack ({ frames := 8, cells := 1, slots := 6, locals := 133 } : Room) (va_Pc [.ref (ad 16), .int b, .int ch, .ref qo] (qPreL D (qTy cA cZ cL) (lW cA cL ad qo f g o) sz)) (va_Qi (fun (z : Int32) (u : (qFs × qGs) × (Nat → Int64)) => (z = 0 ∧ ∃ rv : Int32, ((xBallot f b ∧ xCho ch ∧ g 13 b.toNatClampNeg = 0 ∧ xOpen f g b) ∧ rv = g 12 b.toNatClampNeg ∧ u.1.1 = f ∧ u.1.2 = va_up (va_up g 13 (upd (g 13) b.toNatClampNeg 2)) 14 (upd (g 14) b.toNatClampNeg ch)) ∧ u.2 0 = rv.toInt64) ∨ (z = 1 ∧ (¬ xBallot f b) ∧ u = ((f, g), o)) ∨ (z = 2 ∧ (xBallot f b ∧ ¬ xCho ch) ∧ u = ((f, g), o)) ∨ (z = 3 ∧ (xBallot f b ∧ xCho ch ∧ (¬ g 13 b.toNatClampNeg = 0 ∨ ¬ xOpen f g b)) ∧ u = ((f, g), o))) (qAt D (va_A (lW cA cL ad qo f g o) sz) (fun u : (qFs × qGs) × (Nat → Int64) => lW cA cL ad qo u.1.1 u.1.2 u.2)) (va_A (lW cA cL ad qo f g o) sz)) 1 6 (va_A (lW cA cL ad qo f g o) sz) := by
  refine qMet_ofWH (cc := cL_giveBack) (maxL := 5) (ret := (some .int)) (hh := [(0, 10, 13, 13), (0, 10, 17, 15), (0, 10, 21, 17)]) (by decide) rfl ?_
  intro p e s m args below meth c s₁ B hml hv
  obtain ⟨rfl, hsz, hP, hK, hD0, hTH, hNC⟩ := hv
  have hx := B.exec
  have hb := B.bytes
  have hr := B.returns
  have hts := atoms_spec (ws := wsL_giveBack) B.pre
  have hown : s.vm.findClass RL = some m.cls := findClass_of_methodNamed B.named
  have hlocks := B.notSynchronized
  have hTab := vx_table (x := yL_giveBack) B (hts _ List.mem_cons_self)
  subst hsz
  have hD := hD0.self (sz := s.heap.size)
  generalize hAe : va_A (lW cA cL ad qo f g o) s.heap.size = A at hD ⊢
  have hA : ∀ q : Nat, s.heap.size ≤ q → A q := fun q h => by rw [← hAe]; exact Or.inr h
  have hS : va_S A s.heap s.heap [] := va_S.rf
  have hl := lv_entry ([.ref (ad 16), .int b, .int ch, .ref qo]) (n := 5) (Nat.le_of_ble_eq_true rfl)
  rw [lg_entry_eq]
  generalize (lg_sl ([.ref (ad 16), .int b, .int ch, .ref qo]) ++ List.replicate (5 - (lg_sl ([.ref (ad 16), .int b, .int ch, .ref qo])).length) Slot.unset).toArray = ls at hl ⊢
  have hl : lv_has ls 5 [(0, .ref (ad 16)), (1, .int b), (2, .int ch), (3, .ref qo)] := hl
  refine lv_aload_n hx hb dL_giveBack_0 rfl (lv_at hl 3 rfl) ?_
  refine lv_iconst (v := 0) hx hb dL_giveBack_1 (by decide) ?_
  refine lv_aload_n hx hb dL_giveBack_2 rfl (lv_at hl 0 rfl) ?_
  refine lv_iload_n hx hb dL_giveBack_3 rfl (lv_at hl 1 rfl) ?_
  refine lv_iload_n hx hb dL_giveBack_4 rfl (lv_at hl 2 rfl) ?_
  have hPc := hP.sub (ws' := xW cA ad f g) [1, 2, 3, 4, 5, 6, 7, 8, 9, 10, 11, 12] rfl
  have hDc := hD.sub (ws' := xW cA ad f g) [1, 2, 3, 4, 5, 6, 7, 8, 9, 10, 11, 12] (by decide) rfl
  refine qb_calliX (wc := xW cA ad f g) (wr := [oW cL qo o]) [1, 2, 3, 4, 5, 6, 7, 8, 9, 10, 11, 12] [0] rfl rfl (by decide) (by decide) hP (vx_runV (As := [.int b, .int ch]) (rest := [.int 0, .ref qo]) ⟨hx, hb, hml, hown, hts⟩ (c_X0_giveBack l hl0 D cA cZ cL ad f g s.heap.size b ch nR nB hI) (cwV 2 hts gL_giveBack_X0_giveBack rfl rfl rfl (by decide +kernel) ⟨Nat.le_of_ble_eq_true rfl, Nat.le_of_ble_eq_true rfl⟩) ⟨qPreX_blind, va_recv hK hPc (ci := 0) (q0 := 0) rfl rfl, qPreX_at hPc hK hDc (fun U hU hW => qTH_at hTH hU hW)⟩ rfl rfl hl.1 rfl (lv_room (Nat.le_of_ble_eq_true rfl)) dL_giveBack_5 ⟨Nat.le_of_ble_eq_true rfl, Nat.le_of_ble_eq_true rfl⟩) hD hS hA (fun E ce q9 H locs hE hP hS hcell hcv hcl => ?_) (fun rv u H locs hu hP hD hS => ?_)
  · rcases hE with ⟨rfl, hc⟩ | ⟨rfl, hc⟩ | ⟨rfl, hc⟩
    · skip
      refine vx_catch (name := eIO) hown [] (⟨0, 10, 13, 13⟩ : ExceptionTableEntry) [(⟨0, 10, 17, 15⟩ : ExceptionTableEntry), (⟨0, 10, 21, 17⟩ : ExceptionTableEntry)] (by rw [hTab]; rfl) (fun _ h => nomatch h) (by decide) (by decide) (hts _ (List.mem_cons_of_mem _ (List.mem_append_left _ (List.mem_append_left _ (List.mem_append_left _ (List.mem_append_left _ (List.mem_append_left _ (List.mem_of_getElem? (i := 0) rfl)))))))) (va_Nw.use rfl (hTH.2.2.2.1 eIO (by decide))) hcell hcv hcl ?_
      refine lv_astore (lv' := [(4, .ref q9), (0, .ref (ad 16)), (1, .int b), (2, .int ch), (3, .ref qo)]) hx hb dL_giveBack_13 hl (by decide) rfl (fun ls hl => ?_)
      refine lv_iconst (v := 1) hx hb dL_giveBack_15 (by decide) ?_
      exact W.iret (v := 1) hx hb hr (fun t ht hW => ⟨⟨1, ((f, g), o), rfl, (Or.inr (Or.inl (⟨rfl, hc, rfl⟩))), by rw [ht]; exact hP, hD⟩, hS.F ht⟩) hS.2.2 dL_giveBack_16
    · skip
      refine vx_catch (name := eIA) hown [(⟨0, 10, 13, 13⟩ : ExceptionTableEntry)] (⟨0, 10, 17, 15⟩ : ExceptionTableEntry) [(⟨0, 10, 21, 17⟩ : ExceptionTableEntry)] (by rw [hTab]; rfl) (List.forall_mem_cons.mpr ⟨Or.inr ⟨by decide, _, (hts _ (List.mem_cons_of_mem _ (List.mem_append_left _ (List.mem_append_left _ (List.mem_append_left _ (List.mem_append_left _ (List.mem_append_left _ (List.mem_of_getElem? (i := 0) rfl)))))))), hNC.1⟩, (fun _ h => nomatch h)⟩) (by decide) (by decide) (hts _ (List.mem_cons_of_mem _ (List.mem_append_left _ (List.mem_append_left _ (List.mem_append_left _ (List.mem_append_left _ (List.mem_append_left _ (List.mem_of_getElem? (i := 1) rfl)))))))) (va_Nw.use rfl (hTH.2.2.2.1 eIA (by decide))) hcell hcv hcl ?_
      refine lv_astore (lv' := [(4, .ref q9), (0, .ref (ad 16)), (1, .int b), (2, .int ch), (3, .ref qo)]) hx hb dL_giveBack_17 hl (by decide) rfl (fun ls hl => ?_)
      refine lv_iconst (v := 2) hx hb dL_giveBack_19 (by decide) ?_
      exact W.iret (v := 2) hx hb hr (fun t ht hW => ⟨⟨2, ((f, g), o), rfl, (Or.inr (Or.inr (Or.inl (⟨rfl, hc, rfl⟩)))), by rw [ht]; exact hP, hD⟩, hS.F ht⟩) hS.2.2 dL_giveBack_20
    · skip
      refine vx_catch (name := eIS) hown [(⟨0, 10, 13, 13⟩ : ExceptionTableEntry), (⟨0, 10, 17, 15⟩ : ExceptionTableEntry)] (⟨0, 10, 21, 17⟩ : ExceptionTableEntry) [] (by rw [hTab]; rfl) (List.forall_mem_cons.mpr ⟨Or.inr ⟨by decide, _, (hts _ (List.mem_cons_of_mem _ (List.mem_append_left _ (List.mem_append_left _ (List.mem_append_left _ (List.mem_append_left _ (List.mem_append_left _ (List.mem_of_getElem? (i := 0) rfl)))))))), hNC.2.1⟩, (List.forall_mem_cons.mpr ⟨Or.inr ⟨by decide, _, (hts _ (List.mem_cons_of_mem _ (List.mem_append_left _ (List.mem_append_left _ (List.mem_append_left _ (List.mem_append_left _ (List.mem_append_left _ (List.mem_of_getElem? (i := 1) rfl)))))))), hNC.2.2⟩, (fun _ h => nomatch h)⟩)⟩) (by decide) (by decide) (hts _ (List.mem_cons_of_mem _ (List.mem_append_left _ (List.mem_append_left _ (List.mem_append_left _ (List.mem_append_left _ (List.mem_append_left _ (List.mem_of_getElem? (i := 2) rfl)))))))) (va_Nw.use rfl (hTH.2.2.2.1 eIS (by decide))) hcell hcv hcl ?_
      refine lv_astore (lv' := [(4, .ref q9), (0, .ref (ad 16)), (1, .int b), (2, .int ch), (3, .ref qo)]) hx hb dL_giveBack_21 hl (by decide) rfl (fun ls hl => ?_)
      refine lv_iconst (v := 3) hx hb dL_giveBack_23 (by decide) ?_
      exact W.iret (v := 3) hx hb hr (fun t ht hW => ⟨⟨3, ((f, g), o), rfl, (Or.inr (Or.inr (Or.inr (⟨rfl, hc, rfl⟩)))), by rw [ht]; exact hP, hD⟩, hS.F ht⟩) hS.2.2 dL_giveBack_24
  · refine lv_i2l (v := rv.toInt64) hx hb dL_giveBack_8 rfl ?_
    obtain ⟨uf, ug⟩ := u
    have hP : va_P D vwCl (lW cA cL ad qo uf ug o) H := hP
    have hD : va_D A (lW cA cL ad qo uf ug o) := hD
    refine va_last hx hb hK hP hD hS 0 2 rfl rfl (by unfold vp_in; decide) dL_giveBack_9 (fun H locs hP hD hS => ?_)
    have hP : va_P D vwCl (lW cA cL ad qo uf ug (vp_updL o (0 : Int32).toNatClampNeg rv.toInt64)) H := hP
    have hD : va_D A (lW cA cL ad qo uf ug (vp_updL o (0 : Int32).toNatClampNeg rv.toInt64)) := hD
    refine lv_goto (tgt := 25) hx hb dL_giveBack_10 (by decide) ?_
    refine lv_iconst (v := 0) hx hb dL_giveBack_25 (by decide) ?_
    exact W.iret (v := 0) hx hb hr (fun t ht hW => ⟨⟨0, ((uf, ug), vp_updL o (0 : Int32).toNatClampNeg rv.toInt64), rfl, (Or.inl (⟨rfl, rv, hu, rfl⟩)), by rw [ht]; exact hP, hD⟩, hS.F ht⟩) hS.2.2 dL_giveBack_26
set_option maxHeartbeats 4000000 in
set_option maxRecDepth 100000 in
/-- the law asks stateOf -/
theorem c_L_stateOf (l : Launch) (hl0 : l.stackTraces = false) (D : va_G) (cA cZ cL : ClassId) (ad : Nat → Nat) (qo : Nat) (f : qFs) (g : qGs) (o : Nat → Int64) (sz : Nat) (b : Int32) (nR : Nat) (nB : Nat) (hI : xI nR nB f) : Met l yL_stateOf wsL_stateOf ({ frames := 8, cells := 1, slots := 6, locals := 132 } : Room) (va_Pc [.ref (ad 16), .int b, .ref qo] (qPreL D (qTy cA cZ cL) (lW cA cL ad qo f g o) sz)) (va_Qi (fun (z : Int32) (u : (qFs × qGs) × (Nat → Int64)) => (z = 0 ∧ ∃ rv : Int32, (xBallot f b ∧ rv = g 13 b.toNatClampNeg) ∧ u.1 = (f, g) ∧ u.2 0 = rv.toInt64) ∨ (z = 1 ∧ (¬ xBallot f b) ∧ u = ((f, g), o))) (qAt D (va_A (lW cA cL ad qo f g o) sz) (fun u : (qFs × qGs) × (Nat → Int64) => lW cA cL ad qo u.1.1 u.1.2 u.2)) (va_A (lW cA cL ad qo f g o) sz)) 1 6 (va_A (lW cA cL ad qo f g o) sz) := by
  refine qMet_ofWH (cc := cL_stateOf) (maxL := 4) (ret := (some .int)) (hh := [(0, 9, 12, 13)]) (by decide) rfl ?_
  intro p e s m args below meth c s₁ B hml hv
  obtain ⟨rfl, hsz, hP, hK, hD0, hTH, hNC⟩ := hv
  have hx := B.exec
  have hb := B.bytes
  have hr := B.returns
  have hts := atoms_spec (ws := wsL_stateOf) B.pre
  have hown : s.vm.findClass RL = some m.cls := findClass_of_methodNamed B.named
  have hlocks := B.notSynchronized
  have hTab := vx_table (x := yL_stateOf) B (hts _ List.mem_cons_self)
  subst hsz
  have hD := hD0.self (sz := s.heap.size)
  generalize hAe : va_A (lW cA cL ad qo f g o) s.heap.size = A at hD ⊢
  have hA : ∀ q : Nat, s.heap.size ≤ q → A q := fun q h => by rw [← hAe]; exact Or.inr h
  have hS : va_S A s.heap s.heap [] := va_S.rf
  have hl := lv_entry ([.ref (ad 16), .int b, .ref qo]) (n := 4) (Nat.le_of_ble_eq_true rfl)
  rw [lg_entry_eq]
  generalize (lg_sl ([.ref (ad 16), .int b, .ref qo]) ++ List.replicate (4 - (lg_sl ([.ref (ad 16), .int b, .ref qo])).length) Slot.unset).toArray = ls at hl ⊢
  have hl : lv_has ls 4 [(0, .ref (ad 16)), (1, .int b), (2, .ref qo)] := hl
  refine lv_aload_n hx hb dL_stateOf_0 rfl (lv_at hl 2 rfl) ?_
  refine lv_iconst (v := 0) hx hb dL_stateOf_1 (by decide) ?_
  refine lv_aload_n hx hb dL_stateOf_2 rfl (lv_at hl 0 rfl) ?_
  refine lv_iload_n hx hb dL_stateOf_3 rfl (lv_at hl 1 rfl) ?_
  have hPc := hP.sub (ws' := xW cA ad f g) [1, 2, 3, 4, 5, 6, 7, 8, 9, 10, 11, 12] rfl
  have hDc := hD.sub (ws' := xW cA ad f g) [1, 2, 3, 4, 5, 6, 7, 8, 9, 10, 11, 12] (by decide) rfl
  refine qb_readX hP (vx_runV (As := [.int b]) (rest := [.int 0, .ref qo]) ⟨hx, hb, hml, hown, hts⟩ (c_X0_stateOf l hl0 D cA cZ cL ad f g b nR nB hI) (cwV 1 hts gL_stateOf_X0_stateOf rfl rfl rfl (by decide +kernel) ⟨Nat.le_of_ble_eq_true rfl, Nat.le_of_ble_eq_true rfl⟩) ⟨qPreT_blind, va_recv hK hPc (ci := 0) (q0 := 0) rfl rfl, qPreT_at hPc hK hTH rfl⟩ rfl rfl hl.1 rfl (lv_room (Nat.le_of_ble_eq_true rfl)) dL_stateOf_4 ⟨Nat.le_of_ble_eq_true rfl, Nat.le_of_ble_eq_true rfl⟩) hS (fun E ce q9 H locs hE hP hS hcell hcv hcl => ?_) (fun rv hu => ?_)
  · obtain ⟨rfl, hc⟩ := hE
    refine vx_catch (name := eIO) hown [] (⟨0, 9, 12, 13⟩ : ExceptionTableEntry) [] (by rw [hTab]; rfl) (fun _ h => nomatch h) (by decide) (by decide) (hts _ (List.mem_cons_of_mem _ (List.mem_append_left _ (List.mem_append_left _ (List.mem_of_getElem? (i := 0) rfl))))) (va_Nw.use rfl (hTH.2.2.2.1 eIO (by decide))) hcell hcv hcl ?_
    refine lv_astore_n (lv' := [(3, .ref q9), (0, .ref (ad 16)), (1, .int b), (2, .ref qo)]) hx hb dL_stateOf_12 rfl hl (by decide) rfl (fun ls hl => ?_)
    refine lv_iconst (v := 1) hx hb dL_stateOf_13 (by decide) ?_
    exact W.iret (v := 1) hx hb hr (fun t ht hW => ⟨⟨1, ((f, g), o), rfl, (Or.inr (⟨rfl, hc, rfl⟩)), by rw [ht]; exact hP, hD⟩, hS.F ht⟩) hS.2.2 dL_stateOf_14
  · refine lv_i2l (v := rv.toInt64) hx hb dL_stateOf_7 rfl ?_
    refine va_last hx hb hK hP hD hS 0 2 rfl rfl (by unfold vp_in; decide) dL_stateOf_8 (fun H locs hP hD hS => ?_)
    have hP : va_P D vwCl (lW cA cL ad qo f g (vp_updL o (0 : Int32).toNatClampNeg rv.toInt64)) H := hP
    have hD : va_D A (lW cA cL ad qo f g (vp_updL o (0 : Int32).toNatClampNeg rv.toInt64)) := hD
    refine lv_goto (tgt := 15) hx hb dL_stateOf_9 (by decide) ?_
    refine lv_iconst (v := 0) hx hb dL_stateOf_15 (by decide) ?_
    exact W.iret (v := 0) hx hb hr (fun t ht hW => ⟨⟨0, ((f, g), vp_updL o (0 : Int32).toNatClampNeg rv.toInt64), rfl, (Or.inl (⟨rfl, rv, hu, rfl, rfl⟩)), by rw [ht]; exact hP, hD⟩, hS.F ht⟩) hS.2.2 dL_stateOf_16
set_option maxHeartbeats 4000000 in
set_option maxRecDepth 100000 in
/-- the law asks counted -/
theorem c_L_counted (l : Launch) (hl0 : l.stackTraces = false) (D : va_G) (cA cZ cL : ClassId) (ad : Nat → Nat) (qo : Nat) (f : qFs) (g : qGs) (o : Nat → Int64) (sz : Nat) (d : Int32) (ch : Int32) (nR : Nat) (nB : Nat) (hI : xI nR nB f) : Met l yL_counted wsL_counted ({ frames := 8, cells := 1, slots := 6, locals := 134 } : Room) (va_Pc [.ref (ad 16), .int d, .int ch, .ref qo] (qPreL D (qTy cA cZ cL) (lW cA cL ad qo f g o) sz)) (va_Qi (fun (z : Int32) (u : (qFs × qGs) × (Nat → Int64)) => (z = 0 ∧ ∃ rv : Int32, ((xShard d ∧ xCho ch) ∧ rv = nI (cnt (fun j => decide (g 13 j = 2 ∧ g 12 j = d ∧ g 14 j = ch)) 0 nB)) ∧ u.1 = (f, g) ∧ u.2 0 = rv.toInt64) ∨ (z = 1 ∧ (¬ xShard d) ∧ u = ((f, g), o)) ∨ (z = 2 ∧ (xShard d ∧ ¬ xCho ch) ∧ u = ((f, g), o))) (qAt D (va_A (lW cA cL ad qo f g o) sz) (fun u : (qFs × qGs) × (Nat → Int64) => lW cA cL ad qo u.1.1 u.1.2 u.2)) (va_A (lW cA cL ad qo f g o) sz)) 1 6 (va_A (lW cA cL ad qo f g o) sz) := by
  refine qMet_ofWH (cc := cL_counted) (maxL := 5) (ret := (some .int)) (hh := [(0, 10, 13, 13), (0, 10, 17, 15)]) (by decide) rfl ?_
  intro p e s m args below meth c s₁ B hml hv
  obtain ⟨rfl, hsz, hP, hK, hD0, hTH, hNC⟩ := hv
  have hx := B.exec
  have hb := B.bytes
  have hr := B.returns
  have hts := atoms_spec (ws := wsL_counted) B.pre
  have hown : s.vm.findClass RL = some m.cls := findClass_of_methodNamed B.named
  have hlocks := B.notSynchronized
  have hTab := vx_table (x := yL_counted) B (hts _ List.mem_cons_self)
  subst hsz
  have hD := hD0.self (sz := s.heap.size)
  generalize hAe : va_A (lW cA cL ad qo f g o) s.heap.size = A at hD ⊢
  have hA : ∀ q : Nat, s.heap.size ≤ q → A q := fun q h => by rw [← hAe]; exact Or.inr h
  have hS : va_S A s.heap s.heap [] := va_S.rf
  have hl := lv_entry ([.ref (ad 16), .int d, .int ch, .ref qo]) (n := 5) (Nat.le_of_ble_eq_true rfl)
  rw [lg_entry_eq]
  generalize (lg_sl ([.ref (ad 16), .int d, .int ch, .ref qo]) ++ List.replicate (5 - (lg_sl ([.ref (ad 16), .int d, .int ch, .ref qo])).length) Slot.unset).toArray = ls at hl ⊢
  have hl : lv_has ls 5 [(0, .ref (ad 16)), (1, .int d), (2, .int ch), (3, .ref qo)] := hl
  refine lv_aload_n hx hb dL_counted_0 rfl (lv_at hl 3 rfl) ?_
  refine lv_iconst (v := 0) hx hb dL_counted_1 (by decide) ?_
  refine lv_aload_n hx hb dL_counted_2 rfl (lv_at hl 0 rfl) ?_
  refine lv_iload_n hx hb dL_counted_3 rfl (lv_at hl 1 rfl) ?_
  refine lv_iload_n hx hb dL_counted_4 rfl (lv_at hl 2 rfl) ?_
  have hPc := hP.sub (ws' := xW cA ad f g) [1, 2, 3, 4, 5, 6, 7, 8, 9, 10, 11, 12] rfl
  have hDc := hD.sub (ws' := xW cA ad f g) [1, 2, 3, 4, 5, 6, 7, 8, 9, 10, 11, 12] (by decide) rfl
  refine qb_readX hP (vx_runV (As := [.int d, .int ch]) (rest := [.int 0, .ref qo]) ⟨hx, hb, hml, hown, hts⟩ (c_X0_counted l hl0 D cA cZ cL ad f g d ch nR nB hI) (cwV 2 hts gL_counted_X0_counted rfl rfl rfl (by decide +kernel) ⟨Nat.le_of_ble_eq_true rfl, Nat.le_of_ble_eq_true rfl⟩) ⟨qPreT_blind, va_recv hK hPc (ci := 0) (q0 := 0) rfl rfl, qPreT_at hPc hK hTH rfl⟩ rfl rfl hl.1 rfl (lv_room (Nat.le_of_ble_eq_true rfl)) dL_counted_5 ⟨Nat.le_of_ble_eq_true rfl, Nat.le_of_ble_eq_true rfl⟩) hS (fun E ce q9 H locs hE hP hS hcell hcv hcl => ?_) (fun rv hu => ?_)
  · rcases hE with ⟨rfl, hc⟩ | ⟨rfl, hc⟩
    · skip
      refine vx_catch (name := eIO) hown [] (⟨0, 10, 13, 13⟩ : ExceptionTableEntry) [(⟨0, 10, 17, 15⟩ : ExceptionTableEntry)] (by rw [hTab]; rfl) (fun _ h => nomatch h) (by decide) (by decide) (hts _ (List.mem_cons_of_mem _ (List.mem_append_left _ (List.mem_append_left _ (List.mem_append_left _ (List.mem_of_getElem? (i := 0) rfl)))))) (va_Nw.use rfl (hTH.2.2.2.1 eIO (by decide))) hcell hcv hcl ?_
      refine lv_astore (lv' := [(4, .ref q9), (0, .ref (ad 16)), (1, .int d), (2, .int ch), (3, .ref qo)]) hx hb dL_counted_13 hl (by decide) rfl (fun ls hl => ?_)
      refine lv_iconst (v := 1) hx hb dL_counted_15 (by decide) ?_
      exact W.iret (v := 1) hx hb hr (fun t ht hW => ⟨⟨1, ((f, g), o), rfl, (Or.inr (Or.inl (⟨rfl, hc, rfl⟩))), by rw [ht]; exact hP, hD⟩, hS.F ht⟩) hS.2.2 dL_counted_16
    · skip
      refine vx_catch (name := eIA) hown [(⟨0, 10, 13, 13⟩ : ExceptionTableEntry)] (⟨0, 10, 17, 15⟩ : ExceptionTableEntry) [] (by rw [hTab]; rfl) (List.forall_mem_cons.mpr ⟨Or.inr ⟨by decide, _, (hts _ (List.mem_cons_of_mem _ (List.mem_append_left _ (List.mem_append_left _ (List.mem_append_left _ (List.mem_of_getElem? (i := 0) rfl)))))), hNC.1⟩, (fun _ h => nomatch h)⟩) (by decide) (by decide) (hts _ (List.mem_cons_of_mem _ (List.mem_append_left _ (List.mem_append_left _ (List.mem_append_left _ (List.mem_of_getElem? (i := 1) rfl)))))) (va_Nw.use rfl (hTH.2.2.2.1 eIA (by decide))) hcell hcv hcl ?_
      refine lv_astore (lv' := [(4, .ref q9), (0, .ref (ad 16)), (1, .int d), (2, .int ch), (3, .ref qo)]) hx hb dL_counted_17 hl (by decide) rfl (fun ls hl => ?_)
      refine lv_iconst (v := 2) hx hb dL_counted_19 (by decide) ?_
      exact W.iret (v := 2) hx hb hr (fun t ht hW => ⟨⟨2, ((f, g), o), rfl, (Or.inr (Or.inr (⟨rfl, hc, rfl⟩))), by rw [ht]; exact hP, hD⟩, hS.F ht⟩) hS.2.2 dL_counted_20
  · refine lv_i2l (v := rv.toInt64) hx hb dL_counted_8 rfl ?_
    refine va_last hx hb hK hP hD hS 0 2 rfl rfl (by unfold vp_in; decide) dL_counted_9 (fun H locs hP hD hS => ?_)
    have hP : va_P D vwCl (lW cA cL ad qo f g (vp_updL o (0 : Int32).toNatClampNeg rv.toInt64)) H := hP
    have hD : va_D A (lW cA cL ad qo f g (vp_updL o (0 : Int32).toNatClampNeg rv.toInt64)) := hD
    refine lv_goto (tgt := 21) hx hb dL_counted_10 (by decide) ?_
    refine lv_iconst (v := 0) hx hb dL_counted_21 (by decide) ?_
    exact W.iret (v := 0) hx hb hr (fun t ht hW => ⟨⟨0, ((f, g), vp_updL o (0 : Int32).toNatClampNeg rv.toInt64), rfl, (Or.inl (⟨rfl, rv, hu, rfl, rfl⟩)), by rw [ht]; exact hP, hD⟩, hS.F ht⟩) hS.2.2 dL_counted_22
set_option maxHeartbeats 4000000 in
set_option maxRecDepth 100000 in
/-- the law asks close -/
theorem c_L_close (l : Launch) (hl0 : l.stackTraces = false) (D : va_G) (cA cZ cL : ClassId) (ad : Nat → Nat) (qo : Nat) (f : qFs) (g : qGs) (o : Nat → Int64) (sz : Nat) (nR : Nat) (nB : Nat) (hI : xI nR nB f) : Met l yL_close wsL_close ({ frames := 7, cells := 1, slots := 6, locals := 112 } : Room) (va_Pc [.ref (ad 16), .ref qo] (qPreL D (qTy cA cZ cL) (lW cA cL ad qo f g o) sz)) (va_Qi (fun (z : Int32) (u : (qFs × qGs) × (Nat → Int64)) => (z = 0 ∧ ∃ rv : Int32, (¬ f 7 = 0 ∧ rv = nI (cnt (fun j => decide (xOpen f g (nI j) ∧ g 13 j = 0)) 0 nB) ∧ u.1.1 = va_up f 7 0 ∧ u.1.2 = g) ∧ u.2 0 = rv.toInt64) ∨ (z = 1 ∧ (f 7 = 0) ∧ u = ((f, g), o))) (qAt D (va_A (lW cA cL ad qo f g o) sz) (fun u : (qFs × qGs) × (Nat → Int64) => lW cA cL ad qo u.1.1 u.1.2 u.2)) (va_A (lW cA cL ad qo f g o) sz)) 1 6 (va_A (lW cA cL ad qo f g o) sz) := by
  refine qMet_ofWH (cc := cL_close) (maxL := 3) (ret := (some .int)) (hh := [(0, 8, 11, 17)]) (by decide) rfl ?_
  intro p e s m args below meth c s₁ B hml hv
  obtain ⟨rfl, hsz, hP, hK, hD0, hTH, hNC⟩ := hv
  have hx := B.exec
  have hb := B.bytes
  have hr := B.returns
  have hts := atoms_spec (ws := wsL_close) B.pre
  have hown : s.vm.findClass RL = some m.cls := findClass_of_methodNamed B.named
  have hlocks := B.notSynchronized
  have hTab := vx_table (x := yL_close) B (hts _ List.mem_cons_self)
  subst hsz
  have hD := hD0.self (sz := s.heap.size)
  generalize hAe : va_A (lW cA cL ad qo f g o) s.heap.size = A at hD ⊢
  have hA : ∀ q : Nat, s.heap.size ≤ q → A q := fun q h => by rw [← hAe]; exact Or.inr h
  have hS : va_S A s.heap s.heap [] := va_S.rf
  have hl := lv_entry ([.ref (ad 16), .ref qo]) (n := 3) (Nat.le_of_ble_eq_true rfl)
  rw [lg_entry_eq]
  generalize (lg_sl ([.ref (ad 16), .ref qo]) ++ List.replicate (3 - (lg_sl ([.ref (ad 16), .ref qo])).length) Slot.unset).toArray = ls at hl ⊢
  have hl : lv_has ls 3 [(0, .ref (ad 16)), (1, .ref qo)] := hl
  refine lv_aload_n hx hb dL_close_0 rfl (lv_at hl 1 rfl) ?_
  refine lv_iconst (v := 0) hx hb dL_close_1 (by decide) ?_
  refine lv_aload_n hx hb dL_close_2 rfl (lv_at hl 0 rfl) ?_
  have hPc := hP.sub (ws' := xW cA ad f g) [1, 2, 3, 4, 5, 6, 7, 8, 9, 10, 11, 12] rfl
  have hDc := hD.sub (ws' := xW cA ad f g) [1, 2, 3, 4, 5, 6, 7, 8, 9, 10, 11, 12] (by decide) rfl
  refine qb_calliX (wc := xW cA ad f g) (wr := [oW cL qo o]) [1, 2, 3, 4, 5, 6, 7, 8, 9, 10, 11, 12] [0] rfl rfl (by decide) (by decide) hP (vx_runV (As := []) (rest := [.int 0, .ref qo]) ⟨hx, hb, hml, hown, hts⟩ (c_X0_close l hl0 D cA cZ cL ad f g s.heap.size nR nB hI) (cwV 0 hts gL_close_X0_close rfl rfl rfl (by decide +kernel) ⟨Nat.le_of_ble_eq_true rfl, Nat.le_of_ble_eq_true rfl⟩) ⟨qPreX_blind, va_recv hK hPc (ci := 0) (q0 := 0) rfl rfl, qPreX_at hPc hK hDc (fun U hU hW => qTH_at hTH hU hW)⟩ rfl rfl hl.1 rfl (lv_room (Nat.le_of_ble_eq_true rfl)) dL_close_3 ⟨Nat.le_of_ble_eq_true rfl, Nat.le_of_ble_eq_true rfl⟩) hD hS hA (fun E ce q9 H locs hE hP hS hcell hcv hcl => ?_) (fun rv u H locs hu hP hD hS => ?_)
  · obtain ⟨rfl, hc⟩ := hE
    refine vx_catch (name := eIS) hown [] (⟨0, 8, 11, 17⟩ : ExceptionTableEntry) [] (by rw [hTab]; rfl) (fun _ h => nomatch h) (by decide) (by decide) (hts _ (List.mem_cons_of_mem _ (List.mem_append_left _ (List.mem_append_left _ (List.mem_of_getElem? (i := 0) rfl))))) (va_Nw.use rfl (hTH.2.2.2.1 eIS (by decide))) hcell hcv hcl ?_
    refine lv_astore_n (lv' := [(2, .ref q9), (0, .ref (ad 16)), (1, .ref qo)]) hx hb dL_close_11 rfl hl (by decide) rfl (fun ls hl => ?_)
    refine lv_iconst (v := 1) hx hb dL_close_12 (by decide) ?_
    exact W.iret (v := 1) hx hb hr (fun t ht hW => ⟨⟨1, ((f, g), o), rfl, (Or.inr (⟨rfl, hc, rfl⟩)), by rw [ht]; exact hP, hD⟩, hS.F ht⟩) hS.2.2 dL_close_13
  · refine lv_i2l (v := rv.toInt64) hx hb dL_close_6 rfl ?_
    obtain ⟨uf, ug⟩ := u
    have hP : va_P D vwCl (lW cA cL ad qo uf ug o) H := hP
    have hD : va_D A (lW cA cL ad qo uf ug o) := hD
    refine va_last hx hb hK hP hD hS 0 2 rfl rfl (by unfold vp_in; decide) dL_close_7 (fun H locs hP hD hS => ?_)
    have hP : va_P D vwCl (lW cA cL ad qo uf ug (vp_updL o (0 : Int32).toNatClampNeg rv.toInt64)) H := hP
    have hD : va_D A (lW cA cL ad qo uf ug (vp_updL o (0 : Int32).toNatClampNeg rv.toInt64)) := hD
    refine lv_goto (tgt := 14) hx hb dL_close_8 (by decide) ?_
    refine lv_iconst (v := 0) hx hb dL_close_14 (by decide) ?_
    exact W.iret (v := 0) hx hb hr (fun t ht hW => ⟨⟨0, ((uf, ug), vp_updL o (0 : Int32).toNatClampNeg rv.toInt64), rfl, (Or.inl (⟨rfl, rv, hu, rfl⟩)), by rw [ht]; exact hP, hD⟩, hS.F ht⟩) hS.2.2 dL_close_15
