theorem qMet_ofWH {l : Launch} {y : MethodName} {ws ws' : List Cond} {rm : Room} {Pc : Array Value → State → Prop} {Qc : Array Value → State → Outcome → State → Prop} {mc ms : Nat} {free : Addr → Prop} {cc : ByteArray} {maxL : Nat} {ret : Option FieldType} {hh : List (Nat × Nat × Nat × Nat)}
    (hy : plainName y.cls = true) (hw : ws = Cond.codeWith y cc maxL ret hh :: ws')
    (body : ∀ p e s m args below meth c s₁, BodyLoose p l y (headSpec ws rm) cc maxL ret e s m args below meth c s₁ → c.maxLocals = maxL → Pc args s →
      W p l e (headSpec ws rm).room s m args below meth c s.heap [] 0 0 (MQ below Qc args s mc ms free) (entryFrame m args maxL)) : Met l y ws rm Pc Qc mc ms free := by
  refine MetFree.of_bodyS (code := cc) (maxLocals := maxL) (ret := ret) hy ?_ ?_
  · intro args s m h hn
    obtain ⟨m9, meth, c, hn9, h1, h2, h3, h4, -, h5, h6, -⟩ := Cond.codeWith_spec (atoms_spec (ws := ws) h _ (by rw [hw]; exact List.mem_cons_self))
    cases hn.symm.trans hn9
    exact ⟨meth, c, h1, h2, h3, h4, h5, h6⟩
  · intro p e s m args below meth c s₁ B hml hP _
    have hh0 : s₁.heap = s.heap := by rw [B.state]; rfl
    obtain ⟨t, a1, o, b1, b2, b3⟩ := body p e s m args below meth c s₁ B hml hP s₁ hh0 (Stand.of_body B)
    exact ⟨t, o, a1, b1, b2, ⟨b3.1, b3.2⟩⟩
/-- which exceptions are none of another's kind -/
def qNC (U : State) : Prop := va_Nc eIA eIO U ∧ va_Nc eIS eIO U ∧ va_Nc eIS eIA U
theorem qNc_moved {C T : String} {s U : State} (hvm : s.vm.Alike U.vm) (h : va_Nc C T s) : va_Nc C T U := va_Nc.moved hvm h
theorem qNC_at {s U : State} (h : qNC s) (hvm : s.vm.Alike U.vm) : qNC U := ⟨qNc_moved hvm h.1, qNc_moved hvm h.2.1, qNc_moved hvm h.2.2⟩
def qPreL (D : va_G) (tys : List (ClassId × FieldType)) (ws : va_W) (sz : Nat) : State → Prop := fun U => U.heap.size = sz ∧ va_P D vwCl ws U.heap ∧ va_K D vwCl tys U ∧ va_D (fun _ => True) ws ∧ qTH U ∧ qNC U
theorem qPreL_blind {D : va_G} {tys : List (ClassId × FieldType)} {ws : va_W} {av : List Value} {sz : Nat} : FrameBlind (va_Pc av (qPreL D tys ws sz)) := fun a U g mk q => ⟨q.1, q.2.1, q.2.2.1, va_K.moved (u := U) (U := U.calling g mk a) (Vm.Alike.refl U.vm) q.2.2.2.1, q.2.2.2.2.1, qTH_call q.2.2.2.2.2.1, qNC_at (U := U.calling g mk a) q.2.2.2.2.2.2 (Vm.Alike.refl U.vm)⟩
def qPreN (D : va_G) (tys : List (ClassId × FieldType)) (ws : va_W) : State → Prop := fun U => va_P D vwCl ws U.heap ∧ va_K D vwCl tys U ∧ qTH U ∧ qNC U
theorem qPreN_blind {D : va_G} {tys : List (ClassId × FieldType)} {ws : va_W} {av : List Value} : FrameBlind (va_Pc av (qPreN D tys ws)) := fun a U g mk q => ⟨q.1, q.2.1, va_K.moved (u := U) (U := U.calling g mk a) (Vm.Alike.refl U.vm) q.2.2.1, qTH_call q.2.2.2.1, qNC_at (U := U.calling g mk a) q.2.2.2.2 (Vm.Alike.refl U.vm)⟩
theorem qPreN_at {D : va_G} {tys : List (ClassId × FieldType)} {ws : va_W} {av : List Value} {s : State} {H : Heap} (hP : va_P D vwCl ws H) (hK : va_K D vwCl tys s) (hT : ∀ U : State, U.heap = H → s.WarmedH U.vm → qTH U ∧ qNC U) : ∀ U : State, U.heap = H → s.WarmedH U.vm → va_Pc av (qPreN D tys ws) av.toArray U := fun U hU hW => ⟨rfl, by rw [hU]; exact hP, va_K.moved hW.alike hK, hT U hU hW⟩
theorem qPreL_at {D : va_G} {tys : List (ClassId × FieldType)} {ws : va_W} {av : List Value} {s : State} {H : Heap} {A : Nat → Prop} (hP : va_P D vwCl ws H) (hK : va_K D vwCl tys s) (hD : va_D A ws) (hT : ∀ U : State, U.heap = H → s.WarmedH U.vm → qTH U ∧ qNC U) : ∀ U : State, U.heap = H → s.WarmedH U.vm → va_Pc av (qPreL D tys ws H.size) av.toArray U := fun U hU hW => ⟨rfl, by rw [hU], by rw [hU]; exact hP, va_K.moved hW.alike hK, hD.weaken (fun _ _ _ _ => trivial), (hT U hU hW).1, (hT U hU hW).2⟩
/-- what a throw needs, where nothing below z0 is touched -/
def qTZ (z0 : Nat) (U : State) : Prop := vx_Zq Bundle.tN "UNASSIGNED_STACK" Bundle.steD (fun q : Nat => z0 ≤ q) U U.heap ∧ vx_Zq Bundle.tN "SUPPRESSED_SENTINEL" Bundle.listD (fun q : Nat => z0 ≤ q) U U.heap ∧ (∀ q ∈ qStr, ∃ sa : Nat, vk_R RX0 q.1 q.2 sa U) ∧ (∀ E ∈ qEx, va_Nw (.castable E E) U) ∧ (∀ Y ∈ qDe, va_Nw (.declares (Bundle.initS Y)) U) ∧ qNC U
theorem qTZ_at {z0 : Nat} {s : State} (h : qTZ z0 s) {A : Nat → Prop} {H : Heap} {locs : List Loc} (hS : va_S A s.heap H locs) (hA : ∀ q, A q → z0 ≤ q) : ∀ U : State, U.heap = H → s.WarmedH U.vm → qTZ z0 U := by
  intro U hU hW
  obtain ⟨h1, h2, h3, h4, h5, h6⟩ := h
  have hq : ∀ a : Nat, a < s.heap.size → ¬ (fun q : Nat => z0 ≤ q) a → H[a]? = s.heap[a]? := fun a ha hn => hS.2.1 a ha (fun q => hn (hA a q))
  refine ⟨?_, ?_, fun q hq => ?_, fun E hE => va_Nw.warmC hW (h4 E hE), fun Y hY => qNw_warmD hW (h5 Y hY), qNC_at h6 hW.alike⟩
  · rw [hU]; exact vx_Zq.moved hW.alike (vx_Zq.kept h1 hq)
  · rw [hU]; exact vx_Zq.moved hW.alike (vx_Zq.kept h2 hq)
  · obtain ⟨sa, h7⟩ := h3 q hq
    exact ⟨sa, vk_R.warm hW h7⟩
theorem qTZ_call {z0 : Nat} {U : State} {g : JFrame} {mk : MethodId} {a : Array Value} (h : qTZ z0 U) : qTZ z0 (U.calling g mk a) := ⟨vx_Zq.moved (u := U) (U := U.calling g mk a) (Vm.Alike.refl U.vm) h.1, vx_Zq.moved (u := U) (U := U.calling g mk a) (Vm.Alike.refl U.vm) h.2.1, fun q hq => by obtain ⟨sa, h1⟩ := h.2.2.1 q hq; exact ⟨sa, vk_R.same (u := U) (U := U.calling g mk a) rfl h1⟩, fun E hE => va_tabs (u := U) (U := U.calling g mk a) rfl rfl (h.2.2.2.1 E hE), fun Y hY => va_tabs (u := U) (U := U.calling g mk a) rfl rfl (h.2.2.2.2.1 Y hY), qNC_at (U := U.calling g mk a) h.2.2.2.2.2 (Vm.Alike.refl U.vm)⟩
theorem qTZ_th {z0 : Nat} {U : State} (h : qTZ z0 U) : qTH U ∧ qNC U := ⟨⟨h.1.narrow (fun _ q => q.elim), h.2.1.narrow (fun _ q => q.elim), h.2.2.1, h.2.2.2.1, h.2.2.2.2.1⟩, h.2.2.2.2.2⟩
theorem qTH_grow {s : State} (h : qTH s) (h6 : qNC s) {H : Heap} {locs : List Loc} (hS : va_S (fun _ => False) s.heap H locs) : ∀ U : State, U.heap = H → s.WarmedH U.vm → qTH U ∧ qNC U := by
  intro U hU hW
  obtain ⟨h1, h2, h3, h4, h5⟩ := h
  refine ⟨⟨?_, ?_, fun q hq => ?_, fun E hE => va_Nw.warmC hW (h4 E hE), fun Y hY => qNw_warmD hW (h5 Y hY)⟩, qNC_at h6 hW.alike⟩
  · rw [hU]; exact vx_Zq.moved hW.alike (vx_Zq.kept h1 hS.2.1)
  · rw [hU]; exact vx_Zq.moved hW.alike (vx_Zq.kept h2 hS.2.1)
  · obtain ⟨sa, h7⟩ := h3 q hq
    exact ⟨sa, vk_R.warm hW h7⟩
def qPreZ (z0 : Nat) (D : va_G) (tys : List (ClassId × FieldType)) (ws : va_W) (sz : Nat) : State → Prop := fun U => U.heap.size = sz ∧ z0 ≤ sz ∧ va_P D vwCl ws U.heap ∧ va_K D vwCl tys U ∧ va_D (fun q : Nat => z0 ≤ q) ws ∧ qTZ z0 U
theorem qPreZ_blind {z0 : Nat} {D : va_G} {tys : List (ClassId × FieldType)} {ws : va_W} {av : List Value} {sz : Nat} : FrameBlind (va_Pc av (qPreZ z0 D tys ws sz)) := fun a U g mk q => ⟨q.1, q.2.1, q.2.2.1, q.2.2.2.1, va_K.moved (u := U) (U := U.calling g mk a) (Vm.Alike.refl U.vm) q.2.2.2.2.1, q.2.2.2.2.2.1, qTZ_call q.2.2.2.2.2.2⟩
theorem qPreZ_at {z0 : Nat} {D : va_G} {tys : List (ClassId × FieldType)} {ws : va_W} {av : List Value} {s : State} {H : Heap} (hz : z0 ≤ H.size) (hP : va_P D vwCl ws H) (hK : va_K D vwCl tys s) (hD : va_D (fun q : Nat => z0 ≤ q) ws) (hT : ∀ U : State, U.heap = H → s.WarmedH U.vm → qTZ z0 U) : ∀ U : State, U.heap = H → s.WarmedH U.vm → va_Pc av (qPreZ z0 D tys ws H.size) av.toArray U := fun U hU hW => ⟨rfl, by rw [hU], hz, by rw [hU]; exact hP, va_K.moved hW.alike hK, hD, hT U hU hW⟩
/-- a method that writes nothing old: what it answers, and the heap's sizes before and after -/
def qG (post : Int32 → Nat → Nat → Prop) : Array Value → State → Outcome → State → Prop := fun _ st oc t => ∃ r : Int32, oc = .returned (some (.int r)) ∧ st.heap.size ≤ t.heap.size ∧ (∀ q : Nat, q < st.heap.size → t.heap[q]? = st.heap[q]?) ∧ post r st.heap.size t.heap.size
/-- a world and the heap's size with it -/
abbrev qAtN {S : Type} (D : va_G) (A : Nat → Prop) (wf : S → va_W) : S × Nat → State → Prop := fun u t => (va_P D vwCl (wf u.1) t.heap ∧ va_D A (wf u.1)) ∧ t.heap.size = u.2
section QR
variable {p : Program} {l : Launch} {e : Env} {R : Room} {s : State} {m : MethodId} {args : Array Value} {below : List Frame} {meth : Method} {c : Code} {H : Heap} {locs : List Loc} {cells slots mc ms : Nat} {Q : State → Prop} {pc : Nat} {ls : Array Slot} {st0 rest : List Value} {a : Array Value}
variable {D : va_G} {ws wc wr : va_W} {A0 : Nat → Prop} {H0 : Heap} {P : String → Prop}
theorem qb_readG {post : Int32 → Prop} (hP : va_P D vwCl ws H)
    (hr : vx_Run p l e R s m args below meth c H locs cells slots mc ms (F0 m pc ls st0) rest (vp_Si post a) (qX P) (fun _ => False)) (hS : va_S A0 H0 H locs)
    (kx : ∀ (E : String) (ce : Cell) (q9 : Addr) (H1 : Heap) (locs1 : List Loc), P E → H.size + 1 ≤ H1.size → va_P D vwCl ws H1 → va_S A0 H0 H1 locs1 → H1[q9]? = some ce → ce.vm = .none → s.vm.findClass E = some ce.cls → vx_W p l e R s m args below meth c H1 locs1 (cells + mc) (slots + ms) Q (F0 m pc ls rest) q9)
    (kk : ∀ (r : Int32), post r → W p l e R s m args below meth c H locs (cells + mc) (slots + ms) Q (F0 m (pc + 3) ls (.int r :: rest))) : W p l e R s m args below meth c H locs cells slots Q (F0 m pc ls st0) := by
  intro T hT X
  rcases hr T hT X with ⟨v, st₀, t, T', L, h0, X', hL, e1, e2, ⟨r, hv, hp, hh⟩, st⟩ | ⟨q, st₀, t, T', L, E, ce, h0, X', hL, e1, e2, hx, hce, hcv, hcl, st⟩
  · cases hv
    obtain ⟨t2, a1, c1⟩ := kk r hp T' (by rw [e1, hh, h0]) (Stand.forget X' (fun q h => (hL q h).elim))
    exact ⟨t2, st t2 a1, c1⟩
  · obtain ⟨k1, k2, k3⟩ := vx_keep (free := fun _ => False) (A0 := A0) (A1 := fun _ => False) h0 e1 hS (fun q _ h => h.elim) (fun q h => h.elim) hL ⟨Nat.le_of_succ_le hx.2.1, fun q h1 _ => hx.2.2 q h1⟩
    have hg : H.size + 1 ≤ T'.heap.size := by rw [e1, ← h0]; exact hx.2.1
    have hP1 : va_P D vwCl ws T'.heap := hP.kept (fun k q hk => k2 q.1 ((hP k q hk).lt) (fun h => h))
    obtain ⟨t2, a1, c1⟩ := kx E ce q T'.heap (locs ++ L) hx.1 hg hP1 k3 (by rw [e1]; exact hce) hcv hcl T' rfl X'
    exact ⟨t2, st.trans a1, c1⟩
theorem qb_calliG {S : Type} {post : Int32 → S → Prop} {wf : S → va_W} (hP : va_P D vwCl ws H)
    (hr : vx_Run p l e R s m args below meth c H locs cells slots mc ms (F0 m pc ls st0) rest (va_Qi post (qAt D (va_A ws H.size) wf) (va_A ws H.size) a) (qX P) (va_A ws H.size)) (hD : va_D A0 ws) (hS : va_S A0 H0 H locs) (hA : ∀ q, H0.size ≤ q → A0 q)
    (kx : ∀ (E : String) (ce : Cell) (q9 : Addr) (H1 : Heap) (locs1 : List Loc), P E → H.size + 1 ≤ H1.size → va_P D vwCl ws H1 → va_S A0 H0 H1 locs1 → H1[q9]? = some ce → ce.vm = .none → s.vm.findClass E = some ce.cls → vx_W p l e R s m args below meth c H1 locs1 (cells + mc) (slots + ms) Q (F0 m pc ls rest) q9)
    (kk : ∀ (r : Int32) (u : S) (H1 : Heap) (locs1 : List Loc), post r u → va_P D vwCl (wf u) H1 → va_D A0 (wf u) → va_S A0 H0 H1 locs1 → W p l e R s m args below meth c H1 locs1 (cells + mc) (slots + ms) Q (F0 m (pc + 3) ls (.int r :: rest))) : W p l e R s m args below meth c H locs cells slots Q (F0 m pc ls st0) := by
  have hF : ∀ q, va_A ws H.size q → A0 q := qF_of hD hS hA
  intro T hT X
  rcases hr T hT X with ⟨v, st₀, t, T', L, h0, X', hL, e1, e2, ⟨⟨r, u, hv, hp, hb⟩, hFr⟩, st⟩ | ⟨q, st₀, t, T', L, E, ce, h0, X', hL, e1, e2, hx, hce, hcv, hcl, st⟩
  · cases hv
    obtain ⟨k1, k2, k3⟩ := vx_keep h0 e1 hS (fun q _ h => hF q h) hF hL hFr
    obtain ⟨b1, b2⟩ := hb
    rw [← e1] at b1
    obtain ⟨t2, a1, c1⟩ := kk r u T'.heap (locs ++ L) hp b1 (b2.weaken (fun _ _ _ h => hF _ h)) k3 T' rfl X'
    exact ⟨t2, st t2 a1, c1⟩
  · obtain ⟨k1, k2, k3⟩ := vx_keep (A1 := fun _ => False) h0 e1 hS (fun q _ h => h.elim) hF hL ⟨Nat.le_of_succ_le hx.2.1, fun q h1 _ => hx.2.2 q h1⟩
    have hg : H.size + 1 ≤ T'.heap.size := by rw [e1, ← h0]; exact hx.2.1
    have hP1 : va_P D vwCl ws T'.heap := hP.kept (fun k q hk => k2 q.1 ((hP k q hk).lt) (fun h => h))
    obtain ⟨t2, a1, c1⟩ := kx E ce q T'.heap (locs ++ L) hx.1 hg hP1 k3 (by rw [e1]; exact hce) hcv hcl T' rfl X'
    exact ⟨t2, st.trans a1, c1⟩
/-- a call of a method that writes nothing old -/
theorem qb_grow {post : Int32 → Nat → Nat → Prop} (hr : va_Run p l e R s m args below meth c H locs cells slots mc ms (F0 m pc ls st0) rest (qG post a) (fun _ => False)) (hP : va_P D vwCl ws H) (hS : va_S A0 H0 H locs)
    (kk : ∀ (r : Int32) (H1 : Heap) (locs1 : List Loc), post r H.size H1.size → H.size ≤ H1.size → va_P D vwCl ws H1 → va_S A0 H0 H1 locs1 → W p l e R s m args below meth c H1 locs1 (cells + mc) (slots + ms) Q (F0 m (pc + 3) ls (.int r :: rest))) : W p l e R s m args below meth c H locs cells slots Q (F0 m pc ls st0) := by
  intro T hT X
  obtain ⟨v, st₀, t, T', L, h0, X', hL, e1, e2, ⟨r, hv, hz, hk, hp⟩, st⟩ := hr T hT X
  cases hv
  obtain ⟨k1, k2, k3⟩ := vx_keep (free := fun _ => False) (A0 := A0) (A1 := fun _ => False) h0 e1 hS (fun q _ h => h.elim) (fun q h => h.elim) hL ⟨hz, fun q h1 _ => hk q h1⟩
  have hP1 : va_P D vwCl ws T'.heap := hP.kept (fun k q hk => k2 q.1 ((hP k q hk).lt) (fun h => h))
  obtain ⟨t2, a1, c1⟩ := kk r T'.heap (locs ++ L) (by rw [← h0, e1]; exact hp) k1 hP1 k3 T' rfl X'
  exact ⟨t2, st t2 a1, c1⟩
/-- a call that may write a part of the world, the heap's size with it -/
theorem qb_calliPN {S : Type} {post : Int32 → S × Nat → Prop} {wf : S → va_W} (isC isR : List Nat) (hC : isC.map (fun i => ws[i]?) = wc.map some) (hR : isR.map (fun i => ws[i]?) = wr.map some) (hn : va_nd isR = true) (hdis : ∀ i ∈ isR, i ∉ isC) (hP : va_P D vwCl ws H)
    (hr : va_Run p l e R s m args below meth c H locs cells slots mc ms (F0 m pc ls st0) rest (va_Qi post (qAtN D (va_A wc H.size) wf) (va_A wc H.size) a) (va_A wc H.size)) (hD : va_D A0 ws) (hS : va_S A0 H0 H locs) (hA : ∀ q, H0.size ≤ q → A0 q)
    (kk : ∀ (r : Int32) (u : S) (H1 : Heap) (locs1 : List Loc), post r (u, H1.size) → H.size ≤ H1.size → va_P D vwCl (wr ++ wf u) H1 → va_D A0 (wr ++ wf u) → va_S A0 H0 H1 locs1 → W p l e R s m args below meth c H1 locs1 (cells + mc) (slots + ms) Q (F0 m (pc + 3) ls (.int r :: rest))) : W p l e R s m args below meth c H locs cells slots Q (F0 m pc ls st0) :=
  have hF : ∀ q, va_A wc H.size q → A0 q := va_free hD hS hA isC hC
  va_calli hr hS (fun q _ h => hF q h) hF (fun r u t H1 locs1 ht hvm hw hB hz hk hS1 => by
    obtain ⟨⟨h1, h2⟩, h3⟩ := hB
    obtain ⟨u1, u2⟩ := u
    have h3 : t.heap.size = u2 := h3
    subst h3
    rw [ht] at h1 hw
    obtain ⟨g1, g2⟩ := va_join hP hD isC isR hC hR hn hdis hk hF h1 h2
    exact kk r u1 H1 locs1 hw hz g1 g2 hS1)
theorem qb_calliN {S : Type} {post : Int32 → S × Nat → Prop} {wf : S → va_W}
    (hr : va_Run p l e R s m args below meth c H locs cells slots mc ms (F0 m pc ls st0) rest (va_Qi post (qAtN D A0 wf) A0 a) A0) (hS : va_S A0 H0 H locs)
    (kk : ∀ (r : Int32) (u : S) (H1 : Heap) (locs1 : List Loc), post r (u, H1.size) → H.size ≤ H1.size → va_P D vwCl (wf u) H1 → va_D A0 (wf u) → va_S A0 H0 H1 locs1 → W p l e R s m args below meth c H1 locs1 (cells + mc) (slots + ms) Q (F0 m (pc + 3) ls (.int r :: rest))) : W p l e R s m args below meth c H locs cells slots Q (F0 m pc ls st0) :=
  va_calli hr hS (fun q _ h => h) (fun q h => h) (fun r u t H1 locs1 ht hvm hw hB hz hk hS1 => by
    obtain ⟨⟨h1, h2⟩, h3⟩ := hB
    obtain ⟨u1, u2⟩ := u
    have h3 : t.heap.size = u2 := h3
    subst h3
    rw [ht] at h1 hw
    exact kk r u1 H1 locs1 hw hz h1 h2 hS1)
/-- a store into a row, the heap's size told -/
theorem rb_iast {cc : ByteArray} {tys : List (ClassId × FieldType)} {ad : Nat} (hexec : p.tables.exec = Jvm.exec) (hb : c.code = cc) (hK : va_K D vwCl tys s) (hP : va_P D vwCl ws H) (hD : va_D A0 ws) (hS : va_S A0 H0 H locs) (q0 t0 : Nat) {cA : ClassId} {n : Nat} {f : Nat → Int32} (ha : ws[q0]? = some (ad, .inl (cA, n, .inl f))) (ht : tys[t0]? = some (cA, .int)) {i : Int32} {x : Int32} (hin : vp_in i n) (hdg : decode cc pc = .ok (.iastore, 1))
    (kk : ∀ (H1 : Heap) (locs1 : List Loc), H1.size = H.size → va_P D vwCl (ws.set q0 (ad, .inl (cA, n, .inl (upd f i.toNatClampNeg x)))) H1 → va_D A0 (ws.set q0 (ad, .inl (cA, n, .inl (upd f i.toNatClampNeg x)))) → va_S A0 H0 H1 locs1 → W p l e R s m args below meth c H1 locs1 cells slots Q (F0 m (pc + 1) ls rest)) : W p l e R s m args below meth c H locs cells slots Q (F0 m pc ls (.int x :: .int i :: .ref ad :: rest)) := by
  refine W.iast hexec hb (hP q0 _ ha) ((hK.2 t0 _ ht).1 n (fun j => .int (f j))) (fun q => by cases q) (by show ¬ (i < 0 ∨ (arrV _ _ _).slots.size ≤ _); rw [arrV_size]; exact hin) rfl rfl hdg fun H1 e z oq => ?_
  refine kk H1 _ z (hP.set hD ha ?_ oq) (hD.set ha) (hS.put z oq (hD.2 q0 _ ha))
  show H1[ad]? = some (vp_cell _ _)
  rw [e]
  rw [vp_cell_i, vp_cell_i, arrV_store]
  congr 2
  funext j
  by_cases hj : j = i.toNatClampNeg
  · subst hj; simp [upd, updV]
  · simp [upd, updV, hj]
end QR
/-- the law's rows: members, roll, ranges, ballots, counts, numbers -/
abbrev rW (cA : ClassId) (q : Nat → Nat) (h : Nat → Nat → Int32) : va_W := [(q 0, .inl (cA, 40, .inl (h 0))), (q 1, .inl (cA, 40, .inl (h 1))), (q 2, .inl (cA, 9, .inl (h 2))), (q 3, .inl (cA, 60, .inl (h 3))), (q 4, .inl (cA, 12, .inl (h 4))), (q 5, .inl (cA, 6, .inl (h 5)))]
abbrev LW (cA : ClassId) (ad q : Nat → Nat) (f : qFs) (g : qGs) (h : Nat → Nat → Int32) : va_W := rW cA q h ++ xW cA ad f g
/-- as long as no range was split and no ballot was sent -/
def RInv (f : qFs) (h : Nat → Nat → Int32) : Prop := xI 1 0 f ∧ h 2 0 = 99 ∧ h 5 1 = nI 1 ∧ h 5 4 = nI 0 ∧ h 5 5 = nI 0 ∧ ∃ n : Nat, n ≤ 40 ∧ h 5 0 = nI n
