/-! base: calls of methods that only read or throw; tight rooms; what throwing needs; the two worlds -/
section QB
variable {p : Program} {l : Launch} {e : Env} {R : Room} {s : State} {m : MethodId} {args : Array Value} {below : List Frame} {meth : Method} {c : Code} {H : Heap} {locs : List Loc} {cells slots mc ms : Nat} {Q : State → Prop} {pc : Nat} {ls : Array Slot} {st0 rest : List Value} {a : Array Value} {XC : String → State → State → Prop}
theorem qb_tight {T T' : State} (X : Stand p l e R s m args below meth c T locs cells slots) (X' : Stand p l e R s m args below meth c T' locs (cells + mc) (slots + ms)) (h : T'.heap = T.heap) : Stand p l e R s m args below meth c T' locs cells slots := by
  obtain ⟨-, -, h3, -, h5, -⟩ := X.same
  obtain ⟨g1, g2, g3, g4, g5, g6⟩ := X'.same
  refine { X' with same := ⟨g1, g2, ?_, g4, ?_, g6⟩ }
  · show T'.heap.size ≤ _
    rw [h]; exact h3
  · show ((T'.heap.toList.drop s.heap.size).map (·.slots.size)).sum ≤ slots
    rw [h]; exact h5
/-- a method that may throw, and else only reads and returns nothing: behind it nothing has changed -/
theorem qb_callSv {post : Unit → Prop} (hr : vx_Run p l e R s m args below meth c H locs cells slots mc ms (F0 m pc ls st0) rest (va_Sv post a) XC (fun _ => False))
    (kx : ∀ (E : String) (ce : Cell) (q9 : Addr) (st t : State) (H1 : Heap), st.heap = H → t.heap = H1 → s.vm.Alike t.vm → XC E st t → H1[q9]? = some ce → ce.vm = .none → s.vm.findClass E = some ce.cls → vx_W p l e R s m args below meth c H1 locs (cells + mc) (slots + ms) Q (F0 m pc ls rest) q9)
    (kk : post () → W p l e R s m args below meth c H locs cells slots Q (F0 m (pc + 3) ls rest)) : W p l e R s m args below meth c H locs cells slots Q (F0 m pc ls st0) := by
  intro T hT X
  rcases hr T hT X with ⟨v, st₀, t, T', L, h0, X', hL, e1, e2, ⟨hv, hp, hh⟩, st⟩ | ⟨q, st₀, t, T', L, E, ce, h0, X', hL, e1, e2, hx, hce, hcv, hcl, st⟩
  · cases hv
    have hT' : T'.heap = H := by rw [e1, hh, h0]
    obtain ⟨t2, a1, b1⟩ := kk hp T' hT' (qb_tight X (Stand.forget X' (fun q h => (hL q h).elim)) (by rw [hT', hT]))
    exact ⟨t2, st t2 a1, b1⟩
  · obtain ⟨t2, a1, b1⟩ := kx E ce q st₀ t T'.heap h0 e1.symm (by rw [← e2]; exact X'.warmed.alike) hx (by rw [e1]; exact hce) hcv hcl T' rfl (Stand.forget X' (fun q h => (hL q h).elim))
    exact ⟨t2, st.trans a1, b1⟩
/-- .. and returns an int -/
theorem qb_callSi {post : Int32 → Prop} (hr : vx_Run p l e R s m args below meth c H locs cells slots mc ms (F0 m pc ls st0) rest (vp_Si post a) XC (fun _ => False))
    (kx : ∀ (E : String) (ce : Cell) (q9 : Addr) (st t : State) (H1 : Heap), st.heap = H → t.heap = H1 → s.vm.Alike t.vm → XC E st t → H1[q9]? = some ce → ce.vm = .none → s.vm.findClass E = some ce.cls → vx_W p l e R s m args below meth c H1 locs (cells + mc) (slots + ms) Q (F0 m pc ls rest) q9)
    (kk : ∀ r : Int32, post r → W p l e R s m args below meth c H locs cells slots Q (F0 m (pc + 3) ls (.int r :: rest))) : W p l e R s m args below meth c H locs cells slots Q (F0 m pc ls st0) := by
  intro T hT X
  rcases hr T hT X with ⟨v, st₀, t, T', L, h0, X', hL, e1, e2, ⟨r, hv, hp, hh⟩, st⟩ | ⟨q, st₀, t, T', L, E, ce, h0, X', hL, e1, e2, hx, hce, hcv, hcl, st⟩
  · cases hv
    have hT' : T'.heap = H := by rw [e1, hh, h0]
    obtain ⟨t2, a1, b1⟩ := kk r hp T' hT' (qb_tight X (Stand.forget X' (fun q h => (hL q h).elim)) (by rw [hT', hT]))
    exact ⟨t2, st t2 a1, b1⟩
  · obtain ⟨t2, a1, b1⟩ := kx E ce q st₀ t T'.heap h0 e1.symm (by rw [← e2]; exact X'.warmed.alike) hx (by rw [e1]; exact hce) hcv hcl T' rfl (Stand.forget X' (fun q h => (hL q h).elim))
    exact ⟨t2, st.trans a1, b1⟩
end QB
/-- the text constants of the class, by their places -/
def qStr : List (Nat × String) := [(66, "there is a member with this key"), (74, "there are 40 members"), (99, "it is the last key of its range"), (104, "the range is moved"), (106, "there are 8 ranges"), (120, "there is no next range"), (125, "the ranges are in different shards"), (127, "one of the ranges is moved"), (135, "the range is moved already"), (137, "the range is in this shard"), (167, "a roll is laid"), (172, "the key is not on a roll that is laid"), (180, "the latest ballot was returned"), (185, "there are 60 ballots"), (193, "the ballot is replaced or returned"), (198, "the vote of the ballot is closed"), (200, "no roll is laid"), (216, "no such key"), (219, "no such shard"), (221, "no such district"), (223, "no such range"), (225, "no such ballot"), (229, "the address is out of range"), (232, "the choice is out of range"), (234, "there is no member with this key"), (236, "the range is not moved")]
def qEx : List String := ["java/lang/IndexOutOfBoundsException", "java/lang/IllegalArgumentException", "java/lang/IllegalStateException"]
def qDe : List String := ["java/lang/RuntimeException", "java/lang/Exception", "java/lang/Throwable"]
theorem qNw_warmD {x : MethodName} {s U : State} (hW : s.WarmedH U.vm) (hZ : va_Nw (.declares x) s) : va_Nw (.declares x) U := va_tabs rfl (rfl : (s.setVm U.vm).vm = U.vm) (by rw [Cond.declares_setVm hW.alike]; exact hZ)
/-- what a throw needs of the start -/
def qTH (U : State) : Prop := vx_Zq Bundle.tN "UNASSIGNED_STACK" Bundle.steD (fun _ => False) U U.heap ∧ vx_Zq Bundle.tN "SUPPRESSED_SENTINEL" Bundle.listD (fun _ => False) U U.heap ∧ (∀ q ∈ qStr, ∃ sa : Nat, vk_R RX0 q.1 q.2 sa U) ∧ (∀ E ∈ qEx, va_Nw (.castable E E) U) ∧ ∀ Y ∈ qDe, va_Nw (.declares (Bundle.initS Y)) U
theorem qTH_at {s U : State} (h : qTH s) (hU : U.heap = s.heap) (hW : s.WarmedH U.vm) : qTH U := ⟨by rw [hU]; exact vx_Zq.moved hW.alike h.1, by rw [hU]; exact vx_Zq.moved hW.alike h.2.1, fun q hq => by obtain ⟨sa, h1⟩ := h.2.2.1 q hq; exact ⟨sa, vk_R.warm hW h1⟩, fun E hE => va_Nw.warmC hW (h.2.2.2.1 E hE), fun Y hY => qNw_warmD hW (h.2.2.2.2 Y hY)⟩
theorem qTH_call {U : State} {g : JFrame} {mk : MethodId} {a : Array Value} (h : qTH U) : qTH (U.calling g mk a) := ⟨vx_Zq.moved (u := U) (U := U.calling g mk a) (Vm.Alike.refl U.vm) h.1, vx_Zq.moved (u := U) (U := U.calling g mk a) (Vm.Alike.refl U.vm) h.2.1, fun q hq => by obtain ⟨sa, h1⟩ := h.2.2.1 q hq; exact ⟨sa, vk_R.same (u := U) (U := U.calling g mk a) rfl h1⟩, fun E hE => va_tabs (u := U) (U := U.calling g mk a) rfl rfl (h.2.2.2.1 E hE), fun Y hY => va_tabs (u := U) (U := U.calling g mk a) rfl rfl (h.2.2.2.2 Y hY)⟩
abbrev qTy (cA cZ cL : ClassId) : List (ClassId × FieldType) := [(cA, .int)]
def qPre (D : va_G) (tys : List (ClassId × FieldType)) (ws : va_W) : State → Prop := fun U => va_P D vwCl ws U.heap ∧ va_K D vwCl tys U
def qPreT (D : va_G) (tys : List (ClassId × FieldType)) (ws : va_W) : State → Prop := fun U => va_P D vwCl ws U.heap ∧ va_K D vwCl tys U ∧ qTH U
def qPreW (D : va_G) (tys : List (ClassId × FieldType)) (ws : va_W) (sz : Nat) : State → Prop := fun U => U.heap.size = sz ∧ va_P D vwCl ws U.heap ∧ va_K D vwCl tys U ∧ va_D (fun _ => True) ws
def qPreX (D : va_G) (tys : List (ClassId × FieldType)) (ws : va_W) (sz : Nat) : State → Prop := fun U => U.heap.size = sz ∧ va_P D vwCl ws U.heap ∧ va_K D vwCl tys U ∧ va_D (fun _ => True) ws ∧ qTH U
section QP
variable {D : va_G} {tys : List (ClassId × FieldType)} {ws : va_W} {av : List Value} {s : State} {H : Heap} {A : Nat → Prop}
theorem qN_blind : FrameBlind (va_Pc av (fun _ => True)) := fun a U g mk q => ⟨q.1, trivial⟩
theorem qN_at : ∀ U : State, U.heap = H → s.WarmedH U.vm → va_Pc av (fun _ => True) av.toArray U := fun U hU hW => ⟨rfl, trivial⟩
theorem qTH_blind : FrameBlind (va_Pc av qTH) := fun a U g mk q => ⟨q.1, qTH_call q.2⟩
theorem qTH_pc (hT : qTH s) (hH : H = s.heap) : ∀ U : State, U.heap = H → s.WarmedH U.vm → va_Pc av qTH av.toArray U := fun U hU hW => ⟨rfl, qTH_at hT (hU.trans hH) hW⟩
theorem qPre_blind : FrameBlind (va_Pc av (qPre D tys ws)) := fun a U g mk q => ⟨q.1, q.2.1, va_K.moved (u := U) (U := U.calling g mk a) (Vm.Alike.refl U.vm) q.2.2⟩
theorem qPre_at (hP : va_P D vwCl ws H) (hK : va_K D vwCl tys s) : ∀ U : State, U.heap = H → s.WarmedH U.vm → va_Pc av (qPre D tys ws) av.toArray U := fun U hU hW => ⟨rfl, by rw [hU]; exact hP, va_K.moved hW.alike hK⟩
theorem qPreT_blind : FrameBlind (va_Pc av (qPreT D tys ws)) := fun a U g mk q => ⟨q.1, q.2.1, va_K.moved (u := U) (U := U.calling g mk a) (Vm.Alike.refl U.vm) q.2.2.1, qTH_call q.2.2.2⟩
theorem qPreT_at (hP : va_P D vwCl ws H) (hK : va_K D vwCl tys s) (hT : qTH s) (hH : H = s.heap) : ∀ U : State, U.heap = H → s.WarmedH U.vm → va_Pc av (qPreT D tys ws) av.toArray U := fun U hU hW => ⟨rfl, by rw [hU]; exact hP, va_K.moved hW.alike hK, qTH_at hT (hU.trans hH) hW⟩
theorem qPreW_blind {sz : Nat} : FrameBlind (va_Pc av (qPreW D tys ws sz)) := fun a U g mk q => ⟨q.1, q.2.1, q.2.2.1, va_K.moved (u := U) (U := U.calling g mk a) (Vm.Alike.refl U.vm) q.2.2.2.1, q.2.2.2.2⟩
theorem qPreW_at (hP : va_P D vwCl ws H) (hK : va_K D vwCl tys s) (hD : va_D A ws) : ∀ U : State, U.heap = H → s.WarmedH U.vm → va_Pc av (qPreW D tys ws H.size) av.toArray U := fun U hU hW => ⟨rfl, by rw [hU], by rw [hU]; exact hP, va_K.moved hW.alike hK, hD.weaken (fun _ _ _ _ => trivial)⟩
theorem qPreX_blind {sz : Nat} : FrameBlind (va_Pc av (qPreX D tys ws sz)) := fun a U g mk q => ⟨q.1, q.2.1, q.2.2.1, va_K.moved (u := U) (U := U.calling g mk a) (Vm.Alike.refl U.vm) q.2.2.2.1, q.2.2.2.2.1, qTH_call q.2.2.2.2.2⟩
theorem qPreX_at (hP : va_P D vwCl ws H) (hK : va_K D vwCl tys s) (hD : va_D A ws) (hT : ∀ U : State, U.heap = H → s.WarmedH U.vm → qTH U) : ∀ U : State, U.heap = H → s.WarmedH U.vm → va_Pc av (qPreX D tys ws H.size) av.toArray U := fun U hU hW => ⟨rfl, by rw [hU], by rw [hU]; exact hP, va_K.moved hW.alike hK, hD.weaken (fun _ _ _ _ => trivial), hT U hU hW⟩
theorem qF_of {A0 : Nat → Prop} {H0 : Heap} {locs : List Loc} (hD : va_D A0 ws) (hS : va_S A0 H0 H locs) (hA : ∀ q, H0.size ≤ q → A0 q) : ∀ q, va_A ws H.size q → A0 q := by
  intro q h
  rcases h with ⟨k, e, h⟩ | h
  · exact hD.2 k _ h
  · exact hA q (Nat.le_trans hS.1 h)
end QP
/-- what a throw leaves: the class's name by P; the old heap is as it was -/
def qX (P : String → Prop) : String → State → State → Prop := fun E st t => P E ∧ st.heap.size + 1 ≤ t.heap.size ∧ ∀ q : Nat, q < st.heap.size → t.heap[q]? = st.heap[q]?
section QC
variable {p : Program} {l : Launch} {e : Env} {R : Room} {s : State} {m : MethodId} {args : Array Value} {below : List Frame} {meth : Method} {c : Code} {H : Heap} {locs : List Loc} {cells slots mc ms : Nat} {Q : State → Prop} {pc : Nat} {ls : Array Slot} {st0 rest : List Value} {a : Array Value}
variable {D : va_G} {ws : va_W} {A0 : Nat → Prop} {H0 : Heap}
abbrev qAt {S : Type} (D : va_G) (A : Nat → Prop) (wf : S → va_W) : S → State → Prop := fun u t => va_P D vwCl (wf u) t.heap ∧ va_D A (wf u)
/-- a call that may write the whole world -/
theorem qb_calli {S : Type} {post : Int32 → S → Prop} {wf : S → va_W} (hr : va_Run p l e R s m args below meth c H locs cells slots mc ms (F0 m pc ls st0) rest (va_Qi post (qAt D (va_A ws H.size) wf) (va_A ws H.size) a) (va_A ws H.size)) (hD : va_D A0 ws) (hS : va_S A0 H0 H locs) (hA : ∀ q, H0.size ≤ q → A0 q)
    (kk : ∀ (r : Int32) (u : S) (H1 : Heap) (locs1 : List Loc), post r u → va_P D vwCl (wf u) H1 → va_D A0 (wf u) → va_S A0 H0 H1 locs1 → W p l e R s m args below meth c H1 locs1 (cells + mc) (slots + ms) Q (F0 m (pc + 3) ls (.int r :: rest))) : W p l e R s m args below meth c H locs cells slots Q (F0 m pc ls st0) :=
  va_calli hr hS (fun q _ h => qF_of hD hS hA q h) (qF_of hD hS hA) (fun r u t H1 locs1 ht hvm hw hB hz hk hS1 => by
    obtain ⟨h1, h2⟩ := hB
    rw [ht] at h1
    exact kk r u H1 locs1 hw h1 (h2.weaken (fun _ _ _ h => qF_of hD hS hA _ h)) hS1)
theorem qb_callv {S : Type} {post : S → Prop} {wf : S → va_W} (hr : va_Run p l e R s m args below meth c H locs cells slots mc ms (F0 m pc ls st0) rest (va_Qv post (qAt D (va_A ws H.size) wf) (va_A ws H.size) a) (va_A ws H.size)) (hD : va_D A0 ws) (hS : va_S A0 H0 H locs) (hA : ∀ q, H0.size ≤ q → A0 q)
    (kk : ∀ (u : S) (H1 : Heap) (locs1 : List Loc), post u → va_P D vwCl (wf u) H1 → va_D A0 (wf u) → va_S A0 H0 H1 locs1 → W p l e R s m args below meth c H1 locs1 (cells + mc) (slots + ms) Q (F0 m (pc + 3) ls rest)) : W p l e R s m args below meth c H locs cells slots Q (F0 m pc ls st0) :=
  va_callv hr hS (fun q _ h => qF_of hD hS hA q h) (qF_of hD hS hA) (fun u t H1 locs1 ht hvm hw hB hz hk hS1 => by
    obtain ⟨h1, h2⟩ := hB
    rw [ht] at h1
    exact kk u H1 locs1 hw h1 (h2.weaken (fun _ _ _ h => qF_of hD hS hA _ h)) hS1)
/-- a call that may write a part of the world: the rest stays -/
theorem qb_calliP {S : Type} {post : Int32 → S → Prop} {wf : S → va_W} {wc wr : va_W} (isC isR : List Nat) (hC : isC.map (fun i => ws[i]?) = wc.map some) (hR : isR.map (fun i => ws[i]?) = wr.map some) (hn : va_nd isR = true) (hdis : ∀ i ∈ isR, i ∉ isC) (hP : va_P D vwCl ws H)
    (hr : va_Run p l e R s m args below meth c H locs cells slots mc ms (F0 m pc ls st0) rest (va_Qi post (qAt D (va_A wc H.size) wf) (va_A wc H.size) a) (va_A wc H.size)) (hD : va_D A0 ws) (hS : va_S A0 H0 H locs) (hA : ∀ q, H0.size ≤ q → A0 q)
    (kk : ∀ (r : Int32) (u : S) (H1 : Heap) (locs1 : List Loc), post r u → va_P D vwCl (wr ++ wf u) H1 → va_D A0 (wr ++ wf u) → va_S A0 H0 H1 locs1 → W p l e R s m args below meth c H1 locs1 (cells + mc) (slots + ms) Q (F0 m (pc + 3) ls (.int r :: rest))) : W p l e R s m args below meth c H locs cells slots Q (F0 m pc ls st0) :=
  have hF : ∀ q, va_A wc H.size q → A0 q := va_free hD hS hA isC hC
  va_calli hr hS (fun q _ h => hF q h) hF (fun r u t H1 locs1 ht hvm hw hB hz hk hS1 => by
    obtain ⟨h1, h2⟩ := hB
    rw [ht] at h1
    obtain ⟨g1, g2⟩ := va_join hP hD isC isR hC hR hn hdis hk hF h1 h2
    exact kk r u H1 locs1 hw g1 g2 hS1)
theorem qb_callvP {S : Type} {post : S → Prop} {wf : S → va_W} {wc wr : va_W} (isC isR : List Nat) (hC : isC.map (fun i => ws[i]?) = wc.map some) (hR : isR.map (fun i => ws[i]?) = wr.map some) (hn : va_nd isR = true) (hdis : ∀ i ∈ isR, i ∉ isC) (hP : va_P D vwCl ws H)
    (hr : va_Run p l e R s m args below meth c H locs cells slots mc ms (F0 m pc ls st0) rest (va_Qv post (qAt D (va_A wc H.size) wf) (va_A wc H.size) a) (va_A wc H.size)) (hD : va_D A0 ws) (hS : va_S A0 H0 H locs) (hA : ∀ q, H0.size ≤ q → A0 q)
    (kk : ∀ (u : S) (H1 : Heap) (locs1 : List Loc), post u → va_P D vwCl (wr ++ wf u) H1 → va_D A0 (wr ++ wf u) → va_S A0 H0 H1 locs1 → W p l e R s m args below meth c H1 locs1 (cells + mc) (slots + ms) Q (F0 m (pc + 3) ls rest)) : W p l e R s m args below meth c H locs cells slots Q (F0 m pc ls st0) :=
  have hF : ∀ q, va_A wc H.size q → A0 q := va_free hD hS hA isC hC
  va_callv hr hS (fun q _ h => hF q h) hF (fun u t H1 locs1 ht hvm hw hB hz hk hS1 => by
    obtain ⟨h1, h2⟩ := hB
    rw [ht] at h1
    obtain ⟨g1, g2⟩ := va_join hP hD isC isR hC hR hn hdis hk hF h1 h2
    exact kk u H1 locs1 hw g1 g2 hS1)
end QC
/-! the two worlds: numbers by the field's place (f), rows by the field's place (g), addresses of rows by the same, the object itself behind -/
abbrev qFs : Type := Nat → Int32
abbrev qGs : Type := Nat → Nat → Int32
def xFs (ad : Nat → Nat) (f : qFs) : List Value := [.ref (ad 0), .int (f 1), .ref (ad 2), .ref (ad 3), .ref (ad 4), .int (f 5), .ref (ad 6), .int (f 7), .int (f 8), .ref (ad 9), .ref (ad 10), .ref (ad 11), .ref (ad 12), .ref (ad 13), .ref (ad 14), .int (f 15)]
def xW (cA : ClassId) (ad : Nat → Nat) (f : qFs) (g : qGs) : va_W := [(ad 16, .inr (0, xFs ad f)), (ad 0, .inl (cA, 400, .inl (g 0))), (ad 2, .inl (cA, 8, .inl (g 2))), (ad 3, .inl (cA, 8, .inl (g 3))), (ad 4, .inl (cA, 8, .inl (g 4))), (ad 6, .inl (cA, 100, .inl (g 6))), (ad 9, .inl (cA, 60, .inl (g 9))), (ad 10, .inl (cA, 60, .inl (g 10))), (ad 11, .inl (cA, 60, .inl (g 11))), (ad 12, .inl (cA, 60, .inl (g 12))), (ad 13, .inl (cA, 60, .inl (g 13))), (ad 14, .inl (cA, 60, .inl (g 14)))]
/-- a truth as the machine holds it -/
def bI (P : Prop) [Decidable P] : Int32 := if P then 1 else 0
theorem bI_0 {P : Prop} [Decidable P] : bI P = 0 ↔ ¬ P := by unfold bI; by_cases h : P <;> simp [h]
theorem bI_n {P : Prop} [Decidable P] : ¬ bI P = 0 ↔ P := by unfold bI; by_cases h : P <;> simp [h]
theorem bI_t {P : Prop} [Decidable P] (h : P) : bI P = 1 := by simp [bI, h]
theorem bI_f {P : Prop} [Decidable P] (h : ¬ P) : bI P = 0 := by simp [bI, h]
theorem bI_nar {P : Prop} [Decidable P] : narrow .boolean (.int (bI P)) = .int (bI P) := by unfold bI; by_cases h : P <;> simp [h] <;> rfl
theorem ar_noT {P : String → Prop} {st t : State} {E : String} (h1 : P E) (h2 : st.heap.size + 1 ≤ t.heap.size) (h3 : ∀ q : Nat, q < st.heap.size → t.heap[q]? = st.heap[q]?) : qX P E st t := ⟨h1, h2, h3⟩
def qBad (E : String) : List Cond := [Cond.castable E E, Cond.declares (Bundle.initS "java/lang/RuntimeException"), Cond.declares (Bundle.initS "java/lang/Exception"), Cond.declares (Bundle.initS "java/lang/Throwable")]
theorem qBad_of {args : Array Value} {s : State} (h : qTH s) {E : String} (hE : E ∈ qEx) : ∀ w ∈ qBad E, w.before args s = true := by
  intro w hw
  have hc := h.2.2.2.1 E hE
  have hd := h.2.2.2.2
  rcases List.mem_cons.mp hw with rfl | hw
  · exact va_Nw.use (A := args) rfl hc
  · rcases List.mem_cons.mp hw with rfl | hw
    · exact va_Nw.use (A := args) rfl (hd _ (by decide))
    · rcases List.mem_cons.mp hw with rfl | hw
      · exact va_Nw.use (A := args) rfl (hd _ (by decide))
      · rcases List.mem_cons.mp hw with rfl | hw
        · exact va_Nw.use (A := args) rfl (hd _ (by decide))
        · cases hw
