/-- the walk from the invocation: on a script that begins with thirty-six zeros, in a state that has more room than the statement asks, the law comes to two hundred and seventeen new cells, or ends without 1 -/
theorem rf_run (l : Launch) (hflags : l.flags = flags0) {p : Program} {e : Env} {s : State} {m : MethodId} {args : Array Value} {below : List Frame} {b : Addr} {xs : List Int32} (ha : l.admits e) (hc : FairCas e.choices) (hk : FairClock e.choices) (hf : s.frames = .invoking m args :: below)
    (happ : (headSpec (Jvm.Cond.code x code maxLocals ret :: tables_1) room_B).appliesLoose x e.platform s = true) (hP : lw_P b xs args s) (h36 : 36 ≤ xs.length) (hz : ∀ j, j < 36 → xs.getD j 0 = 0) : ∃ t, Steps p.tables e below s t ∧ rZ below s t := by
  obtain ⟨meth, c, B, hcode, hml0, hfirst⟩ := BodyLoose.of_appliesLoose (code := code) (maxLocals := maxLocals) (ret := ret) (by decide) (fun args s h => atoms_spec (ws := Jvm.Cond.code x code maxLocals ret :: tables_1) h _ List.mem_cons_self) p ha hc hk hf happ
  obtain ⟨rfl, hxx, hbd, hgv⟩ := hP
  obtain ⟨scr, harrAt, hlist, hof, hsmall⟩ := hxx
  obtain ⟨hcb, hkn, -, -⟩ := State.arrayAt?_spec harrAt
  have hown : s.vm.findClass R_law = some m.cls := findClass_of_methodNamed B.named
  have hts0 : ∀ c ∈ (Jvm.Cond.code x code maxLocals ret :: tables_1), c.before #[Value.ref b] s = true := atoms_spec (ws := Jvm.Cond.code x code maxLocals ret :: tables_1) B.pre
  have hts : ∀ w ∈ lw_tbl, w.before #[Value.ref b] s = true := k2_hts_sels lw_privs (fun w hw => hts0 w (List.mem_cons_of_mem _ hw)) lw_privs_ok
  have hml : c.maxLocals = 13 := hml0
  have X₀ := Stand.of_body B
  have hsz : scr.slots.size = xs.length := by rw [← Array.length_toList, hlist, List.length_map]
  have hval : ∀ j : Nat, j < xs.length → scr.slots[j]? = some (.int (xs.getD j 0)) := fun j hj => by
    rw [← Array.getElem?_toList, hlist]
    simp [hj]
  have hbl : b < s.heap.size := (Array.getElem?_eq_some_iff.mp hcb).1
  have hX : va_X b xs.length (fun j => xs.getD j 0) s s.heap := ⟨scr, hcb, hof, hkn, hsz, hval⟩
  have K : W p l e room_B s m #[Value.ref b] below meth c s.heap [] 0 0 (rZ below s) (entryFrame m ([Value.ref b] : List Value).toArray 13) := rlaw_start hflags h36 hbd hz ⟨B.exec, B.bytes, B.returns, hml, hown, hts, hX, hbl, B.notSynchronized, hgv⟩
  obtain ⟨t, a1, h1⟩ := K (s.setFrames (.java (entryFrame m #[Value.ref b] maxLocals) :: below)) rfl X₀
  exact ⟨t, hfirst.trans a1, h1⟩
/-- no run that makes two hundred and seventeen cells, or ends without 1, is one that the claim allows -/
theorem rf_claim (l : Launch) (hflags : l.flags = flags0) {p : Program} {e : Env} {s : State} {m : MethodId} {args : Array Value} {below : List Frame} (hA : AtStart classFile x code maxLocals ret World_1 tables_1 room_1 Calls_1 rest_1 Pre_1 l p e s m args below)
    (hr : ∃ t, Steps p.tables e below s t ∧ rZ below s t) : ¬ Claimed_1_2 := by
  intro hC
  obtain ⟨hLists, hWorld, ha, -, hc, hk, hf, hfit, hheap, happ, hcalls, hrest, hpre⟩ := hA
  obtain ⟨n, o, hw, hrun, hend, hpost, hfr⟩ := hC l hflags hLists hWorld p e ha hc hk s m args below hf hfit hheap happ ⟨hcalls, hrest, hpre⟩
  obtain ⟨t, ⟨k, hkk, hwk⟩, hq⟩ := hr
  have hsz : (stepsAlone p.tables e n s).heap.size ≤ s.heap.size + 216 := hfr.2.2.2.2.1
  rcases hq with hbig | ⟨o2, he2, hne⟩
  · rcases Nat.lt_or_ge n k with h | h
    · exact hend.not_within (hwk n h)
    · have h3 := stepsAlone_heap_le p.tables e (n - k) (stepsAlone p.tables e k s)
      rw [← stepsAlone_add, show k + (n - k) = n by omega, hkk] at h3
      omega
  · have hnk : n = k := by
      rcases Nat.lt_trichotomy n k with h | h | h
      · exact absurd (hwk n h) hend.not_within
      · exact h
      · exact absurd (hw k h) (by rw [hkk]; exact he2.not_within)
    subst hnk
    rw [hkk] at hend hpost
    have ho := hend.outcome_unique he2
    subst ho
    obtain ⟨v, rfl⟩ := hfr.1
    refine hne ?_
    have h4 : limb_1_2.after args s (.returned v) t = true := hpost
    cases v with
    | none => simp [limb_1_2, Cond.after, Cond.holds, Cond.value, Term.eval] at h4
    | some w =>
      cases w with
      | int z =>
        simp [limb_1_2, Cond.after, Cond.holds, Cond.value, Term.eval] at h4
        rw [h4]
      | _ => simp [limb_1_2, Cond.after, Cond.holds, Cond.value, Term.eval] at h4
