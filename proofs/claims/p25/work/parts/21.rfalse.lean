/-! the statement refuted: from the witness's own start with a script of thirty-six zeros. The names start1.. stand in a whole round alone -/
def rz_zeros : Array Value := ⟨List.replicate 36 (.int 0)⟩
def rz_s : State := start1.aboutOf rz_zeros
set_option maxRecDepth 16384 in
theorem rz_all : (Cond.code x code maxLocals ret :: tables_1).all (fun c => c.onTables || c.before start1.args0 rz_s) = true := by decide +kernel
theorem rz_words : ∀ c ∈ (Cond.code x code maxLocals ret :: tables_1), c.before start1.args0 rz_s = true := fun c hc => by
  have h := List.all_eq_true.mp rz_all c hc
  cases hq : c.onTables with
  | true => exact va_tabs (A := start1.args0) hq (u := start1.about) (U := rz_s) rfl (start1.words c hc)
  | false => simpa [hq] using h
theorem rz_rest : rest_1_c.before start1.args0 rz_s = true := by decide +kernel
theorem rz_pre : (Cond.and given_1 narrow_1).before start1.args0 rz_s = true := by decide +kernel
set_option maxRecDepth 16384 in
theorem rz_start : AtStart classFile x code maxLocals ret World_1 tables_1 room_1 Calls_1 rest_1 Pre_1 launch0 start1.p0 start1.e0 rz_s ⟨0, 0⟩ start1.args0 Lib.HandBits.below0 :=
  ⟨lists_1, trivial, launch0.admits_env _ _ _, launch0.least_env, fairChoices_fair.cas, fairChoices_fair.clock, rfl, by decide +kernel, by decide +kernel,
    (Spec.applies_iff rfl).mpr ⟨rfl, rfl, rfl, by decide +kernel, by decide +kernel, by decide +kernel, launch0.hasRoom_least _ room_1 (by decide +kernel) (by decide +kernel) (by decide +kernel) (by decide +kernel) (by decide +kernel) (by decide +kernel), atoms_intro rz_words⟩,
    trivial, rz_rest, rz_pre⟩
set_option maxRecDepth 16384 in
theorem rz_app : (headSpec (Jvm.Cond.code x code maxLocals ret :: tables_1) room_B).applies x start1.e0.platform rz_s = true :=
  (Spec.applies_iff (m := ⟨0, 0⟩) (args := start1.args0) (below := Lib.HandBits.below0) rfl).mpr ⟨rfl, rfl, rfl, by decide +kernel, by decide +kernel, by decide +kernel, launch0.hasRoom_least _ room_B (by decide +kernel) (by decide +kernel) (by decide +kernel) (by decide +kernel) (by decide +kernel) (by decide +kernel), atoms_intro rz_words⟩
theorem rz_loose : (headSpec (Jvm.Cond.code x code maxLocals ret :: tables_1) room_B).appliesLoose x start1.e0.platform rz_s = true :=
  ((Spec.applies_iff_loose (S := headSpec (Jvm.Cond.code x code maxLocals ret :: tables_1) room_B) (x := x) (pl := start1.e0.platform) (s := rz_s) (m := ⟨0, 0⟩) (args := start1.args0) (below := Lib.HandBits.below0) rfl).mp rz_app).1
def rz_int : Value → Int32 := fun v => match v with
  | .int z => z
  | _ => 0
theorem rz_ints (xs : List Int32) : (xs.map Value.int).map rz_int = xs := by
  rw [List.map_map]
  exact List.map_id xs
theorem rz_script : ∃ (b : Addr) (xs : List Int32), lw_P b xs start1.args0 rz_s ∧ 36 ≤ xs.length ∧ ∀ j, j < 36 → xs.getD j 0 = 0 := by
  obtain ⟨b, xs, hP⟩ := lw_pre_spec rz_pre rz_rest
  have hxs : xs = List.replicate 36 0 := by
    obtain ⟨h1, ⟨scr, harr, hlist, -, -⟩, -, -⟩ := hP
    have hb : b = 0 := by
      have h2 : (#[Value.ref 0] : Array Value) = #[.ref b] := h1
      simp at h2
      exact h2.symm
    subst hb
    obtain ⟨hc, -, -, -⟩ := State.arrayAt?_spec harr
    have h3 : rz_s.heap[0]? = some { cls := 13, slots := rz_zeros, vm := .none } := rfl
    rw [h3] at hc
    have h4 : scr.slots = rz_zeros := by rw [← Option.some.inj hc]
    rw [h4] at hlist
    have h5 := congrArg (List.map rz_int) hlist
    rw [rz_ints] at h5
    rw [← h5]
    rfl
  refine ⟨b, xs, hP, ?_, ?_⟩
  · rw [hxs, List.length_replicate]; exact Nat.le_refl _
  · intro j hj
    rw [hxs, List.getD_eq_getElem?_getD, List.getElem?_replicate, if_pos hj]
    rfl
/-- THE STATEMENT IS FALSE: the law's run makes more cells than the room that it is printed with -/
theorem p25_refuted : ¬ (Claimed_1_1 ∧ Claimed_1_2) := by
  intro h
  obtain ⟨b, xs, hP, h1, h2⟩ := rz_script
  exact rf_claim launch0 rfl rz_start (rf_run launch0 rfl (launch0.admits_env _ _ _) fairChoices_fair.cas fairChoices_fair.clock rfl rz_loose hP h1 h2) h.2
