section
-- ===== PART A: goes FIRST, ahead of the names: the tables' words, and 'selects' of the private methods out of them =====
/-- a private method of a class that the tables say can be made, by its rows of tables_1 -/
def lw_okq (q : MethodName × Nat) : Prop := (q.1.cls ≠ "java/lang/invoke/MethodHandle" ∧ q.1.cls ≠ "java/lang/invoke/VarHandle") ∧ Cond.instantiable q.1.cls q.2 ∈ tables_1 ∧ Cond.privateMethod q.1 ∈ tables_1 ∧ Cond.instanceMethod q.1 ∈ tables_1
theorem lw_p0 : lw_okq (⟨"java/lang/Throwable", "fillInStackTrace", "(I)Ljava/lang/Throwable;"⟩, 6) := ⟨⟨by decide +kernel, by decide +kernel⟩, List.mem_of_getElem? (i := 138) (by decide +kernel), List.mem_of_getElem? (i := 136) (by decide +kernel), List.mem_of_getElem? (i := 137) (by decide +kernel)⟩
theorem lw_p1 : lw_okq (⟨"ShardBallots", "isMember", "(I)Z"⟩, 16) := ⟨⟨by decide +kernel, by decide +kernel⟩, List.mem_of_getElem? (i := 10) (by decide +kernel), List.mem_of_getElem? (i := 187) (by decide +kernel), List.mem_of_getElem? (i := 188) (by decide +kernel)⟩
theorem lw_p2 : lw_okq (⟨"ShardBallots", "read", "(I)I"⟩, 16) := ⟨⟨by decide +kernel, by decide +kernel⟩, List.mem_of_getElem? (i := 10) (by decide +kernel), List.mem_of_getElem? (i := 191) (by decide +kernel), List.mem_of_getElem? (i := 192) (by decide +kernel)⟩
theorem lw_p3 : lw_okq (⟨"ShardBallots", "rangeHolding", "(I)I"⟩, 16) := ⟨⟨by decide +kernel, by decide +kernel⟩, List.mem_of_getElem? (i := 10) (by decide +kernel), List.mem_of_getElem? (i := 195) (by decide +kernel), List.mem_of_getElem? (i := 196) (by decide +kernel)⟩
theorem lw_p4 : lw_okq (⟨"ShardBallots", "lastKeyOf", "(I)I"⟩, 16) := ⟨⟨by decide +kernel, by decide +kernel⟩, List.mem_of_getElem? (i := 10) (by decide +kernel), List.mem_of_getElem? (i := 199) (by decide +kernel), List.mem_of_getElem? (i := 200) (by decide +kernel)⟩
theorem lw_p5 : lw_okq (⟨"ShardBallots", "isRange", "(I)Z"⟩, 16) := ⟨⟨by decide +kernel, by decide +kernel⟩, List.mem_of_getElem? (i := 10) (by decide +kernel), List.mem_of_getElem? (i := 203) (by decide +kernel), List.mem_of_getElem? (i := 204) (by decide +kernel)⟩
theorem lw_p6 : lw_okq (⟨"ShardBallots", "homeOf", "(I)I"⟩, 16) := ⟨⟨by decide +kernel, by decide +kernel⟩, List.mem_of_getElem? (i := 10) (by decide +kernel), List.mem_of_getElem? (i := 207) (by decide +kernel), List.mem_of_getElem? (i := 208) (by decide +kernel)⟩
theorem lw_p7 : lw_okq (⟨"ShardBallots", "rowOf", "(II)I"⟩, 16) := ⟨⟨by decide +kernel, by decide +kernel⟩, List.mem_of_getElem? (i := 10) (by decide +kernel), List.mem_of_getElem? (i := 211) (by decide +kernel), List.mem_of_getElem? (i := 212) (by decide +kernel)⟩
theorem lw_p8 : lw_okq (⟨"ShardBallots", "write", "(II)V"⟩, 16) := ⟨⟨by decide +kernel, by decide +kernel⟩, List.mem_of_getElem? (i := 10) (by decide +kernel), List.mem_of_getElem? (i := 235) (by decide +kernel), List.mem_of_getElem? (i := 236) (by decide +kernel)⟩
theorem lw_p9 : lw_okq (⟨"ShardBallots", "putRow", "(III)V"⟩, 16) := ⟨⟨by decide +kernel, by decide +kernel⟩, List.mem_of_getElem? (i := 10) (by decide +kernel), List.mem_of_getElem? (i := 239) (by decide +kernel), List.mem_of_getElem? (i := 240) (by decide +kernel)⟩
theorem lw_p10 : lw_okq (⟨"ShardBallots", "targetOf", "(I)I"⟩, 16) := ⟨⟨by decide +kernel, by decide +kernel⟩, List.mem_of_getElem? (i := 10) (by decide +kernel), List.mem_of_getElem? (i := 243) (by decide +kernel), List.mem_of_getElem? (i := 244) (by decide +kernel)⟩
theorem lw_p11 : lw_okq (⟨"ShardBallots", "checkMember", "(I)V"⟩, 16) := ⟨⟨by decide +kernel, by decide +kernel⟩, List.mem_of_getElem? (i := 10) (by decide +kernel), List.mem_of_getElem? (i := 254) (by decide +kernel), List.mem_of_getElem? (i := 255) (by decide +kernel)⟩
theorem lw_p12 : lw_okq (⟨"ShardBallots", "isMoved", "(I)Z"⟩, 16) := ⟨⟨by decide +kernel, by decide +kernel⟩, List.mem_of_getElem? (i := 10) (by decide +kernel), List.mem_of_getElem? (i := 281) (by decide +kernel), List.mem_of_getElem? (i := 282) (by decide +kernel)⟩
theorem lw_p13 : lw_okq (⟨"ShardBallots", "insertCopyBehind", "(I)V"⟩, 16) := ⟨⟨by decide +kernel, by decide +kernel⟩, List.mem_of_getElem? (i := 10) (by decide +kernel), List.mem_of_getElem? (i := 287) (by decide +kernel), List.mem_of_getElem? (i := 288) (by decide +kernel)⟩
theorem lw_p14 : lw_okq (⟨"ShardBallots", "copyRange", "(II)V"⟩, 16) := ⟨⟨by decide +kernel, by decide +kernel⟩, List.mem_of_getElem? (i := 10) (by decide +kernel), List.mem_of_getElem? (i := 291) (by decide +kernel), List.mem_of_getElem? (i := 292) (by decide +kernel)⟩
theorem lw_p15 : lw_okq (⟨"ShardBallots", "putLastKey", "(II)V"⟩, 16) := ⟨⟨by decide +kernel, by decide +kernel⟩, List.mem_of_getElem? (i := 10) (by decide +kernel), List.mem_of_getElem? (i := 295) (by decide +kernel), List.mem_of_getElem? (i := 296) (by decide +kernel)⟩
def lw_privs_1 : List (MethodName × Nat) := [(⟨"java/lang/Throwable", "fillInStackTrace", "(I)Ljava/lang/Throwable;"⟩, 6), (⟨"ShardBallots", "isMember", "(I)Z"⟩, 16), (⟨"ShardBallots", "read", "(I)I"⟩, 16), (⟨"ShardBallots", "rangeHolding", "(I)I"⟩, 16), (⟨"ShardBallots", "lastKeyOf", "(I)I"⟩, 16), (⟨"ShardBallots", "isRange", "(I)Z"⟩, 16), (⟨"ShardBallots", "homeOf", "(I)I"⟩, 16), (⟨"ShardBallots", "rowOf", "(II)I"⟩, 16), (⟨"ShardBallots", "write", "(II)V"⟩, 16), (⟨"ShardBallots", "putRow", "(III)V"⟩, 16), (⟨"ShardBallots", "targetOf", "(I)I"⟩, 16), (⟨"ShardBallots", "checkMember", "(I)V"⟩, 16), (⟨"ShardBallots", "isMoved", "(I)Z"⟩, 16), (⟨"ShardBallots", "insertCopyBehind", "(I)V"⟩, 16), (⟨"ShardBallots", "copyRange", "(II)V"⟩, 16), (⟨"ShardBallots", "putLastKey", "(II)V"⟩, 16)]
theorem lw_r1 : ∀ q ∈ lw_privs_1, lw_okq q := List.forall_mem_cons.mpr ⟨lw_p0, List.forall_mem_cons.mpr ⟨lw_p1, List.forall_mem_cons.mpr ⟨lw_p2, List.forall_mem_cons.mpr ⟨lw_p3, List.forall_mem_cons.mpr ⟨lw_p4, List.forall_mem_cons.mpr ⟨lw_p5, List.forall_mem_cons.mpr ⟨lw_p6, List.forall_mem_cons.mpr ⟨lw_p7, List.forall_mem_cons.mpr ⟨lw_p8, List.forall_mem_cons.mpr ⟨lw_p9, List.forall_mem_cons.mpr ⟨lw_p10, List.forall_mem_cons.mpr ⟨lw_p11, List.forall_mem_cons.mpr ⟨lw_p12, List.forall_mem_cons.mpr ⟨lw_p13, List.forall_mem_cons.mpr ⟨lw_p14, List.forall_mem_cons.mpr ⟨lw_p15, fun _ h => absurd h List.not_mem_nil⟩⟩⟩⟩⟩⟩⟩⟩⟩⟩⟩⟩⟩⟩⟩⟩
theorem lw_p16 : lw_okq (⟨"ShardBallots", "checkRange", "(I)V"⟩, 16) := ⟨⟨by decide +kernel, by decide +kernel⟩, List.mem_of_getElem? (i := 10) (by decide +kernel), List.mem_of_getElem? (i := 306) (by decide +kernel), List.mem_of_getElem? (i := 307) (by decide +kernel)⟩
theorem lw_p17 : lw_okq (⟨"ShardBallots", "remove", "(I)V"⟩, 16) := ⟨⟨by decide +kernel, by decide +kernel⟩, List.mem_of_getElem? (i := 10) (by decide +kernel), List.mem_of_getElem? (i := 314) (by decide +kernel), List.mem_of_getElem? (i := 315) (by decide +kernel)⟩
theorem lw_p18 : lw_okq (⟨"ShardBallots", "firstKeyOf", "(I)I"⟩, 16) := ⟨⟨by decide +kernel, by decide +kernel⟩, List.mem_of_getElem? (i := 10) (by decide +kernel), List.mem_of_getElem? (i := 331) (by decide +kernel), List.mem_of_getElem? (i := 332) (by decide +kernel)⟩
theorem lw_p19 : lw_okq (⟨"ShardBallots", "countRows", "(III)I"⟩, 16) := ⟨⟨by decide +kernel, by decide +kernel⟩, List.mem_of_getElem? (i := 10) (by decide +kernel), List.mem_of_getElem? (i := 335) (by decide +kernel), List.mem_of_getElem? (i := 336) (by decide +kernel)⟩
theorem lw_p20 : lw_okq (⟨"ShardBallots", "checkMoved", "(I)V"⟩, 16) := ⟨⟨by decide +kernel, by decide +kernel⟩, List.mem_of_getElem? (i := 10) (by decide +kernel), List.mem_of_getElem? (i := 346) (by decide +kernel), List.mem_of_getElem? (i := 347) (by decide +kernel)⟩
theorem lw_p21 : lw_okq (⟨"ShardBallots", "lowestKeyNotBrought", "(I)I"⟩, 16) := ⟨⟨by decide +kernel, by decide +kernel⟩, List.mem_of_getElem? (i := 10) (by decide +kernel), List.mem_of_getElem? (i := 351) (by decide +kernel), List.mem_of_getElem? (i := 352) (by decide +kernel)⟩
theorem lw_p22 : lw_okq (⟨"ShardBallots", "dropRows", "(II)V"⟩, 16) := ⟨⟨by decide +kernel, by decide +kernel⟩, List.mem_of_getElem? (i := 10) (by decide +kernel), List.mem_of_getElem? (i := 355) (by decide +kernel), List.mem_of_getElem? (i := 356) (by decide +kernel)⟩
theorem lw_p23 : lw_okq (⟨"ShardBallots", "isOfOpenVote", "(I)Z"⟩, 16) := ⟨⟨by decide +kernel, by decide +kernel⟩, List.mem_of_getElem? (i := 10) (by decide +kernel), List.mem_of_getElem? (i := 401) (by decide +kernel), List.mem_of_getElem? (i := 402) (by decide +kernel)⟩
theorem lw_p24 : lw_okq (⟨"ShardBallots", "isBallot", "(I)Z"⟩, 16) := ⟨⟨by decide +kernel, by decide +kernel⟩, List.mem_of_getElem? (i := 10) (by decide +kernel), List.mem_of_getElem? (i := 405) (by decide +kernel), List.mem_of_getElem? (i := 406) (by decide +kernel)⟩
theorem lw_p25 : lw_okq (⟨"ShardBallots", "latestBallotTo", "(I)I"⟩, 16) := ⟨⟨by decide +kernel, by decide +kernel⟩, List.mem_of_getElem? (i := 10) (by decide +kernel), List.mem_of_getElem? (i := 420) (by decide +kernel), List.mem_of_getElem? (i := 421) (by decide +kernel)⟩
theorem lw_p26 : lw_okq (⟨"ShardBallots", "checkBallot", "(I)V"⟩, 16) := ⟨⟨by decide +kernel, by decide +kernel⟩, List.mem_of_getElem? (i := 10) (by decide +kernel), List.mem_of_getElem? (i := 435) (by decide +kernel), List.mem_of_getElem? (i := 436) (by decide +kernel)⟩
def lw_privs_2 : List (MethodName × Nat) := [(⟨"ShardBallots", "checkRange", "(I)V"⟩, 16), (⟨"ShardBallots", "remove", "(I)V"⟩, 16), (⟨"ShardBallots", "firstKeyOf", "(I)I"⟩, 16), (⟨"ShardBallots", "countRows", "(III)I"⟩, 16), (⟨"ShardBallots", "checkMoved", "(I)V"⟩, 16), (⟨"ShardBallots", "lowestKeyNotBrought", "(I)I"⟩, 16), (⟨"ShardBallots", "dropRows", "(II)V"⟩, 16), (⟨"ShardBallots", "isOfOpenVote", "(I)Z"⟩, 16), (⟨"ShardBallots", "isBallot", "(I)Z"⟩, 16), (⟨"ShardBallots", "latestBallotTo", "(I)I"⟩, 16), (⟨"ShardBallots", "checkBallot", "(I)V"⟩, 16)]
theorem lw_r2 : ∀ q ∈ lw_privs_2, lw_okq q := List.forall_mem_cons.mpr ⟨lw_p16, List.forall_mem_cons.mpr ⟨lw_p17, List.forall_mem_cons.mpr ⟨lw_p18, List.forall_mem_cons.mpr ⟨lw_p19, List.forall_mem_cons.mpr ⟨lw_p20, List.forall_mem_cons.mpr ⟨lw_p21, List.forall_mem_cons.mpr ⟨lw_p22, List.forall_mem_cons.mpr ⟨lw_p23, List.forall_mem_cons.mpr ⟨lw_p24, List.forall_mem_cons.mpr ⟨lw_p25, List.forall_mem_cons.mpr ⟨lw_p26, fun _ h => absurd h List.not_mem_nil⟩⟩⟩⟩⟩⟩⟩⟩⟩⟩⟩
def lw_privs : List (MethodName × Nat) := lw_privs_1 ++ (lw_privs_2)
def lw_tbl : List Cond := k2_sels lw_privs ++ tables_1
theorem lw_privs_ok : ∀ q ∈ lw_privs, lw_okq q := by
  show ∀ q ∈ lw_privs_1 ++ (lw_privs_2), lw_okq q
  exact List.forall_mem_append.mpr ⟨lw_r1, lw_r2⟩
-- ===== end of PART A; then your names; then what follows =====
end
section
/-! ===== BEGIN words of one list among another's, by their places ===== -/
theorem goodIn_r {big : List Cond} (ws : List Cond) (ps : List Nat) (hp : ws = ps.filterMap (fun i => big[i]?)) (h : ws.all goodWord = true) : GoodIn big ws := by
  intro w hw
  have h1 := List.all_eq_true.mp h w hw
  rw [hp] at hw
  obtain ⟨i, -, hi⟩ := List.mem_filterMap.mp hw
  have hm : w ∈ big := by first | exact List.mem_of_getElem? hi | exact List.getElem?_mem hi
  exact ⟨hm, good_of_word h1⟩
theorem goodIn_app {big a b : List Cond} (ha : GoodIn big a) (hb : GoodIn big b) : GoodIn big (a ++ b) := fun w h => (List.mem_append.mp h).elim (ha w) (hb w)
theorem goodIn_ca {big a b : List Cond} {c : Cond} (ha : GoodIn big (c :: a)) (hb : GoodIn big b) : GoodIn big (c :: (a ++ b)) := fun w h => (List.mem_cons.mp h).elim (fun e => ha w (List.mem_cons.mpr (Or.inl e))) (fun h => (List.mem_append.mp h).elim (fun h => ha w (List.mem_cons.mpr (Or.inr h))) (hb w))
theorem goodIn_sub {big ws : List Cond} (hm : ∀ w ∈ ws, w ∈ big) (h : ws.all goodWord = true) : GoodIn big ws := fun w hw => ⟨hm w hw, good_of_word (List.all_eq_true.mp h w hw)⟩
/-! ===== END ===== -/

/-! ===== BEGIN exceptions that leave a method, and their catching by the caller (launches without stack traces) ===== -/
section VXA
/-! The laws vx_back, vx_callV, vx_callS, vx_callSW, vx_throw0, vx_throwS follow proofs of the library, with one case more: JvmDerived/Free/Laws.lean (Back.of_free), Shelf42/LK1.lean (callV, callS), Shelf/KitTraced.lean (throwNew0V, throwNewS). -/
/-- where a method has thrown q: the class by its name, the cell, what was written, the world -/
def vx_T (XC : String → State → State → Prop) (st : State) (q : Addr) (t : State) (mc ms : Nat) (free : Addr → Prop) : Prop :=
  ∃ (E : String) (ce : Cell) (L : List Loc), XC E st t ∧ t.heap[q]? = some ce ∧ ce.vm = .none ∧ st.vm.findClass E = some ce.cls ∧ st.WarmedH t.vm ∧ st.sameButNew ({ t with vm := st.vm } : State) L mc ms ∧ ∀ z ∈ L, free z.base
def vx_Q (Qc : Array Value → State → Outcome → State → Prop) (XC : String → State → State → Prop) (mc ms : Nat) (free : Addr → Prop) : Array Value → State → Outcome → State → Prop := fun a st o t =>
  (Qc a st o t ∧ ∃ L, FrameEnd st o t L mc ms ∧ ∀ q ∈ L, free q.base) ∨ ∃ q, o = .threw q ∧ vx_T XC st q t mc ms free
/-- a callee that returns or throws -/
def vx_Met (l : Launch) (y : MethodName) (ws : List Cond) (rm : Room) (Pc : Array Value → State → Prop) (Qc : Array Value → State → Outcome → State → Prop) (XC : String → State → State → Prop) (mc ms : Nat) (free : Addr → Prop) : Prop :=
  MetFree l y (headSpec ws rm) Pc (fun _ _ _ _ _ => True) (vx_Q Qc XC mc ms free)
def vx_Post (XC : String → State → State → Prop) (mc ms : Nat) (free : Addr → Prop) : Pt → Array Value → Addr → Pt → Prop := fun A a q B =>
  ∃ (g : JFrame) (mk : MethodId) (t : State) (L : List Loc) (E : String) (ce : Cell), B.U.heap = t.heap ∧ B.U.vm = t.vm ∧ XC E (A.U.calling g mk a) t ∧ t.heap[q]? = some ce ∧ ce.vm = .none ∧ A.U.vm.findClass E = some ce.cls ∧ B.locs = A.locs ++ L ∧ (∀ z ∈ L, free z.base) ∧ B.cells = A.cells + mc ∧ B.slots = A.slots + ms
def vx_Back (l : Launch) (R : Room) (p : Program) (e : Env) (below : List Frame) (s : State) (sargs : Array Value) (y : MethodName) (len W9 : Nat)
    (Pre : Pt → Array Value → Prop) (Post : Pt → Array Value → Option Value → Pt → Prop) (PostX : Pt → Array Value → Addr → Pt → Prop) : Prop :=
  ∀ (m : MethodId) (meth : Method) (c : Code) (A : Pt) (g : JFrame) (ig : Instr) (mk : MethodId) (a : Array Value),
    Stand p l e R s m sargs below meth c A.U A.locs A.cells A.slots → g.method = m → g.locals.size = c.maxLocals → decode c.code g.pc = .ok (ig, len) →
    2 * g.monitorRoom + (g.stack.map fun v => v.category).sum ≤ W9 → A.U.methodNamed? y = some mk → Pre A a →
    (∃ (v : Option Value) (B : Pt), Stand p l e R s m sargs below meth c B.U B.locs B.cells B.slots ∧ Post A a v B ∧
      Steps p.tables e below (doInvoke e (A.U.setTop g) [] mk a).1 (B.U.setTop { g with pc := g.pc + len, stack := v.toList ++ g.stack })) ∨
    (∃ (q : Addr) (B : Pt), Stand p l e R s m sargs below meth c B.U B.locs B.cells B.slots ∧ PostX A a q B ∧
      Steps p.tables e below (doInvoke e (A.U.setTop g) [] mk a).1 ((B.U.setTop g).pushFrame (.throwing q)))
section Payer
variable {l : Launch} {R : Room} {p : Program} {e : Env} {below : List Frame} {s : State} {sargs : Array Value} {y : MethodName} {len W9 : Nat}
theorem vx_back {ws : List Cond} {rm : Room} {Pc : Array Value → State → Prop} {Qc : Array Value → State → Outcome → State → Prop} {XC : String → State → State → Prop} {mc ms : Nat} {free : Addr → Prop} {bytes : ByteArray} {maxL : Nat} {ret : Option FieldType}
    (hM : vx_Met l y ws rm Pc Qc XC mc ms free) (hblind : FrameBlind Pc) (hrc : rm.cells = mc) (hrs : rm.slots = ms)
    (hframes : rm.frames + 1 ≤ R.frames) (hlocals : W9 + (maxL + 11) + rm.locals ≤ R.locals)
    (hws : ∀ w ∈ ws, ∀ a' U, s.WarmedH U.vm → w.before a' U = true) (hcode : Cond.code y bytes maxL ret ∈ ws) (hinit : ∀ a' U, s.WarmedH U.vm → (Cond.initialized y.cls).before a' U = true) :
    vx_Back l R p e below s sargs y len W9 (PreOf R mc ms Pc) (PostOf Qc mc ms free) (vx_Post XC mc ms free) := by
  intro m meth c A g ig mk a X hg hsize hdg hW hn hp
  have h1 : (headSpec ws rm).pre.before a A.U = true := atoms_intro fun w hw => hws w hw _ _ X.warmed
  have h2 : (Cond.code y bytes maxL ret).before a A.U = true := hws _ hcode _ _ X.warmed
  have h3 : (Cond.initialized y.cls).before a A.U = true := hinit _ _ X.warmed
  have h4 : A.cells + (headSpec ws rm).room.cells ≤ R.cells := by rw [show (headSpec ws rm).room.cells = mc from hrc]; exact hp.1
  have h5 : A.slots + (headSpec ws rm).room.slots ≤ R.slots := by rw [show (headSpec ws rm).room.slots = ms from hrs]; exact hp.2.1
  have hPc : Pc a (A.U.calling g mk a) := hblind _ _ _ _ hp.2.2
  obtain ⟨U, Ls, c0, s0⟩ := A
  dsimp only [Pt.U, Pt.locs, Pt.cells, Pt.slots] at h1 h2 h3 h4 h5 X hn hPc ⊢
  obtain ⟨methY, cY, hmY, hcY, -, hlY, -, -, -, -⟩ := Cond.code_spec hn h2
  obtain ⟨kY, hkY, -⟩ := className_of_methodNamed hn
  have hinitY : kY.init = .initialized := Cond.initialized_spec (findClass_of_methodNamed hn) hkY h3
  have h : At U g.method c below := by rw [hg]; exact X.here
  have hlocals9 : W9 + (maxL + 11) + (headSpec ws rm).room.locals ≤ R.locals := hlocals
  have happ : (headSpec ws rm).appliesLoose y e.platform (U.calling g mk a) = true :=
    Spec.appliesLoose_calling (g := g) h hdg hn hkY hinitY
      (X.room_calling (g := g) (R' := (headSpec ws rm).room) hsize hmY hcY hframes (by rw [hlY]; omega) h4 h5) h1
  obtain ⟨mid, hmid⟩ := h.above
  have hfr : (U.setTop g).frames = (.java g :: mid) ++ below := by rw [State.frames_setTop' g h.top, hmid]; rfl
  obtain ⟨o, s₂, hsteps, -, hend, hq⟩ := Steps.callFree hM p X.admits X.cas X.clock (acts := []) hfr happ hPc trivial
  have hq' : vx_Q Qc XC mc ms free a (U.calling g mk a) o s₂ := hq
  rw [State.frames_setTop' g h.top] at hend
  obtain ⟨g₀, hg0⟩ := Option.isSome_iff_exists.mp h.top
  obtain ⟨r, hr⟩ := State.topJava?_eq_some.mp hg0
  have hr' : (({ U with heap := s₂.heap, slotsUsed := s₂.slotsUsed } : State).setVm s₂.vm).frames = .java g₀ :: r := hr
  rcases hq' with ⟨hqc, L, hfe, hL⟩ | ⟨q, rfl, E, ce, L, hx, hce, hcv, hcl, hW₂, hsm, hL⟩
  · obtain ⟨⟨v, rfl⟩, hW₂, e2, q2, q3, q4, q5, q6⟩ := id hfe
    have e3 : s₂ = ({ (U.calling g mk a).setFrames s₂.frames with heap := s₂.heap, slotsUsed := s₂.slotsUsed } : State).setVm s₂.vm := by
      have : s₂ = ({ s₂ with vm := (U.calling g mk a).vm } : State).setVm s₂.vm := rfl
      rw [e2] at this
      exact this
    obtain ⟨c₂, i₂, len₂, hc₂, hd₂, hf₂⟩ := hend
    have hW' : U.WarmedH s₂.vm := hW₂
    have hcc : c₂ = c := by
      have h1 : s₂.code? g.method = U.code? g.method := by
        rw [State.code?_eq, State.code?_eq, hW'.alike.method?]
      exact Option.some.inj (hc₂.symm.trans (h1.trans h.code))
    subst hcc
    have hlen : len₂ = len := by rw [hdg] at hd₂; cases hd₂; rfl
    subst hlen
    have hs₂ : s₂ = (({ U with heap := s₂.heap, slotsUsed := s₂.slotsUsed } : State).setVm s₂.vm).setTop { g with pc := g.pc + len₂, stack := v.toList ++ g.stack } := by
      refine e3.trans ?_
      rw [hf₂, State.calling_eq h.top, State.setFrames_setFrames, State.setTop_of_frames _ hr', hr]
      rfl
    have hsame : U.sameButNew ({ U with heap := s₂.heap, slotsUsed := s₂.slotsUsed } : State) L mc ms := by
      refine ⟨?_, q2, q3, q4, q5, q6⟩
      obtain ⟨t, ht, -⟩ := State.frames_cons hr
      show ({ U with heap := s₂.heap, slotsUsed := s₂.slotsUsed } : State) = { U.setFrames U.frames with heap := s₂.heap, slotsUsed := s₂.slotsUsed }
      rw [State.setFrames_self ht]
    subst hg
    refine Or.inl ⟨v, ⟨(({ U with heap := s₂.heap, slotsUsed := s₂.slotsUsed } : State).setVm s₂.vm), Ls ++ L, c0 + mc, s0 + ms⟩,
      ⟨X.admits, X.cas, X.clock, X.frames, X.room, X.hears, X.method, X.code, (X.here.setHeapUsed s₂.heap s₂.slotsUsed).setVm hW'.alike, X.tail, State.WarmedH.trans X.warmed hW', X.limits, X.bytes, X.same.trans (hsame.setVm s.vm)⟩,
      ⟨g, mk, s₂, L, rfl, rfl, hqc, rfl, hL, rfl, rfl⟩, ?_⟩
    show Steps p.tables e below _ ((({ U with heap := s₂.heap, slotsUsed := s₂.slotsUsed } : State).setVm s₂.vm).setTop { g with pc := g.pc + len₂, stack := v.toList ++ g.stack })
    rw [← hs₂]
    exact hsteps
  · obtain ⟨e2, q2, q3, q4, q5, q6⟩ := id hsm
    have e3 : s₂ = ({ (U.calling g mk a).setFrames s₂.frames with heap := s₂.heap, slotsUsed := s₂.slotsUsed } : State).setVm s₂.vm := by
      have : s₂ = ({ s₂ with vm := (U.calling g mk a).vm } : State).setVm s₂.vm := rfl
      rw [e2] at this
      exact this
    have hf₂ : s₂.frames = .throwing q :: .java g :: U.frames.tail := hend
    have hW' : U.WarmedH s₂.vm := hW₂
    have hs₂ : s₂ = ((({ U with heap := s₂.heap, slotsUsed := s₂.slotsUsed } : State).setVm s₂.vm).setTop g).pushFrame (.throwing q) := by
      refine e3.trans ?_
      rw [hf₂, State.calling_eq h.top, State.setFrames_setFrames, State.pushFrame, State.frames_setTop _ hr', State.setTop_of_frames _ hr', State.setFrames_setFrames, hr]
      rfl
    have hsame : U.sameButNew ({ U with heap := s₂.heap, slotsUsed := s₂.slotsUsed } : State) L mc ms := by
      refine ⟨?_, q2, q3, q4, q5, q6⟩
      obtain ⟨t, ht, -⟩ := State.frames_cons hr
      show ({ U with heap := s₂.heap, slotsUsed := s₂.slotsUsed } : State) = { U.setFrames U.frames with heap := s₂.heap, slotsUsed := s₂.slotsUsed }
      rw [State.setFrames_self ht]
    subst hg
    refine Or.inr ⟨q, ⟨(({ U with heap := s₂.heap, slotsUsed := s₂.slotsUsed } : State).setVm s₂.vm), Ls ++ L, c0 + mc, s0 + ms⟩,
      ⟨X.admits, X.cas, X.clock, X.frames, X.room, X.hears, X.method, X.code, (X.here.setHeapUsed s₂.heap s₂.slotsUsed).setVm hW'.alike, X.tail, State.WarmedH.trans X.warmed hW', X.limits, X.bytes, X.same.trans (hsame.setVm s.vm)⟩,
      ⟨g, mk, s₂, L, E, ce, rfl, rfl, hx, hce, hcv, hcl, rfl, hL, rfl, rfl⟩, ?_⟩
    show Steps p.tables e below _ (((({ U with heap := s₂.heap, slotsUsed := s₂.slotsUsed } : State).setVm s₂.vm).setTop g).pushFrame (.throwing q))
    rw [← hs₂]
    exact hsteps
end Payer
section Calls
variable {p : Program} {l : Launch} {e : Env} {R : Room} {s : State} {m : MethodId} {args : Array Value} {below : List Frame} {meth : Method} {c : Code} {T : State} {locs : List Loc} {cells slots : Nat}
theorem vx_callV (X : Stand p l e R s m args below meth c T locs cells slots) (hexec : p.tables.exec = Jvm.exec) {own C : String} {index : Nat} {y : MethodName} {bytes : ByteArray} {maxL : Nat} {ret : Option FieldType}
    (hown : s.vm.findClass own = some m.cls) (hlink : (Cond.methodLink own index y).before args s = true) (hinst : (Cond.instanceMethod y).before args s = true) (hsel : (Cond.selects C y y).before args s = true)
    (hcode : (Cond.code y bytes maxL ret).before args s = true) (hy : y.cls ≠ "java/lang/invoke/MethodHandle" ∧ y.cls ≠ "java/lang/invoke/VarHandle")
    {W9 : Nat} {Pre : Pt → Array Value → Prop} {Post : Pt → Array Value → Option Value → Pt → Prop} {PostX : Pt → Array Value → Addr → Pt → Prop} (hK : vx_Back l R p e below s args y 3 W9 Pre Post PostX)
    {b : Addr} {cellB : Cell} (hcell : T.heap[b]? = some cellB) (hobj : cellB.vm.isStatics = false) (hcls : s.vm.findClass C = some cellB.cls)
    {g : JFrame} (hg : g.method = m) (hsize : g.locals.size = c.maxLocals) {argsL rest : List Value} (hlen : ∀ sig, parseMethodDescriptor y.desc = some sig → argsL.length = sig.parameters.length)
    (hstack : g.stack = argsL.reverse ++ .ref b :: rest) (hW : 2 * g.monitorRoom + (rest.map fun v => v.category).sum ≤ W9) (hdg : decode c.code g.pc = .ok (.invokevirtual index, 3))
    (hpre : ∀ vm₁, s.WarmedH vm₁ → Pre ⟨T.setVm vm₁, locs, cells, slots⟩ (Value.ref b :: argsL).toArray) :
    (∃ (v : Option Value) (vm₁ : Vm) (B : Pt), s.WarmedH vm₁ ∧ Stand p l e R s m args below meth c B.U B.locs B.cells B.slots ∧ Post ⟨T.setVm vm₁, locs, cells, slots⟩ (Value.ref b :: argsL).toArray v B ∧
      ∀ target, Steps p.tables e below (B.U.setTop { g with pc := g.pc + 3, stack := v.toList ++ rest }) target → Steps p.tables e below (T.setTop g) target) ∨
    (∃ (q : Addr) (vm₁ : Vm) (B : Pt), s.WarmedH vm₁ ∧ Stand p l e R s m args below meth c B.U B.locs B.cells B.slots ∧ PostX ⟨T.setVm vm₁, locs, cells, slots⟩ (Value.ref b :: argsL).toArray q B ∧
      Steps p.tables e below (T.setTop g) ((B.U.setTop { g with stack := rest }).pushFrame (.throwing q))) := by
  obtain ⟨mk, methM, hnamed, hmethM, hstM, habM⟩ := Cond.instanceMethod_spec hinst
  obtain ⟨methM', cM, hmethM', -, -, -, -, -, -, hsigM⟩ := Cond.code_spec hnamed hcode
  cases hmethM.symm.trans hmethM'
  obtain ⟨c2, r2, m2, q1, q2, q3, q4, kP, hkP, hkPi⟩ := Cond.selects_spec hsel
  cases hcls.symm.trans q1
  cases (State.methodFound?_of_named hnamed hy).symm.trans q2
  cases hnamed.symm.trans q3
  have hselP : selectMethod e.platform s.vm cellB.cls mk = .method mk := by rw [Launch.admits_selectMethod X.admits]; exact q4
  obtain ⟨vm₁, X₁, hstep₁⟩ := X.invokevirtual hexec hown hlink hnamed hmethM hstM hkP hkPi hy (a := b) (cell := cellB) hcell
    (fun z h => by rw [h] at hobj; cases hobj) hselP hmethM habM hkP hkPi (g := g) hg (argsL := argsL) (rest := rest) (hlen _ hsigM) hstack hdg
  rcases hK m meth c ⟨T.setVm vm₁, locs, cells, slots⟩ { g with stack := rest } (.invokevirtual index) mk (Value.ref b :: argsL).toArray X₁ hg hsize hdg hW (X₁.named hnamed) (hpre vm₁ X₁.warmed) with ⟨v, B, X', hpost, hsteps⟩ | ⟨q, B, X', hpost, hsteps⟩
  · exact Or.inl ⟨v, vm₁, B, X₁.warmed, X', hpost, fun target h => hstep₁ _ fun acts => by rw [doInvoke_state]; exact hsteps.trans h⟩
  · exact Or.inr ⟨q, vm₁, B, X₁.warmed, X', hpost, hstep₁ _ fun acts => by rw [doInvoke_state]; exact hsteps⟩
theorem vx_callS (X : Stand p l e R s m args below meth c T locs cells slots) (hexec : p.tables.exec = Jvm.exec) {own : String} {index : Nat} {y : MethodName} {bytes : ByteArray} {maxL : Nat} {ret : Option FieldType}
    (hown : s.vm.findClass own = some m.cls) (hlink : (Cond.methodLink own index y).before args s = true) (hstat : (Cond.static y).before args s = true) (hinit : (Cond.initialized y.cls).before args s = true)
    (hcode : (Cond.code y bytes maxL ret).before args s = true) (hy : y.cls ≠ "java/lang/invoke/MethodHandle" ∧ y.cls ≠ "java/lang/invoke/VarHandle")
    {W9 : Nat} {Pre : Pt → Array Value → Prop} {Post : Pt → Array Value → Option Value → Pt → Prop} {PostX : Pt → Array Value → Addr → Pt → Prop} (hK : vx_Back l R p e below s args y 3 W9 Pre Post PostX)
    {g : JFrame} (hg : g.method = m) (hsize : g.locals.size = c.maxLocals) {argsL rest : List Value} (hlen : ∀ sig, parseMethodDescriptor y.desc = some sig → argsL.length = sig.parameters.length)
    (hstack : g.stack = argsL.reverse ++ rest) (hW : 2 * g.monitorRoom + (rest.map fun v => v.category).sum ≤ W9) (hdg : decode c.code g.pc = .ok (.invokestatic index, 3))
    (hpre : ∀ vm₁, s.WarmedH vm₁ → Pre ⟨T.setVm vm₁, locs, cells, slots⟩ argsL.toArray) :
    (∃ (v : Option Value) (vm₁ : Vm) (B : Pt), s.WarmedH vm₁ ∧ Stand p l e R s m args below meth c B.U B.locs B.cells B.slots ∧ Post ⟨T.setVm vm₁, locs, cells, slots⟩ argsL.toArray v B ∧
      ∀ target, Steps p.tables e below (B.U.setTop { g with pc := g.pc + 3, stack := v.toList ++ rest }) target → Steps p.tables e below (T.setTop g) target) ∨
    (∃ (q : Addr) (vm₁ : Vm) (B : Pt), s.WarmedH vm₁ ∧ Stand p l e R s m args below meth c B.U B.locs B.cells B.slots ∧ PostX ⟨T.setVm vm₁, locs, cells, slots⟩ argsL.toArray q B ∧
      Steps p.tables e below (T.setTop g) ((B.U.setTop { g with stack := rest }).pushFrame (.throwing q))) := by
  obtain ⟨mk, hnamed⟩ := Cond.code_named hcode
  obtain ⟨methM, cM, hmethM, -, -, -, -, -, -, hsigM⟩ := Cond.code_spec hnamed hcode
  have hstatic : methM.isStatic = true := Cond.static_spec hnamed hmethM hstat
  obtain ⟨kP, hkP, -⟩ := className_of_methodNamed hnamed
  have hinitP : kP.init = .initialized := Cond.initialized_spec (findClass_of_methodNamed hnamed) hkP hinit
  obtain ⟨vm₁, X₁, hstep₁⟩ := X.invokestatic hexec hown hlink hnamed hmethM hstatic hkP hinitP hy (g := g) hg (argsL := argsL) (rest := rest) (hlen _ hsigM) hstack hdg
  rcases hK m meth c ⟨T.setVm vm₁, locs, cells, slots⟩ { g with stack := rest } (.invokestatic index) mk argsL.toArray X₁ hg hsize hdg hW (X₁.named hnamed) (hpre vm₁ X₁.warmed) with ⟨v, B, X', hpost, hsteps⟩ | ⟨q, B, X', hpost, hsteps⟩
  · exact Or.inl ⟨v, vm₁, B, X₁.warmed, X', hpost, fun target h => hstep₁ _ fun acts => by rw [doInvoke_state]; exact hsteps.trans h⟩
  · exact Or.inr ⟨q, vm₁, B, X₁.warmed, X', hpost, hstep₁ _ fun acts => by rw [doInvoke_state]; exact hsteps⟩
end Calls
theorem vx_cls {s : State} {T : State} {vm₁ : Vm} {E : String} {k : ClassId} (hW : s.WarmedH vm₁) (h : (T.setVm vm₁).vm.findClass E = some k) : s.vm.findClass E = some k := by
  have h1 : vm₁.findClass E = some k := h
  rw [hW.alike.findClass] at h1
  exact h1
/-- the method's frame g, with q thrown over it -/
def vx_W (p : Program) (l : Launch) (e : Env) (R : Room) (s : State) (m : MethodId) (args : Array Value) (below : List Frame) (meth : Method) (c : Code) (H : Heap) (locs : List Loc) (cells slots : Nat) (Q : State → Prop) (g : JFrame) (q : Addr) : Prop :=
  ∀ T : State, T.heap = H → Stand p l e R s m args below meth c T locs cells slots → ∃ t, Steps p.tables e below ((T.setTop g).pushFrame (.throwing q)) t ∧ Q t
def vx_Run (p : Program) (l : Launch) (e : Env) (R : Room) (s : State) (m : MethodId) (args : Array Value) (below : List Frame) (meth : Method) (c : Code) (H : Heap) (locs : List Loc) (cells slots mc ms : Nat) (g : JFrame) (rest : List Value) (Qa : State → Outcome → State → Prop) (XC : String → State → State → Prop) (free : Addr → Prop) : Prop :=
  ∀ T : State, T.heap = H → Stand p l e R s m args below meth c T locs cells slots →
    (∃ (v : Option Value) (st₀ t T' : State) (L : List Loc), st₀.heap = H ∧ Stand p l e R s m args below meth c T' (locs ++ L) (cells + mc) (slots + ms) ∧ (∀ q ∈ L, free q.base) ∧ T'.heap = t.heap ∧ T'.vm = t.vm ∧ Qa st₀ (.returned v) t ∧
      Goes p e below T g T' { g with pc := g.pc + 3, stack := v.toList ++ rest }) ∨
    (∃ (q : Addr) (st₀ t T' : State) (L : List Loc) (E : String) (ce : Cell), st₀.heap = H ∧ Stand p l e R s m args below meth c T' (locs ++ L) (cells + mc) (slots + ms) ∧ (∀ z ∈ L, free z.base) ∧ T'.heap = t.heap ∧ T'.vm = t.vm ∧ XC E st₀ t ∧ t.heap[q]? = some ce ∧ ce.vm = .none ∧ s.vm.findClass E = some ce.cls ∧
      Steps p.tables e below (T.setTop g) ((T'.setTop { g with stack := rest }).pushFrame (.throwing q)))
def vx_X {S : Type} (px : S → Prop) (B : String → S → State → Prop) (A : Nat → Prop) : String → State → State → Prop := fun E st t => ∃ u : S, px u ∧ B E u t ∧ va_F A st t
section Runs
variable {p : Program} {l : Launch} {e : Env} {R : Room} {s : State} {m : MethodId} {args : Array Value} {below : List Frame} {meth : Method} {c : Code} {H : Heap} {locs : List Loc} {cells slots : Nat}
variable {y : MethodName} {bytes cc : ByteArray} {maxL nL mc ms n index : Nat} {ret : Option FieldType} {ws : List Cond} {rm : Room} {Pc : Array Value → State → Prop} {Qc : Array Value → State → Outcome → State → Prop} {XC : String → State → State → Prop} {free : Addr → Prop} {Ts : List Cond} {own C : String} {b : Addr} {As rest : List Value} {g : JFrame}
theorem vx_callBack (cb : CallB R s args own index y bytes maxL ret ws rm mc ms n) (hM : vx_Met l y ws rm Pc Qc XC mc ms free) (hbl : FrameBlind Pc) : vx_Back l R p e below s args y 3 8 (PreOf R mc ms Pc) (PostOf Qc mc ms free) (vx_Post XC mc ms free) := by
  obtain ⟨hrc, hrs, hfr, hlo, hws, hcw, -, hini, -⟩ := cb
  exact vx_back (bytes := bytes) (maxL := maxL) (ret := ret) hM hbl hrc hrs hfr hlo hws hcw (fun a' U hW => word_at hW (Or.inl (by first | rfl | simp [Cond.onTables, Cond.keeps, Cond.steady])) hini)
theorem vx_runV (S : CallFix p m c cc nL s args Ts own) (hM : vx_Met l y ws rm Pc Qc XC mc ms free) (cw : CallW R s args own C index y bytes maxL ret ws rm mc ms n) (hp : PreV s H C b Pc As)
    (hg : g.method = m) (hn : As.length = n) (hsize : g.locals.size = nL) (hstack : g.stack = As.reverse ++ .ref b :: rest) (hW : 2 * g.monitorRoom + (rest.map fun v => v.category).sum ≤ 8) (hdg : decode cc g.pc = .ok (.invokevirtual index, 3)) (hf : cells + mc ≤ R.cells ∧ slots + ms ≤ R.slots) :
    vx_Run p l e R s m args below meth c H locs cells slots mc ms g rest (Qc (Value.ref b :: As).toArray) XC free := by
  have hK : vx_Back l R p e below s args y 3 8 (PreOf R mc ms Pc) (PostOf Qc mc ms free) (vx_Post XC mc ms free) := vx_callBack cw.1 hM hp.1
  obtain ⟨⟨-, -, -, -, -, -, hcode, -, hy, hlen, hl⟩, hin, hse⟩ := cw
  obtain ⟨hx, hb, hml, ho, -⟩ := S
  obtain ⟨-, ⟨cellB, hcB, hoB, hclB⟩, hPc⟩ := hp
  intro T hT X
  rcases vx_callV X hx (C := C) (bytes := bytes) (maxL := maxL) (ret := ret) ho hl hin hse hcode hy hK (by rw [hT]; exact hcB) hoB hclB hg (hsize.trans hml.symm) (argsL := As) (rest := rest) (fun sig h => hn.trans (hlen sig h)) hstack hW (by rw [hb]; exact hdg)
    (fun vm₁ hW₁ => ⟨hf.1, hf.2, hPc (T.setVm vm₁) hT hW₁⟩) with ⟨v, vm₁, ⟨U', l2, c2, s2⟩, hW₁, X', ⟨g', mk, t, L, e1, e2, hq, h1, hL, h2, h3⟩, st⟩ | ⟨q, vm₁, ⟨U', l2, c2, s2⟩, hW₁, X', ⟨g', mk, t, L, E, ce, e1, e2, hq, hce, hcv, hcl, h1, hL, h2, h3⟩, st⟩
  · dsimp only [Pt.U, Pt.locs, Pt.cells, Pt.slots] at X' e1 e2 h1 h2 h3 st
    subst h1; subst h2; subst h3
    exact Or.inl ⟨v, (T.setVm vm₁).calling g' mk (Value.ref b :: As).toArray, t, U', L, hT, X', hL, e1, e2, hq, st⟩
  · dsimp only [Pt.U, Pt.locs, Pt.cells, Pt.slots] at X' e1 e2 h1 h2 h3 st hcl
    subst h1; subst h2; subst h3
    exact Or.inr ⟨q, (T.setVm vm₁).calling g' mk (Value.ref b :: As).toArray, t, U', L, E, ce, hT, X', hL, e1, e2, hq, hce, hcv, vx_cls hW₁ hcl, st⟩
theorem vx_runS (S : CallFix p m c cc nL s args Ts own) (hM : vx_Met l y ws rm Pc Qc XC mc ms free) (cw : CallB R s args own index y bytes maxL ret ws rm mc ms n ∧ (Cond.static y).before args s = true) (hp : PreS s H Pc As)
    (hg : g.method = m) (hn : As.length = n) (hsize : g.locals.size = nL) (hstack : g.stack = As.reverse ++ rest) (hW : 2 * g.monitorRoom + (rest.map fun v => v.category).sum ≤ 8) (hdg : decode cc g.pc = .ok (.invokestatic index, 3)) (hf : cells + mc ≤ R.cells ∧ slots + ms ≤ R.slots) :
    vx_Run p l e R s m args below meth c H locs cells slots mc ms g rest (Qc As.toArray) XC free := by
  have hK : vx_Back l R p e below s args y 3 8 (PreOf R mc ms Pc) (PostOf Qc mc ms free) (vx_Post XC mc ms free) := vx_callBack cw.1 hM hp.1
  obtain ⟨⟨-, -, -, -, -, -, hcode, hini, hy, hlen, hl⟩, hstt⟩ := cw
  obtain ⟨hx, hb, hml, ho, -⟩ := S
  intro T hT X
  rcases vx_callS X hx (bytes := bytes) (maxL := maxL) (ret := ret) ho hl hstt hini hcode hy hK hg (hsize.trans hml.symm) (argsL := As) (rest := rest) (fun sig h => hn.trans (hlen sig h)) hstack hW (by rw [hb]; exact hdg)
    (fun vm₁ hW₁ => ⟨hf.1, hf.2, hp.2 (T.setVm vm₁) hT hW₁⟩) with ⟨v, vm₁, ⟨U', l2, c2, s2⟩, hW₁, X', ⟨g', mk, t, L, e1, e2, hq, h1, hL, h2, h3⟩, st⟩ | ⟨q, vm₁, ⟨U', l2, c2, s2⟩, hW₁, X', ⟨g', mk, t, L, E, ce, e1, e2, hq, hce, hcv, hcl, h1, hL, h2, h3⟩, st⟩
  · dsimp only [Pt.U, Pt.locs, Pt.cells, Pt.slots] at X' e1 e2 h1 h2 h3 st
    subst h1; subst h2; subst h3
    exact Or.inl ⟨v, (T.setVm vm₁).calling g' mk As.toArray, t, U', L, hT, X', hL, e1, e2, hq, st⟩
  · dsimp only [Pt.U, Pt.locs, Pt.cells, Pt.slots] at X' e1 e2 h1 h2 h3 st hcl
    subst h1; subst h2; subst h3
    exact Or.inr ⟨q, (T.setVm vm₁).calling g' mk As.toArray, t, U', L, E, ce, hT, X', hL, e1, e2, hq, hce, hcv, vx_cls hW₁ hcl, st⟩
end Runs
section Rows
variable {p : Program} {l : Launch} {e : Env} {R : Room} {s : State} {m : MethodId} {args : Array Value} {below : List Frame} {meth : Method} {c : Code} {H : Heap} {locs : List Loc} {cells slots : Nat} {Q : State → Prop}
variable {mc ms : Nat} {free : Addr → Prop} {A0 A1 : Nat → Prop} {H0 : Heap} {a : Array Value} {pc : Nat} {ls : Array Slot} {st0 rest : List Value}
theorem vx_keep {st₀ t T' : State} {L : List Loc} (h0 : st₀.heap = H) (e1 : T'.heap = t.heap) (hS : va_S A0 H0 H locs) (hA : ∀ q, q < H.size → A1 q → A0 q) (hf : ∀ q, free q → A0 q) (hL : ∀ q ∈ L, free q.base) (hF : va_F A1 st₀ t) :
    H.size ≤ T'.heap.size ∧ (∀ q : Nat, q < H.size → ¬ A1 q → T'.heap[q]? = H[q]?) ∧ va_S A0 H0 T'.heap (locs ++ L) := by
  obtain ⟨hz, hk⟩ := hF
  rw [h0] at hz hk
  exact ⟨by rw [e1]; exact hz, fun q h1 h2 => by rw [e1]; exact hk q h1 h2,
    ⟨Nat.le_trans hS.1 (by rw [e1]; exact hz), fun q h1 h2 => by rw [e1, hk q (Nat.lt_of_lt_of_le h1 hS.1) (fun z => h2 (hA q (Nat.lt_of_lt_of_le h1 hS.1) z))]; exact hS.2.1 q h1 h2, fun q hq => by
      rcases List.mem_append.mp hq with h | h
      · exact hS.2.2 q h
      · exact hf _ (hL q h)⟩⟩
theorem vx_calli {S SX : Type} {post : Int32 → S → Prop} {px : SX → Prop} {B : S → State → Prop} {BX : String → SX → State → Prop} {AX : Nat → Prop} (hr : vx_Run p l e R s m args below meth c H locs cells slots mc ms (F0 m pc ls st0) rest (va_Qi post B A1 a) (vx_X px BX AX) free) (hS : va_S A0 H0 H locs) (hA : ∀ q, q < H.size → A1 q → A0 q) (hf : ∀ q, free q → A0 q) (hAX : ∀ q, q < H.size → AX q → A0 q)
    (kx : ∀ (E : String) (ce : Cell) (q9 : Addr) (u : SX) (t : State) (H1 : Heap) (locs1 : List Loc), t.heap = H1 → s.vm.Alike t.vm → px u → BX E u t → H.size ≤ H1.size → (∀ q : Nat, q < H.size → ¬ AX q → H1[q]? = H[q]?) → va_S A0 H0 H1 locs1 → H1[q9]? = some ce → ce.vm = .none → s.vm.findClass E = some ce.cls → vx_W p l e R s m args below meth c H1 locs1 (cells + mc) (slots + ms) Q (F0 m pc ls rest) q9)
    (kk : ∀ (r : Int32) (u : S) (t : State) (H1 : Heap) (locs1 : List Loc), t.heap = H1 → s.vm.Alike t.vm → post r u → B u t → H.size ≤ H1.size → (∀ q : Nat, q < H.size → ¬ A1 q → H1[q]? = H[q]?) → va_S A0 H0 H1 locs1 → W p l e R s m args below meth c H1 locs1 (cells + mc) (slots + ms) Q (F0 m (pc + 3) ls (.int r :: rest))) : W p l e R s m args below meth c H locs cells slots Q (F0 m pc ls st0) := by
  intro T hT X
  rcases hr T hT X with ⟨v, st₀, t, T', L, h0, X', hL, e1, e2, ⟨⟨r, u, hv, hp, hb⟩, hF⟩, st⟩ | ⟨q, st₀, t, T', L, E, ce, h0, X', hL, e1, e2, ⟨u, hp, hb, hF⟩, hce, hcv, hcl, st⟩
  · cases hv
    obtain ⟨k1, k2, k3⟩ := vx_keep h0 e1 hS hA hf hL hF
    obtain ⟨t2, a1, b1⟩ := kk r u t T'.heap (locs ++ L) e1.symm (by rw [← e2]; exact X'.warmed.alike) hp hb k1 k2 k3 T' rfl X'
    exact ⟨t2, st t2 a1, b1⟩
  · obtain ⟨k1, k2, k3⟩ := vx_keep h0 e1 hS hAX hf hL hF
    obtain ⟨t2, a1, b1⟩ := kx E ce q u t T'.heap (locs ++ L) e1.symm (by rw [← e2]; exact X'.warmed.alike) hp hb k1 k2 k3 (by rw [e1]; exact hce) hcv hcl T' rfl X'
    exact ⟨t2, st.trans a1, b1⟩
theorem vx_calll {S SX : Type} {post : Int64 → S → Prop} {px : SX → Prop} {B : S → State → Prop} {BX : String → SX → State → Prop} {AX : Nat → Prop} (hr : vx_Run p l e R s m args below meth c H locs cells slots mc ms (F0 m pc ls st0) rest (va_Ql post B A1 a) (vx_X px BX AX) free) (hS : va_S A0 H0 H locs) (hA : ∀ q, q < H.size → A1 q → A0 q) (hf : ∀ q, free q → A0 q) (hAX : ∀ q, q < H.size → AX q → A0 q)
    (kx : ∀ (E : String) (ce : Cell) (q9 : Addr) (u : SX) (t : State) (H1 : Heap) (locs1 : List Loc), t.heap = H1 → s.vm.Alike t.vm → px u → BX E u t → H.size ≤ H1.size → (∀ q : Nat, q < H.size → ¬ AX q → H1[q]? = H[q]?) → va_S A0 H0 H1 locs1 → H1[q9]? = some ce → ce.vm = .none → s.vm.findClass E = some ce.cls → vx_W p l e R s m args below meth c H1 locs1 (cells + mc) (slots + ms) Q (F0 m pc ls rest) q9)
    (kk : ∀ (r : Int64) (u : S) (t : State) (H1 : Heap) (locs1 : List Loc), t.heap = H1 → s.vm.Alike t.vm → post r u → B u t → H.size ≤ H1.size → (∀ q : Nat, q < H.size → ¬ A1 q → H1[q]? = H[q]?) → va_S A0 H0 H1 locs1 → W p l e R s m args below meth c H1 locs1 (cells + mc) (slots + ms) Q (F0 m (pc + 3) ls (.long r :: rest))) : W p l e R s m args below meth c H locs cells slots Q (F0 m pc ls st0) := by
  intro T hT X
  rcases hr T hT X with ⟨v, st₀, t, T', L, h0, X', hL, e1, e2, ⟨⟨r, u, hv, hp, hb⟩, hF⟩, st⟩ | ⟨q, st₀, t, T', L, E, ce, h0, X', hL, e1, e2, ⟨u, hp, hb, hF⟩, hce, hcv, hcl, st⟩
  · cases hv
    obtain ⟨k1, k2, k3⟩ := vx_keep h0 e1 hS hA hf hL hF
    obtain ⟨t2, a1, b1⟩ := kk r u t T'.heap (locs ++ L) e1.symm (by rw [← e2]; exact X'.warmed.alike) hp hb k1 k2 k3 T' rfl X'
    exact ⟨t2, st t2 a1, b1⟩
  · obtain ⟨k1, k2, k3⟩ := vx_keep h0 e1 hS hAX hf hL hF
    obtain ⟨t2, a1, b1⟩ := kx E ce q u t T'.heap (locs ++ L) e1.symm (by rw [← e2]; exact X'.warmed.alike) hp hb k1 k2 k3 (by rw [e1]; exact hce) hcv hcl T' rfl X'
    exact ⟨t2, st.trans a1, b1⟩
theorem vx_callf {S SX : Type} {post : UInt32 → S → Prop} {px : SX → Prop} {B : S → State → Prop} {BX : String → SX → State → Prop} {AX : Nat → Prop} (hr : vx_Run p l e R s m args below meth c H locs cells slots mc ms (F0 m pc ls st0) rest (va_Qf post B A1 a) (vx_X px BX AX) free) (hS : va_S A0 H0 H locs) (hA : ∀ q, q < H.size → A1 q → A0 q) (hf : ∀ q, free q → A0 q) (hAX : ∀ q, q < H.size → AX q → A0 q)
    (kx : ∀ (E : String) (ce : Cell) (q9 : Addr) (u : SX) (t : State) (H1 : Heap) (locs1 : List Loc), t.heap = H1 → s.vm.Alike t.vm → px u → BX E u t → H.size ≤ H1.size → (∀ q : Nat, q < H.size → ¬ AX q → H1[q]? = H[q]?) → va_S A0 H0 H1 locs1 → H1[q9]? = some ce → ce.vm = .none → s.vm.findClass E = some ce.cls → vx_W p l e R s m args below meth c H1 locs1 (cells + mc) (slots + ms) Q (F0 m pc ls rest) q9)
    (kk : ∀ (r : UInt32) (u : S) (t : State) (H1 : Heap) (locs1 : List Loc), t.heap = H1 → s.vm.Alike t.vm → post r u → B u t → H.size ≤ H1.size → (∀ q : Nat, q < H.size → ¬ A1 q → H1[q]? = H[q]?) → va_S A0 H0 H1 locs1 → W p l e R s m args below meth c H1 locs1 (cells + mc) (slots + ms) Q (F0 m (pc + 3) ls (.float r :: rest))) : W p l e R s m args below meth c H locs cells slots Q (F0 m pc ls st0) := by
  intro T hT X
  rcases hr T hT X with ⟨v, st₀, t, T', L, h0, X', hL, e1, e2, ⟨⟨r, u, hv, hp, hb⟩, hF⟩, st⟩ | ⟨q, st₀, t, T', L, E, ce, h0, X', hL, e1, e2, ⟨u, hp, hb, hF⟩, hce, hcv, hcl, st⟩
  · cases hv
    obtain ⟨k1, k2, k3⟩ := vx_keep h0 e1 hS hA hf hL hF
    obtain ⟨t2, a1, b1⟩ := kk r u t T'.heap (locs ++ L) e1.symm (by rw [← e2]; exact X'.warmed.alike) hp hb k1 k2 k3 T' rfl X'
    exact ⟨t2, st t2 a1, b1⟩
  · obtain ⟨k1, k2, k3⟩ := vx_keep h0 e1 hS hAX hf hL hF
    obtain ⟨t2, a1, b1⟩ := kx E ce q u t T'.heap (locs ++ L) e1.symm (by rw [← e2]; exact X'.warmed.alike) hp hb k1 k2 k3 (by rw [e1]; exact hce) hcv hcl T' rfl X'
    exact ⟨t2, st.trans a1, b1⟩
theorem vx_calld {S SX : Type} {post : UInt64 → S → Prop} {px : SX → Prop} {B : S → State → Prop} {BX : String → SX → State → Prop} {AX : Nat → Prop} (hr : vx_Run p l e R s m args below meth c H locs cells slots mc ms (F0 m pc ls st0) rest (va_Qd post B A1 a) (vx_X px BX AX) free) (hS : va_S A0 H0 H locs) (hA : ∀ q, q < H.size → A1 q → A0 q) (hf : ∀ q, free q → A0 q) (hAX : ∀ q, q < H.size → AX q → A0 q)
    (kx : ∀ (E : String) (ce : Cell) (q9 : Addr) (u : SX) (t : State) (H1 : Heap) (locs1 : List Loc), t.heap = H1 → s.vm.Alike t.vm → px u → BX E u t → H.size ≤ H1.size → (∀ q : Nat, q < H.size → ¬ AX q → H1[q]? = H[q]?) → va_S A0 H0 H1 locs1 → H1[q9]? = some ce → ce.vm = .none → s.vm.findClass E = some ce.cls → vx_W p l e R s m args below meth c H1 locs1 (cells + mc) (slots + ms) Q (F0 m pc ls rest) q9)
    (kk : ∀ (r : UInt64) (u : S) (t : State) (H1 : Heap) (locs1 : List Loc), t.heap = H1 → s.vm.Alike t.vm → post r u → B u t → H.size ≤ H1.size → (∀ q : Nat, q < H.size → ¬ A1 q → H1[q]? = H[q]?) → va_S A0 H0 H1 locs1 → W p l e R s m args below meth c H1 locs1 (cells + mc) (slots + ms) Q (F0 m (pc + 3) ls (.double r :: rest))) : W p l e R s m args below meth c H locs cells slots Q (F0 m pc ls st0) := by
  intro T hT X
  rcases hr T hT X with ⟨v, st₀, t, T', L, h0, X', hL, e1, e2, ⟨⟨r, u, hv, hp, hb⟩, hF⟩, st⟩ | ⟨q, st₀, t, T', L, E, ce, h0, X', hL, e1, e2, ⟨u, hp, hb, hF⟩, hce, hcv, hcl, st⟩
  · cases hv
    obtain ⟨k1, k2, k3⟩ := vx_keep h0 e1 hS hA hf hL hF
    obtain ⟨t2, a1, b1⟩ := kk r u t T'.heap (locs ++ L) e1.symm (by rw [← e2]; exact X'.warmed.alike) hp hb k1 k2 k3 T' rfl X'
    exact ⟨t2, st t2 a1, b1⟩
  · obtain ⟨k1, k2, k3⟩ := vx_keep h0 e1 hS hAX hf hL hF
    obtain ⟨t2, a1, b1⟩ := kx E ce q u t T'.heap (locs ++ L) e1.symm (by rw [← e2]; exact X'.warmed.alike) hp hb k1 k2 k3 (by rw [e1]; exact hce) hcv hcl T' rfl X'
    exact ⟨t2, st.trans a1, b1⟩
theorem vx_callv {S SX : Type} {post : S → Prop} {px : SX → Prop} {B : S → State → Prop} {BX : String → SX → State → Prop} {AX : Nat → Prop} (hr : vx_Run p l e R s m args below meth c H locs cells slots mc ms (F0 m pc ls st0) rest (va_Qv post B A1 a) (vx_X px BX AX) free) (hS : va_S A0 H0 H locs) (hA : ∀ q, q < H.size → A1 q → A0 q) (hf : ∀ q, free q → A0 q) (hAX : ∀ q, q < H.size → AX q → A0 q)
    (kx : ∀ (E : String) (ce : Cell) (q9 : Addr) (u : SX) (t : State) (H1 : Heap) (locs1 : List Loc), t.heap = H1 → s.vm.Alike t.vm → px u → BX E u t → H.size ≤ H1.size → (∀ q : Nat, q < H.size → ¬ AX q → H1[q]? = H[q]?) → va_S A0 H0 H1 locs1 → H1[q9]? = some ce → ce.vm = .none → s.vm.findClass E = some ce.cls → vx_W p l e R s m args below meth c H1 locs1 (cells + mc) (slots + ms) Q (F0 m pc ls rest) q9)
    (kk : ∀ (u : S) (t : State) (H1 : Heap) (locs1 : List Loc), t.heap = H1 → s.vm.Alike t.vm → post u → B u t → H.size ≤ H1.size → (∀ q : Nat, q < H.size → ¬ A1 q → H1[q]? = H[q]?) → va_S A0 H0 H1 locs1 → W p l e R s m args below meth c H1 locs1 (cells + mc) (slots + ms) Q (F0 m (pc + 3) ls (rest))) : W p l e R s m args below meth c H locs cells slots Q (F0 m pc ls st0) := by
  intro T hT X
  rcases hr T hT X with ⟨v, st₀, t, T', L, h0, X', hL, e1, e2, ⟨⟨u, hv, hp, hb⟩, hF⟩, st⟩ | ⟨q, st₀, t, T', L, E, ce, h0, X', hL, e1, e2, ⟨u, hp, hb, hF⟩, hce, hcv, hcl, st⟩
  · cases hv
    obtain ⟨k1, k2, k3⟩ := vx_keep h0 e1 hS hA hf hL hF
    obtain ⟨t2, a1, b1⟩ := kk u t T'.heap (locs ++ L) e1.symm (by rw [← e2]; exact X'.warmed.alike) hp hb k1 k2 k3 T' rfl X'
    exact ⟨t2, st t2 a1, b1⟩
  · obtain ⟨k1, k2, k3⟩ := vx_keep h0 e1 hS hAX hf hL hF
    obtain ⟨t2, a1, b1⟩ := kx E ce q u t T'.heap (locs ++ L) e1.symm (by rw [← e2]; exact X'.warmed.alike) hp hb k1 k2 k3 (by rw [e1]; exact hce) hcv hcl T' rfl X'
    exact ⟨t2, st.trans a1, b1⟩
/-- caught by the row x of this method's table; the rows ahead don't take it -/
theorem vx_catch {own name : String} {E : String} {ce : Cell} {q : Addr} (hown : s.vm.findClass own = some m.cls) (pre : List ExceptionTableEntry) (x : ExceptionTableEntry) (suf : List ExceptionTableEntry) (hsplit : c.exceptionTable.toList = pre ++ x :: suf)
    (hpass : ∀ z ∈ pre, covers z pc = false ∨ (z.catchType ≠ 0 ∧ ∃ nm : String, (Cond.classLink own z.catchType nm).before args s = true ∧ va_Nc E nm s)) (hx : covers x pc = true) (h0 : x.catchType ≠ 0)
    (hlink : (Cond.classLink own x.catchType name).before args s = true) (hcast : (Cond.castable E name).before args s = true) (hcell : H[q]? = some ce) (hv : ce.vm = .none) (hcl : s.vm.findClass E = some ce.cls)
    (kk : W p l e R s m args below meth c H locs cells slots Q (F0 m x.handlerPc ls [.ref q])) : vx_W p l e R s m args below meth c H locs cells slots Q (F0 m pc ls rest) q := by
  intro T hT X
  have hpl : e.platform.magicAccessors = ({} : Platform).magicAccessors := by rw [X.admits.platform]
  obtain ⟨c3, c4, hc3, hc4, hasg⟩ := Cond.castable_spec hcast
  cases Option.some.inj (hc3.symm.trans hcl)
  obtain ⟨c5, hc5, hcl5⟩ := Cond.classLink_spec hown hlink e.platform hpl
  cases Option.some.inj (hc4.symm.trans hc5)
  obtain ⟨vm', X', st⟩ := X.thenCaughtThrough q (g := F0 m pc ls rest) rfl (Steps.refl _) (by rw [hT]; exact hcell) (by rw [hv]; rfl) (by obtain ⟨k9, h9, -⟩ := Vm.findClass_spec hcl; exact ⟨k9, h9⟩) pre x suf hsplit
    (fun z hz => by
      rcases hpass z hz with h | ⟨hz0, nm, hl1, hn1⟩
      · exact Or.inl h
      · obtain ⟨c6, hc6, hcl6⟩ := Cond.classLink_spec hown hl1 e.platform hpl
        obtain ⟨a8, b8, h1, h2, h3⟩ := hn1
        cases Option.some.inj (h1.symm.trans hcl)
        cases Option.some.inj (h2.symm.trans hc6)
        exact Or.inr ⟨hz0, _, hcl6, h3⟩) hx (Or.inr ⟨h0, c4, hcl5, hasg⟩)
  obtain ⟨t, a1, b1⟩ := kk (T.setVm vm') hT X'
  exact ⟨t, st.trans a1, b1⟩
end Rows
section Ends
variable {p : Program} {l : Launch} {e : Env} {R : Room} {s : State} {m : MethodId} {args : Array Value} {below : List Frame} {meth : Method} {c : Code} {H : Heap} {locs : List Loc} {cells slots : Nat} {Q : State → Prop}
variable {mc ms : Nat} {free : Addr → Prop} {A0 A1 : Nat → Prop} {H0 : Heap} {a : Array Value} {ls : Array Slot} {st0 rest : List Value}
variable {Qc : Array Value → State → Outcome → State → Prop} {XC : String → State → State → Prop}
/-- what a body that may throw owes at its end -/
def vx_MQ (below : List Frame) (Qc : Array Value → State → Outcome → State → Prop) (XC : String → State → State → Prop) (a : Array Value) (s : State) (mc ms : Nat) (free : Addr → Prop) : State → Prop := fun t =>
  ∃ o, t.status = .running ∧ Ended t below o ∧ vx_Q Qc XC mc ms free a s o t
theorem vx_ret {g : JFrame} {mc ms : Nat} (k : W p l e R s m args below meth c H locs cells slots (MQ below Qc args s mc ms free) g) : W p l e R s m args below meth c H locs cells slots (vx_MQ below Qc XC args s mc ms free) g := by
  intro T hT X
  obtain ⟨t, a1, o, b1, b2, b3, b4⟩ := k T hT X
  exact ⟨t, a1, o, b1, b2, Or.inl ⟨b3, b4⟩⟩
/-- not caught here: it goes on to the caller -/
theorem vx_widen {g : JFrame} {q : Addr} {k n : Nat} (h1 : cells ≤ k) (h2 : slots ≤ n) (kk : vx_W p l e R s m args below meth c H locs k n Q g q) : vx_W p l e R s m args below meth c H locs cells slots Q g q := fun T hT X => kk T hT (stand_widen X h1 h2)
theorem vx_out {pc : Nat} {E : String} {ce : Cell} {q : Addr} {mc ms : Nat} (hout : ∀ x ∈ c.exceptionTable.toList, covers x pc = false) (hlocks : meth.locks = false) (hcell : H[q]? = some ce) (hv : ce.vm = .none) (hcl : s.vm.findClass E = some ce.cls)
    (hx : ∀ t : State, t.heap = H → s.vm.Alike t.vm → XC E s t) (hf : ∀ z ∈ locs, free z.base) (hc : cells ≤ mc) (hs : slots ≤ ms) :
    vx_W p l e R s m args below meth c H locs cells slots (vx_MQ below Qc XC args s mc ms free) (F0 m pc ls rest) q := by
  intro T hT X
  obtain ⟨st1, hrun, hend, hW, hsm⟩ := X.leaveThrown q (g := F0 m pc ls rest) rfl rfl rfl hout hlocks
  have hcell9 : (T.setFrames (.throwing q :: below)).heap[q]? = some ce := by
    show T.heap[q]? = some ce
    rw [hT]; exact hcell
  exact ⟨_, st1, .threw q, hrun, hend, Or.inr ⟨q, rfl, E, ce, locs, hx _ hT hW.alike, hcell9, hv, hcl, hW, hsm.mono hc hs, hf⟩⟩
theorem vx_frame {U : State} {k n : Nat} (h : s.sameButNew ({ U with vm := s.vm } : State) locs k n) : s.heap.size ≤ U.heap.size ∧ ∀ q : Nat, q < s.heap.size → (∀ z ∈ locs, z.base ≠ q) → U.heap[q]? = s.heap[q]? := by
  obtain ⟨-, h2, -, -, -, h6⟩ := h
  refine ⟨h2, fun q hq hz => ?_⟩
  obtain ⟨c9, e1, e2, e3, e4⟩ := h6 q _ (Array.getElem?_eq_getElem hq)
  have hs : c9.slots = (s.heap[q]).slots := Array.ext_getElem? fun i => e4 i fun hm => hz _ hm rfl
  have h9 : c9 = s.heap[q] := by
    rw [hs] at e2
    exact e2
  have e5 : U.heap[q]? = some c9 := e1
  rw [e5, h9, Array.getElem?_eq_getElem hq]
/-- the words of a throw but the four that speak of the heap -/
def vx_no (w : Cond) : Bool := decide (w ≠ .isRef (.static Bundle.tN "UNASSIGNED_STACK" Bundle.steD)) && decide (w ≠ .isRef (.static Bundle.tN "SUPPRESSED_SENTINEL" Bundle.listD)) && decide (w ≠ .laysStatic Bundle.tN "UNASSIGNED_STACK" Bundle.steD) && decide (w ≠ .laysStatic Bundle.tN "SUPPRESSED_SENTINEL" Bundle.listD)
def vx_at0 (own : String) (ic : Nat) (X : String) (names : List String) : List Cond := (Bundle.ownAtoms0 own ic X names).filter vx_no
def vx_atS (own : String) (ic : Nat) (X : String) (names : List String) : List Cond := (Bundle.ownAtoms own ic X names).filter vx_no
/-- a word that the tables alone decide, or a good one -/
def vx_ot (w : Cond) : Bool := w.onTables || goodWord w
theorem vx_ot_at {args a' : Array Value} {s U : State} {w : Cond} (hW : s.WarmedH U.vm) (hvm : s.vm = U.vm) (hg : vx_ot w = true) (h : w.before args s = true) : w.before a' U = true := by
  simp only [vx_ot, Bool.or_eq_true] at hg
  rcases hg with hg | hg
  · exact va_tabs hg hvm h
  · exact word_at hW (good_of_word hg) h
/-- a list's words: the good ones out of the method's own list, the others by premises of their own -/
theorem vx_hat {args : Array Value} {s : State} {L B : List Cond} (h1 : ∀ w ∈ L.filter goodWord, w.before args s = true) (h2 : ∀ w ∈ L.filter (fun w => !goodWord w), w ∈ B) (h3 : ∀ w ∈ B, w.before args s = true) : ∀ w ∈ L, w.before args s = true := by
  intro w hw
  by_cases g : goodWord w = true
  · exact h1 w (List.mem_filter.mpr ⟨hw, g⟩)
  · refine h3 w (h2 w (List.mem_filter.mpr ⟨hw, ?_⟩))
    show (!goodWord w) = true
    cases hgw : goodWord w
    · rfl
    · exact absurd hgw g
theorem vx_c {args : Array Value} {s : State} {w : Cond} {B : List Cond} (h : w.before args s = true) (t : ∀ w ∈ B, w.before args s = true) : ∀ w' ∈ w :: B, w'.before args s = true := fun w' h' => (List.mem_cons.mp h').elim (fun e => by rw [e]; exact h) (t w')
theorem vx_n {args : Array Value} {s : State} : ∀ w ∈ ([] : List Cond), w.before args s = true := fun _ h => nomatch h
theorem vx_own {args : Array Value} {s : State} {L : List Cond} (h1 : ∀ w ∈ L.filter vx_no, w.before args s = true)
    (hU : (Cond.isRef (.static Bundle.tN "UNASSIGNED_STACK" Bundle.steD)).before args s = true) (hN : (Cond.isRef (.static Bundle.tN "SUPPRESSED_SENTINEL" Bundle.listD)).before args s = true)
    (lU : (Cond.laysStatic Bundle.tN "UNASSIGNED_STACK" Bundle.steD).before args s = true) (lN : (Cond.laysStatic Bundle.tN "SUPPRESSED_SENTINEL" Bundle.listD).before args s = true) : ∀ w ∈ L, w.before args s = true := by
  intro w hw
  by_cases e1 : w = .isRef (.static Bundle.tN "UNASSIGNED_STACK" Bundle.steD)
  · rw [e1]; exact hU
  · by_cases e2 : w = .isRef (.static Bundle.tN "SUPPRESSED_SENTINEL" Bundle.listD)
    · rw [e2]; exact hN
    · by_cases e3 : w = .laysStatic Bundle.tN "UNASSIGNED_STACK" Bundle.steD
      · rw [e3]; exact lU
      · by_cases e4 : w = .laysStatic Bundle.tN "SUPPRESSED_SENTINEL" Bundle.listD
        · rw [e4]; exact lN
        · exact h1 w (List.mem_filter.mpr ⟨hw, by unfold vx_no; rw [decide_eq_true e1, decide_eq_true e2, decide_eq_true e3, decide_eq_true e4]; rfl⟩)
/-- where a static field lies, its class's statics cell in H -/
def vx_L (C n d : String) (A : Nat → Prop) (U : State) (H : Heap) : Prop := ∃ (c : ClassId) (k : Class) (i : Nat) (f : Field) (a : Nat) (cell : Cell), U.vm.findClass C = some c ∧ U.fieldFound? C n d = some (c, k, i, f) ∧ f.isStatic = true ∧ k.statics = some a ∧ H[a]? = some cell ∧ cell.vm.isStatics = true ∧ cell.cls = c ∧ f.slot < cell.slots.size ∧ k.staticTypes[f.slot]? = some f.type ∧ ¬ A a
theorem vx_L.moved {C n d : String} {A : Nat → Prop} {u U : State} {H : Heap} (hvm : u.vm.Alike U.vm) (h : vx_L C n d A u H) : vx_L C n d A U H := by
  obtain ⟨c, k, i, f, a, cell, h1, h2, h3, h4, h5, h6, h7, h8, h9, h10⟩ := h
  obtain ⟨k', hi', he⟩ := State.fieldFound?_setVm hvm h2
  exact ⟨c, k', i, f, a, cell, by rw [hvm.findClass]; exact h1, hi', h3, by rw [he]; exact h4, h5, h6, h7, h8, by rw [he]; exact h9, h10⟩
theorem vx_L.kept {C n d : String} {A : Nat → Prop} {U : State} {H H1 : Heap} (h : vx_L C n d A U H) (hq : ∀ a : Nat, a < H.size → ¬ A a → H1[a]? = H[a]?) : vx_L C n d A U H1 := by
  obtain ⟨c, k, i, f, a, cell, h1, h2, h3, h4, h5, h6, h7, h8, h9, h10⟩ := h
  exact ⟨c, k, i, f, a, cell, h1, h2, h3, h4, by rw [hq a (Array.getElem?_eq_some_iff.mp h5).1 h10]; exact h5, h6, h7, h8, h9, h10⟩
theorem vx_L.narrow {C n d : String} {A B : Nat → Prop} {U : State} {H : Heap} (h : vx_L C n d A U H) (hAB : ∀ q, B q → A q) : vx_L C n d B U H := by
  obtain ⟨c, k, i, f, a, cell, h1, h2, h3, h4, h5, h6, h7, h8, h9, h10⟩ := h
  exact ⟨c, k, i, f, a, cell, h1, h2, h3, h4, h5, h6, h7, h8, h9, fun z => h10 (hAB _ z)⟩
theorem vx_L.word {C n d : String} {A : Nat → Prop} {s : State} {args : Array Value} (h : vx_L C n d A s s.heap) : (Cond.laysStatic C n d).before args s = true := by
  obtain ⟨c, k, i, f, a, cell, h1, h2, h3, h4, h5, h6, h7, h8, h9, -⟩ := h
  show (Cond.laysStatic C n d).holds args s none s [] = true
  exact Cond.laysStatic_of h1 h2 h3 h4 h5 h6 h7 h8 h9
/-- .. and what it holds: null or some reference -/
def vx_Zq (C n d : String) (A : Nat → Prop) (U : State) (H : Heap) : Prop := va_Zq C n d A U H ∧ vx_L C n d A U H
theorem vx_Zq.moved {C n d : String} {A : Nat → Prop} {u U : State} {H : Heap} (hvm : u.vm.Alike U.vm) (h : vx_Zq C n d A u H) : vx_Zq C n d A U H := ⟨va_Zq.moved hvm h.1, vx_L.moved hvm h.2⟩
theorem vx_Zq.kept {C n d : String} {A : Nat → Prop} {U : State} {H H1 : Heap} (h : vx_Zq C n d A U H) (hq : ∀ a : Nat, a < H.size → ¬ A a → H1[a]? = H[a]?) : vx_Zq C n d A U H1 := ⟨va_Zq.kept h.1 hq, vx_L.kept h.2 hq⟩
theorem vx_Zq.narrow {C n d : String} {A B : Nat → Prop} {U : State} {H : Heap} (h : vx_Zq C n d A U H) (hAB : ∀ q, B q → A q) : vx_Zq C n d B U H := ⟨va_Zq.narrow h.1 hAB, vx_L.narrow h.2 hAB⟩
theorem vx_Zqof {args : Array Value} {s : State} {C n d : String} {A : Nat → Prop} (hl : (Cond.laysStatic C n d).before args s = true) (hini : (Cond.initialized C).before args s = true) (h : (Cond.isRef (.static C n d)).before args s = true) (hA : ∀ a : Nat, a < s.heap.size → ¬ A a) : vx_Zq C n d A s s.heap := by
  refine ⟨va_Zqof hl hini h hA, ?_⟩
  obtain ⟨c, k, i, f, a, cell, h1, h2, h3, h4, h5, h6, h7, h8, h9⟩ := Cond.laysStatic_spec hl
  exact ⟨c, k, i, f, a, cell, h1, h2, h3, h4, h5, h6, h7, h8, h9, hA a (Array.getElem?_eq_some_iff.mp h5).1⟩
theorem vx_isRef {C n d : String} {v : Value} {A : Nat → Prop} {s : State} {args : Array Value} (h : va_Z C n d v A s s.heap) (hv : v.isRef = true) : (Cond.isRef (.static C n d)).before args s = true := by
  obtain ⟨cf, kf, fi, f, a, cell, h1, h2, h3, h4, h5, h6, h7, -⟩ := h
  have he : (Term.static C n d).eval args s none [] s = some v := by
    simp [Term.eval, State.fieldNamed?, h1, h2, h4, h5, h6, h7]
  simp only [Cond.before, Cond.holds, Cond.value, he]
  cases v <;> simp_all [Value.isRef]
theorem vx_isRefq {C n d : String} {A : Nat → Prop} {s : State} {args : Array Value} (h : va_Zq C n d A s s.heap) : (Cond.isRef (.static C n d)).before args s = true := by
  rcases h with h | ⟨t, h⟩
  · exact vx_isRef h rfl
  · exact vx_isRef h rfl
/-- the same frame, seen from here: as if the method were called anew in this heap -/
theorem vx_rebase {T : State} (X : Stand p l e R s m args below meth c T locs cells slots) {R' : Room} (hf : R'.frames ≤ R.frames) (hl : R'.locals ≤ R.locals) (hc : cells + R'.cells ≤ R.cells) (hs : slots + R'.slots ≤ R.slots) :
    Stand p l e R' ((T.setVm s.vm).setFrames (.invoking m args :: below)) m args below meth c T [] 0 0 := by
  have htop : (T.setVm s.vm).topJava?.isSome := X.here.top
  have hF : ((T.setVm s.vm).setFrames (.invoking m args :: below)).frames = .invoking m args :: below := State.frames_setFrames _ (State.cur_lt_of_top htop)
  obtain ⟨g₀, hg0⟩ := Option.isSome_iff_exists.mp htop
  obtain ⟨r, hr⟩ := State.topJava?_eq_some.mp hg0
  have hl9 : e.platform.stackLimits (T.setVm s.vm).me = e.platform.stackLimits s.me := X.limits
  have hb9 : (T.setVm s.vm).me.stackBytes = s.me.stackBytes := X.bytes
  refine ⟨X.admits, X.cas, X.clock, hF, ?_, X.hears, X.method, X.code, X.here, X.tail, X.warmed, ?_, ?_, ?_⟩
  · have h := X.room
    have hU : ((T.setVm s.vm).setFrames (.invoking m args :: below)).localsInUse = s.localsInUse := by
      rw [State.localsInUse_invoking hF (meth := meth) (c := c) X.method X.code, State.localsInUse_invoking X.frames X.method X.code]
    simp only [State.hasRoom, Bool.and_eq_true, decide_eq_true_eq] at h ⊢
    obtain ⟨⟨⟨⟨h1, h2, h3, h4, h5, h6⟩, h7⟩, h8⟩, h9⟩ := h
    rw [X.frames, List.length_cons] at h2 h3
    have q1 := X.heapSize
    have q2 := X.used
    simp only [hF, hU, List.length_cons, State.stackLimits_setFrames, State.stackBytes_setFrames, hl9, hb9]
    refine ⟨⟨⟨⟨by omega, by omega, by omega, by omega, by omega, h6⟩, ?_⟩, ?_⟩, X.book⟩
    · show T.heap.size + R'.cells ≤ e.platform.maxCells
      omega
    · show T.slotsUsed + R'.slots ≤ e.platform.maxSlots
      omega
  · rw [State.stackLimits_setFrames]; rfl
  · rw [State.stackBytes_setFrames]; rfl
  · refine ⟨?_, Nat.le_refl _, Nat.le_refl _, ?_, ?_, fun a c9 h9 => ⟨c9, h9, rfl, rfl, fun _ _ => rfl⟩⟩
    · obtain ⟨t, ht, -⟩ := State.frames_cons hr
      show T.setVm s.vm = { ((T.setVm s.vm).setFrames (.invoking m args :: below)).setFrames (T.setVm s.vm).frames with heap := T.heap, slotsUsed := T.slotsUsed }
      rw [State.setFrames_setFrames, State.setFrames_self ht]
      rfl
    · show T.slotsUsed = T.slotsUsed + ((T.heap.toList.drop T.heap.size).map (·.slots.size)).sum
      rw [List.drop_eq_nil_of_le (Nat.le_of_eq Array.length_toList)]
      rfl
    · show ((T.heap.toList.drop T.heap.size).map (·.slots.size)).sum ≤ 0
      rw [List.drop_eq_nil_of_le (Nat.le_of_eq Array.length_toList)]
      exact Nat.le_refl _
/-- 'throw new E()': new; dup; invokespecial; athrow -/
theorem vx_throw0 {cc : ByteArray} {pc : Nat} (hexec : p.tables.exec = Jvm.exec) (hb : c.code = cc) (hl : l.stackTraces = false) {own cls : String} {names : List String} {ik ic mc ms : Nat} {A : Nat → Prop}
    (hown : s.vm.findClass own = some m.cls) (hcls : Bundle.fit cls = true) (hnames : ∀ n ∈ names, Bundle.fit n = true)
    (hk : (Cond.classLink own ik cls).before args s = true) (hini : (Cond.initialized cls).before args s = true) (hat : ∀ w ∈ vx_at0 own ic cls names, w.before args s = true)
    (hgood : ∀ w ∈ Cond.classLink own ik cls :: Cond.initialized cls :: vx_at0 own ic cls names, vx_ot w = true)
    (hU : vx_Zq Bundle.tN "UNASSIGNED_STACK" Bundle.steD A s s.heap) (hN : vx_Zq Bundle.tN "SUPPRESSED_SENTINEL" Bundle.listD A s s.heap) (hS : va_S A s.heap H locs) (hsize : ls.size = c.maxLocals)
    (d0 : decode cc pc = .ok (.new ik, 3)) (d3 : decode cc (pc + 3) = .ok (.dup, 1)) (d4 : decode cc (pc + 4) = .ok (.invokespecial ic, 3)) (d7 : decode cc (pc + 7) = .ok (.athrow, 1))
    (hout : ∀ x ∈ c.exceptionTable.toList, covers x (pc + 7) = false)
    (hRframes : names.length + 3 < R.frames) (hRlocals : (rest.map fun v => v.category).sum + (13 * (names.length + 1) + 42) ≤ R.locals) (hRcells : cells + 1 ≤ R.cells) (hRslots : slots + 6 ≤ R.slots) (hlocks : meth.locks = false)
    (hx : ∀ t : State, s.vm.Alike t.vm → H.size ≤ t.heap.size → (∀ q : Nat, q < H.size → t.heap[q]? = H[q]?) → XC cls s t)
    (hf : ∀ z ∈ locs, free z.base) (hc : cells + 1 ≤ mc) (hs : slots + 6 ≤ ms) :
    W p l e R s m args below meth c H locs cells slots (vx_MQ below Qc XC args s mc ms free) (F0 m pc ls rest) := by
  intro T hT X
  have htr : e.platform.stackTraces = false := (show e.platform.stackTraces = l.stackTraces by rw [X.admits.platform]).trans hl
  have Y := vx_rebase X (R' := { frames := R.frames, locals := R.locals, cells := 1, slots := 6 }) (Nat.le_refl _) (Nat.le_refl _) hRcells hRslots
  obtain ⟨s', hA⟩ : ∃ z, z = (T.setVm s.vm).setFrames (.invoking m args :: below) := ⟨_, rfl⟩
  rw [← hA] at Y
  have hvm : s'.vm = s.vm := by rw [hA]; rfl
  have hhp : s'.heap = H := by rw [hA]; exact hT
  have hW0 : s.WarmedH s'.vm := by rw [hvm]; exact State.WarmedH.refl s
  have hat' : ∀ w ∈ vx_at0 own ic cls names, w.before args s' = true := fun w hw => vx_ot_at hW0 hvm.symm (hgood w (List.mem_cons_of_mem _ (List.mem_cons_of_mem _ hw))) (hat w hw)
  have hk' : (Cond.classLink own ik cls).before args s' = true := vx_ot_at hW0 hvm.symm (hgood _ List.mem_cons_self) hk
  have hini' : (Cond.initialized cls).before args s' = true := vx_ot_at hW0 hvm.symm (hgood _ (List.mem_cons_of_mem _ List.mem_cons_self)) hini
  have hU' : vx_Zq Bundle.tN "UNASSIGNED_STACK" Bundle.steD A s' s'.heap := by rw [hhp]; exact vx_Zq.moved hW0.alike (hU.kept hS.2.1)
  have hN' : vx_Zq Bundle.tN "SUPPRESSED_SENTINEL" Bundle.listD A s' s'.heap := by rw [hhp]; exact vx_Zq.moved hW0.alike (hN.kept hS.2.1)
  have h : ∀ w ∈ Bundle.ownAtoms0 own ic cls names, w.before args s' = true := vx_own hat' (vx_isRefq hU'.1) (vx_isRefq hN'.1) hU'.2.word hN'.2.word
  have hown' : s'.vm.findClass own = some m.cls := by rw [hvm]; exact hown
  have hins : (Cond.instantiable cls 6).before args s' = true := h _ (by simp [Bundle.ownAtoms0])
  obtain ⟨vm₁, cX, kX, hfX, hkX, -, -, X₁, st1⟩ := Y.newCold hexec (own := own) (C := cls) (index := ik) (n := 6) hown' hk' hins hini'
    (g := F0 m pc ls rest) rfl (by rw [hb]; exact d0) (Nat.le_refl _) (Nat.le_refl _)
  generalize hT1 : (T.setVm vm₁).pushCell { cls := cX, slots := kX.instanceTypes.map defaultValue, vm := .none } = T1 at X₁ st1
  have hcat : (Value.ref T.heap.size).category = 1 := rfl
  have hcellA : T1.heap[T.heap.size]? = some (freshCell cX kX) := by rw [← hT1]; exact State.heap_pushCell_size _ _
  have d3' : decode c.code (pc + 3) = .ok (.dup, 1) := by rw [hb]; exact d3
  obtain ⟨U, hsteps, hrun, hend, hW, hsame, ce, hce, hO⟩ := X₁.ctorThrow0 hexec htr (own := own) (cls := cls) (names := names) (ic := ic) hown' hcls hnames h (fun x hx => nomatch hx) hfX hkX hcellA (by rw [hhp, hT]; exact Nat.le_refl _)
    (g := { method := m, pc := pc + 4, locals := ls, stack := .ref T.heap.size :: .ref T.heap.size :: rest, locked := none }) rfl hsize rfl rfl (rest := rest) rfl
    (by rw [hb]; exact d4) (by rw [hb]; exact d7) hout hRframes (by simp only [List.map_cons, List.sum_cons, hcat]; omega) hlocks
  obtain ⟨f1, f2⟩ := vx_frame hsame
  rw [hhp] at f1 f2
  have hWs : s.WarmedH U.vm := State.WarmedH.trans hW0 hW
  have hcl : s.vm.findClass cls = some ce.cls := by
    have h9 := hO.cls
    rw [hvm] at h9
    exact h9
  have hall : s.sameButNew ({ U with vm := s.vm } : State) locs mc ms := by
    subst hA
    obtain ⟨e1, e2⟩ := hsame
    rw [State.setFrames_setFrames] at e1
    have h2 : (T.setVm s.vm).sameButNew ({ U with vm := s.vm } : State) [] (0 + 1) (0 + 6) := ⟨e1, e2⟩
    have h3 := X.same.trans h2
    rw [List.append_nil] at h3
    exact h3.mono hc hs
  refine ⟨U, ?_, .threw T.heap.size, hrun, hend, Or.inr ⟨T.heap.size, rfl, cls, ce, locs, hx U hWs.alike f1 (fun q hq => f2 q hq (fun z hz => nomatch hz)), hce, hO.vm, hcl, hWs, hall, hf⟩⟩
  refine st1 _ ?_
  show Steps p.tables e below (T1.setTop { method := m, pc := pc + 3, locals := ls, stack := .ref T.heap.size :: rest, locked := none }) _
  jvm_step X₁.here [X₁.here.top, hexec, d3', Value.category]
  exact hsteps
/-- 'throw new E("text")': new; dup; ldc; invokespecial; athrow -/
theorem vx_throwS {cc : ByteArray} {pc : Nat} (hexec : p.tables.exec = Jvm.exec) (hb : c.code = cc) (hl : l.stackTraces = false) {own cls text : String} {names : List String} {ik is ic mc ms sa : Nat} {A : Nat → Prop}
    (hown : s.vm.findClass own = some m.cls) (hcls : Bundle.fit cls = true) (hnames : ∀ n ∈ names, Bundle.fit n = true)
    (hk : (Cond.classLink own ik cls).before args s = true) (hini : (Cond.initialized cls).before args s = true) (hstr : vk_R own is text sa s) (hat : ∀ w ∈ vx_atS own ic cls names, w.before args s = true)
    (hgood : ∀ w ∈ Cond.classLink own ik cls :: Cond.initialized cls :: vx_atS own ic cls names, vx_ot w = true)
    (hU : vx_Zq Bundle.tN "UNASSIGNED_STACK" Bundle.steD A s s.heap) (hN : vx_Zq Bundle.tN "SUPPRESSED_SENTINEL" Bundle.listD A s s.heap) (hS : va_S A s.heap H locs) (hsize : ls.size = c.maxLocals)
    (d0 : decode cc pc = .ok (.new ik, 3)) (d3 : decode cc (pc + 3) = .ok (.dup, 1)) (d4 : decode cc (pc + 4) = .ok (.ldc is, 2)) (d6 : decode cc (pc + 6) = .ok (.invokespecial ic, 3)) (d9 : decode cc (pc + 9) = .ok (.athrow, 1))
    (hout : ∀ x ∈ c.exceptionTable.toList, covers x (pc + 9) = false)
    (hRframes : names.length + 3 < R.frames) (hRlocals : (rest.map fun v => v.category).sum + (13 * (names.length + 1) + 43) ≤ R.locals) (hRcells : cells + 1 ≤ R.cells) (hRslots : slots + 6 ≤ R.slots) (hlocks : meth.locks = false)
    (hx : ∀ t : State, s.vm.Alike t.vm → H.size + 1 ≤ t.heap.size → (∀ q : Nat, q < H.size → t.heap[q]? = H[q]?) → XC cls s t)
    (hf : ∀ z ∈ locs, free z.base) (hc : cells + 1 ≤ mc) (hs : slots + 6 ≤ ms) :
    W p l e R s m args below meth c H locs cells slots (vx_MQ below Qc XC args s mc ms free) (F0 m pc ls rest) := by
  intro T hT X
  have htr : e.platform.stackTraces = false := (show e.platform.stackTraces = l.stackTraces by rw [X.admits.platform]).trans hl
  have Y := vx_rebase X (R' := { frames := R.frames, locals := R.locals, cells := 1, slots := 6 }) (Nat.le_refl _) (Nat.le_refl _) hRcells hRslots
  obtain ⟨s', hA⟩ : ∃ z, z = (T.setVm s.vm).setFrames (.invoking m args :: below) := ⟨_, rfl⟩
  rw [← hA] at Y
  have hvm : s'.vm = s.vm := by rw [hA]; rfl
  have hhp : s'.heap = H := by rw [hA]; exact hT
  have hW0 : s.WarmedH s'.vm := by rw [hvm]; exact State.WarmedH.refl s
  have hat' : ∀ w ∈ vx_atS own ic cls names, w.before args s' = true := fun w hw => vx_ot_at hW0 hvm.symm (hgood w (List.mem_cons_of_mem _ (List.mem_cons_of_mem _ hw))) (hat w hw)
  have hk' : (Cond.classLink own ik cls).before args s' = true := vx_ot_at hW0 hvm.symm (hgood _ List.mem_cons_self) hk
  have hini' : (Cond.initialized cls).before args s' = true := vx_ot_at hW0 hvm.symm (hgood _ (List.mem_cons_of_mem _ List.mem_cons_self)) hini
  have hU' : vx_Zq Bundle.tN "UNASSIGNED_STACK" Bundle.steD A s' s'.heap := by rw [hhp]; exact vx_Zq.moved hW0.alike (hU.kept hS.2.1)
  have hN' : vx_Zq Bundle.tN "SUPPRESSED_SENTINEL" Bundle.listD A s' s'.heap := by rw [hhp]; exact vx_Zq.moved hW0.alike (hN.kept hS.2.1)
  have h : ∀ w ∈ Bundle.ownAtoms own ic cls names, w.before args s' = true := vx_own hat' (vx_isRefq hU'.1) (vx_isRefq hN'.1) hU'.2.word hN'.2.word
  have hown' : s'.vm.findClass own = some m.cls := by rw [hvm]; exact hown
  have hins : (Cond.instantiable cls 6).before args s' = true := h _ (by simp [Bundle.ownAtoms])
  obtain ⟨vm₁, cX, kX, hfX, hkX, -, -, X₁, st1⟩ := Y.newCold hexec (own := own) (C := cls) (index := ik) (n := 6) hown' hk' hins hini'
    (g := F0 m pc ls rest) rfl (by rw [hb]; exact d0) (Nat.le_refl _) (Nat.le_refl _)
  generalize hT1 : (T.setVm vm₁).pushCell { cls := cX, slots := kX.instanceTypes.map defaultValue, vm := .none } = T1 at X₁ st1
  have hcat : (Value.ref T.heap.size).category = 1 := rfl
  have hcellA : T1.heap[T.heap.size]? = some (freshCell cX kX) := by rw [← hT1]; exact State.heap_pushCell_size _ _
  have d3' : decode c.code (pc + 3) = .ok (.dup, 1) := by rw [hb]; exact d3
  have d4' : decode c.code (pc + 4) = .ok (.ldc is, 2) := by rw [hb]; exact d4
  have hstr' : vk_R own is text sa s' := vk_R.warm hW0 hstr
  obtain ⟨U, hsteps, hrun, hend, hW, hsame, ce, hce, hO⟩ := X₁.ctorThrowS hexec htr (own := own) (cls := cls) (names := names) (ic := ic) hown' hcls hnames h (fun x hx => nomatch hx) hfX hkX hcellA (by rw [hhp, hT]; exact Nat.le_refl _) (msg := .ref sa) rfl
    (g := { method := m, pc := pc + 6, locals := ls, stack := .ref sa :: .ref T.heap.size :: .ref T.heap.size :: rest, locked := none }) rfl hsize rfl rfl (rest := rest) rfl
    (by rw [hb]; exact d6) (by rw [hb]; exact d9) hout hRframes (by simp only [List.map_cons, List.sum_cons, hcat]; omega) hlocks
  obtain ⟨f1, f2⟩ := vx_frame hsame
  rw [hhp] at f1 f2
  have hWs : s.WarmedH U.vm := State.WarmedH.trans hW0 hW
  have hcl : s.vm.findClass cls = some ce.cls := by
    have h9 := hO.cls
    rw [hvm] at h9
    exact h9
  have hall : s.sameButNew ({ U with vm := s.vm } : State) locs mc ms := by
    subst hA
    obtain ⟨e1, e2⟩ := hsame
    rw [State.setFrames_setFrames] at e1
    have h2 : (T.setVm s.vm).sameButNew ({ U with vm := s.vm } : State) [] (0 + 1) (0 + 6) := ⟨e1, e2⟩
    have h3 := X.same.trans h2
    rw [List.append_nil] at h3
    exact h3.mono hc hs
  refine ⟨U, ?_, .threw T.heap.size, hrun, hend, Or.inr ⟨T.heap.size, rfl, cls, ce, locs, hx U hWs.alike (by have h7 := (Array.getElem?_eq_some_iff.mp hce).1; rw [hT] at h7; exact h7) (fun q hq => f2 q hq (fun z hz => nomatch hz)), hce, hO.vm, hcl, hWs, hall, hf⟩⟩
  refine st1 _ ?_
  show Steps p.tables e below (T1.setTop { method := m, pc := pc + 3, locals := ls, stack := .ref T.heap.size :: rest, locked := none }) _
  jvm_step X₁.here [X₁.here.top, hexec, d3', Value.category]
  exact X₁.ldcString hexec (own := own) (text := text) (index := is) (a := sa) hown' hstr'.1 hstr'.2
    (g := { method := m, pc := pc + 4, locals := ls, stack := .ref T.heap.size :: .ref T.heap.size :: rest, locked := none }) rfl d4' _ hsteps
/-- 'throw new E("text")', the text by a wide index -/
theorem vx_throwSW {cc : ByteArray} {pc : Nat} (hexec : p.tables.exec = Jvm.exec) (hb : c.code = cc) (hl : l.stackTraces = false) {own cls text : String} {names : List String} {ik is ic mc ms sa : Nat} {A : Nat → Prop}
    (hown : s.vm.findClass own = some m.cls) (hcls : Bundle.fit cls = true) (hnames : ∀ n ∈ names, Bundle.fit n = true)
    (hk : (Cond.classLink own ik cls).before args s = true) (hini : (Cond.initialized cls).before args s = true) (hstr : vk_R own is text sa s) (hat : ∀ w ∈ vx_atS own ic cls names, w.before args s = true)
    (hgood : ∀ w ∈ Cond.classLink own ik cls :: Cond.initialized cls :: vx_atS own ic cls names, vx_ot w = true)
    (hU : vx_Zq Bundle.tN "UNASSIGNED_STACK" Bundle.steD A s s.heap) (hN : vx_Zq Bundle.tN "SUPPRESSED_SENTINEL" Bundle.listD A s s.heap) (hS : va_S A s.heap H locs) (hsize : ls.size = c.maxLocals)
    (d0 : decode cc pc = .ok (.new ik, 3)) (d3 : decode cc (pc + 3) = .ok (.dup, 1)) (d4 : decode cc (pc + 4) = .ok (.ldc_w is, 3)) (d7 : decode cc (pc + 7) = .ok (.invokespecial ic, 3)) (d10 : decode cc (pc + 10) = .ok (.athrow, 1))
    (hout : ∀ x ∈ c.exceptionTable.toList, covers x (pc + 10) = false)
    (hRframes : names.length + 3 < R.frames) (hRlocals : (rest.map fun v => v.category).sum + (13 * (names.length + 1) + 43) ≤ R.locals) (hRcells : cells + 1 ≤ R.cells) (hRslots : slots + 6 ≤ R.slots) (hlocks : meth.locks = false)
    (hx : ∀ t : State, s.vm.Alike t.vm → H.size ≤ t.heap.size → (∀ q : Nat, q < H.size → t.heap[q]? = H[q]?) → XC cls s t)
    (hf : ∀ z ∈ locs, free z.base) (hc : cells + 1 ≤ mc) (hs : slots + 6 ≤ ms) :
    W p l e R s m args below meth c H locs cells slots (vx_MQ below Qc XC args s mc ms free) (F0 m pc ls rest) := by
  intro T hT X
  have htr : e.platform.stackTraces = false := (show e.platform.stackTraces = l.stackTraces by rw [X.admits.platform]).trans hl
  have Y := vx_rebase X (R' := { frames := R.frames, locals := R.locals, cells := 1, slots := 6 }) (Nat.le_refl _) (Nat.le_refl _) hRcells hRslots
  obtain ⟨s', hA⟩ : ∃ z, z = (T.setVm s.vm).setFrames (.invoking m args :: below) := ⟨_, rfl⟩
  rw [← hA] at Y
  have hvm : s'.vm = s.vm := by rw [hA]; rfl
  have hhp : s'.heap = H := by rw [hA]; exact hT
  have hW0 : s.WarmedH s'.vm := by rw [hvm]; exact State.WarmedH.refl s
  have hat' : ∀ w ∈ vx_atS own ic cls names, w.before args s' = true := fun w hw => vx_ot_at hW0 hvm.symm (hgood w (List.mem_cons_of_mem _ (List.mem_cons_of_mem _ hw))) (hat w hw)
  have hk' : (Cond.classLink own ik cls).before args s' = true := vx_ot_at hW0 hvm.symm (hgood _ List.mem_cons_self) hk
  have hini' : (Cond.initialized cls).before args s' = true := vx_ot_at hW0 hvm.symm (hgood _ (List.mem_cons_of_mem _ List.mem_cons_self)) hini
  have hU' : vx_Zq Bundle.tN "UNASSIGNED_STACK" Bundle.steD A s' s'.heap := by rw [hhp]; exact vx_Zq.moved hW0.alike (hU.kept hS.2.1)
  have hN' : vx_Zq Bundle.tN "SUPPRESSED_SENTINEL" Bundle.listD A s' s'.heap := by rw [hhp]; exact vx_Zq.moved hW0.alike (hN.kept hS.2.1)
  have h : ∀ w ∈ Bundle.ownAtoms own ic cls names, w.before args s' = true := vx_own hat' (vx_isRefq hU'.1) (vx_isRefq hN'.1) hU'.2.word hN'.2.word
  have hown' : s'.vm.findClass own = some m.cls := by rw [hvm]; exact hown
  have hins : (Cond.instantiable cls 6).before args s' = true := h _ (by simp [Bundle.ownAtoms])
  obtain ⟨vm₁, cX, kX, hfX, hkX, -, -, X₁, st1⟩ := Y.newCold hexec (own := own) (C := cls) (index := ik) (n := 6) hown' hk' hins hini'
    (g := F0 m pc ls rest) rfl (by rw [hb]; exact d0) (Nat.le_refl _) (Nat.le_refl _)
  generalize hT1 : (T.setVm vm₁).pushCell { cls := cX, slots := kX.instanceTypes.map defaultValue, vm := .none } = T1 at X₁ st1
  have hcat : (Value.ref T.heap.size).category = 1 := rfl
  have hcellA : T1.heap[T.heap.size]? = some (freshCell cX kX) := by rw [← hT1]; exact State.heap_pushCell_size _ _
  have d3' : decode c.code (pc + 3) = .ok (.dup, 1) := by rw [hb]; exact d3
  have d4' : decode c.code (pc + 4) = .ok (.ldc_w is, 3) := by rw [hb]; exact d4
  have hstr' : vk_R own is text sa s' := vk_R.warm hW0 hstr
  obtain ⟨U, hsteps, hrun, hend, hW, hsame, ce, hce, hO⟩ := X₁.ctorThrowS hexec htr (own := own) (cls := cls) (names := names) (ic := ic) hown' hcls hnames h (fun x hx => nomatch hx) hfX hkX hcellA (by rw [hhp, hT]; exact Nat.le_refl _) (msg := .ref sa) rfl
    (g := { method := m, pc := pc + 7, locals := ls, stack := .ref sa :: .ref T.heap.size :: .ref T.heap.size :: rest, locked := none }) rfl hsize rfl rfl (rest := rest) rfl
    (by rw [hb]; exact d7) (by rw [hb]; exact d10) hout hRframes (by simp only [List.map_cons, List.sum_cons, hcat]; omega) hlocks
  obtain ⟨f1, f2⟩ := vx_frame hsame
  rw [hhp] at f1 f2
  have hWs : s.WarmedH U.vm := State.WarmedH.trans hW0 hW
  have hcl : s.vm.findClass cls = some ce.cls := by
    have h9 := hO.cls
    rw [hvm] at h9
    exact h9
  have hall : s.sameButNew ({ U with vm := s.vm } : State) locs mc ms := by
    subst hA
    obtain ⟨e1, e2⟩ := hsame
    rw [State.setFrames_setFrames] at e1
    have h2 : (T.setVm s.vm).sameButNew ({ U with vm := s.vm } : State) [] (0 + 1) (0 + 6) := ⟨e1, e2⟩
    have h3 := X.same.trans h2
    rw [List.append_nil] at h3
    exact h3.mono hc hs
  refine ⟨U, ?_, .threw T.heap.size, hrun, hend, Or.inr ⟨T.heap.size, rfl, cls, ce, locs, hx U hWs.alike f1 (fun q hq => f2 q hq (fun z hz => nomatch hz)), hce, hO.vm, hcl, hWs, hall, hf⟩⟩
  refine st1 _ ?_
  show Steps p.tables e below (T1.setTop { method := m, pc := pc + 3, locals := ls, stack := .ref T.heap.size :: rest, locked := none }) _
  jvm_step X₁.here [X₁.here.top, hexec, d3', Value.category]
  exact X₁.ldcStringW hexec (own := own) (text := text) (index := is) (a := sa) hown' hstr'.1 hstr'.2
    (g := { method := m, pc := pc + 4, locals := ls, stack := .ref T.heap.size :: .ref T.heap.size :: rest, locked := none }) rfl d4' _ hsteps
end Ends
section Bodies
variable {l : Launch}
theorem vx_ofW {y : MethodName} {ws ws' : List Cond} {rm : Room} {Pc : Array Value → State → Prop} {Qc : Array Value → State → Outcome → State → Prop} {XC : String → State → State → Prop} {mc ms : Nat} {free : Addr → Prop} {cc : ByteArray} {maxL : Nat} {ret : Option FieldType}
    (hy : plainName y.cls = true) (hw : ws = Cond.code y cc maxL ret :: ws')
    (body : ∀ p e s m args below meth c s₁, BodyLoose p l y (headSpec ws rm) cc maxL ret e s m args below meth c s₁ → c.maxLocals = maxL → (∀ x ∈ c.exceptionTable.toList, False) → Pc args s →
      W p l e (headSpec ws rm).room s m args below meth c s.heap [] 0 0 (vx_MQ below Qc XC args s mc ms free) (entryFrame m args maxL)) : vx_Met l y ws rm Pc Qc XC mc ms free := by
  refine MetFree.of_bodyS (code := cc) (maxLocals := maxL) (ret := ret) hy ?_ ?_
  · intro args s m h hn
    obtain ⟨meth, c, h1, h2, h3, h4, h5, h6, -, -⟩ := Cond.code_spec hn (atoms_spec (ws := ws) h _ (by rw [hw]; exact List.mem_cons_self))
    exact ⟨meth, c, h1, h2, h3, h4, h5, h6⟩
  · intro p e s m args below meth c s₁ B hml hP _
    have hh0 : s₁.heap = s.heap := by rw [B.state]; rfl
    have ht : ∀ x ∈ c.exceptionTable.toList, False := by
      obtain ⟨meth9, c9, h1, h2, -, -, -, -, h7, -⟩ := Cond.code_spec B.named (atoms_spec (ws := ws) B.pre _ (by rw [hw]; exact List.mem_cons_self))
      cases Option.some.inj (h1.symm.trans B.method)
      cases Option.some.inj (h2.symm.trans (Stand.of_body B).code)
      intro x hx
      rw [Array.isEmpty_iff.mp h7] at hx
      cases hx
    obtain ⟨t, a1, o, b1, b2, b3⟩ := body p e s m args below meth c s₁ B hml ht hP s₁ hh0 (Stand.of_body B)
    exact ⟨t, o, a1, b1, b2, b3⟩
/-- the table of a body with handlers -/
theorem vx_table {p : Program} {x y : MethodName} {S : Spec} {cc bytes : ByteArray} {maxL maxL' : Nat} {ret ret' : Option FieldType} {e : Env} {s s₁ : State} {m : MethodId} {args : Array Value} {below : List Frame} {meth : Method} {c : Code} {hh : List (Nat × Nat × Nat × Nat)}
    (B : BodyLoose p l y S cc maxL ret e s m args below meth c s₁) (h : (Cond.codeWith y bytes maxL' ret' hh).before args s = true) : c.exceptionTable.toList = tableOf hh := by
  obtain ⟨m9, meth9, c9, hn9, h1, h2, -, -, h6, -⟩ := Cond.codeWith_spec h
  cases Option.some.inj (hn9.symm.trans B.named)
  cases Option.some.inj (h1.symm.trans B.method)
  cases Option.some.inj (h2.symm.trans (Stand.of_body B).code)
  rw [← h6, table_eq]
end Bodies
end VXA
/-! ===== END ===== -/
/-! ===== BEGIN a static call of a method with an exception table ===== -/
section VXS
variable {p : Program} {l : Launch} {e : Env} {R : Room} {s : State} {m : MethodId} {args : Array Value} {below : List Frame} {meth : Method} {c : Code} {T : State} {H : Heap} {locs : List Loc} {cells slots : Nat}
abbrev vx_CSW (R : Room) (s : State) (args : Array Value) (own : String) (index : Nat) (y : MethodName) (bytes : ByteArray) (maxL : Nat) (ret : Option FieldType) (hh : List (Nat × Nat × Nat × Nat)) (ws : List Cond) (rm : Room) (mc ms n : Nat) : Prop :=
  (rm.cells = mc ∧ rm.slots = ms ∧ rm.frames + 1 ≤ R.frames ∧ 8 + (maxL + 11) + rm.locals ≤ R.locals ∧ (∀ w ∈ ws, ∀ (a' : Array Value) (U : State), s.WarmedH U.vm → w.before a' U = true) ∧ Cond.codeWith y bytes maxL ret hh ∈ ws) ∧
  (Cond.codeWith y bytes maxL ret hh).before args s = true ∧ (Cond.initialized y.cls).before args s = true ∧ (y.cls ≠ "java/lang/invoke/MethodHandle" ∧ y.cls ≠ "java/lang/invoke/VarHandle") ∧
  (∀ sig, parseMethodDescriptor y.desc = some sig → n = sig.parameters.length) ∧ (Cond.methodLink own index y).before args s = true ∧ (Cond.static y).before args s = true
theorem vx_cwSW {own : String} {index maxL mc ms : Nat} {y : MethodName} {bytes : ByteArray} {ret : Option FieldType} {hh : List (Nat × Nat × Nat × Nat)} {Ts ws ws' : List Cond} {rm : Room} (n : Nat) (ht : ∀ w ∈ Ts, w.before args s = true) (hT : GoodIn Ts (va_wsS own index y ws)) (hw : ws = Cond.codeWith y bytes maxL ret hh :: ws') (hrc : rm.cells = mc) (hrs : rm.slots = ms)
    (hd : y.cls ≠ "java/lang/invoke/MethodHandle" ∧ y.cls ≠ "java/lang/invoke/VarHandle" ∧ (parseMethodDescriptor y.desc).map (fun d => d.parameters.length) = some n) (hR : rm.frames + 1 ≤ R.frames ∧ 8 + (maxL + 11) + rm.locals ≤ R.locals) :
    vx_CSW R s args own index y bytes maxL ret hh ws rm mc ms n := by
  have ok : ∀ w ∈ va_wsS own index y ws, w.before args s = true := fun w h => ht w (hT w h).1
  have hG : GoodIn Ts ws := fun w h => hT w (by unfold va_wsS; exact List.mem_append_right _ h)
  have hc : Cond.codeWith y bytes maxL ret hh ∈ ws := by rw [hw]; exact List.mem_cons_self
  refine ⟨⟨hrc, hrs, hR.1, hR.2, pay_in ht hG, hc⟩, ht _ (hG _ hc).1, ok _ (by simp [va_wsS]), ⟨hd.1, hd.2.1⟩, fun sig h => ?_, ok _ (by simp [va_wsS]), ok _ (by simp [va_wsS])⟩
  have h2 := hd.2.2
  rw [h] at h2
  exact (Option.some.inj h2).symm
theorem vx_callSW (X : Stand p l e R s m args below meth c T locs cells slots) (hexec : p.tables.exec = Jvm.exec) {own : String} {index : Nat} {y : MethodName} {bytes : ByteArray} {maxL : Nat} {ret : Option FieldType} {hh : List (Nat × Nat × Nat × Nat)}
    (hown : s.vm.findClass own = some m.cls) (hlink : (Cond.methodLink own index y).before args s = true) (hstat : (Cond.static y).before args s = true) (hinit : (Cond.initialized y.cls).before args s = true)
    (hcode : (Cond.codeWith y bytes maxL ret hh).before args s = true) (hy : y.cls ≠ "java/lang/invoke/MethodHandle" ∧ y.cls ≠ "java/lang/invoke/VarHandle")
    {W9 : Nat} {Pre : Pt → Array Value → Prop} {Post : Pt → Array Value → Option Value → Pt → Prop} (hK : Back l R p e below s args y 3 W9 Pre Post)
    {g : JFrame} (hg : g.method = m) (hsize : g.locals.size = c.maxLocals) {argsL rest : List Value} (hlen : ∀ sig, parseMethodDescriptor y.desc = some sig → argsL.length = sig.parameters.length)
    (hstack : g.stack = argsL.reverse ++ rest) (hW : 2 * g.monitorRoom + (rest.map fun v => v.category).sum ≤ W9) (hdg : decode c.code g.pc = .ok (.invokestatic index, 3))
    (hpre : ∀ vm₁, s.WarmedH vm₁ → Pre ⟨T.setVm vm₁, locs, cells, slots⟩ argsL.toArray) :
    ∃ (v : Option Value) (vm₁ : Vm) (B : Pt), s.WarmedH vm₁ ∧ Stand p l e R s m args below meth c B.U B.locs B.cells B.slots ∧ Post ⟨T.setVm vm₁, locs, cells, slots⟩ argsL.toArray v B ∧
      ∀ target, Steps p.tables e below (B.U.setTop { g with pc := g.pc + 3, stack := v.toList ++ rest }) target → Steps p.tables e below (T.setTop g) target := by
  obtain ⟨mk, methM, cM, hnamed, hmethM, -, -, -, -, -, -, hsigM⟩ := Cond.codeWith_spec hcode
  have hstatic : methM.isStatic = true := Cond.static_spec hnamed hmethM hstat
  obtain ⟨kP, hkP, -⟩ := className_of_methodNamed hnamed
  have hinitP : kP.init = .initialized := Cond.initialized_spec (findClass_of_methodNamed hnamed) hkP hinit
  obtain ⟨vm₁, X₁, hstep₁⟩ := X.invokestatic hexec hown hlink hnamed hmethM hstatic hkP hinitP hy (g := g) hg (argsL := argsL) (rest := rest) (hlen _ hsigM) hstack hdg
  obtain ⟨v, B, X', hpost, hsteps⟩ := hK m meth c ⟨T.setVm vm₁, locs, cells, slots⟩ { g with stack := rest } (.invokestatic index) mk argsL.toArray X₁ hg hsize hdg hW (X₁.named hnamed) (hpre vm₁ X₁.warmed)
  exact ⟨v, vm₁, B, X₁.warmed, X', hpost, fun target h => hstep₁ _ fun acts => by rw [doInvoke_state]; exact hsteps.trans h⟩
theorem vx_runSW {y : MethodName} {bytes cc : ByteArray} {maxL nL mc ms n index : Nat} {ret : Option FieldType} {hh : List (Nat × Nat × Nat × Nat)} {ws : List Cond} {rm : Room} {Pc : Array Value → State → Prop} {Qc : Array Value → State → Outcome → State → Prop} {free : Addr → Prop} {Ts : List Cond} {own : String} {As rest : List Value} {g : JFrame}
    (S : CallFix p m c cc nL s args Ts own) (hM : Met l y ws rm Pc Qc mc ms free) (cw : vx_CSW R s args own index y bytes maxL ret hh ws rm mc ms n) (hp : PreS s H Pc As)
    (hg : g.method = m) (hn : As.length = n) (hsize : g.locals.size = nL) (hstack : g.stack = As.reverse ++ rest) (hW : 2 * g.monitorRoom + (rest.map fun v => v.category).sum ≤ 8) (hdg : decode cc g.pc = .ok (.invokestatic index, 3)) (hf : cells + mc ≤ R.cells ∧ slots + ms ≤ R.slots) :
    va_Run p l e R s m args below meth c H locs cells slots mc ms g rest (Qc As.toArray) (free) := by
  obtain ⟨⟨hrc, hrs, hfr, hlo, hws, hcw⟩, hcode, hini, hy, hlen, hl, hstt⟩ := cw
  have hK : Back l R p e below s args y 3 8 (PreOf R mc ms Pc) (PostOf Qc mc ms free) := va_backW (hh := hh) (bytes := bytes) (maxL := maxL) (ret := ret) hM hp.1 hrc hrs hfr hlo hws hcw (fun a' U hW => word_at hW (Or.inl (by first | rfl | simp [Cond.onTables, Cond.keeps, Cond.steady])) hini)
  obtain ⟨hx, hb, hml, ho, -⟩ := S
  intro T hT X
  obtain ⟨v, vm₁, ⟨U', l2, c2, s2⟩, hW₁, X', ⟨g', mk, t, L, e1, e2, hq, h1, hL, h2, h3⟩, st⟩ := vx_callSW X hx (hh := hh) (bytes := bytes) (maxL := maxL) (ret := ret) ho hl hstt hini hcode hy hK hg (hsize.trans hml.symm) (argsL := As) (rest := rest) (fun sig h => hn.trans (hlen sig h)) hstack hW (by rw [hb]; exact hdg)
    (fun vm₁ hW₁ => ⟨hf.1, hf.2, hp.2 (T.setVm vm₁) hT hW₁⟩)
  dsimp only [Pt.U, Pt.locs, Pt.cells, Pt.slots] at X' e1 e2 h1 h2 h3 st
  subst h1; subst h2; subst h3
  exact ⟨v, (T.setVm vm₁).calling g' mk As.toArray, t, U', L, hT, X', hL, e1, e2, hq, st⟩
/-- not caught here, past rows that name other classes: it goes on to the caller -/
theorem vx_outP {p : Program} {l : Launch} {e : Env} {R : Room} {s : State} {m : MethodId} {args : Array Value} {below : List Frame} {meth : Method} {c : Code} {H : Heap} {locs : List Loc} {cells slots : Nat} {free : Addr → Prop} {ls : Array Slot} {rest : List Value} {Qc : Array Value → State → Outcome → State → Prop} {XC : String → State → State → Prop}
    {pc : Nat} {own E : String} {ce : Cell} {q : Addr} {mc ms : Nat} (hown : s.vm.findClass own = some m.cls) (hlocks : meth.locks = false)
    (hpass : ∀ z ∈ c.exceptionTable.toList, covers z pc = false ∨ (z.catchType ≠ 0 ∧ ∃ nm : String, (Cond.classLink own z.catchType nm).before args s = true ∧ va_Nc E nm s)) (hcell : H[q]? = some ce) (hv : ce.vm = .none) (hcl : s.vm.findClass E = some ce.cls)
    (hx : ∀ t : State, t.heap = H → s.vm.Alike t.vm → XC E s t) (hf : ∀ z ∈ locs, free z.base) (hc : cells ≤ mc) (hs : slots ≤ ms) :
    vx_W p l e R s m args below meth c H locs cells slots (vx_MQ below Qc XC args s mc ms free) (F0 m pc ls rest) q := by
  intro T hT X
  have hpl : e.platform.magicAccessors = ({} : Platform).magicAccessors := by rw [X.admits.platform]
  obtain ⟨vm', hW', X', st⟩ := X.outThrough hlocks q (g := F0 m pc ls rest) rfl rfl rfl (cell := ce) (by rw [hT]; exact hcell) (by rw [hv]; rfl)
    (by obtain ⟨k9, h9, -⟩ := Vm.findClass_spec hcl; exact ⟨k9, h9⟩) (fun z hz => by
      rcases hpass z hz with h | ⟨hz0, nm, hl1, hn1⟩
      · exact Or.inl h
      · obtain ⟨c6, hc6, hcl6⟩ := Cond.classLink_spec hown hl1 e.platform hpl
        obtain ⟨a8, b8, h1, h2, h3⟩ := hn1
        cases Option.some.inj (h1.symm.trans hcl)
        cases Option.some.inj (h2.symm.trans hc6)
        exact Or.inr ⟨hz0, _, hcl6, h3⟩)
  obtain ⟨g₀, hfr⟩ := X'.frames_eq
  have hcell9 : ((T.setVm vm').setFrames (.throwing q :: below)).heap[q]? = some ce := by
    show T.heap[q]? = some ce
    rw [hT]; exact hcell
  have hend : Ended ((T.setVm vm').setFrames (.throwing q :: below)) below (.threw q) := State.frames_setFrames _ (State.cur_lt_of_frames hfr)
  refine ⟨(T.setVm vm').setFrames (.throwing q :: below), ?_, .threw q, X'.here.running, hend, Or.inr ⟨q, rfl, E, ce, locs, hx _ hT (X'.ends _).1.alike, hcell9, hv, hcl, (X'.ends _).1, (X'.ends _).2.mono hc hs, hf⟩⟩
  rw [X.pushThrowing_eq]
  exact st
/-- a thing of a world lies in the heap -/
theorem vx_lt {D : va_G} {cl : List vw_C} {ws : va_W} {H1 : Heap} (h : va_P D cl ws H1) {k : Nat} {q : Nat × va_E} (hk : ws[k]? = some q) : q.1 < H1.size := (h k q hk).lt
end VXS
/-! ===== END ===== -/
/-! ===== BEGIN methods with a table of their own: called by a name, returning or throwing ===== -/
section VXH
/-! vx_backW, vx_callVX, vx_callSX, vx_callVW, vx_runVW, vx_runVX, vx_runSX, vx_ofWH follow the same proofs as their sisters above (Free/Laws.lean, Shelf42/LK1.lean); vx_outP calls Shelf42/NT130.lean (outThrough). -/
section
variable {l : Launch} {R : Room} {p : Program} {e : Env} {below : List Frame} {s : State} {sargs : Array Value} {y : MethodName} {len W9 : Nat}
theorem vx_backW {ws : List Cond} {rm : Room} {Pc : Array Value → State → Prop} {Qc : Array Value → State → Outcome → State → Prop} {XC : String → State → State → Prop} {mc ms : Nat} {free : Addr → Prop} {bytes : ByteArray} {maxL : Nat} {ret : Option FieldType} {hh : List (Nat × Nat × Nat × Nat)}
    (hM : vx_Met l y ws rm Pc Qc XC mc ms free) (hblind : FrameBlind Pc) (hrc : rm.cells = mc) (hrs : rm.slots = ms)
    (hframes : rm.frames + 1 ≤ R.frames) (hlocals : W9 + (maxL + 11) + rm.locals ≤ R.locals)
    (hws : ∀ w ∈ ws, ∀ a' U, s.WarmedH U.vm → w.before a' U = true) (hcode : Cond.codeWith y bytes maxL ret hh ∈ ws) (hinit : ∀ a' U, s.WarmedH U.vm → (Cond.initialized y.cls).before a' U = true) :
    vx_Back l R p e below s sargs y len W9 (PreOf R mc ms Pc) (PostOf Qc mc ms free) (vx_Post XC mc ms free) := by
  intro m meth c A g ig mk a X hg hsize hdg hW hn hp
  have h1 : (headSpec ws rm).pre.before a A.U = true := atoms_intro fun w hw => hws w hw _ _ X.warmed
  have h2 : (Cond.codeWith y bytes maxL ret hh).before a A.U = true := hws _ hcode _ _ X.warmed
  have h3 : (Cond.initialized y.cls).before a A.U = true := hinit _ _ X.warmed
  have h4 : A.cells + (headSpec ws rm).room.cells ≤ R.cells := by rw [show (headSpec ws rm).room.cells = mc from hrc]; exact hp.1
  have h5 : A.slots + (headSpec ws rm).room.slots ≤ R.slots := by rw [show (headSpec ws rm).room.slots = ms from hrs]; exact hp.2.1
  have hPc : Pc a (A.U.calling g mk a) := hblind _ _ _ _ hp.2.2
  obtain ⟨U, Ls, c0, s0⟩ := A
  dsimp only [Pt.U, Pt.locs, Pt.cells, Pt.slots] at h1 h2 h3 h4 h5 X hn hPc ⊢
  obtain ⟨m9, methY, cY, hn9, hmY, hcY, -, hlY, -⟩ := Cond.codeWith_spec h2
  cases Option.some.inj (hn9.symm.trans hn)
  obtain ⟨kY, hkY, -⟩ := className_of_methodNamed hn
  have hinitY : kY.init = .initialized := Cond.initialized_spec (findClass_of_methodNamed hn) hkY h3
  have h : At U g.method c below := by rw [hg]; exact X.here
  have hlocals9 : W9 + (maxL + 11) + (headSpec ws rm).room.locals ≤ R.locals := hlocals
  have happ : (headSpec ws rm).appliesLoose y e.platform (U.calling g mk a) = true :=
    Spec.appliesLoose_calling (g := g) h hdg hn hkY hinitY
      (X.room_calling (g := g) (R' := (headSpec ws rm).room) hsize hmY hcY hframes (by rw [hlY]; omega) h4 h5) h1
  obtain ⟨mid, hmid⟩ := h.above
  have hfr : (U.setTop g).frames = (.java g :: mid) ++ below := by rw [State.frames_setTop' g h.top, hmid]; rfl
  obtain ⟨o, s₂, hsteps, -, hend, hq⟩ := Steps.callFree hM p X.admits X.cas X.clock (acts := []) hfr happ hPc trivial
  have hq' : vx_Q Qc XC mc ms free a (U.calling g mk a) o s₂ := hq
  rw [State.frames_setTop' g h.top] at hend
  obtain ⟨g₀, hg0⟩ := Option.isSome_iff_exists.mp h.top
  obtain ⟨r, hr⟩ := State.topJava?_eq_some.mp hg0
  have hr' : (({ U with heap := s₂.heap, slotsUsed := s₂.slotsUsed } : State).setVm s₂.vm).frames = .java g₀ :: r := hr
  rcases hq' with ⟨hqc, L, hfe, hL⟩ | ⟨q, rfl, E, ce, L, hx, hce, hcv, hcl, hW₂, hsm, hL⟩
  · obtain ⟨⟨v, rfl⟩, hW₂, e2, q2, q3, q4, q5, q6⟩ := id hfe
    have e3 : s₂ = ({ (U.calling g mk a).setFrames s₂.frames with heap := s₂.heap, slotsUsed := s₂.slotsUsed } : State).setVm s₂.vm := by
      have : s₂ = ({ s₂ with vm := (U.calling g mk a).vm } : State).setVm s₂.vm := rfl
      rw [e2] at this
      exact this
    obtain ⟨c₂, i₂, len₂, hc₂, hd₂, hf₂⟩ := hend
    have hW' : U.WarmedH s₂.vm := hW₂
    have hcc : c₂ = c := by
      have h1 : s₂.code? g.method = U.code? g.method := by
        rw [State.code?_eq, State.code?_eq, hW'.alike.method?]
      exact Option.some.inj (hc₂.symm.trans (h1.trans h.code))
    subst hcc
    have hlen : len₂ = len := by rw [hdg] at hd₂; cases hd₂; rfl
    subst hlen
    have hs₂ : s₂ = (({ U with heap := s₂.heap, slotsUsed := s₂.slotsUsed } : State).setVm s₂.vm).setTop { g with pc := g.pc + len₂, stack := v.toList ++ g.stack } := by
      refine e3.trans ?_
      rw [hf₂, State.calling_eq h.top, State.setFrames_setFrames, State.setTop_of_frames _ hr', hr]
      rfl
    have hsame : U.sameButNew ({ U with heap := s₂.heap, slotsUsed := s₂.slotsUsed } : State) L mc ms := by
      refine ⟨?_, q2, q3, q4, q5, q6⟩
      obtain ⟨t, ht, -⟩ := State.frames_cons hr
      show ({ U with heap := s₂.heap, slotsUsed := s₂.slotsUsed } : State) = { U.setFrames U.frames with heap := s₂.heap, slotsUsed := s₂.slotsUsed }
      rw [State.setFrames_self ht]
    subst hg
    refine Or.inl ⟨v, ⟨(({ U with heap := s₂.heap, slotsUsed := s₂.slotsUsed } : State).setVm s₂.vm), Ls ++ L, c0 + mc, s0 + ms⟩,
      ⟨X.admits, X.cas, X.clock, X.frames, X.room, X.hears, X.method, X.code, (X.here.setHeapUsed s₂.heap s₂.slotsUsed).setVm hW'.alike, X.tail, State.WarmedH.trans X.warmed hW', X.limits, X.bytes, X.same.trans (hsame.setVm s.vm)⟩,
      ⟨g, mk, s₂, L, rfl, rfl, hqc, rfl, hL, rfl, rfl⟩, ?_⟩
    show Steps p.tables e below _ ((({ U with heap := s₂.heap, slotsUsed := s₂.slotsUsed } : State).setVm s₂.vm).setTop { g with pc := g.pc + len₂, stack := v.toList ++ g.stack })
    rw [← hs₂]
    exact hsteps
  · obtain ⟨e2, q2, q3, q4, q5, q6⟩ := id hsm
    have e3 : s₂ = ({ (U.calling g mk a).setFrames s₂.frames with heap := s₂.heap, slotsUsed := s₂.slotsUsed } : State).setVm s₂.vm := by
      have : s₂ = ({ s₂ with vm := (U.calling g mk a).vm } : State).setVm s₂.vm := rfl
      rw [e2] at this
      exact this
    have hf₂ : s₂.frames = .throwing q :: .java g :: U.frames.tail := hend
    have hW' : U.WarmedH s₂.vm := hW₂
    have hs₂ : s₂ = ((({ U with heap := s₂.heap, slotsUsed := s₂.slotsUsed } : State).setVm s₂.vm).setTop g).pushFrame (.throwing q) := by
      refine e3.trans ?_
      rw [hf₂, State.calling_eq h.top, State.setFrames_setFrames, State.pushFrame, State.frames_setTop _ hr', State.setTop_of_frames _ hr', State.setFrames_setFrames, hr]
      rfl
    have hsame : U.sameButNew ({ U with heap := s₂.heap, slotsUsed := s₂.slotsUsed } : State) L mc ms := by
      refine ⟨?_, q2, q3, q4, q5, q6⟩
      obtain ⟨t, ht, -⟩ := State.frames_cons hr
      show ({ U with heap := s₂.heap, slotsUsed := s₂.slotsUsed } : State) = { U.setFrames U.frames with heap := s₂.heap, slotsUsed := s₂.slotsUsed }
      rw [State.setFrames_self ht]
    subst hg
    refine Or.inr ⟨q, ⟨(({ U with heap := s₂.heap, slotsUsed := s₂.slotsUsed } : State).setVm s₂.vm), Ls ++ L, c0 + mc, s0 + ms⟩,
      ⟨X.admits, X.cas, X.clock, X.frames, X.room, X.hears, X.method, X.code, (X.here.setHeapUsed s₂.heap s₂.slotsUsed).setVm hW'.alike, X.tail, State.WarmedH.trans X.warmed hW', X.limits, X.bytes, X.same.trans (hsame.setVm s.vm)⟩,
      ⟨g, mk, s₂, L, E, ce, rfl, rfl, hx, hce, hcv, hcl, rfl, hL, rfl, rfl⟩, ?_⟩
    show Steps p.tables e below _ (((({ U with heap := s₂.heap, slotsUsed := s₂.slotsUsed } : State).setVm s₂.vm).setTop g).pushFrame (.throwing q))
    rw [← hs₂]
    exact hsteps
end
variable {p : Program} {l : Launch} {e : Env} {R : Room} {s : State} {m : MethodId} {args : Array Value} {below : List Frame} {meth : Method} {c : Code} {T : State} {H : Heap} {locs : List Loc} {cells slots : Nat}
theorem vx_callVX (X : Stand p l e R s m args below meth c T locs cells slots) (hexec : p.tables.exec = Jvm.exec) {own C : String} {index : Nat} {y : MethodName} {bytes : ByteArray} {maxL : Nat} {ret : Option FieldType} {hh : List (Nat × Nat × Nat × Nat)}
    (hown : s.vm.findClass own = some m.cls) (hlink : (Cond.methodLink own index y).before args s = true) (hinst : (Cond.instanceMethod y).before args s = true) (hsel : (Cond.selects C y y).before args s = true)
    (hcode : (Cond.codeWith y bytes maxL ret hh).before args s = true) (hy : y.cls ≠ "java/lang/invoke/MethodHandle" ∧ y.cls ≠ "java/lang/invoke/VarHandle")
    {W9 : Nat} {Pre : Pt → Array Value → Prop} {Post : Pt → Array Value → Option Value → Pt → Prop} {PostX : Pt → Array Value → Addr → Pt → Prop} (hK : vx_Back l R p e below s args y 3 W9 Pre Post PostX)
    {b : Addr} {cellB : Cell} (hcell : T.heap[b]? = some cellB) (hobj : cellB.vm.isStatics = false) (hcls : s.vm.findClass C = some cellB.cls)
    {g : JFrame} (hg : g.method = m) (hsize : g.locals.size = c.maxLocals) {argsL rest : List Value} (hlen : ∀ sig, parseMethodDescriptor y.desc = some sig → argsL.length = sig.parameters.length)
    (hstack : g.stack = argsL.reverse ++ .ref b :: rest) (hW : 2 * g.monitorRoom + (rest.map fun v => v.category).sum ≤ W9) (hdg : decode c.code g.pc = .ok (.invokevirtual index, 3))
    (hpre : ∀ vm₁, s.WarmedH vm₁ → Pre ⟨T.setVm vm₁, locs, cells, slots⟩ (Value.ref b :: argsL).toArray) :
    (∃ (v : Option Value) (vm₁ : Vm) (B : Pt), s.WarmedH vm₁ ∧ Stand p l e R s m args below meth c B.U B.locs B.cells B.slots ∧ Post ⟨T.setVm vm₁, locs, cells, slots⟩ (Value.ref b :: argsL).toArray v B ∧
      ∀ target, Steps p.tables e below (B.U.setTop { g with pc := g.pc + 3, stack := v.toList ++ rest }) target → Steps p.tables e below (T.setTop g) target) ∨
    (∃ (q : Addr) (vm₁ : Vm) (B : Pt), s.WarmedH vm₁ ∧ Stand p l e R s m args below meth c B.U B.locs B.cells B.slots ∧ PostX ⟨T.setVm vm₁, locs, cells, slots⟩ (Value.ref b :: argsL).toArray q B ∧
      Steps p.tables e below (T.setTop g) ((B.U.setTop { g with stack := rest }).pushFrame (.throwing q))) := by
  obtain ⟨mk, methM, hnamed, hmethM, hstM, habM⟩ := Cond.instanceMethod_spec hinst
  obtain ⟨m8, methM', cM, hn8, hmethM', -, -, -, -, -, -, hsigM⟩ := Cond.codeWith_spec hcode
  cases Option.some.inj (hn8.symm.trans hnamed)
  cases hmethM.symm.trans hmethM'
  obtain ⟨c2, r2, m2, q1, q2, q3, q4, kP, hkP, hkPi⟩ := Cond.selects_spec hsel
  cases hcls.symm.trans q1
  cases (State.methodFound?_of_named hnamed hy).symm.trans q2
  cases hnamed.symm.trans q3
  have hselP : selectMethod e.platform s.vm cellB.cls mk = .method mk := by rw [Launch.admits_selectMethod X.admits]; exact q4
  obtain ⟨vm₁, X₁, hstep₁⟩ := X.invokevirtual hexec hown hlink hnamed hmethM hstM hkP hkPi hy (a := b) (cell := cellB) hcell
    (fun z h => by rw [h] at hobj; cases hobj) hselP hmethM habM hkP hkPi (g := g) hg (argsL := argsL) (rest := rest) (hlen _ hsigM) hstack hdg
  rcases hK m meth c ⟨T.setVm vm₁, locs, cells, slots⟩ { g with stack := rest } (.invokevirtual index) mk (Value.ref b :: argsL).toArray X₁ hg hsize hdg hW (X₁.named hnamed) (hpre vm₁ X₁.warmed) with ⟨v, B, X', hpost, hsteps⟩ | ⟨q, B, X', hpost, hsteps⟩
  · exact Or.inl ⟨v, vm₁, B, X₁.warmed, X', hpost, fun target h => hstep₁ _ fun acts => by rw [doInvoke_state]; exact hsteps.trans h⟩
  · exact Or.inr ⟨q, vm₁, B, X₁.warmed, X', hpost, hstep₁ _ fun acts => by rw [doInvoke_state]; exact hsteps⟩
theorem vx_callSX (X : Stand p l e R s m args below meth c T locs cells slots) (hexec : p.tables.exec = Jvm.exec) {own : String} {index : Nat} {y : MethodName} {bytes : ByteArray} {maxL : Nat} {ret : Option FieldType} {hh : List (Nat × Nat × Nat × Nat)}
    (hown : s.vm.findClass own = some m.cls) (hlink : (Cond.methodLink own index y).before args s = true) (hstat : (Cond.static y).before args s = true) (hinit : (Cond.initialized y.cls).before args s = true)
    (hcode : (Cond.codeWith y bytes maxL ret hh).before args s = true) (hy : y.cls ≠ "java/lang/invoke/MethodHandle" ∧ y.cls ≠ "java/lang/invoke/VarHandle")
    {W9 : Nat} {Pre : Pt → Array Value → Prop} {Post : Pt → Array Value → Option Value → Pt → Prop} {PostX : Pt → Array Value → Addr → Pt → Prop} (hK : vx_Back l R p e below s args y 3 W9 Pre Post PostX)
    {g : JFrame} (hg : g.method = m) (hsize : g.locals.size = c.maxLocals) {argsL rest : List Value} (hlen : ∀ sig, parseMethodDescriptor y.desc = some sig → argsL.length = sig.parameters.length)
    (hstack : g.stack = argsL.reverse ++ rest) (hW : 2 * g.monitorRoom + (rest.map fun v => v.category).sum ≤ W9) (hdg : decode c.code g.pc = .ok (.invokestatic index, 3))
    (hpre : ∀ vm₁, s.WarmedH vm₁ → Pre ⟨T.setVm vm₁, locs, cells, slots⟩ argsL.toArray) :
    (∃ (v : Option Value) (vm₁ : Vm) (B : Pt), s.WarmedH vm₁ ∧ Stand p l e R s m args below meth c B.U B.locs B.cells B.slots ∧ Post ⟨T.setVm vm₁, locs, cells, slots⟩ argsL.toArray v B ∧
      ∀ target, Steps p.tables e below (B.U.setTop { g with pc := g.pc + 3, stack := v.toList ++ rest }) target → Steps p.tables e below (T.setTop g) target) ∨
    (∃ (q : Addr) (vm₁ : Vm) (B : Pt), s.WarmedH vm₁ ∧ Stand p l e R s m args below meth c B.U B.locs B.cells B.slots ∧ PostX ⟨T.setVm vm₁, locs, cells, slots⟩ argsL.toArray q B ∧
      Steps p.tables e below (T.setTop g) ((B.U.setTop { g with stack := rest }).pushFrame (.throwing q))) := by
  obtain ⟨mk, methM, cM, hnamed, hmethM, -, -, -, -, -, -, hsigM⟩ := Cond.codeWith_spec hcode
  have hstatic : methM.isStatic = true := Cond.static_spec hnamed hmethM hstat
  obtain ⟨kP, hkP, -⟩ := className_of_methodNamed hnamed
  have hinitP : kP.init = .initialized := Cond.initialized_spec (findClass_of_methodNamed hnamed) hkP hinit
  obtain ⟨vm₁, X₁, hstep₁⟩ := X.invokestatic hexec hown hlink hnamed hmethM hstatic hkP hinitP hy (g := g) hg (argsL := argsL) (rest := rest) (hlen _ hsigM) hstack hdg
  rcases hK m meth c ⟨T.setVm vm₁, locs, cells, slots⟩ { g with stack := rest } (.invokestatic index) mk argsL.toArray X₁ hg hsize hdg hW (X₁.named hnamed) (hpre vm₁ X₁.warmed) with ⟨v, B, X', hpost, hsteps⟩ | ⟨q, B, X', hpost, hsteps⟩
  · exact Or.inl ⟨v, vm₁, B, X₁.warmed, X', hpost, fun target h => hstep₁ _ fun acts => by rw [doInvoke_state]; exact hsteps.trans h⟩
  · exact Or.inr ⟨q, vm₁, B, X₁.warmed, X', hpost, hstep₁ _ fun acts => by rw [doInvoke_state]; exact hsteps⟩
theorem vx_callVW (X : Stand p l e R s m args below meth c T locs cells slots) (hexec : p.tables.exec = Jvm.exec) {own C : String} {index : Nat} {y : MethodName} {bytes : ByteArray} {maxL : Nat} {ret : Option FieldType} {hh : List (Nat × Nat × Nat × Nat)}
    (hown : s.vm.findClass own = some m.cls) (hlink : (Cond.methodLink own index y).before args s = true) (hinst : (Cond.instanceMethod y).before args s = true) (hsel : (Cond.selects C y y).before args s = true)
    (hcode : (Cond.codeWith y bytes maxL ret hh).before args s = true) (hy : y.cls ≠ "java/lang/invoke/MethodHandle" ∧ y.cls ≠ "java/lang/invoke/VarHandle")
    {W9 : Nat} {Pre : Pt → Array Value → Prop} {Post : Pt → Array Value → Option Value → Pt → Prop} (hK : Back l R p e below s args y 3 W9 Pre Post)
    {b : Addr} {cellB : Cell} (hcell : T.heap[b]? = some cellB) (hobj : cellB.vm.isStatics = false) (hcls : s.vm.findClass C = some cellB.cls)
    {g : JFrame} (hg : g.method = m) (hsize : g.locals.size = c.maxLocals) {argsL rest : List Value} (hlen : ∀ sig, parseMethodDescriptor y.desc = some sig → argsL.length = sig.parameters.length)
    (hstack : g.stack = argsL.reverse ++ .ref b :: rest) (hW : 2 * g.monitorRoom + (rest.map fun v => v.category).sum ≤ W9) (hdg : decode c.code g.pc = .ok (.invokevirtual index, 3))
    (hpre : ∀ vm₁, s.WarmedH vm₁ → Pre ⟨T.setVm vm₁, locs, cells, slots⟩ (Value.ref b :: argsL).toArray) :
    ∃ (v : Option Value) (vm₁ : Vm) (B : Pt), s.WarmedH vm₁ ∧ Stand p l e R s m args below meth c B.U B.locs B.cells B.slots ∧ Post ⟨T.setVm vm₁, locs, cells, slots⟩ (Value.ref b :: argsL).toArray v B ∧
      ∀ target, Steps p.tables e below (B.U.setTop { g with pc := g.pc + 3, stack := v.toList ++ rest }) target → Steps p.tables e below (T.setTop g) target := by
  obtain ⟨mk, methM, hnamed, hmethM, hstM, habM⟩ := Cond.instanceMethod_spec hinst
  obtain ⟨m8, methM', cM, hn8, hmethM', -, -, -, -, -, -, hsigM⟩ := Cond.codeWith_spec hcode
  cases Option.some.inj (hn8.symm.trans hnamed)
  cases hmethM.symm.trans hmethM'
  obtain ⟨c2, r2, m2, q1, q2, q3, q4, kP, hkP, hkPi⟩ := Cond.selects_spec hsel
  cases hcls.symm.trans q1
  cases (State.methodFound?_of_named hnamed hy).symm.trans q2
  cases hnamed.symm.trans q3
  have hselP : selectMethod e.platform s.vm cellB.cls mk = .method mk := by rw [Launch.admits_selectMethod X.admits]; exact q4
  obtain ⟨vm₁, X₁, hstep₁⟩ := X.invokevirtual hexec hown hlink hnamed hmethM hstM hkP hkPi hy (a := b) (cell := cellB) hcell
    (fun z h => by rw [h] at hobj; cases hobj) hselP hmethM habM hkP hkPi (g := g) hg (argsL := argsL) (rest := rest) (hlen _ hsigM) hstack hdg
  obtain ⟨v, B, X', hpost, hsteps⟩ := hK m meth c ⟨T.setVm vm₁, locs, cells, slots⟩ { g with stack := rest } (.invokevirtual index) mk (Value.ref b :: argsL).toArray X₁ hg hsize hdg hW (X₁.named hnamed) (hpre vm₁ X₁.warmed)
  exact ⟨v, vm₁, B, X₁.warmed, X', hpost, fun target h => hstep₁ _ fun acts => by rw [doInvoke_state]; exact hsteps.trans h⟩
abbrev vx_CVW (R : Room) (s : State) (args : Array Value) (own C : String) (index : Nat) (y : MethodName) (bytes : ByteArray) (maxL : Nat) (ret : Option FieldType) (hh : List (Nat × Nat × Nat × Nat)) (ws : List Cond) (rm : Room) (mc ms n : Nat) : Prop :=
  (rm.cells = mc ∧ rm.slots = ms ∧ rm.frames + 1 ≤ R.frames ∧ 8 + (maxL + 11) + rm.locals ≤ R.locals ∧ (∀ w ∈ ws, ∀ (a' : Array Value) (U : State), s.WarmedH U.vm → w.before a' U = true) ∧ Cond.codeWith y bytes maxL ret hh ∈ ws) ∧
  (Cond.codeWith y bytes maxL ret hh).before args s = true ∧ (Cond.initialized y.cls).before args s = true ∧ (y.cls ≠ "java/lang/invoke/MethodHandle" ∧ y.cls ≠ "java/lang/invoke/VarHandle") ∧
  (∀ sig, parseMethodDescriptor y.desc = some sig → n = sig.parameters.length) ∧ (Cond.methodLink own index y).before args s = true ∧ (Cond.instanceMethod y).before args s = true ∧ (Cond.selects C y y).before args s = true
theorem vx_cwVW {own C : String} {index maxL mc ms : Nat} {y : MethodName} {bytes : ByteArray} {ret : Option FieldType} {hh : List (Nat × Nat × Nat × Nat)} {Ts ws ws' : List Cond} {rm : Room} (n : Nat) (ht : ∀ w ∈ Ts, w.before args s = true) (hT : GoodIn Ts (wsV own index C y ws)) (hw : ws = Cond.codeWith y bytes maxL ret hh :: ws') (hrc : rm.cells = mc) (hrs : rm.slots = ms)
    (hd : y.cls = C ∧ y.cls ≠ "java/lang/invoke/MethodHandle" ∧ y.cls ≠ "java/lang/invoke/VarHandle" ∧ (parseMethodDescriptor y.desc).map (fun d => d.parameters.length) = some n) (hR : rm.frames + 1 ≤ R.frames ∧ 8 + (maxL + 11) + rm.locals ≤ R.locals) :
    vx_CVW R s args own C index y bytes maxL ret hh ws rm mc ms n := by
  obtain ⟨hC, hd⟩ := hd
  subst hC
  have ok : ∀ w ∈ wsV own index y.cls y ws, w.before args s = true := fun w h => ht w (hT w h).1
  have hG : GoodIn Ts ws := fun w h => hT w (by unfold wsV; exact List.mem_append_right _ h)
  have hc : Cond.codeWith y bytes maxL ret hh ∈ ws := by rw [hw]; exact List.mem_cons_self
  refine ⟨⟨hrc, hrs, hR.1, hR.2, pay_in ht hG, hc⟩, ht _ (hG _ hc).1, ok _ (by simp [wsV]), ⟨hd.1, hd.2.1⟩, fun sig h => ?_, ok _ (by simp [wsV]), ok _ (by simp [wsV]), ok _ (by simp [wsV])⟩
  have h2 := hd.2.2
  rw [h] at h2
  exact (Option.some.inj h2).symm
theorem vx_runVW {y : MethodName} {bytes cc : ByteArray} {maxL nL mc ms n index : Nat} {ret : Option FieldType} {hh : List (Nat × Nat × Nat × Nat)} {ws : List Cond} {rm : Room} {Pc : Array Value → State → Prop} {Qc : Array Value → State → Outcome → State → Prop} {free : Addr → Prop} {Ts : List Cond} {own C : String} {b : Addr} {As rest : List Value} {g : JFrame}
    (S : CallFix p m c cc nL s args Ts own) (hM : Met l y ws rm Pc Qc mc ms free) (cw : vx_CVW R s args own C index y bytes maxL ret hh ws rm mc ms n) (hp : PreV s H C b Pc As)
    (hg : g.method = m) (hn : As.length = n) (hsize : g.locals.size = nL) (hstack : g.stack = As.reverse ++ .ref b :: rest) (hW : 2 * g.monitorRoom + (rest.map fun v => v.category).sum ≤ 8) (hdg : decode cc g.pc = .ok (.invokevirtual index, 3)) (hf : cells + mc ≤ R.cells ∧ slots + ms ≤ R.slots) :
    va_Run p l e R s m args below meth c H locs cells slots mc ms g rest (Qc (Value.ref b :: As).toArray) free := by
  obtain ⟨⟨hrc, hrs, hfr, hlo, hws, hcw⟩, hcode, hini, hy, hlen, hl, hin, hse⟩ := cw
  have hK : Back l R p e below s args y 3 8 (PreOf R mc ms Pc) (PostOf Qc mc ms free) := va_backW (hh := hh) (bytes := bytes) (maxL := maxL) (ret := ret) hM hp.1 hrc hrs hfr hlo hws hcw (fun a' U hW => word_at hW (Or.inl (by first | rfl | simp [Cond.onTables, Cond.keeps, Cond.steady])) hini)
  obtain ⟨hx, hb, hml, ho, -⟩ := S
  obtain ⟨-, ⟨cellB, hcB, hoB, hclB⟩, hPc⟩ := hp
  intro T hT X
  obtain ⟨v, vm₁, ⟨U', l2, c2, s2⟩, hW₁, X', ⟨g', mk, t, L, e1, e2, hq, h1, hL, h2, h3⟩, st⟩ := vx_callVW X hx (C := C) (hh := hh) (bytes := bytes) (maxL := maxL) (ret := ret) ho hl hin hse hcode hy hK (by rw [hT]; exact hcB) hoB hclB hg (hsize.trans hml.symm) (argsL := As) (rest := rest) (fun sig h => hn.trans (hlen sig h)) hstack hW (by rw [hb]; exact hdg)
    (fun vm₁ hW₁ => ⟨hf.1, hf.2, hPc (T.setVm vm₁) hT hW₁⟩)
  dsimp only [Pt.U, Pt.locs, Pt.cells, Pt.slots] at X' e1 e2 h1 h2 h3 st
  subst h1; subst h2; subst h3
  exact ⟨v, (T.setVm vm₁).calling g' mk (Value.ref b :: As).toArray, t, U', L, hT, X', hL, e1, e2, hq, st⟩
section
variable {y : MethodName} {bytes cc : ByteArray} {maxL nL mc ms n index : Nat} {ret : Option FieldType} {ws : List Cond} {rm : Room} {Pc : Array Value → State → Prop} {Qc : Array Value → State → Outcome → State → Prop} {XC : String → State → State → Prop} {free : Addr → Prop} {Ts : List Cond} {own C : String} {b : Addr} {As rest : List Value} {g : JFrame}
theorem vx_runVX {hh : List (Nat × Nat × Nat × Nat)} (S : CallFix p m c cc nL s args Ts own) (hM : vx_Met l y ws rm Pc Qc XC mc ms free) (cw : vx_CVW R s args own C index y bytes maxL ret hh ws rm mc ms n) (hp : PreV s H C b Pc As)
    (hg : g.method = m) (hn : As.length = n) (hsize : g.locals.size = nL) (hstack : g.stack = As.reverse ++ .ref b :: rest) (hW : 2 * g.monitorRoom + (rest.map fun v => v.category).sum ≤ 8) (hdg : decode cc g.pc = .ok (.invokevirtual index, 3)) (hf : cells + mc ≤ R.cells ∧ slots + ms ≤ R.slots) :
    vx_Run p l e R s m args below meth c H locs cells slots mc ms g rest (Qc (Value.ref b :: As).toArray) XC free := by
  obtain ⟨⟨hrc, hrs, hfr, hlo, hws, hcw⟩, hcode, hini, hy, hlen, hl, hin, hse⟩ := cw
  have hK : vx_Back l R p e below s args y 3 8 (PreOf R mc ms Pc) (PostOf Qc mc ms free) (vx_Post XC mc ms free) := vx_backW (hh := hh) (bytes := bytes) (maxL := maxL) (ret := ret) hM hp.1 hrc hrs hfr hlo hws hcw (fun a' U hW => word_at hW (Or.inl (by first | rfl | simp [Cond.onTables, Cond.keeps, Cond.steady])) hini)
  obtain ⟨hx, hb, hml, ho, -⟩ := S
  obtain ⟨-, ⟨cellB, hcB, hoB, hclB⟩, hPc⟩ := hp
  intro T hT X
  rcases vx_callVX X hx (C := C) (hh := hh) (bytes := bytes) (maxL := maxL) (ret := ret) ho hl hin hse hcode hy hK (by rw [hT]; exact hcB) hoB hclB hg (hsize.trans hml.symm) (argsL := As) (rest := rest) (fun sig h => hn.trans (hlen sig h)) hstack hW (by rw [hb]; exact hdg)
    (fun vm₁ hW₁ => ⟨hf.1, hf.2, hPc (T.setVm vm₁) hT hW₁⟩) with ⟨v, vm₁, ⟨U', l2, c2, s2⟩, hW₁, X', ⟨g', mk, t, L, e1, e2, hq, h1, hL, h2, h3⟩, st⟩ | ⟨q, vm₁, ⟨U', l2, c2, s2⟩, hW₁, X', ⟨g', mk, t, L, E, ce, e1, e2, hq, hce, hcv, hcl, h1, hL, h2, h3⟩, st⟩
  · dsimp only [Pt.U, Pt.locs, Pt.cells, Pt.slots] at X' e1 e2 h1 h2 h3 st
    subst h1; subst h2; subst h3
    exact Or.inl ⟨v, (T.setVm vm₁).calling g' mk (Value.ref b :: As).toArray, t, U', L, hT, X', hL, e1, e2, hq, st⟩
  · dsimp only [Pt.U, Pt.locs, Pt.cells, Pt.slots] at X' e1 e2 h1 h2 h3 st hcl
    subst h1; subst h2; subst h3
    exact Or.inr ⟨q, (T.setVm vm₁).calling g' mk (Value.ref b :: As).toArray, t, U', L, E, ce, hT, X', hL, e1, e2, hq, hce, hcv, vx_cls hW₁ hcl, st⟩
theorem vx_runSX {hh : List (Nat × Nat × Nat × Nat)} (S : CallFix p m c cc nL s args Ts own) (hM : vx_Met l y ws rm Pc Qc XC mc ms free) (cw : vx_CSW R s args own index y bytes maxL ret hh ws rm mc ms n) (hp : PreS s H Pc As)
    (hg : g.method = m) (hn : As.length = n) (hsize : g.locals.size = nL) (hstack : g.stack = As.reverse ++ rest) (hW : 2 * g.monitorRoom + (rest.map fun v => v.category).sum ≤ 8) (hdg : decode cc g.pc = .ok (.invokestatic index, 3)) (hf : cells + mc ≤ R.cells ∧ slots + ms ≤ R.slots) :
    vx_Run p l e R s m args below meth c H locs cells slots mc ms g rest (Qc As.toArray) XC free := by
  obtain ⟨⟨hrc, hrs, hfr, hlo, hws, hcw⟩, hcode, hini, hy, hlen, hl, hstt⟩ := cw
  have hK : vx_Back l R p e below s args y 3 8 (PreOf R mc ms Pc) (PostOf Qc mc ms free) (vx_Post XC mc ms free) := vx_backW (hh := hh) (bytes := bytes) (maxL := maxL) (ret := ret) hM hp.1 hrc hrs hfr hlo hws hcw (fun a' U hW => word_at hW (Or.inl (by first | rfl | simp [Cond.onTables, Cond.keeps, Cond.steady])) hini)
  obtain ⟨hx, hb, hml, ho, -⟩ := S
  intro T hT X
  rcases vx_callSX X hx (hh := hh) (bytes := bytes) (maxL := maxL) (ret := ret) ho hl hstt hini hcode hy hK hg (hsize.trans hml.symm) (argsL := As) (rest := rest) (fun sig h => hn.trans (hlen sig h)) hstack hW (by rw [hb]; exact hdg)
    (fun vm₁ hW₁ => ⟨hf.1, hf.2, hp.2 (T.setVm vm₁) hT hW₁⟩) with ⟨v, vm₁, ⟨U', l2, c2, s2⟩, hW₁, X', ⟨g', mk, t, L, e1, e2, hq, h1, hL, h2, h3⟩, st⟩ | ⟨q, vm₁, ⟨U', l2, c2, s2⟩, hW₁, X', ⟨g', mk, t, L, E, ce, e1, e2, hq, hce, hcv, hcl, h1, hL, h2, h3⟩, st⟩
  · dsimp only [Pt.U, Pt.locs, Pt.cells, Pt.slots] at X' e1 e2 h1 h2 h3 st
    subst h1; subst h2; subst h3
    exact Or.inl ⟨v, (T.setVm vm₁).calling g' mk As.toArray, t, U', L, hT, X', hL, e1, e2, hq, st⟩
  · dsimp only [Pt.U, Pt.locs, Pt.cells, Pt.slots] at X' e1 e2 h1 h2 h3 st hcl
    subst h1; subst h2; subst h3
    exact Or.inr ⟨q, (T.setVm vm₁).calling g' mk As.toArray, t, U', L, E, ce, hT, X', hL, e1, e2, hq, hce, hcv, vx_cls hW₁ hcl, st⟩
end
end VXH
theorem vx_ofWH {l : Launch} {y : MethodName} {ws ws' : List Cond} {rm : Room} {Pc : Array Value → State → Prop} {Qc : Array Value → State → Outcome → State → Prop} {XC : String → State → State → Prop} {mc ms : Nat} {free : Addr → Prop} {cc : ByteArray} {maxL : Nat} {ret : Option FieldType} {hh : List (Nat × Nat × Nat × Nat)}
    (hy : plainName y.cls = true) (hw : ws = Cond.codeWith y cc maxL ret hh :: ws')
    (body : ∀ p e s m args below meth c s₁, BodyLoose p l y (headSpec ws rm) cc maxL ret e s m args below meth c s₁ → c.maxLocals = maxL → Pc args s →
      W p l e (headSpec ws rm).room s m args below meth c s.heap [] 0 0 (vx_MQ below Qc XC args s mc ms free) (entryFrame m args maxL)) : vx_Met l y ws rm Pc Qc XC mc ms free := by
  refine MetFree.of_bodyS (code := cc) (maxLocals := maxL) (ret := ret) hy ?_ ?_
  · intro args s m h hn
    obtain ⟨m9, meth, c, hn9, h1, h2, h3, h4, -, h5, h6, -⟩ := Cond.codeWith_spec (atoms_spec (ws := ws) h _ (by rw [hw]; exact List.mem_cons_self))
    cases hn.symm.trans hn9
    exact ⟨meth, c, h1, h2, h3, h4, h5, h6⟩
  · intro p e s m args below meth c s₁ B hml hP _
    have hh0 : s₁.heap = s.heap := by rw [B.state]; rfl
    obtain ⟨t, a1, o, b1, b2, b3⟩ := body p e s m args below meth c s₁ B hml hP s₁ hh0 (Stand.of_body B)
    exact ⟨t, o, a1, b1, b2, b3⟩
/-! ===== END ===== -/
end
section
/-! ===== BEGIN printed: names, fields, word lists, decode rows ===== -/
def RX0 : String := "ShardBallots"
def TX0 : u_T := fun k => match k with
  | 0 => ("ShardBallots", "rowTable", "[I", true)
  | 1 => ("ShardBallots", "memberCount", "I", false)
  | 2 => ("ShardBallots", "lastKeys", "[I", true)
  | 3 => ("ShardBallots", "homes", "[I", true)
  | 4 => ("ShardBallots", "targets", "[I", true)
  | 5 => ("ShardBallots", "rangeCount", "I", false)
  | 6 => ("ShardBallots", "roll", "[I", true)
  | 7 => ("ShardBallots", "rollLaid", "Z", false)
  | 8 => ("ShardBallots", "voteNumber", "I", false)
  | 9 => ("ShardBallots", "ballotKeys", "[I", true)
  | 10 => ("ShardBallots", "ballotVotes", "[I", true)
  | 11 => ("ShardBallots", "ballotAddresses", "[I", true)
  | 12 => ("ShardBallots", "ballotDistricts", "[I", true)
  | 13 => ("ShardBallots", "ballotStates", "[I", true)
  | 14 => ("ShardBallots", "ballotChoices", "[I", true)
  | _ => ("ShardBallots", "ballotCount", "I", false)
def tyX0 : Nat → FieldType := fun k => match k with
  | 0 => .array .int
  | 1 => .int
  | 2 => .array .int
  | 3 => .array .int
  | 4 => .array .int
  | 5 => .int
  | 6 => .array .int
  | 7 => .boolean
  | 8 => .int
  | 9 => .array .int
  | 10 => .array .int
  | 11 => .array .int
  | 12 => .array .int
  | 13 => .array .int
  | 14 => .array .int
  | _ => .int
abbrev wsX00 : List Cond := u_ws RX0 TX0 16
theorem nmX0 : ∀ a, a < 16 → ∀ b, b < 16 → a ≠ b → (TX0 a).2.1 ≠ (TX0 b).2.1 := by decide +kernel
theorem tyX0_ok : ∀ k, k < 16 → parseFieldDescriptor (TX0 k).2.2.1 = some (tyX0 k) := by decide +kernel
abbrev cX0_init : ByteArray := prog_1_method_1_code
def yX0_init : MethodName := ⟨RX0, "<init>", "()V"⟩
abbrev cX0_join : ByteArray := prog_1_method_2_code
def yX0_join : MethodName := ⟨RX0, "join", "(II)I"⟩
abbrev cX0_change : ByteArray := prog_1_method_3_code
def yX0_change : MethodName := ⟨RX0, "change", "(II)I"⟩
abbrev cX0_leave : ByteArray := prog_1_method_4_code
def yX0_leave : MethodName := ⟨RX0, "leave", "(I)I"⟩
abbrev cX0_address : ByteArray := prog_1_method_5_code
def yX0_address : MethodName := ⟨RX0, "address", "(I)I"⟩
abbrev cX0_inDistrict : ByteArray := prog_1_method_6_code
def yX0_inDistrict : MethodName := ⟨RX0, "inDistrict", "(I)I"⟩
abbrev cX0_split : ByteArray := prog_1_method_7_code
def yX0_split : MethodName := ⟨RX0, "split", "(I)I"⟩
abbrev cX0_merge : ByteArray := prog_1_method_8_code
def yX0_merge : MethodName := ⟨RX0, "merge", "(I)I"⟩
abbrev cX0_move : ByteArray := prog_1_method_9_code
def yX0_move : MethodName := ⟨RX0, "move", "(II)I"⟩
abbrev cX0_step : ByteArray := prog_1_method_10_code
def yX0_step : MethodName := ⟨RX0, "step", "(I)I"⟩
abbrev cX0_giveUp : ByteArray := prog_1_method_11_code
def yX0_giveUp : MethodName := ⟨RX0, "giveUp", "(I)I"⟩
abbrev cX0_ranges : ByteArray := prog_1_method_12_code
def yX0_ranges : MethodName := ⟨RX0, "ranges", "()I"⟩
abbrev cX0_rangeOf : ByteArray := prog_1_method_13_code
def yX0_rangeOf : MethodName := ⟨RX0, "rangeOf", "(I)I"⟩
abbrev cX0_shardOf : ByteArray := prog_1_method_14_code
def yX0_shardOf : MethodName := ⟨RX0, "shardOf", "(I)I"⟩
abbrev cX0_rows : ByteArray := prog_1_method_15_code
def yX0_rows : MethodName := ⟨RX0, "rows", "(I)I"⟩
abbrev cX0_fix : ByteArray := prog_1_method_16_code
def yX0_fix : MethodName := ⟨RX0, "fix", "()I"⟩
abbrev cX0_onRoll : ByteArray := prog_1_method_17_code
def yX0_onRoll : MethodName := ⟨RX0, "onRoll", "(I)I"⟩
abbrev cX0_send : ByteArray := prog_1_method_18_code
def yX0_send : MethodName := ⟨RX0, "send", "(I)I"⟩
abbrev cX0_sentTo : ByteArray := prog_1_method_19_code
def yX0_sentTo : MethodName := ⟨RX0, "sentTo", "(I)I"⟩
abbrev cX0_giveBack : ByteArray := prog_1_method_20_code
def yX0_giveBack : MethodName := ⟨RX0, "giveBack", "(II)I"⟩
abbrev cX0_stateOf : ByteArray := prog_1_method_21_code
def yX0_stateOf : MethodName := ⟨RX0, "stateOf", "(I)I"⟩
abbrev cX0_counted : ByteArray := prog_1_method_22_code
def yX0_counted : MethodName := ⟨RX0, "counted", "(II)I"⟩
abbrev cX0_close : ByteArray := prog_1_method_23_code
def yX0_close : MethodName := ⟨RX0, "close", "()I"⟩
abbrev cX0_rowOf : ByteArray := prog_1_method_24_code
def yX0_rowOf : MethodName := ⟨RX0, "rowOf", "(II)I"⟩
abbrev cX0_putRow : ByteArray := prog_1_method_25_code
def yX0_putRow : MethodName := ⟨RX0, "putRow", "(III)V"⟩
abbrev cX0_read : ByteArray := prog_1_method_26_code
def yX0_read : MethodName := ⟨RX0, "read", "(I)I"⟩
abbrev cX0_write : ByteArray := prog_1_method_27_code
def yX0_write : MethodName := ⟨RX0, "write", "(II)V"⟩
abbrev cX0_countRows : ByteArray := prog_1_method_28_code
def yX0_countRows : MethodName := ⟨RX0, "countRows", "(III)I"⟩
abbrev cX0_dropRows : ByteArray := prog_1_method_29_code
def yX0_dropRows : MethodName := ⟨RX0, "dropRows", "(II)V"⟩
abbrev cX0_lowestKeyNotBrought : ByteArray := prog_1_method_30_code
def yX0_lowestKeyNotBrought : MethodName := ⟨RX0, "lowestKeyNotBrought", "(I)I"⟩
abbrev cX0_districtOf : ByteArray := prog_1_method_31_code
def yX0_districtOf : MethodName := ⟨RX0, "districtOf", "(I)I"⟩
abbrev cX0_rangeHolding : ByteArray := prog_1_method_32_code
def yX0_rangeHolding : MethodName := ⟨RX0, "rangeHolding", "(I)I"⟩
abbrev cX0_homeOf : ByteArray := prog_1_method_33_code
def yX0_homeOf : MethodName := ⟨RX0, "homeOf", "(I)I"⟩
abbrev cX0_targetOf : ByteArray := prog_1_method_34_code
def yX0_targetOf : MethodName := ⟨RX0, "targetOf", "(I)I"⟩
abbrev cX0_isMoved : ByteArray := prog_1_method_35_code
def yX0_isMoved : MethodName := ⟨RX0, "isMoved", "(I)Z"⟩
abbrev cX0_firstKeyOf : ByteArray := prog_1_method_36_code
def yX0_firstKeyOf : MethodName := ⟨RX0, "firstKeyOf", "(I)I"⟩
abbrev cX0_lastKeyOf : ByteArray := prog_1_method_37_code
def yX0_lastKeyOf : MethodName := ⟨RX0, "lastKeyOf", "(I)I"⟩
abbrev cX0_putLastKey : ByteArray := prog_1_method_38_code
def yX0_putLastKey : MethodName := ⟨RX0, "putLastKey", "(II)V"⟩
abbrev cX0_insertCopyBehind : ByteArray := prog_1_method_39_code
def yX0_insertCopyBehind : MethodName := ⟨RX0, "insertCopyBehind", "(I)V"⟩
abbrev cX0_remove : ByteArray := prog_1_method_40_code
def yX0_remove : MethodName := ⟨RX0, "remove", "(I)V"⟩
abbrev cX0_copyRange : ByteArray := prog_1_method_41_code
def yX0_copyRange : MethodName := ⟨RX0, "copyRange", "(II)V"⟩
abbrev cX0_isOfOpenVote : ByteArray := prog_1_method_42_code
def yX0_isOfOpenVote : MethodName := ⟨RX0, "isOfOpenVote", "(I)Z"⟩
abbrev cX0_latestBallotTo : ByteArray := prog_1_method_43_code
def yX0_latestBallotTo : MethodName := ⟨RX0, "latestBallotTo", "(I)I"⟩
abbrev cX0_isKey : ByteArray := prog_1_method_44_code
def yX0_isKey : MethodName := ⟨RX0, "isKey", "(I)Z"⟩
abbrev cX0_isShard : ByteArray := prog_1_method_45_code
def yX0_isShard : MethodName := ⟨RX0, "isShard", "(I)Z"⟩
abbrev cX0_isRange : ByteArray := prog_1_method_46_code
def yX0_isRange : MethodName := ⟨RX0, "isRange", "(I)Z"⟩
abbrev cX0_isBallot : ByteArray := prog_1_method_47_code
def yX0_isBallot : MethodName := ⟨RX0, "isBallot", "(I)Z"⟩
abbrev cX0_isMember : ByteArray := prog_1_method_48_code
def yX0_isMember : MethodName := ⟨RX0, "isMember", "(I)Z"⟩
abbrev cX0_checkKey : ByteArray := prog_1_method_49_code
def yX0_checkKey : MethodName := ⟨RX0, "checkKey", "(I)V"⟩
abbrev cX0_checkShard : ByteArray := prog_1_method_50_code
def yX0_checkShard : MethodName := ⟨RX0, "checkShard", "(I)V"⟩
abbrev cX0_checkDistrict : ByteArray := prog_1_method_51_code
def yX0_checkDistrict : MethodName := ⟨RX0, "checkDistrict", "(I)V"⟩
abbrev cX0_checkRange : ByteArray := prog_1_method_52_code
def yX0_checkRange : MethodName := ⟨RX0, "checkRange", "(I)V"⟩
abbrev cX0_checkBallot : ByteArray := prog_1_method_53_code
def yX0_checkBallot : MethodName := ⟨RX0, "checkBallot", "(I)V"⟩
abbrev cX0_checkAddress : ByteArray := prog_1_method_54_code
def yX0_checkAddress : MethodName := ⟨RX0, "checkAddress", "(I)V"⟩
abbrev cX0_checkChoice : ByteArray := prog_1_method_55_code
def yX0_checkChoice : MethodName := ⟨RX0, "checkChoice", "(I)V"⟩
abbrev cX0_checkMember : ByteArray := prog_1_method_56_code
def yX0_checkMember : MethodName := ⟨RX0, "checkMember", "(I)V"⟩
abbrev cX0_checkMoved : ByteArray := prog_1_method_57_code
def yX0_checkMoved : MethodName := ⟨RX0, "checkMoved", "(I)V"⟩
def RX1 : String := "ShardBallotsModel"
def TX1 : u_T := fun k => match k with
  | _ => ("", "", "", false)
def tyX1 : Nat → FieldType := fun k => match k with
  | _ => .int
abbrev wsX10 : List Cond := u_ws RX1 TX1 0
theorem nmX1 : ∀ a, a < 0 → ∀ b, b < 0 → a ≠ b → (TX1 a).2.1 ≠ (TX1 b).2.1 := by decide +kernel
theorem tyX1_ok : ∀ k, k < 0 → parseFieldDescriptor (TX1 k).2.2.1 = some (tyX1 k) := by decide +kernel
def RJx145de : String := "java/io/Serializable"
def TJx145de : u_T := fun k => match k with
  | _ => ("", "", "", false)
def tyJx145de : Nat → FieldType := fun k => match k with
  | _ => .int
abbrev wsJx145de0 : List Cond := u_ws RJx145de TJx145de 0
theorem nmJx145de : ∀ a, a < 0 → ∀ b, b < 0 → a ≠ b → (TJx145de a).2.1 ≠ (TJx145de b).2.1 := by decide +kernel
theorem tyJx145de_ok : ∀ k, k < 0 → parseFieldDescriptor (TJx145de k).2.2.1 = some (tyJx145de k) := by decide +kernel
def RJ0 : String := "java/lang/String"
def TJ0 : u_T := fun k => match k with
  | _ => ("", "", "", false)
def tyJ0 : Nat → FieldType := fun k => match k with
  | _ => .int
abbrev wsJ00 : List Cond := u_ws RJ0 TJ0 0
theorem nmJ0 : ∀ a, a < 0 → ∀ b, b < 0 → a ≠ b → (TJ0 a).2.1 ≠ (TJ0 b).2.1 := by decide +kernel
theorem tyJ0_ok : ∀ k, k < 0 → parseFieldDescriptor (TJ0 k).2.2.1 = some (tyJ0 k) := by decide +kernel
def RJ7 : String := "java/util/Arrays"
def TJ7 : u_T := fun k => match k with
  | _ => ("", "", "", false)
def tyJ7 : Nat → FieldType := fun k => match k with
  | _ => .int
abbrev wsJ70 : List Cond := u_ws RJ7 TJ7 0
theorem nmJ7 : ∀ a, a < 0 → ∀ b, b < 0 → a ≠ b → (TJ7 a).2.1 ≠ (TJ7 b).2.1 := by decide +kernel
theorem tyJ7_ok : ∀ k, k < 0 → parseFieldDescriptor (TJ7 k).2.2.1 = some (tyJ7 k) := by decide +kernel
abbrev cJ7_fill_53178 : ByteArray := prog_11_method_103_code
def yJ7_fill_53178 : MethodName := ⟨RJ7, "fill", "([II)V"⟩
def RL : String := "ShardBallotsLaw"
abbrev cL_cell : ByteArray := method_2_code
def yL_cell : MethodName := ⟨RL, "cell", "([II)I"⟩
abbrev cL_low : ByteArray := method_3_code
def yL_low : MethodName := ⟨RL, "low", "(II)I"⟩
abbrev cL_join : ByteArray := method_4_code
def yL_join : MethodName := ⟨RL, "join", "(LShardBallots;II)I"⟩
abbrev cL_change : ByteArray := method_5_code
def yL_change : MethodName := ⟨RL, "change", "(LShardBallots;II)I"⟩
abbrev cL_leave : ByteArray := method_6_code
def yL_leave : MethodName := ⟨RL, "leave", "(LShardBallots;I)I"⟩
abbrev cL_address : ByteArray := method_7_code
def yL_address : MethodName := ⟨RL, "address", "(LShardBallots;I)I"⟩
abbrev cL_inDistrict : ByteArray := method_8_code
def yL_inDistrict : MethodName := ⟨RL, "inDistrict", "(LShardBallots;I)I"⟩
abbrev cL_split : ByteArray := method_9_code
def yL_split : MethodName := ⟨RL, "split", "(LShardBallots;I)I"⟩
abbrev cL_merge : ByteArray := method_10_code
def yL_merge : MethodName := ⟨RL, "merge", "(LShardBallots;I)I"⟩
abbrev cL_move : ByteArray := method_11_code
def yL_move : MethodName := ⟨RL, "move", "(LShardBallots;II)I"⟩
abbrev cL_step : ByteArray := method_12_code
def yL_step : MethodName := ⟨RL, "step", "(LShardBallots;I)I"⟩
abbrev cL_giveUp : ByteArray := method_13_code
def yL_giveUp : MethodName := ⟨RL, "giveUp", "(LShardBallots;I)I"⟩
abbrev cL_rangeOf : ByteArray := method_14_code
def yL_rangeOf : MethodName := ⟨RL, "rangeOf", "(LShardBallots;I)I"⟩
abbrev cL_shardOf : ByteArray := method_15_code
def yL_shardOf : MethodName := ⟨RL, "shardOf", "(LShardBallots;I)I"⟩
abbrev cL_rows : ByteArray := method_16_code
def yL_rows : MethodName := ⟨RL, "rows", "(LShardBallots;I)I"⟩
abbrev cL_fix : ByteArray := method_17_code
def yL_fix : MethodName := ⟨RL, "fix", "(LShardBallots;)I"⟩
abbrev cL_onRoll : ByteArray := method_18_code
def yL_onRoll : MethodName := ⟨RL, "onRoll", "(LShardBallots;I)I"⟩
abbrev cL_send : ByteArray := method_19_code
def yL_send : MethodName := ⟨RL, "send", "(LShardBallots;I)I"⟩
abbrev cL_sentTo : ByteArray := method_20_code
def yL_sentTo : MethodName := ⟨RL, "sentTo", "(LShardBallots;I)I"⟩
abbrev cL_giveBack : ByteArray := method_21_code
def yL_giveBack : MethodName := ⟨RL, "giveBack", "(LShardBallots;II)I"⟩
abbrev cL_stateOf : ByteArray := method_22_code
def yL_stateOf : MethodName := ⟨RL, "stateOf", "(LShardBallots;I)I"⟩
abbrev cL_counted : ByteArray := method_23_code
def yL_counted : MethodName := ⟨RL, "counted", "(LShardBallots;II)I"⟩
abbrev cL_close : ByteArray := method_24_code
def yL_close : MethodName := ⟨RL, "close", "(LShardBallots;)I"⟩
abbrev cL_member : ByteArray := method_25_code
def yL_member : MethodName := ⟨RL, "member", "([I[II)I"⟩
abbrev cL_range : ByteArray := method_26_code
def yL_range : MethodName := ⟨RL, "range", "([II)I"⟩
abbrev cL_first : ByteArray := method_27_code
def yL_first : MethodName := ⟨RL, "first", "([II)I"⟩
abbrev cL_ofRange : ByteArray := method_28_code
def yL_ofRange : MethodName := ⟨RL, "ofRange", "([I[I[III)I"⟩
abbrev cL_writes : ByteArray := method_29_code
def yL_writes : MethodName := ⟨RL, "writes", "(LShardBallots;III[I[I)Z"⟩
abbrev cL_shards : ByteArray := method_30_code
def yL_shards : MethodName := ⟨RL, "shards", "(LShardBallots;III[I[I[I)Z"⟩
abbrev cL_rolled : ByteArray := method_31_code
def yL_rolled : MethodName := ⟨RL, "rolled", "([I[II)I"⟩
abbrev cL_votes : ByteArray := method_32_code
def yL_votes : MethodName := ⟨RL, "votes", "(LShardBallots;III[I[I[I[I[I)Z"⟩
abbrev cL_isTold : ByteArray := method_33_code
def yL_isTold : MethodName := ⟨RL, "isTold", "(LShardBallots;I[I[I[I[I[I[I)Z"⟩
abbrev cL_law : ByteArray := code
def yL_law : MethodName := ⟨RL, "law", "([I)Z"⟩
def wsJ7_fill_53178 : List Cond := .code yJ7_fill_53178 cJ7_fill_53178 4 none :: ([])
def wsX0_init : List Cond := .code yX0_init cX0_init 1 none :: ([.methodLink RX0 1 objectInit, .instanceMethod objectInit, .code objectInit ⟨#[0xb1]⟩ 1 none, .arrayClass .int, .fieldLink RX0 9 "ShardBallots" "rowTable" "[I", .fieldLink RX0 13 "ShardBallots" "lastKeys" "[I", .fieldLink RX0 16 "ShardBallots" "homes" "[I", .fieldLink RX0 19 "ShardBallots" "targets" "[I", .fieldLink RX0 22 "ShardBallots" "roll" "[I", .fieldLink RX0 25 "ShardBallots" "ballotKeys" "[I", .fieldLink RX0 28 "ShardBallots" "ballotVotes" "[I", .fieldLink RX0 31 "ShardBallots" "ballotAddresses" "[I", .fieldLink RX0 34 "ShardBallots" "ballotDistricts" "[I", .fieldLink RX0 37 "ShardBallots" "ballotStates" "[I", .fieldLink RX0 40 "ShardBallots" "ballotChoices" "[I", .fieldLink RX0 49 "ShardBallots" "rangeCount" "I", .methodLink RX0 43 yJ7_fill_53178, .static yJ7_fill_53178, .initialized RJ7, .code yJ7_fill_53178 cJ7_fill_53178 4 none] ++ wsX00)
def wsX0_isKey : List Cond := .code yX0_isKey cX0_isKey 1 (some .boolean) :: ([])
def wsX0_checkKey : List Cond := .code yX0_checkKey cX0_checkKey 1 none :: ([.classLink RX0 214 "java/lang/IndexOutOfBoundsException", .initialized "java/lang/IndexOutOfBoundsException", .methodLink RX0 205 yX0_isKey, .static yX0_isKey, .initialized RX0, .code yX0_isKey cX0_isKey 1 (some .boolean)] ++ (vx_atS RX0 218 "java/lang/IndexOutOfBoundsException" ["java/lang/RuntimeException", "java/lang/Exception"]).filter goodWord)
def wsX0_checkAddress : List Cond := .code yX0_checkAddress cX0_checkAddress 1 none :: ([.classLink RX0 227 "java/lang/IllegalArgumentException", .initialized "java/lang/IllegalArgumentException"] ++ (vx_atS RX0 231 "java/lang/IllegalArgumentException" ["java/lang/RuntimeException", "java/lang/Exception"]).filter goodWord)
def wsX0_isRange : List Cond := .code yX0_isRange cX0_isRange 2 (some .boolean) :: ([.fieldLink RX0 49 "ShardBallots" "rangeCount" "I"] ++ wsX00)
def wsX0_lastKeyOf : List Cond := .code yX0_lastKeyOf cX0_lastKeyOf 2 (some .int) :: ([.fieldLink RX0 13 "ShardBallots" "lastKeys" "[I", .methodLink RX0 117 yX0_isRange, .instanceMethod yX0_isRange, .selects RX0 yX0_isRange yX0_isRange, .initialized RX0, .code yX0_isRange cX0_isRange 2 (some .boolean), .fieldLink RX0 49 "ShardBallots" "rangeCount" "I"] ++ wsX00)
def wsX0_rangeHolding : List Cond := .code yX0_rangeHolding cX0_rangeHolding 4 (some .int) :: ([.fieldLink RX0 49 "ShardBallots" "rangeCount" "I", .methodLink RX0 96 yX0_lastKeyOf, .instanceMethod yX0_lastKeyOf, .selects RX0 yX0_lastKeyOf yX0_lastKeyOf, .initialized RX0, .code yX0_lastKeyOf cX0_lastKeyOf 2 (some .int), .fieldLink RX0 13 "ShardBallots" "lastKeys" "[I", .methodLink RX0 117 yX0_isRange, .instanceMethod yX0_isRange, .selects RX0 yX0_isRange yX0_isRange, .code yX0_isRange cX0_isRange 2 (some .boolean)] ++ wsX00)
def wsX0_homeOf : List Cond := .code yX0_homeOf cX0_homeOf 2 (some .int) :: ([.fieldLink RX0 16 "ShardBallots" "homes" "[I", .methodLink RX0 117 yX0_isRange, .instanceMethod yX0_isRange, .selects RX0 yX0_isRange yX0_isRange, .initialized RX0, .code yX0_isRange cX0_isRange 2 (some .boolean), .fieldLink RX0 49 "ShardBallots" "rangeCount" "I"] ++ wsX00)
def wsX0_isShard : List Cond := .code yX0_isShard cX0_isShard 1 (some .boolean) :: ([])
def wsX0_rowOf : List Cond := .code yX0_rowOf cX0_rowOf 3 (some .int) :: ([.fieldLink RX0 9 "ShardBallots" "rowTable" "[I", .methodLink RX0 202 yX0_isShard, .static yX0_isShard, .initialized RX0, .code yX0_isShard cX0_isShard 1 (some .boolean), .methodLink RX0 205 yX0_isKey, .static yX0_isKey, .code yX0_isKey cX0_isKey 1 (some .boolean)] ++ wsX00)
def wsX0_read_r1 : List Cond := [Cond.methodLink RX0 93 yX0_rangeHolding, Cond.instanceMethod yX0_rangeHolding, Cond.selects RX0 yX0_rangeHolding yX0_rangeHolding, Cond.initialized RX0, Cond.code yX0_rangeHolding cX0_rangeHolding 4 (some .int), Cond.fieldLink RX0 49 "ShardBallots" "rangeCount" "I", Cond.methodLink RX0 96 yX0_lastKeyOf, Cond.instanceMethod yX0_lastKeyOf, Cond.selects RX0 yX0_lastKeyOf yX0_lastKeyOf, Cond.code yX0_lastKeyOf cX0_lastKeyOf 2 (some .int), Cond.fieldLink RX0 13 "ShardBallots" "lastKeys" "[I", Cond.methodLink RX0 117 yX0_isRange, Cond.instanceMethod yX0_isRange, Cond.selects RX0 yX0_isRange yX0_isRange, Cond.code yX0_isRange cX0_isRange 2 (some .boolean), Cond.methodLink RX0 122 yX0_homeOf, Cond.instanceMethod yX0_homeOf, Cond.selects RX0 yX0_homeOf yX0_homeOf, Cond.code yX0_homeOf cX0_homeOf 2 (some .int), Cond.fieldLink RX0 16 "ShardBallots" "homes" "[I", Cond.methodLink RX0 152 yX0_rowOf, Cond.instanceMethod yX0_rowOf, Cond.selects RX0 yX0_rowOf yX0_rowOf, Cond.code yX0_rowOf cX0_rowOf 3 (some .int)]
def wsX0_read_r2 : List Cond := [Cond.fieldLink RX0 9 "ShardBallots" "rowTable" "[I", Cond.methodLink RX0 202 yX0_isShard, Cond.static yX0_isShard, Cond.code yX0_isShard cX0_isShard 1 (some .boolean), Cond.methodLink RX0 205 yX0_isKey, Cond.static yX0_isKey, Cond.code yX0_isKey cX0_isKey 1 (some .boolean)]
def wsX0_read : List Cond := .code yX0_read cX0_read 2 (some .int) :: ((wsX0_read_r1 ++ wsX0_read_r2) ++ wsX00)
def wsX0_isMember_r1 : List Cond := [Cond.methodLink RX0 83 yX0_read, Cond.instanceMethod yX0_read, Cond.selects RX0 yX0_read yX0_read, Cond.initialized RX0, Cond.code yX0_read cX0_read 2 (some .int), Cond.methodLink RX0 93 yX0_rangeHolding, Cond.instanceMethod yX0_rangeHolding, Cond.selects RX0 yX0_rangeHolding yX0_rangeHolding, Cond.code yX0_rangeHolding cX0_rangeHolding 4 (some .int), Cond.fieldLink RX0 49 "ShardBallots" "rangeCount" "I", Cond.methodLink RX0 96 yX0_lastKeyOf, Cond.instanceMethod yX0_lastKeyOf, Cond.selects RX0 yX0_lastKeyOf yX0_lastKeyOf, Cond.code yX0_lastKeyOf cX0_lastKeyOf 2 (some .int), Cond.fieldLink RX0 13 "ShardBallots" "lastKeys" "[I", Cond.methodLink RX0 117 yX0_isRange, Cond.instanceMethod yX0_isRange, Cond.selects RX0 yX0_isRange yX0_isRange, Cond.code yX0_isRange cX0_isRange 2 (some .boolean), Cond.methodLink RX0 122 yX0_homeOf, Cond.instanceMethod yX0_homeOf, Cond.selects RX0 yX0_homeOf yX0_homeOf, Cond.code yX0_homeOf cX0_homeOf 2 (some .int), Cond.fieldLink RX0 16 "ShardBallots" "homes" "[I"]
def wsX0_isMember_r2 : List Cond := [Cond.methodLink RX0 152 yX0_rowOf, Cond.instanceMethod yX0_rowOf, Cond.selects RX0 yX0_rowOf yX0_rowOf, Cond.code yX0_rowOf cX0_rowOf 3 (some .int), Cond.fieldLink RX0 9 "ShardBallots" "rowTable" "[I", Cond.methodLink RX0 202 yX0_isShard, Cond.static yX0_isShard, Cond.code yX0_isShard cX0_isShard 1 (some .boolean), Cond.methodLink RX0 205 yX0_isKey, Cond.static yX0_isKey, Cond.code yX0_isKey cX0_isKey 1 (some .boolean)]
def wsX0_isMember : List Cond := .code yX0_isMember cX0_isMember 2 (some .boolean) :: ((wsX0_isMember_r1 ++ wsX0_isMember_r2) ++ wsX00)
def wsX0_putRow : List Cond := .code yX0_putRow cX0_putRow 4 none :: ([.fieldLink RX0 9 "ShardBallots" "rowTable" "[I", .methodLink RX0 202 yX0_isShard, .static yX0_isShard, .initialized RX0, .code yX0_isShard cX0_isShard 1 (some .boolean), .methodLink RX0 205 yX0_isKey, .static yX0_isKey, .code yX0_isKey cX0_isKey 1 (some .boolean)] ++ wsX00)
def wsX0_targetOf : List Cond := .code yX0_targetOf cX0_targetOf 2 (some .int) :: ([.fieldLink RX0 19 "ShardBallots" "targets" "[I", .methodLink RX0 117 yX0_isRange, .instanceMethod yX0_isRange, .selects RX0 yX0_isRange yX0_isRange, .initialized RX0, .code yX0_isRange cX0_isRange 2 (some .boolean), .fieldLink RX0 49 "ShardBallots" "rangeCount" "I"] ++ wsX00)
def wsX0_write_r1 : List Cond := [Cond.methodLink RX0 93 yX0_rangeHolding, Cond.instanceMethod yX0_rangeHolding, Cond.selects RX0 yX0_rangeHolding yX0_rangeHolding, Cond.initialized RX0, Cond.code yX0_rangeHolding cX0_rangeHolding 4 (some .int), Cond.fieldLink RX0 49 "ShardBallots" "rangeCount" "I", Cond.methodLink RX0 96 yX0_lastKeyOf, Cond.instanceMethod yX0_lastKeyOf, Cond.selects RX0 yX0_lastKeyOf yX0_lastKeyOf, Cond.code yX0_lastKeyOf cX0_lastKeyOf 2 (some .int), Cond.fieldLink RX0 13 "ShardBallots" "lastKeys" "[I", Cond.methodLink RX0 117 yX0_isRange, Cond.instanceMethod yX0_isRange, Cond.selects RX0 yX0_isRange yX0_isRange, Cond.code yX0_isRange cX0_isRange 2 (some .boolean), Cond.methodLink RX0 122 yX0_homeOf, Cond.instanceMethod yX0_homeOf, Cond.selects RX0 yX0_homeOf yX0_homeOf, Cond.code yX0_homeOf cX0_homeOf 2 (some .int), Cond.fieldLink RX0 16 "ShardBallots" "homes" "[I", Cond.methodLink RX0 156 yX0_putRow, Cond.instanceMethod yX0_putRow, Cond.selects RX0 yX0_putRow yX0_putRow, Cond.code yX0_putRow cX0_putRow 4 none]
def wsX0_write_r2 : List Cond := [Cond.fieldLink RX0 9 "ShardBallots" "rowTable" "[I", Cond.methodLink RX0 202 yX0_isShard, Cond.static yX0_isShard, Cond.code yX0_isShard cX0_isShard 1 (some .boolean), Cond.methodLink RX0 205 yX0_isKey, Cond.static yX0_isKey, Cond.code yX0_isKey cX0_isKey 1 (some .boolean), Cond.methodLink RX0 208 yX0_targetOf, Cond.instanceMethod yX0_targetOf, Cond.selects RX0 yX0_targetOf yX0_targetOf, Cond.code yX0_targetOf cX0_targetOf 2 (some .int), Cond.fieldLink RX0 19 "ShardBallots" "targets" "[I"]
def wsX0_write : List Cond := .code yX0_write cX0_write 4 none :: ((wsX0_write_r1 ++ wsX0_write_r2) ++ wsX00)
def wsX0_join_r1 : List Cond := [Cond.classLink RX0 64 "java/lang/IllegalStateException", Cond.initialized "java/lang/IllegalStateException", Cond.fieldLink RX0 71 "ShardBallots" "memberCount" "I", Cond.methodLink RX0 53 yX0_checkKey, Cond.static yX0_checkKey, Cond.initialized RX0, Cond.code yX0_checkKey cX0_checkKey 1 none, Cond.classLink RX0 214 "java/lang/IndexOutOfBoundsException", Cond.initialized "java/lang/IndexOutOfBoundsException", Cond.methodLink RX0 205 yX0_isKey, Cond.static yX0_isKey, Cond.code yX0_isKey cX0_isKey 1 (some .boolean), Cond.methodLink RX0 57 yX0_checkAddress, Cond.static yX0_checkAddress, Cond.code yX0_checkAddress cX0_checkAddress 1 none, Cond.classLink RX0 227 "java/lang/IllegalArgumentException", Cond.initialized "java/lang/IllegalArgumentException", Cond.methodLink RX0 60 yX0_isMember, Cond.instanceMethod yX0_isMember, Cond.selects RX0 yX0_isMember yX0_isMember, Cond.code yX0_isMember cX0_isMember 2 (some .boolean), Cond.methodLink RX0 83 yX0_read, Cond.instanceMethod yX0_read, Cond.selects RX0 yX0_read yX0_read]
def wsX0_join_r2 : List Cond := [Cond.code yX0_read cX0_read 2 (some .int), Cond.methodLink RX0 93 yX0_rangeHolding, Cond.instanceMethod yX0_rangeHolding, Cond.selects RX0 yX0_rangeHolding yX0_rangeHolding, Cond.code yX0_rangeHolding cX0_rangeHolding 4 (some .int), Cond.fieldLink RX0 49 "ShardBallots" "rangeCount" "I", Cond.methodLink RX0 96 yX0_lastKeyOf, Cond.instanceMethod yX0_lastKeyOf, Cond.selects RX0 yX0_lastKeyOf yX0_lastKeyOf, Cond.code yX0_lastKeyOf cX0_lastKeyOf 2 (some .int), Cond.fieldLink RX0 13 "ShardBallots" "lastKeys" "[I", Cond.methodLink RX0 117 yX0_isRange, Cond.instanceMethod yX0_isRange, Cond.selects RX0 yX0_isRange yX0_isRange, Cond.code yX0_isRange cX0_isRange 2 (some .boolean), Cond.methodLink RX0 122 yX0_homeOf, Cond.instanceMethod yX0_homeOf, Cond.selects RX0 yX0_homeOf yX0_homeOf, Cond.code yX0_homeOf cX0_homeOf 2 (some .int), Cond.fieldLink RX0 16 "ShardBallots" "homes" "[I", Cond.methodLink RX0 152 yX0_rowOf, Cond.instanceMethod yX0_rowOf, Cond.selects RX0 yX0_rowOf yX0_rowOf, Cond.code yX0_rowOf cX0_rowOf 3 (some .int)]
def wsX0_join_r3 : List Cond := [Cond.fieldLink RX0 9 "ShardBallots" "rowTable" "[I", Cond.methodLink RX0 202 yX0_isShard, Cond.static yX0_isShard, Cond.code yX0_isShard cX0_isShard 1 (some .boolean), Cond.methodLink RX0 76 yX0_write, Cond.instanceMethod yX0_write, Cond.selects RX0 yX0_write yX0_write, Cond.code yX0_write cX0_write 4 none, Cond.methodLink RX0 156 yX0_putRow, Cond.instanceMethod yX0_putRow, Cond.selects RX0 yX0_putRow yX0_putRow, Cond.code yX0_putRow cX0_putRow 4 none, Cond.methodLink RX0 208 yX0_targetOf, Cond.instanceMethod yX0_targetOf, Cond.selects RX0 yX0_targetOf yX0_targetOf, Cond.code yX0_targetOf cX0_targetOf 2 (some .int), Cond.fieldLink RX0 19 "ShardBallots" "targets" "[I"]
def wsX0_join : List Cond := .code yX0_join cX0_join 3 (some .int) :: ((wsX0_join_r1 ++ (wsX0_join_r2 ++ wsX0_join_r3)) ++ wsX00 ++ (vx_atS RX0 68 "java/lang/IllegalStateException" ["java/lang/RuntimeException", "java/lang/Exception"]).filter goodWord ++ (vx_atS RX0 218 "java/lang/IndexOutOfBoundsException" ["java/lang/RuntimeException", "java/lang/Exception"]).filter goodWord ++ (vx_atS RX0 231 "java/lang/IllegalArgumentException" ["java/lang/RuntimeException", "java/lang/Exception"]).filter goodWord)
def wsX0_checkMember_r1 : List Cond := [Cond.classLink RX0 64 "java/lang/IllegalStateException", Cond.initialized "java/lang/IllegalStateException", Cond.methodLink RX0 60 yX0_isMember, Cond.instanceMethod yX0_isMember, Cond.selects RX0 yX0_isMember yX0_isMember, Cond.initialized RX0, Cond.code yX0_isMember cX0_isMember 2 (some .boolean), Cond.methodLink RX0 83 yX0_read, Cond.instanceMethod yX0_read, Cond.selects RX0 yX0_read yX0_read, Cond.code yX0_read cX0_read 2 (some .int), Cond.methodLink RX0 93 yX0_rangeHolding, Cond.instanceMethod yX0_rangeHolding, Cond.selects RX0 yX0_rangeHolding yX0_rangeHolding, Cond.code yX0_rangeHolding cX0_rangeHolding 4 (some .int), Cond.fieldLink RX0 49 "ShardBallots" "rangeCount" "I", Cond.methodLink RX0 96 yX0_lastKeyOf, Cond.instanceMethod yX0_lastKeyOf, Cond.selects RX0 yX0_lastKeyOf yX0_lastKeyOf, Cond.code yX0_lastKeyOf cX0_lastKeyOf 2 (some .int), Cond.fieldLink RX0 13 "ShardBallots" "lastKeys" "[I", Cond.methodLink RX0 117 yX0_isRange, Cond.instanceMethod yX0_isRange, Cond.selects RX0 yX0_isRange yX0_isRange]
def wsX0_checkMember_r2 : List Cond := [Cond.code yX0_isRange cX0_isRange 2 (some .boolean), Cond.methodLink RX0 122 yX0_homeOf, Cond.instanceMethod yX0_homeOf, Cond.selects RX0 yX0_homeOf yX0_homeOf, Cond.code yX0_homeOf cX0_homeOf 2 (some .int), Cond.fieldLink RX0 16 "ShardBallots" "homes" "[I", Cond.methodLink RX0 152 yX0_rowOf, Cond.instanceMethod yX0_rowOf, Cond.selects RX0 yX0_rowOf yX0_rowOf, Cond.code yX0_rowOf cX0_rowOf 3 (some .int), Cond.fieldLink RX0 9 "ShardBallots" "rowTable" "[I", Cond.methodLink RX0 202 yX0_isShard, Cond.static yX0_isShard, Cond.code yX0_isShard cX0_isShard 1 (some .boolean), Cond.methodLink RX0 205 yX0_isKey, Cond.static yX0_isKey, Cond.code yX0_isKey cX0_isKey 1 (some .boolean)]
def wsX0_checkMember : List Cond := .code yX0_checkMember cX0_checkMember 2 none :: ((wsX0_checkMember_r1 ++ wsX0_checkMember_r2) ++ wsX00 ++ (vx_atS RX0 68 "java/lang/IllegalStateException" ["java/lang/RuntimeException", "java/lang/Exception"]).filter goodWord)
def wsX0_change_r1 : List Cond := [Cond.methodLink RX0 53 yX0_checkKey, Cond.static yX0_checkKey, Cond.initialized RX0, Cond.code yX0_checkKey cX0_checkKey 1 none, Cond.classLink RX0 214 "java/lang/IndexOutOfBoundsException", Cond.initialized "java/lang/IndexOutOfBoundsException", Cond.methodLink RX0 205 yX0_isKey, Cond.static yX0_isKey, Cond.code yX0_isKey cX0_isKey 1 (some .boolean), Cond.methodLink RX0 57 yX0_checkAddress, Cond.static yX0_checkAddress, Cond.code yX0_checkAddress cX0_checkAddress 1 none, Cond.classLink RX0 227 "java/lang/IllegalArgumentException", Cond.initialized "java/lang/IllegalArgumentException", Cond.methodLink RX0 80 yX0_checkMember, Cond.instanceMethod yX0_checkMember, Cond.selects RX0 yX0_checkMember yX0_checkMember, Cond.code yX0_checkMember cX0_checkMember 2 none, Cond.classLink RX0 64 "java/lang/IllegalStateException", Cond.initialized "java/lang/IllegalStateException", Cond.methodLink RX0 60 yX0_isMember, Cond.instanceMethod yX0_isMember, Cond.selects RX0 yX0_isMember yX0_isMember, Cond.code yX0_isMember cX0_isMember 2 (some .boolean)]
def wsX0_change_r2 : List Cond := [Cond.methodLink RX0 83 yX0_read, Cond.instanceMethod yX0_read, Cond.selects RX0 yX0_read yX0_read, Cond.code yX0_read cX0_read 2 (some .int), Cond.methodLink RX0 93 yX0_rangeHolding, Cond.instanceMethod yX0_rangeHolding, Cond.selects RX0 yX0_rangeHolding yX0_rangeHolding, Cond.code yX0_rangeHolding cX0_rangeHolding 4 (some .int), Cond.fieldLink RX0 49 "ShardBallots" "rangeCount" "I", Cond.methodLink RX0 96 yX0_lastKeyOf, Cond.instanceMethod yX0_lastKeyOf, Cond.selects RX0 yX0_lastKeyOf yX0_lastKeyOf, Cond.code yX0_lastKeyOf cX0_lastKeyOf 2 (some .int), Cond.fieldLink RX0 13 "ShardBallots" "lastKeys" "[I", Cond.methodLink RX0 117 yX0_isRange, Cond.instanceMethod yX0_isRange, Cond.selects RX0 yX0_isRange yX0_isRange, Cond.code yX0_isRange cX0_isRange 2 (some .boolean), Cond.methodLink RX0 122 yX0_homeOf, Cond.instanceMethod yX0_homeOf, Cond.selects RX0 yX0_homeOf yX0_homeOf, Cond.code yX0_homeOf cX0_homeOf 2 (some .int), Cond.fieldLink RX0 16 "ShardBallots" "homes" "[I", Cond.methodLink RX0 152 yX0_rowOf]
def wsX0_change_r3 : List Cond := [Cond.instanceMethod yX0_rowOf, Cond.selects RX0 yX0_rowOf yX0_rowOf, Cond.code yX0_rowOf cX0_rowOf 3 (some .int), Cond.fieldLink RX0 9 "ShardBallots" "rowTable" "[I", Cond.methodLink RX0 202 yX0_isShard, Cond.static yX0_isShard, Cond.code yX0_isShard cX0_isShard 1 (some .boolean), Cond.methodLink RX0 76 yX0_write, Cond.instanceMethod yX0_write, Cond.selects RX0 yX0_write yX0_write, Cond.code yX0_write cX0_write 4 none, Cond.methodLink RX0 156 yX0_putRow, Cond.instanceMethod yX0_putRow, Cond.selects RX0 yX0_putRow yX0_putRow, Cond.code yX0_putRow cX0_putRow 4 none, Cond.methodLink RX0 208 yX0_targetOf, Cond.instanceMethod yX0_targetOf, Cond.selects RX0 yX0_targetOf yX0_targetOf, Cond.code yX0_targetOf cX0_targetOf 2 (some .int), Cond.fieldLink RX0 19 "ShardBallots" "targets" "[I"]
def wsX0_change : List Cond := .code yX0_change cX0_change 4 (some .int) :: ((wsX0_change_r1 ++ (wsX0_change_r2 ++ wsX0_change_r3)) ++ wsX00 ++ (vx_atS RX0 218 "java/lang/IndexOutOfBoundsException" ["java/lang/RuntimeException", "java/lang/Exception"]).filter goodWord ++ (vx_atS RX0 231 "java/lang/IllegalArgumentException" ["java/lang/RuntimeException", "java/lang/Exception"]).filter goodWord ++ (vx_atS RX0 68 "java/lang/IllegalStateException" ["java/lang/RuntimeException", "java/lang/Exception"]).filter goodWord)
def wsX0_leave_r1 : List Cond := [Cond.fieldLink RX0 71 "ShardBallots" "memberCount" "I", Cond.methodLink RX0 53 yX0_checkKey, Cond.static yX0_checkKey, Cond.initialized RX0, Cond.code yX0_checkKey cX0_checkKey 1 none, Cond.classLink RX0 214 "java/lang/IndexOutOfBoundsException", Cond.initialized "java/lang/IndexOutOfBoundsException", Cond.methodLink RX0 205 yX0_isKey, Cond.static yX0_isKey, Cond.code yX0_isKey cX0_isKey 1 (some .boolean), Cond.methodLink RX0 80 yX0_checkMember, Cond.instanceMethod yX0_checkMember, Cond.selects RX0 yX0_checkMember yX0_checkMember, Cond.code yX0_checkMember cX0_checkMember 2 none, Cond.classLink RX0 64 "java/lang/IllegalStateException", Cond.initialized "java/lang/IllegalStateException", Cond.methodLink RX0 60 yX0_isMember, Cond.instanceMethod yX0_isMember, Cond.selects RX0 yX0_isMember yX0_isMember, Cond.code yX0_isMember cX0_isMember 2 (some .boolean), Cond.methodLink RX0 83 yX0_read, Cond.instanceMethod yX0_read, Cond.selects RX0 yX0_read yX0_read, Cond.code yX0_read cX0_read 2 (some .int)]
def wsX0_leave_r2 : List Cond := [Cond.methodLink RX0 93 yX0_rangeHolding, Cond.instanceMethod yX0_rangeHolding, Cond.selects RX0 yX0_rangeHolding yX0_rangeHolding, Cond.code yX0_rangeHolding cX0_rangeHolding 4 (some .int), Cond.fieldLink RX0 49 "ShardBallots" "rangeCount" "I", Cond.methodLink RX0 96 yX0_lastKeyOf, Cond.instanceMethod yX0_lastKeyOf, Cond.selects RX0 yX0_lastKeyOf yX0_lastKeyOf, Cond.code yX0_lastKeyOf cX0_lastKeyOf 2 (some .int), Cond.fieldLink RX0 13 "ShardBallots" "lastKeys" "[I", Cond.methodLink RX0 117 yX0_isRange, Cond.instanceMethod yX0_isRange, Cond.selects RX0 yX0_isRange yX0_isRange, Cond.code yX0_isRange cX0_isRange 2 (some .boolean), Cond.methodLink RX0 122 yX0_homeOf, Cond.instanceMethod yX0_homeOf, Cond.selects RX0 yX0_homeOf yX0_homeOf, Cond.code yX0_homeOf cX0_homeOf 2 (some .int), Cond.fieldLink RX0 16 "ShardBallots" "homes" "[I", Cond.methodLink RX0 152 yX0_rowOf, Cond.instanceMethod yX0_rowOf, Cond.selects RX0 yX0_rowOf yX0_rowOf, Cond.code yX0_rowOf cX0_rowOf 3 (some .int), Cond.fieldLink RX0 9 "ShardBallots" "rowTable" "[I"]
def wsX0_leave_r3 : List Cond := [Cond.methodLink RX0 202 yX0_isShard, Cond.static yX0_isShard, Cond.code yX0_isShard cX0_isShard 1 (some .boolean), Cond.methodLink RX0 76 yX0_write, Cond.instanceMethod yX0_write, Cond.selects RX0 yX0_write yX0_write, Cond.code yX0_write cX0_write 4 none, Cond.methodLink RX0 156 yX0_putRow, Cond.instanceMethod yX0_putRow, Cond.selects RX0 yX0_putRow yX0_putRow, Cond.code yX0_putRow cX0_putRow 4 none, Cond.methodLink RX0 208 yX0_targetOf, Cond.instanceMethod yX0_targetOf, Cond.selects RX0 yX0_targetOf yX0_targetOf, Cond.code yX0_targetOf cX0_targetOf 2 (some .int), Cond.fieldLink RX0 19 "ShardBallots" "targets" "[I"]
def wsX0_leave : List Cond := .code yX0_leave cX0_leave 3 (some .int) :: ((wsX0_leave_r1 ++ (wsX0_leave_r2 ++ wsX0_leave_r3)) ++ wsX00 ++ (vx_atS RX0 218 "java/lang/IndexOutOfBoundsException" ["java/lang/RuntimeException", "java/lang/Exception"]).filter goodWord ++ (vx_atS RX0 68 "java/lang/IllegalStateException" ["java/lang/RuntimeException", "java/lang/Exception"]).filter goodWord)
def wsX0_address_r1 : List Cond := [Cond.methodLink RX0 53 yX0_checkKey, Cond.static yX0_checkKey, Cond.initialized RX0, Cond.code yX0_checkKey cX0_checkKey 1 none, Cond.classLink RX0 214 "java/lang/IndexOutOfBoundsException", Cond.initialized "java/lang/IndexOutOfBoundsException", Cond.methodLink RX0 205 yX0_isKey, Cond.static yX0_isKey, Cond.code yX0_isKey cX0_isKey 1 (some .boolean), Cond.methodLink RX0 83 yX0_read, Cond.instanceMethod yX0_read, Cond.selects RX0 yX0_read yX0_read, Cond.code yX0_read cX0_read 2 (some .int), Cond.methodLink RX0 93 yX0_rangeHolding, Cond.instanceMethod yX0_rangeHolding, Cond.selects RX0 yX0_rangeHolding yX0_rangeHolding, Cond.code yX0_rangeHolding cX0_rangeHolding 4 (some .int), Cond.fieldLink RX0 49 "ShardBallots" "rangeCount" "I", Cond.methodLink RX0 96 yX0_lastKeyOf, Cond.instanceMethod yX0_lastKeyOf, Cond.selects RX0 yX0_lastKeyOf yX0_lastKeyOf, Cond.code yX0_lastKeyOf cX0_lastKeyOf 2 (some .int), Cond.fieldLink RX0 13 "ShardBallots" "lastKeys" "[I", Cond.methodLink RX0 117 yX0_isRange]
def wsX0_address_r2 : List Cond := [Cond.instanceMethod yX0_isRange, Cond.selects RX0 yX0_isRange yX0_isRange, Cond.code yX0_isRange cX0_isRange 2 (some .boolean), Cond.methodLink RX0 122 yX0_homeOf, Cond.instanceMethod yX0_homeOf, Cond.selects RX0 yX0_homeOf yX0_homeOf, Cond.code yX0_homeOf cX0_homeOf 2 (some .int), Cond.fieldLink RX0 16 "ShardBallots" "homes" "[I", Cond.methodLink RX0 152 yX0_rowOf, Cond.instanceMethod yX0_rowOf, Cond.selects RX0 yX0_rowOf yX0_rowOf, Cond.code yX0_rowOf cX0_rowOf 3 (some .int), Cond.fieldLink RX0 9 "ShardBallots" "rowTable" "[I", Cond.methodLink RX0 202 yX0_isShard, Cond.static yX0_isShard, Cond.code yX0_isShard cX0_isShard 1 (some .boolean)]
def wsX0_address : List Cond := .code yX0_address cX0_address 2 (some .int) :: ((wsX0_address_r1 ++ wsX0_address_r2) ++ wsX00 ++ (vx_atS RX0 218 "java/lang/IndexOutOfBoundsException" ["java/lang/RuntimeException", "java/lang/Exception"]).filter goodWord)
def wsX0_checkDistrict : List Cond := .code yX0_checkDistrict cX0_checkDistrict 1 none :: ([.classLink RX0 214 "java/lang/IndexOutOfBoundsException", .initialized "java/lang/IndexOutOfBoundsException"] ++ (vx_atS RX0 218 "java/lang/IndexOutOfBoundsException" ["java/lang/RuntimeException", "java/lang/Exception"]).filter goodWord)
def wsX0_districtOf : List Cond := .code yX0_districtOf cX0_districtOf 1 (some .int) :: ([])
def wsX0_inDistrict_r1 : List Cond := [Cond.methodLink RX0 87 yX0_checkDistrict, Cond.static yX0_checkDistrict, Cond.initialized RX0, Cond.code yX0_checkDistrict cX0_checkDistrict 1 none, Cond.classLink RX0 214 "java/lang/IndexOutOfBoundsException", Cond.initialized "java/lang/IndexOutOfBoundsException", Cond.methodLink RX0 83 yX0_read, Cond.instanceMethod yX0_read, Cond.selects RX0 yX0_read yX0_read, Cond.code yX0_read cX0_read 2 (some .int), Cond.methodLink RX0 93 yX0_rangeHolding, Cond.instanceMethod yX0_rangeHolding, Cond.selects RX0 yX0_rangeHolding yX0_rangeHolding, Cond.code yX0_rangeHolding cX0_rangeHolding 4 (some .int), Cond.fieldLink RX0 49 "ShardBallots" "rangeCount" "I", Cond.methodLink RX0 96 yX0_lastKeyOf, Cond.instanceMethod yX0_lastKeyOf, Cond.selects RX0 yX0_lastKeyOf yX0_lastKeyOf, Cond.code yX0_lastKeyOf cX0_lastKeyOf 2 (some .int), Cond.fieldLink RX0 13 "ShardBallots" "lastKeys" "[I", Cond.methodLink RX0 117 yX0_isRange, Cond.instanceMethod yX0_isRange, Cond.selects RX0 yX0_isRange yX0_isRange, Cond.code yX0_isRange cX0_isRange 2 (some .boolean)]
def wsX0_inDistrict_r2 : List Cond := [Cond.methodLink RX0 122 yX0_homeOf, Cond.instanceMethod yX0_homeOf, Cond.selects RX0 yX0_homeOf yX0_homeOf, Cond.code yX0_homeOf cX0_homeOf 2 (some .int), Cond.fieldLink RX0 16 "ShardBallots" "homes" "[I", Cond.methodLink RX0 152 yX0_rowOf, Cond.instanceMethod yX0_rowOf, Cond.selects RX0 yX0_rowOf yX0_rowOf, Cond.code yX0_rowOf cX0_rowOf 3 (some .int), Cond.fieldLink RX0 9 "ShardBallots" "rowTable" "[I", Cond.methodLink RX0 202 yX0_isShard, Cond.static yX0_isShard, Cond.code yX0_isShard cX0_isShard 1 (some .boolean), Cond.methodLink RX0 205 yX0_isKey, Cond.static yX0_isKey, Cond.code yX0_isKey cX0_isKey 1 (some .boolean), Cond.methodLink RX0 90 yX0_districtOf, Cond.static yX0_districtOf, Cond.code yX0_districtOf cX0_districtOf 1 (some .int)]
def wsX0_inDistrict : List Cond := .code yX0_inDistrict cX0_inDistrict 4 (some .int) :: ((wsX0_inDistrict_r1 ++ wsX0_inDistrict_r2) ++ wsX00 ++ (vx_atS RX0 218 "java/lang/IndexOutOfBoundsException" ["java/lang/RuntimeException", "java/lang/Exception"]).filter goodWord)
def wsX0_isMoved : List Cond := .code yX0_isMoved cX0_isMoved 2 (some .boolean) :: ([.methodLink RX0 208 yX0_targetOf, .instanceMethod yX0_targetOf, .selects RX0 yX0_targetOf yX0_targetOf, .initialized RX0, .code yX0_targetOf cX0_targetOf 2 (some .int), .fieldLink RX0 19 "ShardBallots" "targets" "[I", .methodLink RX0 117 yX0_isRange, .instanceMethod yX0_isRange, .selects RX0 yX0_isRange yX0_isRange, .code yX0_isRange cX0_isRange 2 (some .boolean), .fieldLink RX0 49 "ShardBallots" "rangeCount" "I"] ++ wsX00)
def wsX0_copyRange : List Cond := .code yX0_copyRange cX0_copyRange 3 none :: ([.fieldLink RX0 13 "ShardBallots" "lastKeys" "[I", .fieldLink RX0 16 "ShardBallots" "homes" "[I", .fieldLink RX0 19 "ShardBallots" "targets" "[I", .methodLink RX0 117 yX0_isRange, .instanceMethod yX0_isRange, .selects RX0 yX0_isRange yX0_isRange, .initialized RX0, .code yX0_isRange cX0_isRange 2 (some .boolean), .fieldLink RX0 49 "ShardBallots" "rangeCount" "I"] ++ wsX00)
def wsX0_insertCopyBehind : List Cond := .code yX0_insertCopyBehind cX0_insertCopyBehind 3 none :: ([.fieldLink RX0 49 "ShardBallots" "rangeCount" "I", .methodLink RX0 211 yX0_copyRange, .instanceMethod yX0_copyRange, .selects RX0 yX0_copyRange yX0_copyRange, .initialized RX0, .code yX0_copyRange cX0_copyRange 3 none, .fieldLink RX0 13 "ShardBallots" "lastKeys" "[I", .fieldLink RX0 16 "ShardBallots" "homes" "[I", .fieldLink RX0 19 "ShardBallots" "targets" "[I", .methodLink RX0 117 yX0_isRange, .instanceMethod yX0_isRange, .selects RX0 yX0_isRange yX0_isRange, .code yX0_isRange cX0_isRange 2 (some .boolean)] ++ wsX00)
def wsX0_putLastKey : List Cond := .code yX0_putLastKey cX0_putLastKey 3 none :: ([.fieldLink RX0 13 "ShardBallots" "lastKeys" "[I", .methodLink RX0 117 yX0_isRange, .instanceMethod yX0_isRange, .selects RX0 yX0_isRange yX0_isRange, .initialized RX0, .code yX0_isRange cX0_isRange 2 (some .boolean), .fieldLink RX0 49 "ShardBallots" "rangeCount" "I"] ++ wsX00)
def wsX0_split_r1 : List Cond := [Cond.classLink RX0 64 "java/lang/IllegalStateException", Cond.initialized "java/lang/IllegalStateException", Cond.fieldLink RX0 49 "ShardBallots" "rangeCount" "I", Cond.methodLink RX0 53 yX0_checkKey, Cond.static yX0_checkKey, Cond.initialized RX0, Cond.code yX0_checkKey cX0_checkKey 1 none, Cond.classLink RX0 214 "java/lang/IndexOutOfBoundsException", Cond.initialized "java/lang/IndexOutOfBoundsException", Cond.methodLink RX0 205 yX0_isKey, Cond.static yX0_isKey, Cond.code yX0_isKey cX0_isKey 1 (some .boolean), Cond.methodLink RX0 93 yX0_rangeHolding, Cond.instanceMethod yX0_rangeHolding, Cond.selects RX0 yX0_rangeHolding yX0_rangeHolding, Cond.code yX0_rangeHolding cX0_rangeHolding 4 (some .int), Cond.methodLink RX0 96 yX0_lastKeyOf, Cond.instanceMethod yX0_lastKeyOf, Cond.selects RX0 yX0_lastKeyOf yX0_lastKeyOf, Cond.code yX0_lastKeyOf cX0_lastKeyOf 2 (some .int), Cond.fieldLink RX0 13 "ShardBallots" "lastKeys" "[I", Cond.methodLink RX0 117 yX0_isRange, Cond.instanceMethod yX0_isRange, Cond.selects RX0 yX0_isRange yX0_isRange]
def wsX0_split_r2 : List Cond := [Cond.code yX0_isRange cX0_isRange 2 (some .boolean), Cond.methodLink RX0 101 yX0_isMoved, Cond.instanceMethod yX0_isMoved, Cond.selects RX0 yX0_isMoved yX0_isMoved, Cond.code yX0_isMoved cX0_isMoved 2 (some .boolean), Cond.methodLink RX0 208 yX0_targetOf, Cond.instanceMethod yX0_targetOf, Cond.selects RX0 yX0_targetOf yX0_targetOf, Cond.code yX0_targetOf cX0_targetOf 2 (some .int), Cond.fieldLink RX0 19 "ShardBallots" "targets" "[I", Cond.methodLink RX0 108 yX0_insertCopyBehind, Cond.instanceMethod yX0_insertCopyBehind, Cond.selects RX0 yX0_insertCopyBehind yX0_insertCopyBehind, Cond.code yX0_insertCopyBehind cX0_insertCopyBehind 3 none, Cond.methodLink RX0 211 yX0_copyRange, Cond.instanceMethod yX0_copyRange, Cond.selects RX0 yX0_copyRange yX0_copyRange, Cond.code yX0_copyRange cX0_copyRange 3 none, Cond.fieldLink RX0 16 "ShardBallots" "homes" "[I", Cond.methodLink RX0 111 yX0_putLastKey, Cond.instanceMethod yX0_putLastKey, Cond.selects RX0 yX0_putLastKey yX0_putLastKey, Cond.code yX0_putLastKey cX0_putLastKey 3 none]
def wsX0_split : List Cond := .code yX0_split cX0_split 3 (some .int) :: ((wsX0_split_r1 ++ wsX0_split_r2) ++ wsX00 ++ (vx_atS RX0 68 "java/lang/IllegalStateException" ["java/lang/RuntimeException", "java/lang/Exception"]).filter goodWord ++ (vx_atS RX0 218 "java/lang/IndexOutOfBoundsException" ["java/lang/RuntimeException", "java/lang/Exception"]).filter goodWord)
def wsX0_checkRange : List Cond := .code yX0_checkRange cX0_checkRange 2 none :: ([.classLink RX0 214 "java/lang/IndexOutOfBoundsException", .initialized "java/lang/IndexOutOfBoundsException", .methodLink RX0 117 yX0_isRange, .instanceMethod yX0_isRange, .selects RX0 yX0_isRange yX0_isRange, .initialized RX0, .code yX0_isRange cX0_isRange 2 (some .boolean), .fieldLink RX0 49 "ShardBallots" "rangeCount" "I"] ++ wsX00 ++ (vx_atS RX0 218 "java/lang/IndexOutOfBoundsException" ["java/lang/RuntimeException", "java/lang/Exception"]).filter goodWord)
def wsX0_remove : List Cond := .code yX0_remove cX0_remove 3 none :: ([.fieldLink RX0 49 "ShardBallots" "rangeCount" "I", .methodLink RX0 211 yX0_copyRange, .instanceMethod yX0_copyRange, .selects RX0 yX0_copyRange yX0_copyRange, .initialized RX0, .code yX0_copyRange cX0_copyRange 3 none, .fieldLink RX0 13 "ShardBallots" "lastKeys" "[I", .fieldLink RX0 16 "ShardBallots" "homes" "[I", .fieldLink RX0 19 "ShardBallots" "targets" "[I", .methodLink RX0 117 yX0_isRange, .instanceMethod yX0_isRange, .selects RX0 yX0_isRange yX0_isRange, .code yX0_isRange cX0_isRange 2 (some .boolean)] ++ wsX00)
def wsX0_merge_r1 : List Cond := [Cond.classLink RX0 64 "java/lang/IllegalStateException", Cond.initialized "java/lang/IllegalStateException", Cond.fieldLink RX0 49 "ShardBallots" "rangeCount" "I", Cond.methodLink RX0 114 yX0_checkRange, Cond.instanceMethod yX0_checkRange, Cond.selects RX0 yX0_checkRange yX0_checkRange, Cond.initialized RX0, Cond.code yX0_checkRange cX0_checkRange 2 none, Cond.classLink RX0 214 "java/lang/IndexOutOfBoundsException", Cond.initialized "java/lang/IndexOutOfBoundsException", Cond.methodLink RX0 117 yX0_isRange, Cond.instanceMethod yX0_isRange, Cond.selects RX0 yX0_isRange yX0_isRange, Cond.code yX0_isRange cX0_isRange 2 (some .boolean), Cond.methodLink RX0 122 yX0_homeOf, Cond.instanceMethod yX0_homeOf, Cond.selects RX0 yX0_homeOf yX0_homeOf, Cond.code yX0_homeOf cX0_homeOf 2 (some .int), Cond.fieldLink RX0 16 "ShardBallots" "homes" "[I", Cond.methodLink RX0 101 yX0_isMoved, Cond.instanceMethod yX0_isMoved, Cond.selects RX0 yX0_isMoved yX0_isMoved, Cond.code yX0_isMoved cX0_isMoved 2 (some .boolean), Cond.methodLink RX0 208 yX0_targetOf]
def wsX0_merge_r2 : List Cond := [Cond.instanceMethod yX0_targetOf, Cond.selects RX0 yX0_targetOf yX0_targetOf, Cond.code yX0_targetOf cX0_targetOf 2 (some .int), Cond.fieldLink RX0 19 "ShardBallots" "targets" "[I", Cond.methodLink RX0 129 yX0_remove, Cond.instanceMethod yX0_remove, Cond.selects RX0 yX0_remove yX0_remove, Cond.code yX0_remove cX0_remove 3 none, Cond.methodLink RX0 211 yX0_copyRange, Cond.instanceMethod yX0_copyRange, Cond.selects RX0 yX0_copyRange yX0_copyRange, Cond.code yX0_copyRange cX0_copyRange 3 none, Cond.fieldLink RX0 13 "ShardBallots" "lastKeys" "[I"]
def wsX0_merge : List Cond := .code yX0_merge cX0_merge 3 (some .int) :: ((wsX0_merge_r1 ++ wsX0_merge_r2) ++ wsX00 ++ (vx_atS RX0 68 "java/lang/IllegalStateException" ["java/lang/RuntimeException", "java/lang/Exception"]).filter goodWord ++ (vx_atS RX0 218 "java/lang/IndexOutOfBoundsException" ["java/lang/RuntimeException", "java/lang/Exception"]).filter goodWord)
def wsX0_checkShard : List Cond := .code yX0_checkShard cX0_checkShard 1 none :: ([.classLink RX0 214 "java/lang/IndexOutOfBoundsException", .initialized "java/lang/IndexOutOfBoundsException", .methodLink RX0 202 yX0_isShard, .static yX0_isShard, .initialized RX0, .code yX0_isShard cX0_isShard 1 (some .boolean)] ++ (vx_atS RX0 218 "java/lang/IndexOutOfBoundsException" ["java/lang/RuntimeException", "java/lang/Exception"]).filter goodWord)
def wsX0_firstKeyOf : List Cond := .code yX0_firstKeyOf cX0_firstKeyOf 2 (some .int) :: ([.methodLink RX0 96 yX0_lastKeyOf, .instanceMethod yX0_lastKeyOf, .selects RX0 yX0_lastKeyOf yX0_lastKeyOf, .initialized RX0, .code yX0_lastKeyOf cX0_lastKeyOf 2 (some .int), .fieldLink RX0 13 "ShardBallots" "lastKeys" "[I", .methodLink RX0 117 yX0_isRange, .instanceMethod yX0_isRange, .selects RX0 yX0_isRange yX0_isRange, .code yX0_isRange cX0_isRange 2 (some .boolean), .fieldLink RX0 49 "ShardBallots" "rangeCount" "I"] ++ wsX00)
def wsX0_countRows : List Cond := .code yX0_countRows cX0_countRows 6 (some .int) :: ([.methodLink RX0 152 yX0_rowOf, .instanceMethod yX0_rowOf, .selects RX0 yX0_rowOf yX0_rowOf, .initialized RX0, .code yX0_rowOf cX0_rowOf 3 (some .int), .fieldLink RX0 9 "ShardBallots" "rowTable" "[I", .methodLink RX0 202 yX0_isShard, .static yX0_isShard, .code yX0_isShard cX0_isShard 1 (some .boolean), .methodLink RX0 205 yX0_isKey, .static yX0_isKey, .code yX0_isKey cX0_isKey 1 (some .boolean)] ++ wsX00)
def wsX0_move_r1 : List Cond := [Cond.classLink RX0 64 "java/lang/IllegalStateException", Cond.initialized "java/lang/IllegalStateException", Cond.fieldLink RX0 16 "ShardBallots" "homes" "[I", Cond.fieldLink RX0 19 "ShardBallots" "targets" "[I", Cond.methodLink RX0 114 yX0_checkRange, Cond.instanceMethod yX0_checkRange, Cond.selects RX0 yX0_checkRange yX0_checkRange, Cond.initialized RX0, Cond.code yX0_checkRange cX0_checkRange 2 none, Cond.classLink RX0 214 "java/lang/IndexOutOfBoundsException", Cond.initialized "java/lang/IndexOutOfBoundsException", Cond.methodLink RX0 117 yX0_isRange, Cond.instanceMethod yX0_isRange, Cond.selects RX0 yX0_isRange yX0_isRange, Cond.code yX0_isRange cX0_isRange 2 (some .boolean), Cond.fieldLink RX0 49 "ShardBallots" "rangeCount" "I", Cond.methodLink RX0 132 yX0_checkShard, Cond.static yX0_checkShard, Cond.code yX0_checkShard cX0_checkShard 1 none, Cond.methodLink RX0 202 yX0_isShard, Cond.static yX0_isShard, Cond.code yX0_isShard cX0_isShard 1 (some .boolean), Cond.methodLink RX0 101 yX0_isMoved, Cond.instanceMethod yX0_isMoved]
def wsX0_move_r2 : List Cond := [Cond.selects RX0 yX0_isMoved yX0_isMoved, Cond.code yX0_isMoved cX0_isMoved 2 (some .boolean), Cond.methodLink RX0 208 yX0_targetOf, Cond.instanceMethod yX0_targetOf, Cond.selects RX0 yX0_targetOf yX0_targetOf, Cond.code yX0_targetOf cX0_targetOf 2 (some .int), Cond.methodLink RX0 139 yX0_firstKeyOf, Cond.instanceMethod yX0_firstKeyOf, Cond.selects RX0 yX0_firstKeyOf yX0_firstKeyOf, Cond.code yX0_firstKeyOf cX0_firstKeyOf 2 (some .int), Cond.methodLink RX0 96 yX0_lastKeyOf, Cond.instanceMethod yX0_lastKeyOf, Cond.selects RX0 yX0_lastKeyOf yX0_lastKeyOf, Cond.code yX0_lastKeyOf cX0_lastKeyOf 2 (some .int), Cond.fieldLink RX0 13 "ShardBallots" "lastKeys" "[I", Cond.methodLink RX0 142 yX0_countRows, Cond.instanceMethod yX0_countRows, Cond.selects RX0 yX0_countRows yX0_countRows, Cond.code yX0_countRows cX0_countRows 6 (some .int), Cond.methodLink RX0 152 yX0_rowOf, Cond.instanceMethod yX0_rowOf, Cond.selects RX0 yX0_rowOf yX0_rowOf, Cond.code yX0_rowOf cX0_rowOf 3 (some .int), Cond.fieldLink RX0 9 "ShardBallots" "rowTable" "[I"]
def wsX0_move_r3 : List Cond := [Cond.methodLink RX0 205 yX0_isKey, Cond.static yX0_isKey, Cond.code yX0_isKey cX0_isKey 1 (some .boolean)]
def wsX0_move : List Cond := .code yX0_move cX0_move 3 (some .int) :: ((wsX0_move_r1 ++ (wsX0_move_r2 ++ wsX0_move_r3)) ++ wsX00 ++ (vx_atS RX0 68 "java/lang/IllegalStateException" ["java/lang/RuntimeException", "java/lang/Exception"]).filter goodWord ++ (vx_atS RX0 218 "java/lang/IndexOutOfBoundsException" ["java/lang/RuntimeException", "java/lang/Exception"]).filter goodWord)
def wsX0_checkMoved : List Cond := .code yX0_checkMoved cX0_checkMoved 2 none :: ([.classLink RX0 64 "java/lang/IllegalStateException", .initialized "java/lang/IllegalStateException", .methodLink RX0 101 yX0_isMoved, .instanceMethod yX0_isMoved, .selects RX0 yX0_isMoved yX0_isMoved, .initialized RX0, .code yX0_isMoved cX0_isMoved 2 (some .boolean), .methodLink RX0 208 yX0_targetOf, .instanceMethod yX0_targetOf, .selects RX0 yX0_targetOf yX0_targetOf, .code yX0_targetOf cX0_targetOf 2 (some .int), .fieldLink RX0 19 "ShardBallots" "targets" "[I", .methodLink RX0 117 yX0_isRange, .instanceMethod yX0_isRange, .selects RX0 yX0_isRange yX0_isRange, .code yX0_isRange cX0_isRange 2 (some .boolean), .fieldLink RX0 49 "ShardBallots" "rangeCount" "I"] ++ wsX00 ++ (vx_atS RX0 68 "java/lang/IllegalStateException" ["java/lang/RuntimeException", "java/lang/Exception"]).filter goodWord)
def wsX0_lowestKeyNotBrought_r1 : List Cond := [Cond.methodLink RX0 122 yX0_homeOf, Cond.instanceMethod yX0_homeOf, Cond.selects RX0 yX0_homeOf yX0_homeOf, Cond.initialized RX0, Cond.code yX0_homeOf cX0_homeOf 2 (some .int), Cond.fieldLink RX0 16 "ShardBallots" "homes" "[I", Cond.methodLink RX0 117 yX0_isRange, Cond.instanceMethod yX0_isRange, Cond.selects RX0 yX0_isRange yX0_isRange, Cond.code yX0_isRange cX0_isRange 2 (some .boolean), Cond.fieldLink RX0 49 "ShardBallots" "rangeCount" "I", Cond.methodLink RX0 208 yX0_targetOf, Cond.instanceMethod yX0_targetOf, Cond.selects RX0 yX0_targetOf yX0_targetOf, Cond.code yX0_targetOf cX0_targetOf 2 (some .int), Cond.fieldLink RX0 19 "ShardBallots" "targets" "[I", Cond.methodLink RX0 96 yX0_lastKeyOf, Cond.instanceMethod yX0_lastKeyOf, Cond.selects RX0 yX0_lastKeyOf yX0_lastKeyOf, Cond.code yX0_lastKeyOf cX0_lastKeyOf 2 (some .int), Cond.fieldLink RX0 13 "ShardBallots" "lastKeys" "[I", Cond.methodLink RX0 139 yX0_firstKeyOf, Cond.instanceMethod yX0_firstKeyOf, Cond.selects RX0 yX0_firstKeyOf yX0_firstKeyOf]
def wsX0_lowestKeyNotBrought_r2 : List Cond := [Cond.code yX0_firstKeyOf cX0_firstKeyOf 2 (some .int), Cond.methodLink RX0 152 yX0_rowOf, Cond.instanceMethod yX0_rowOf, Cond.selects RX0 yX0_rowOf yX0_rowOf, Cond.code yX0_rowOf cX0_rowOf 3 (some .int), Cond.fieldLink RX0 9 "ShardBallots" "rowTable" "[I", Cond.methodLink RX0 202 yX0_isShard, Cond.static yX0_isShard, Cond.code yX0_isShard cX0_isShard 1 (some .boolean), Cond.methodLink RX0 205 yX0_isKey, Cond.static yX0_isKey, Cond.code yX0_isKey cX0_isKey 1 (some .boolean)]
def wsX0_lowestKeyNotBrought : List Cond := .code yX0_lowestKeyNotBrought cX0_lowestKeyNotBrought 6 (some .int) :: ((wsX0_lowestKeyNotBrought_r1 ++ wsX0_lowestKeyNotBrought_r2) ++ wsX00)
def wsX0_dropRows_r1 : List Cond := [Cond.methodLink RX0 96 yX0_lastKeyOf, Cond.instanceMethod yX0_lastKeyOf, Cond.selects RX0 yX0_lastKeyOf yX0_lastKeyOf, Cond.initialized RX0, Cond.code yX0_lastKeyOf cX0_lastKeyOf 2 (some .int), Cond.fieldLink RX0 13 "ShardBallots" "lastKeys" "[I", Cond.methodLink RX0 117 yX0_isRange, Cond.instanceMethod yX0_isRange, Cond.selects RX0 yX0_isRange yX0_isRange, Cond.code yX0_isRange cX0_isRange 2 (some .boolean), Cond.fieldLink RX0 49 "ShardBallots" "rangeCount" "I", Cond.methodLink RX0 139 yX0_firstKeyOf, Cond.instanceMethod yX0_firstKeyOf, Cond.selects RX0 yX0_firstKeyOf yX0_firstKeyOf, Cond.code yX0_firstKeyOf cX0_firstKeyOf 2 (some .int), Cond.methodLink RX0 156 yX0_putRow, Cond.instanceMethod yX0_putRow, Cond.selects RX0 yX0_putRow yX0_putRow, Cond.code yX0_putRow cX0_putRow 4 none, Cond.fieldLink RX0 9 "ShardBallots" "rowTable" "[I", Cond.methodLink RX0 202 yX0_isShard, Cond.static yX0_isShard, Cond.code yX0_isShard cX0_isShard 1 (some .boolean), Cond.methodLink RX0 205 yX0_isKey]
def wsX0_dropRows_r2 : List Cond := [Cond.static yX0_isKey, Cond.code yX0_isKey cX0_isKey 1 (some .boolean)]
def wsX0_dropRows : List Cond := .code yX0_dropRows cX0_dropRows 5 none :: ((wsX0_dropRows_r1 ++ wsX0_dropRows_r2) ++ wsX00)
def wsX0_step_r1 : List Cond := [Cond.fieldLink RX0 16 "ShardBallots" "homes" "[I", Cond.fieldLink RX0 19 "ShardBallots" "targets" "[I", Cond.methodLink RX0 114 yX0_checkRange, Cond.instanceMethod yX0_checkRange, Cond.selects RX0 yX0_checkRange yX0_checkRange, Cond.initialized RX0, Cond.code yX0_checkRange cX0_checkRange 2 none, Cond.classLink RX0 214 "java/lang/IndexOutOfBoundsException", Cond.initialized "java/lang/IndexOutOfBoundsException", Cond.methodLink RX0 117 yX0_isRange, Cond.instanceMethod yX0_isRange, Cond.selects RX0 yX0_isRange yX0_isRange, Cond.code yX0_isRange cX0_isRange 2 (some .boolean), Cond.fieldLink RX0 49 "ShardBallots" "rangeCount" "I", Cond.methodLink RX0 146 yX0_checkMoved, Cond.instanceMethod yX0_checkMoved, Cond.selects RX0 yX0_checkMoved yX0_checkMoved, Cond.code yX0_checkMoved cX0_checkMoved 2 none, Cond.classLink RX0 64 "java/lang/IllegalStateException", Cond.initialized "java/lang/IllegalStateException", Cond.methodLink RX0 101 yX0_isMoved, Cond.instanceMethod yX0_isMoved, Cond.selects RX0 yX0_isMoved yX0_isMoved, Cond.code yX0_isMoved cX0_isMoved 2 (some .boolean)]
def wsX0_step_r2 : List Cond := [Cond.methodLink RX0 208 yX0_targetOf, Cond.instanceMethod yX0_targetOf, Cond.selects RX0 yX0_targetOf yX0_targetOf, Cond.code yX0_targetOf cX0_targetOf 2 (some .int), Cond.methodLink RX0 149 yX0_lowestKeyNotBrought, Cond.instanceMethod yX0_lowestKeyNotBrought, Cond.selects RX0 yX0_lowestKeyNotBrought yX0_lowestKeyNotBrought, Cond.code yX0_lowestKeyNotBrought cX0_lowestKeyNotBrought 6 (some .int), Cond.methodLink RX0 122 yX0_homeOf, Cond.instanceMethod yX0_homeOf, Cond.selects RX0 yX0_homeOf yX0_homeOf, Cond.code yX0_homeOf cX0_homeOf 2 (some .int), Cond.methodLink RX0 96 yX0_lastKeyOf, Cond.instanceMethod yX0_lastKeyOf, Cond.selects RX0 yX0_lastKeyOf yX0_lastKeyOf, Cond.code yX0_lastKeyOf cX0_lastKeyOf 2 (some .int), Cond.fieldLink RX0 13 "ShardBallots" "lastKeys" "[I", Cond.methodLink RX0 139 yX0_firstKeyOf, Cond.instanceMethod yX0_firstKeyOf, Cond.selects RX0 yX0_firstKeyOf yX0_firstKeyOf, Cond.code yX0_firstKeyOf cX0_firstKeyOf 2 (some .int), Cond.methodLink RX0 152 yX0_rowOf, Cond.instanceMethod yX0_rowOf, Cond.selects RX0 yX0_rowOf yX0_rowOf]
def wsX0_step_r3 : List Cond := [Cond.code yX0_rowOf cX0_rowOf 3 (some .int), Cond.fieldLink RX0 9 "ShardBallots" "rowTable" "[I", Cond.methodLink RX0 202 yX0_isShard, Cond.static yX0_isShard, Cond.code yX0_isShard cX0_isShard 1 (some .boolean), Cond.methodLink RX0 205 yX0_isKey, Cond.static yX0_isKey, Cond.code yX0_isKey cX0_isKey 1 (some .boolean), Cond.methodLink RX0 156 yX0_putRow, Cond.instanceMethod yX0_putRow, Cond.selects RX0 yX0_putRow yX0_putRow, Cond.code yX0_putRow cX0_putRow 4 none, Cond.methodLink RX0 160 yX0_dropRows, Cond.instanceMethod yX0_dropRows, Cond.selects RX0 yX0_dropRows yX0_dropRows, Cond.code yX0_dropRows cX0_dropRows 5 none]
def wsX0_step : List Cond := .code yX0_step cX0_step 5 (some .int) :: ((wsX0_step_r1 ++ (wsX0_step_r2 ++ wsX0_step_r3)) ++ wsX00 ++ (vx_atS RX0 218 "java/lang/IndexOutOfBoundsException" ["java/lang/RuntimeException", "java/lang/Exception"]).filter goodWord ++ (vx_atS RX0 68 "java/lang/IllegalStateException" ["java/lang/RuntimeException", "java/lang/Exception"]).filter goodWord)
def wsX0_giveUp_r1 : List Cond := [Cond.fieldLink RX0 19 "ShardBallots" "targets" "[I", Cond.methodLink RX0 114 yX0_checkRange, Cond.instanceMethod yX0_checkRange, Cond.selects RX0 yX0_checkRange yX0_checkRange, Cond.initialized RX0, Cond.code yX0_checkRange cX0_checkRange 2 none, Cond.classLink RX0 214 "java/lang/IndexOutOfBoundsException", Cond.initialized "java/lang/IndexOutOfBoundsException", Cond.methodLink RX0 117 yX0_isRange, Cond.instanceMethod yX0_isRange, Cond.selects RX0 yX0_isRange yX0_isRange, Cond.code yX0_isRange cX0_isRange 2 (some .boolean), Cond.fieldLink RX0 49 "ShardBallots" "rangeCount" "I", Cond.methodLink RX0 146 yX0_checkMoved, Cond.instanceMethod yX0_checkMoved, Cond.selects RX0 yX0_checkMoved yX0_checkMoved, Cond.code yX0_checkMoved cX0_checkMoved 2 none, Cond.classLink RX0 64 "java/lang/IllegalStateException", Cond.initialized "java/lang/IllegalStateException", Cond.methodLink RX0 101 yX0_isMoved, Cond.instanceMethod yX0_isMoved, Cond.selects RX0 yX0_isMoved yX0_isMoved, Cond.code yX0_isMoved cX0_isMoved 2 (some .boolean), Cond.methodLink RX0 208 yX0_targetOf]
def wsX0_giveUp_r2 : List Cond := [Cond.instanceMethod yX0_targetOf, Cond.selects RX0 yX0_targetOf yX0_targetOf, Cond.code yX0_targetOf cX0_targetOf 2 (some .int), Cond.methodLink RX0 139 yX0_firstKeyOf, Cond.instanceMethod yX0_firstKeyOf, Cond.selects RX0 yX0_firstKeyOf yX0_firstKeyOf, Cond.code yX0_firstKeyOf cX0_firstKeyOf 2 (some .int), Cond.methodLink RX0 96 yX0_lastKeyOf, Cond.instanceMethod yX0_lastKeyOf, Cond.selects RX0 yX0_lastKeyOf yX0_lastKeyOf, Cond.code yX0_lastKeyOf cX0_lastKeyOf 2 (some .int), Cond.fieldLink RX0 13 "ShardBallots" "lastKeys" "[I", Cond.methodLink RX0 142 yX0_countRows, Cond.instanceMethod yX0_countRows, Cond.selects RX0 yX0_countRows yX0_countRows, Cond.code yX0_countRows cX0_countRows 6 (some .int), Cond.methodLink RX0 152 yX0_rowOf, Cond.instanceMethod yX0_rowOf, Cond.selects RX0 yX0_rowOf yX0_rowOf, Cond.code yX0_rowOf cX0_rowOf 3 (some .int), Cond.fieldLink RX0 9 "ShardBallots" "rowTable" "[I", Cond.methodLink RX0 202 yX0_isShard, Cond.static yX0_isShard, Cond.code yX0_isShard cX0_isShard 1 (some .boolean)]
def wsX0_giveUp_r3 : List Cond := [Cond.methodLink RX0 205 yX0_isKey, Cond.static yX0_isKey, Cond.code yX0_isKey cX0_isKey 1 (some .boolean), Cond.methodLink RX0 160 yX0_dropRows, Cond.instanceMethod yX0_dropRows, Cond.selects RX0 yX0_dropRows yX0_dropRows, Cond.code yX0_dropRows cX0_dropRows 5 none, Cond.methodLink RX0 156 yX0_putRow, Cond.instanceMethod yX0_putRow, Cond.selects RX0 yX0_putRow yX0_putRow, Cond.code yX0_putRow cX0_putRow 4 none]
def wsX0_giveUp : List Cond := .code yX0_giveUp cX0_giveUp 4 (some .int) :: ((wsX0_giveUp_r1 ++ (wsX0_giveUp_r2 ++ wsX0_giveUp_r3)) ++ wsX00 ++ (vx_atS RX0 218 "java/lang/IndexOutOfBoundsException" ["java/lang/RuntimeException", "java/lang/Exception"]).filter goodWord ++ (vx_atS RX0 68 "java/lang/IllegalStateException" ["java/lang/RuntimeException", "java/lang/Exception"]).filter goodWord)
def wsX0_ranges : List Cond := .code yX0_ranges cX0_ranges 1 (some .int) :: ([.fieldLink RX0 49 "ShardBallots" "rangeCount" "I"] ++ wsX00)
def wsX0_rangeOf : List Cond := .code yX0_rangeOf cX0_rangeOf 2 (some .int) :: ([.methodLink RX0 53 yX0_checkKey, .static yX0_checkKey, .initialized RX0, .code yX0_checkKey cX0_checkKey 1 none, .classLink RX0 214 "java/lang/IndexOutOfBoundsException", .initialized "java/lang/IndexOutOfBoundsException", .methodLink RX0 205 yX0_isKey, .static yX0_isKey, .code yX0_isKey cX0_isKey 1 (some .boolean), .methodLink RX0 93 yX0_rangeHolding, .instanceMethod yX0_rangeHolding, .selects RX0 yX0_rangeHolding yX0_rangeHolding, .code yX0_rangeHolding cX0_rangeHolding 4 (some .int), .fieldLink RX0 49 "ShardBallots" "rangeCount" "I", .methodLink RX0 96 yX0_lastKeyOf, .instanceMethod yX0_lastKeyOf, .selects RX0 yX0_lastKeyOf yX0_lastKeyOf, .code yX0_lastKeyOf cX0_lastKeyOf 2 (some .int), .fieldLink RX0 13 "ShardBallots" "lastKeys" "[I", .methodLink RX0 117 yX0_isRange, .instanceMethod yX0_isRange, .selects RX0 yX0_isRange yX0_isRange, .code yX0_isRange cX0_isRange 2 (some .boolean)] ++ wsX00 ++ (vx_atS RX0 218 "java/lang/IndexOutOfBoundsException" ["java/lang/RuntimeException", "java/lang/Exception"]).filter goodWord)
def wsX0_shardOf : List Cond := .code yX0_shardOf cX0_shardOf 2 (some .int) :: ([.fieldLink RX0 16 "ShardBallots" "homes" "[I", .methodLink RX0 114 yX0_checkRange, .instanceMethod yX0_checkRange, .selects RX0 yX0_checkRange yX0_checkRange, .initialized RX0, .code yX0_checkRange cX0_checkRange 2 none, .classLink RX0 214 "java/lang/IndexOutOfBoundsException", .initialized "java/lang/IndexOutOfBoundsException", .methodLink RX0 117 yX0_isRange, .instanceMethod yX0_isRange, .selects RX0 yX0_isRange yX0_isRange, .code yX0_isRange cX0_isRange 2 (some .boolean), .fieldLink RX0 49 "ShardBallots" "rangeCount" "I"] ++ wsX00 ++ (vx_atS RX0 218 "java/lang/IndexOutOfBoundsException" ["java/lang/RuntimeException", "java/lang/Exception"]).filter goodWord)
def wsX0_rows : List Cond := .code yX0_rows cX0_rows 2 (some .int) :: ([.methodLink RX0 132 yX0_checkShard, .static yX0_checkShard, .initialized RX0, .code yX0_checkShard cX0_checkShard 1 none, .classLink RX0 214 "java/lang/IndexOutOfBoundsException", .initialized "java/lang/IndexOutOfBoundsException", .methodLink RX0 202 yX0_isShard, .static yX0_isShard, .code yX0_isShard cX0_isShard 1 (some .boolean), .methodLink RX0 142 yX0_countRows, .instanceMethod yX0_countRows, .selects RX0 yX0_countRows yX0_countRows, .code yX0_countRows cX0_countRows 6 (some .int), .methodLink RX0 152 yX0_rowOf, .instanceMethod yX0_rowOf, .selects RX0 yX0_rowOf yX0_rowOf, .code yX0_rowOf cX0_rowOf 3 (some .int), .fieldLink RX0 9 "ShardBallots" "rowTable" "[I", .methodLink RX0 205 yX0_isKey, .static yX0_isKey, .code yX0_isKey cX0_isKey 1 (some .boolean)] ++ wsX00 ++ (vx_atS RX0 218 "java/lang/IndexOutOfBoundsException" ["java/lang/RuntimeException", "java/lang/Exception"]).filter goodWord)
def wsX0_fix_r1 : List Cond := [Cond.classLink RX0 64 "java/lang/IllegalStateException", Cond.initialized "java/lang/IllegalStateException", Cond.fieldLink RX0 163 "ShardBallots" "rollLaid" "Z", Cond.fieldLink RX0 22 "ShardBallots" "roll" "[I", Cond.fieldLink RX0 169 "ShardBallots" "voteNumber" "I", Cond.fieldLink RX0 71 "ShardBallots" "memberCount" "I", Cond.methodLink RX0 83 yX0_read, Cond.instanceMethod yX0_read, Cond.selects RX0 yX0_read yX0_read, Cond.initialized RX0, Cond.code yX0_read cX0_read 2 (some .int), Cond.methodLink RX0 93 yX0_rangeHolding, Cond.instanceMethod yX0_rangeHolding, Cond.selects RX0 yX0_rangeHolding yX0_rangeHolding, Cond.code yX0_rangeHolding cX0_rangeHolding 4 (some .int), Cond.fieldLink RX0 49 "ShardBallots" "rangeCount" "I", Cond.methodLink RX0 96 yX0_lastKeyOf, Cond.instanceMethod yX0_lastKeyOf, Cond.selects RX0 yX0_lastKeyOf yX0_lastKeyOf, Cond.code yX0_lastKeyOf cX0_lastKeyOf 2 (some .int), Cond.fieldLink RX0 13 "ShardBallots" "lastKeys" "[I", Cond.methodLink RX0 117 yX0_isRange, Cond.instanceMethod yX0_isRange, Cond.selects RX0 yX0_isRange yX0_isRange]
def wsX0_fix_r2 : List Cond := [Cond.code yX0_isRange cX0_isRange 2 (some .boolean), Cond.methodLink RX0 122 yX0_homeOf, Cond.instanceMethod yX0_homeOf, Cond.selects RX0 yX0_homeOf yX0_homeOf, Cond.code yX0_homeOf cX0_homeOf 2 (some .int), Cond.fieldLink RX0 16 "ShardBallots" "homes" "[I", Cond.methodLink RX0 152 yX0_rowOf, Cond.instanceMethod yX0_rowOf, Cond.selects RX0 yX0_rowOf yX0_rowOf, Cond.code yX0_rowOf cX0_rowOf 3 (some .int), Cond.fieldLink RX0 9 "ShardBallots" "rowTable" "[I", Cond.methodLink RX0 202 yX0_isShard, Cond.static yX0_isShard, Cond.code yX0_isShard cX0_isShard 1 (some .boolean), Cond.methodLink RX0 205 yX0_isKey, Cond.static yX0_isKey, Cond.code yX0_isKey cX0_isKey 1 (some .boolean), Cond.methodLink RX0 90 yX0_districtOf, Cond.static yX0_districtOf, Cond.code yX0_districtOf cX0_districtOf 1 (some .int)]
def wsX0_fix : List Cond := .code yX0_fix cX0_fix 2 (some .int) :: ((wsX0_fix_r1 ++ wsX0_fix_r2) ++ wsX00 ++ (vx_atS RX0 68 "java/lang/IllegalStateException" ["java/lang/RuntimeException", "java/lang/Exception"]).filter goodWord)
def wsX0_onRoll : List Cond := .code yX0_onRoll cX0_onRoll 2 (some .int) :: ([.fieldLink RX0 163 "ShardBallots" "rollLaid" "Z", .fieldLink RX0 22 "ShardBallots" "roll" "[I", .methodLink RX0 53 yX0_checkKey, .static yX0_checkKey, .initialized RX0, .code yX0_checkKey cX0_checkKey 1 none, .classLink RX0 214 "java/lang/IndexOutOfBoundsException", .initialized "java/lang/IndexOutOfBoundsException", .methodLink RX0 205 yX0_isKey, .static yX0_isKey, .code yX0_isKey cX0_isKey 1 (some .boolean)] ++ wsX00 ++ (vx_atS RX0 218 "java/lang/IndexOutOfBoundsException" ["java/lang/RuntimeException", "java/lang/Exception"]).filter goodWord)
def wsX0_isBallot : List Cond := .code yX0_isBallot cX0_isBallot 2 (some .boolean) :: ([.fieldLink RX0 182 "ShardBallots" "ballotCount" "I"] ++ wsX00)
def wsX0_isOfOpenVote : List Cond := .code yX0_isOfOpenVote cX0_isOfOpenVote 2 (some .boolean) :: ([.fieldLink RX0 163 "ShardBallots" "rollLaid" "Z", .fieldLink RX0 28 "ShardBallots" "ballotVotes" "[I", .fieldLink RX0 169 "ShardBallots" "voteNumber" "I", .methodLink RX0 177 yX0_isBallot, .instanceMethod yX0_isBallot, .selects RX0 yX0_isBallot yX0_isBallot, .initialized RX0, .code yX0_isBallot cX0_isBallot 2 (some .boolean), .fieldLink RX0 182 "ShardBallots" "ballotCount" "I"] ++ wsX00)
def wsX0_latestBallotTo : List Cond := .code yX0_latestBallotTo cX0_latestBallotTo 3 (some .int) :: ([.fieldLink RX0 182 "ShardBallots" "ballotCount" "I", .fieldLink RX0 25 "ShardBallots" "ballotKeys" "[I", .methodLink RX0 195 yX0_isOfOpenVote, .instanceMethod yX0_isOfOpenVote, .selects RX0 yX0_isOfOpenVote yX0_isOfOpenVote, .initialized RX0, .code yX0_isOfOpenVote cX0_isOfOpenVote 2 (some .boolean), .fieldLink RX0 163 "ShardBallots" "rollLaid" "Z", .fieldLink RX0 28 "ShardBallots" "ballotVotes" "[I", .fieldLink RX0 169 "ShardBallots" "voteNumber" "I", .methodLink RX0 177 yX0_isBallot, .instanceMethod yX0_isBallot, .selects RX0 yX0_isBallot yX0_isBallot, .code yX0_isBallot cX0_isBallot 2 (some .boolean)] ++ wsX00)
def wsX0_send_r1 : List Cond := [Cond.classLink RX0 64 "java/lang/IllegalStateException", Cond.initialized "java/lang/IllegalStateException", Cond.fieldLink RX0 163 "ShardBallots" "rollLaid" "Z", Cond.fieldLink RX0 22 "ShardBallots" "roll" "[I", Cond.fieldLink RX0 37 "ShardBallots" "ballotStates" "[I", Cond.fieldLink RX0 182 "ShardBallots" "ballotCount" "I", Cond.fieldLink RX0 25 "ShardBallots" "ballotKeys" "[I", Cond.fieldLink RX0 28 "ShardBallots" "ballotVotes" "[I", Cond.fieldLink RX0 169 "ShardBallots" "voteNumber" "I", Cond.fieldLink RX0 31 "ShardBallots" "ballotAddresses" "[I", Cond.fieldLink RX0 34 "ShardBallots" "ballotDistricts" "[I", Cond.methodLink RX0 53 yX0_checkKey, Cond.static yX0_checkKey, Cond.initialized RX0, Cond.code yX0_checkKey cX0_checkKey 1 none, Cond.classLink RX0 214 "java/lang/IndexOutOfBoundsException", Cond.initialized "java/lang/IndexOutOfBoundsException", Cond.methodLink RX0 205 yX0_isKey, Cond.static yX0_isKey, Cond.code yX0_isKey cX0_isKey 1 (some .boolean), Cond.methodLink RX0 80 yX0_checkMember, Cond.instanceMethod yX0_checkMember, Cond.selects RX0 yX0_checkMember yX0_checkMember, Cond.code yX0_checkMember cX0_checkMember 2 none]
def wsX0_send_r2 : List Cond := [Cond.methodLink RX0 60 yX0_isMember, Cond.instanceMethod yX0_isMember, Cond.selects RX0 yX0_isMember yX0_isMember, Cond.code yX0_isMember cX0_isMember 2 (some .boolean), Cond.methodLink RX0 83 yX0_read, Cond.instanceMethod yX0_read, Cond.selects RX0 yX0_read yX0_read, Cond.code yX0_read cX0_read 2 (some .int), Cond.methodLink RX0 93 yX0_rangeHolding, Cond.instanceMethod yX0_rangeHolding, Cond.selects RX0 yX0_rangeHolding yX0_rangeHolding, Cond.code yX0_rangeHolding cX0_rangeHolding 4 (some .int), Cond.fieldLink RX0 49 "ShardBallots" "rangeCount" "I", Cond.methodLink RX0 96 yX0_lastKeyOf, Cond.instanceMethod yX0_lastKeyOf, Cond.selects RX0 yX0_lastKeyOf yX0_lastKeyOf, Cond.code yX0_lastKeyOf cX0_lastKeyOf 2 (some .int), Cond.fieldLink RX0 13 "ShardBallots" "lastKeys" "[I", Cond.methodLink RX0 117 yX0_isRange, Cond.instanceMethod yX0_isRange, Cond.selects RX0 yX0_isRange yX0_isRange, Cond.code yX0_isRange cX0_isRange 2 (some .boolean), Cond.methodLink RX0 122 yX0_homeOf, Cond.instanceMethod yX0_homeOf]
def wsX0_send_r3 : List Cond := [Cond.selects RX0 yX0_homeOf yX0_homeOf, Cond.code yX0_homeOf cX0_homeOf 2 (some .int), Cond.fieldLink RX0 16 "ShardBallots" "homes" "[I", Cond.methodLink RX0 152 yX0_rowOf, Cond.instanceMethod yX0_rowOf, Cond.selects RX0 yX0_rowOf yX0_rowOf, Cond.code yX0_rowOf cX0_rowOf 3 (some .int), Cond.fieldLink RX0 9 "ShardBallots" "rowTable" "[I", Cond.methodLink RX0 202 yX0_isShard, Cond.static yX0_isShard, Cond.code yX0_isShard cX0_isShard 1 (some .boolean), Cond.methodLink RX0 174 yX0_latestBallotTo, Cond.instanceMethod yX0_latestBallotTo, Cond.selects RX0 yX0_latestBallotTo yX0_latestBallotTo, Cond.code yX0_latestBallotTo cX0_latestBallotTo 3 (some .int), Cond.methodLink RX0 195 yX0_isOfOpenVote, Cond.instanceMethod yX0_isOfOpenVote, Cond.selects RX0 yX0_isOfOpenVote yX0_isOfOpenVote, Cond.code yX0_isOfOpenVote cX0_isOfOpenVote 2 (some .boolean), Cond.methodLink RX0 177 yX0_isBallot, Cond.instanceMethod yX0_isBallot, Cond.selects RX0 yX0_isBallot yX0_isBallot, Cond.code yX0_isBallot cX0_isBallot 2 (some .boolean)]
def wsX0_send : List Cond := .code yX0_send cX0_send 4 (some .int) :: ((wsX0_send_r1 ++ (wsX0_send_r2 ++ wsX0_send_r3)) ++ wsX00 ++ (vx_atS RX0 68 "java/lang/IllegalStateException" ["java/lang/RuntimeException", "java/lang/Exception"]).filter goodWord ++ (vx_atS RX0 218 "java/lang/IndexOutOfBoundsException" ["java/lang/RuntimeException", "java/lang/Exception"]).filter goodWord)
def wsX0_checkBallot : List Cond := .code yX0_checkBallot cX0_checkBallot 2 none :: ([.classLink RX0 214 "java/lang/IndexOutOfBoundsException", .initialized "java/lang/IndexOutOfBoundsException", .methodLink RX0 177 yX0_isBallot, .instanceMethod yX0_isBallot, .selects RX0 yX0_isBallot yX0_isBallot, .initialized RX0, .code yX0_isBallot cX0_isBallot 2 (some .boolean), .fieldLink RX0 182 "ShardBallots" "ballotCount" "I"] ++ wsX00 ++ (vx_atS RX0 218 "java/lang/IndexOutOfBoundsException" ["java/lang/RuntimeException", "java/lang/Exception"]).filter goodWord)
def wsX0_sentTo : List Cond := .code yX0_sentTo cX0_sentTo 2 (some .int) :: ([.fieldLink RX0 31 "ShardBallots" "ballotAddresses" "[I", .methodLink RX0 187 yX0_checkBallot, .instanceMethod yX0_checkBallot, .selects RX0 yX0_checkBallot yX0_checkBallot, .initialized RX0, .code yX0_checkBallot cX0_checkBallot 2 none, .classLink RX0 214 "java/lang/IndexOutOfBoundsException", .initialized "java/lang/IndexOutOfBoundsException", .methodLink RX0 177 yX0_isBallot, .instanceMethod yX0_isBallot, .selects RX0 yX0_isBallot yX0_isBallot, .code yX0_isBallot cX0_isBallot 2 (some .boolean), .fieldLink RX0 182 "ShardBallots" "ballotCount" "I"] ++ wsX00 ++ (vx_atS RX0 218 "java/lang/IndexOutOfBoundsException" ["java/lang/RuntimeException", "java/lang/Exception"]).filter goodWord)
def wsX0_checkChoice : List Cond := .code yX0_checkChoice cX0_checkChoice 1 none :: ([.classLink RX0 227 "java/lang/IllegalArgumentException", .initialized "java/lang/IllegalArgumentException"] ++ (vx_atS RX0 231 "java/lang/IllegalArgumentException" ["java/lang/RuntimeException", "java/lang/Exception"]).filter goodWord)
def wsX0_giveBack_r1 : List Cond := [Cond.classLink RX0 64 "java/lang/IllegalStateException", Cond.initialized "java/lang/IllegalStateException", Cond.fieldLink RX0 37 "ShardBallots" "ballotStates" "[I", Cond.fieldLink RX0 40 "ShardBallots" "ballotChoices" "[I", Cond.fieldLink RX0 34 "ShardBallots" "ballotDistricts" "[I", Cond.methodLink RX0 187 yX0_checkBallot, Cond.instanceMethod yX0_checkBallot, Cond.selects RX0 yX0_checkBallot yX0_checkBallot, Cond.initialized RX0, Cond.code yX0_checkBallot cX0_checkBallot 2 none, Cond.classLink RX0 214 "java/lang/IndexOutOfBoundsException", Cond.initialized "java/lang/IndexOutOfBoundsException", Cond.methodLink RX0 177 yX0_isBallot, Cond.instanceMethod yX0_isBallot, Cond.selects RX0 yX0_isBallot yX0_isBallot, Cond.code yX0_isBallot cX0_isBallot 2 (some .boolean), Cond.fieldLink RX0 182 "ShardBallots" "ballotCount" "I", Cond.methodLink RX0 190 yX0_checkChoice, Cond.static yX0_checkChoice, Cond.code yX0_checkChoice cX0_checkChoice 1 none, Cond.classLink RX0 227 "java/lang/IllegalArgumentException", Cond.initialized "java/lang/IllegalArgumentException", Cond.methodLink RX0 195 yX0_isOfOpenVote, Cond.instanceMethod yX0_isOfOpenVote]
def wsX0_giveBack_r2 : List Cond := [Cond.selects RX0 yX0_isOfOpenVote yX0_isOfOpenVote, Cond.code yX0_isOfOpenVote cX0_isOfOpenVote 2 (some .boolean), Cond.fieldLink RX0 163 "ShardBallots" "rollLaid" "Z", Cond.fieldLink RX0 28 "ShardBallots" "ballotVotes" "[I", Cond.fieldLink RX0 169 "ShardBallots" "voteNumber" "I"]
def wsX0_giveBack : List Cond := .code yX0_giveBack cX0_giveBack 3 (some .int) :: ((wsX0_giveBack_r1 ++ wsX0_giveBack_r2) ++ wsX00 ++ (vx_atS RX0 68 "java/lang/IllegalStateException" ["java/lang/RuntimeException", "java/lang/Exception"]).filter goodWord ++ (vx_atS RX0 218 "java/lang/IndexOutOfBoundsException" ["java/lang/RuntimeException", "java/lang/Exception"]).filter goodWord ++ (vx_atS RX0 231 "java/lang/IllegalArgumentException" ["java/lang/RuntimeException", "java/lang/Exception"]).filter goodWord)
def wsX0_stateOf : List Cond := .code yX0_stateOf cX0_stateOf 2 (some .int) :: ([.fieldLink RX0 37 "ShardBallots" "ballotStates" "[I", .methodLink RX0 187 yX0_checkBallot, .instanceMethod yX0_checkBallot, .selects RX0 yX0_checkBallot yX0_checkBallot, .initialized RX0, .code yX0_checkBallot cX0_checkBallot 2 none, .classLink RX0 214 "java/lang/IndexOutOfBoundsException", .initialized "java/lang/IndexOutOfBoundsException", .methodLink RX0 177 yX0_isBallot, .instanceMethod yX0_isBallot, .selects RX0 yX0_isBallot yX0_isBallot, .code yX0_isBallot cX0_isBallot 2 (some .boolean), .fieldLink RX0 182 "ShardBallots" "ballotCount" "I"] ++ wsX00 ++ (vx_atS RX0 218 "java/lang/IndexOutOfBoundsException" ["java/lang/RuntimeException", "java/lang/Exception"]).filter goodWord)
def wsX0_counted : List Cond := .code yX0_counted cX0_counted 5 (some .int) :: ([.fieldLink RX0 182 "ShardBallots" "ballotCount" "I", .fieldLink RX0 37 "ShardBallots" "ballotStates" "[I", .fieldLink RX0 34 "ShardBallots" "ballotDistricts" "[I", .fieldLink RX0 40 "ShardBallots" "ballotChoices" "[I", .methodLink RX0 87 yX0_checkDistrict, .static yX0_checkDistrict, .initialized RX0, .code yX0_checkDistrict cX0_checkDistrict 1 none, .classLink RX0 214 "java/lang/IndexOutOfBoundsException", .initialized "java/lang/IndexOutOfBoundsException", .methodLink RX0 190 yX0_checkChoice, .static yX0_checkChoice, .code yX0_checkChoice cX0_checkChoice 1 none, .classLink RX0 227 "java/lang/IllegalArgumentException", .initialized "java/lang/IllegalArgumentException"] ++ wsX00 ++ (vx_atS RX0 218 "java/lang/IndexOutOfBoundsException" ["java/lang/RuntimeException", "java/lang/Exception"]).filter goodWord ++ (vx_atS RX0 231 "java/lang/IllegalArgumentException" ["java/lang/RuntimeException", "java/lang/Exception"]).filter goodWord)
def wsX0_close : List Cond := .code yX0_close cX0_close 3 (some .int) :: ([.classLink RX0 64 "java/lang/IllegalStateException", .initialized "java/lang/IllegalStateException", .fieldLink RX0 163 "ShardBallots" "rollLaid" "Z", .fieldLink RX0 182 "ShardBallots" "ballotCount" "I", .fieldLink RX0 37 "ShardBallots" "ballotStates" "[I", .methodLink RX0 195 yX0_isOfOpenVote, .instanceMethod yX0_isOfOpenVote, .selects RX0 yX0_isOfOpenVote yX0_isOfOpenVote, .initialized RX0, .code yX0_isOfOpenVote cX0_isOfOpenVote 2 (some .boolean), .fieldLink RX0 28 "ShardBallots" "ballotVotes" "[I", .fieldLink RX0 169 "ShardBallots" "voteNumber" "I", .methodLink RX0 177 yX0_isBallot, .instanceMethod yX0_isBallot, .selects RX0 yX0_isBallot yX0_isBallot, .code yX0_isBallot cX0_isBallot 2 (some .boolean)] ++ wsX00 ++ (vx_atS RX0 68 "java/lang/IllegalStateException" ["java/lang/RuntimeException", "java/lang/Exception"]).filter goodWord)
def wsL_cell : List Cond := .code yL_cell cL_cell 2 (some .int) :: ([.constant RL 7 (1205586403)])
def wsL_low : List Cond := .code yL_low cL_low 2 (some .int) :: ([])
def wsL_join_r1 : List Cond := [Cond.classLink RL 14 "java/lang/IndexOutOfBoundsException", Cond.classLink RL 16 "java/lang/IllegalArgumentException", Cond.classLink RL 18 "java/lang/IllegalStateException", Cond.methodLink RL 8 yX0_join, Cond.instanceMethod yX0_join, Cond.selects RX0 yX0_join yX0_join, Cond.initialized RX0, Cond.code yX0_join cX0_join 3 (some .int), Cond.classLink RX0 64 "java/lang/IllegalStateException", Cond.initialized "java/lang/IllegalStateException", Cond.fieldLink RX0 71 "ShardBallots" "memberCount" "I", Cond.methodLink RX0 53 yX0_checkKey, Cond.static yX0_checkKey, Cond.code yX0_checkKey cX0_checkKey 1 none, Cond.classLink RX0 214 "java/lang/IndexOutOfBoundsException", Cond.initialized "java/lang/IndexOutOfBoundsException", Cond.methodLink RX0 205 yX0_isKey, Cond.static yX0_isKey, Cond.code yX0_isKey cX0_isKey 1 (some .boolean), Cond.methodLink RX0 57 yX0_checkAddress, Cond.static yX0_checkAddress, Cond.code yX0_checkAddress cX0_checkAddress 1 none, Cond.classLink RX0 227 "java/lang/IllegalArgumentException", Cond.initialized "java/lang/IllegalArgumentException"]
def wsL_join_r2 : List Cond := [Cond.methodLink RX0 60 yX0_isMember, Cond.instanceMethod yX0_isMember, Cond.selects RX0 yX0_isMember yX0_isMember, Cond.code yX0_isMember cX0_isMember 2 (some .boolean), Cond.methodLink RX0 83 yX0_read, Cond.instanceMethod yX0_read, Cond.selects RX0 yX0_read yX0_read, Cond.code yX0_read cX0_read 2 (some .int), Cond.methodLink RX0 93 yX0_rangeHolding, Cond.instanceMethod yX0_rangeHolding, Cond.selects RX0 yX0_rangeHolding yX0_rangeHolding, Cond.code yX0_rangeHolding cX0_rangeHolding 4 (some .int), Cond.fieldLink RX0 49 "ShardBallots" "rangeCount" "I", Cond.methodLink RX0 96 yX0_lastKeyOf, Cond.instanceMethod yX0_lastKeyOf, Cond.selects RX0 yX0_lastKeyOf yX0_lastKeyOf, Cond.code yX0_lastKeyOf cX0_lastKeyOf 2 (some .int), Cond.fieldLink RX0 13 "ShardBallots" "lastKeys" "[I", Cond.methodLink RX0 117 yX0_isRange, Cond.instanceMethod yX0_isRange, Cond.selects RX0 yX0_isRange yX0_isRange, Cond.code yX0_isRange cX0_isRange 2 (some .boolean), Cond.methodLink RX0 122 yX0_homeOf, Cond.instanceMethod yX0_homeOf]
def wsL_join_r3 : List Cond := [Cond.selects RX0 yX0_homeOf yX0_homeOf, Cond.code yX0_homeOf cX0_homeOf 2 (some .int), Cond.fieldLink RX0 16 "ShardBallots" "homes" "[I", Cond.methodLink RX0 152 yX0_rowOf, Cond.instanceMethod yX0_rowOf, Cond.selects RX0 yX0_rowOf yX0_rowOf, Cond.code yX0_rowOf cX0_rowOf 3 (some .int), Cond.fieldLink RX0 9 "ShardBallots" "rowTable" "[I", Cond.methodLink RX0 202 yX0_isShard, Cond.static yX0_isShard, Cond.code yX0_isShard cX0_isShard 1 (some .boolean), Cond.methodLink RX0 76 yX0_write, Cond.instanceMethod yX0_write, Cond.selects RX0 yX0_write yX0_write, Cond.code yX0_write cX0_write 4 none, Cond.methodLink RX0 156 yX0_putRow, Cond.instanceMethod yX0_putRow, Cond.selects RX0 yX0_putRow yX0_putRow, Cond.code yX0_putRow cX0_putRow 4 none, Cond.methodLink RX0 208 yX0_targetOf, Cond.instanceMethod yX0_targetOf, Cond.selects RX0 yX0_targetOf yX0_targetOf, Cond.code yX0_targetOf cX0_targetOf 2 (some .int), Cond.fieldLink RX0 19 "ShardBallots" "targets" "[I"]
def wsL_join : List Cond := .codeWith yL_join cL_join 5 (some .int) [(0, 7, 10, 14), (0, 7, 16, 16), (0, 7, 22, 18)] :: ((wsL_join_r1 ++ (wsL_join_r2 ++ wsL_join_r3)) ++ wsX00 ++ (vx_atS RX0 68 "java/lang/IllegalStateException" ["java/lang/RuntimeException", "java/lang/Exception"]).filter goodWord ++ (vx_atS RX0 218 "java/lang/IndexOutOfBoundsException" ["java/lang/RuntimeException", "java/lang/Exception"]).filter goodWord ++ (vx_atS RX0 231 "java/lang/IllegalArgumentException" ["java/lang/RuntimeException", "java/lang/Exception"]).filter goodWord)
def wsL_change_r1 : List Cond := [Cond.classLink RL 14 "java/lang/IndexOutOfBoundsException", Cond.classLink RL 16 "java/lang/IllegalArgumentException", Cond.classLink RL 18 "java/lang/IllegalStateException", Cond.methodLink RL 20 yX0_change, Cond.instanceMethod yX0_change, Cond.selects RX0 yX0_change yX0_change, Cond.initialized RX0, Cond.code yX0_change cX0_change 4 (some .int), Cond.methodLink RX0 53 yX0_checkKey, Cond.static yX0_checkKey, Cond.code yX0_checkKey cX0_checkKey 1 none, Cond.classLink RX0 214 "java/lang/IndexOutOfBoundsException", Cond.initialized "java/lang/IndexOutOfBoundsException", Cond.methodLink RX0 205 yX0_isKey, Cond.static yX0_isKey, Cond.code yX0_isKey cX0_isKey 1 (some .boolean), Cond.methodLink RX0 57 yX0_checkAddress, Cond.static yX0_checkAddress, Cond.code yX0_checkAddress cX0_checkAddress 1 none, Cond.classLink RX0 227 "java/lang/IllegalArgumentException", Cond.initialized "java/lang/IllegalArgumentException", Cond.methodLink RX0 80 yX0_checkMember, Cond.instanceMethod yX0_checkMember, Cond.selects RX0 yX0_checkMember yX0_checkMember]
def wsL_change_r2 : List Cond := [Cond.code yX0_checkMember cX0_checkMember 2 none, Cond.classLink RX0 64 "java/lang/IllegalStateException", Cond.initialized "java/lang/IllegalStateException", Cond.methodLink RX0 60 yX0_isMember, Cond.instanceMethod yX0_isMember, Cond.selects RX0 yX0_isMember yX0_isMember, Cond.code yX0_isMember cX0_isMember 2 (some .boolean), Cond.methodLink RX0 83 yX0_read, Cond.instanceMethod yX0_read, Cond.selects RX0 yX0_read yX0_read, Cond.code yX0_read cX0_read 2 (some .int), Cond.methodLink RX0 93 yX0_rangeHolding, Cond.instanceMethod yX0_rangeHolding, Cond.selects RX0 yX0_rangeHolding yX0_rangeHolding, Cond.code yX0_rangeHolding cX0_rangeHolding 4 (some .int), Cond.fieldLink RX0 49 "ShardBallots" "rangeCount" "I", Cond.methodLink RX0 96 yX0_lastKeyOf, Cond.instanceMethod yX0_lastKeyOf, Cond.selects RX0 yX0_lastKeyOf yX0_lastKeyOf, Cond.code yX0_lastKeyOf cX0_lastKeyOf 2 (some .int), Cond.fieldLink RX0 13 "ShardBallots" "lastKeys" "[I", Cond.methodLink RX0 117 yX0_isRange, Cond.instanceMethod yX0_isRange, Cond.selects RX0 yX0_isRange yX0_isRange]
def wsL_change_r3 : List Cond := [Cond.code yX0_isRange cX0_isRange 2 (some .boolean), Cond.methodLink RX0 122 yX0_homeOf, Cond.instanceMethod yX0_homeOf, Cond.selects RX0 yX0_homeOf yX0_homeOf, Cond.code yX0_homeOf cX0_homeOf 2 (some .int), Cond.fieldLink RX0 16 "ShardBallots" "homes" "[I", Cond.methodLink RX0 152 yX0_rowOf, Cond.instanceMethod yX0_rowOf, Cond.selects RX0 yX0_rowOf yX0_rowOf, Cond.code yX0_rowOf cX0_rowOf 3 (some .int), Cond.fieldLink RX0 9 "ShardBallots" "rowTable" "[I", Cond.methodLink RX0 202 yX0_isShard, Cond.static yX0_isShard, Cond.code yX0_isShard cX0_isShard 1 (some .boolean), Cond.methodLink RX0 76 yX0_write, Cond.instanceMethod yX0_write, Cond.selects RX0 yX0_write yX0_write, Cond.code yX0_write cX0_write 4 none, Cond.methodLink RX0 156 yX0_putRow, Cond.instanceMethod yX0_putRow, Cond.selects RX0 yX0_putRow yX0_putRow, Cond.code yX0_putRow cX0_putRow 4 none, Cond.methodLink RX0 208 yX0_targetOf, Cond.instanceMethod yX0_targetOf]
def wsL_change_r4 : List Cond := [Cond.selects RX0 yX0_targetOf yX0_targetOf, Cond.code yX0_targetOf cX0_targetOf 2 (some .int), Cond.fieldLink RX0 19 "ShardBallots" "targets" "[I"]
def wsL_change : List Cond := .codeWith yL_change cL_change 5 (some .int) [(0, 7, 10, 14), (0, 7, 16, 16), (0, 7, 22, 18)] :: ((wsL_change_r1 ++ (wsL_change_r2 ++ (wsL_change_r3 ++ wsL_change_r4))) ++ wsX00 ++ (vx_atS RX0 218 "java/lang/IndexOutOfBoundsException" ["java/lang/RuntimeException", "java/lang/Exception"]).filter goodWord ++ (vx_atS RX0 231 "java/lang/IllegalArgumentException" ["java/lang/RuntimeException", "java/lang/Exception"]).filter goodWord ++ (vx_atS RX0 68 "java/lang/IllegalStateException" ["java/lang/RuntimeException", "java/lang/Exception"]).filter goodWord)
def wsL_leave_r1 : List Cond := [Cond.classLink RL 14 "java/lang/IndexOutOfBoundsException", Cond.classLink RL 18 "java/lang/IllegalStateException", Cond.methodLink RL 23 yX0_leave, Cond.instanceMethod yX0_leave, Cond.selects RX0 yX0_leave yX0_leave, Cond.initialized RX0, Cond.code yX0_leave cX0_leave 3 (some .int), Cond.fieldLink RX0 71 "ShardBallots" "memberCount" "I", Cond.methodLink RX0 53 yX0_checkKey, Cond.static yX0_checkKey, Cond.code yX0_checkKey cX0_checkKey 1 none, Cond.classLink RX0 214 "java/lang/IndexOutOfBoundsException", Cond.initialized "java/lang/IndexOutOfBoundsException", Cond.methodLink RX0 205 yX0_isKey, Cond.static yX0_isKey, Cond.code yX0_isKey cX0_isKey 1 (some .boolean), Cond.methodLink RX0 80 yX0_checkMember, Cond.instanceMethod yX0_checkMember, Cond.selects RX0 yX0_checkMember yX0_checkMember, Cond.code yX0_checkMember cX0_checkMember 2 none, Cond.classLink RX0 64 "java/lang/IllegalStateException", Cond.initialized "java/lang/IllegalStateException", Cond.methodLink RX0 60 yX0_isMember, Cond.instanceMethod yX0_isMember]
def wsL_leave_r2 : List Cond := [Cond.selects RX0 yX0_isMember yX0_isMember, Cond.code yX0_isMember cX0_isMember 2 (some .boolean), Cond.methodLink RX0 83 yX0_read, Cond.instanceMethod yX0_read, Cond.selects RX0 yX0_read yX0_read, Cond.code yX0_read cX0_read 2 (some .int), Cond.methodLink RX0 93 yX0_rangeHolding, Cond.instanceMethod yX0_rangeHolding, Cond.selects RX0 yX0_rangeHolding yX0_rangeHolding, Cond.code yX0_rangeHolding cX0_rangeHolding 4 (some .int), Cond.fieldLink RX0 49 "ShardBallots" "rangeCount" "I", Cond.methodLink RX0 96 yX0_lastKeyOf, Cond.instanceMethod yX0_lastKeyOf, Cond.selects RX0 yX0_lastKeyOf yX0_lastKeyOf, Cond.code yX0_lastKeyOf cX0_lastKeyOf 2 (some .int), Cond.fieldLink RX0 13 "ShardBallots" "lastKeys" "[I", Cond.methodLink RX0 117 yX0_isRange, Cond.instanceMethod yX0_isRange, Cond.selects RX0 yX0_isRange yX0_isRange, Cond.code yX0_isRange cX0_isRange 2 (some .boolean), Cond.methodLink RX0 122 yX0_homeOf, Cond.instanceMethod yX0_homeOf, Cond.selects RX0 yX0_homeOf yX0_homeOf, Cond.code yX0_homeOf cX0_homeOf 2 (some .int)]
def wsL_leave_r3 : List Cond := [Cond.fieldLink RX0 16 "ShardBallots" "homes" "[I", Cond.methodLink RX0 152 yX0_rowOf, Cond.instanceMethod yX0_rowOf, Cond.selects RX0 yX0_rowOf yX0_rowOf, Cond.code yX0_rowOf cX0_rowOf 3 (some .int), Cond.fieldLink RX0 9 "ShardBallots" "rowTable" "[I", Cond.methodLink RX0 202 yX0_isShard, Cond.static yX0_isShard, Cond.code yX0_isShard cX0_isShard 1 (some .boolean), Cond.methodLink RX0 76 yX0_write, Cond.instanceMethod yX0_write, Cond.selects RX0 yX0_write yX0_write, Cond.code yX0_write cX0_write 4 none, Cond.methodLink RX0 156 yX0_putRow, Cond.instanceMethod yX0_putRow, Cond.selects RX0 yX0_putRow yX0_putRow, Cond.code yX0_putRow cX0_putRow 4 none, Cond.methodLink RX0 208 yX0_targetOf, Cond.instanceMethod yX0_targetOf, Cond.selects RX0 yX0_targetOf yX0_targetOf, Cond.code yX0_targetOf cX0_targetOf 2 (some .int), Cond.fieldLink RX0 19 "ShardBallots" "targets" "[I"]
def wsL_leave : List Cond := .codeWith yL_leave cL_leave 4 (some .int) [(0, 6, 9, 14), (0, 6, 14, 18)] :: ((wsL_leave_r1 ++ (wsL_leave_r2 ++ wsL_leave_r3)) ++ wsX00 ++ (vx_atS RX0 218 "java/lang/IndexOutOfBoundsException" ["java/lang/RuntimeException", "java/lang/Exception"]).filter goodWord ++ (vx_atS RX0 68 "java/lang/IllegalStateException" ["java/lang/RuntimeException", "java/lang/Exception"]).filter goodWord)
def wsL_address_r1 : List Cond := [Cond.classLink RL 14 "java/lang/IndexOutOfBoundsException", Cond.methodLink RL 27 yX0_address, Cond.instanceMethod yX0_address, Cond.selects RX0 yX0_address yX0_address, Cond.initialized RX0, Cond.code yX0_address cX0_address 2 (some .int), Cond.methodLink RX0 53 yX0_checkKey, Cond.static yX0_checkKey, Cond.code yX0_checkKey cX0_checkKey 1 none, Cond.classLink RX0 214 "java/lang/IndexOutOfBoundsException", Cond.initialized "java/lang/IndexOutOfBoundsException", Cond.methodLink RX0 205 yX0_isKey, Cond.static yX0_isKey, Cond.code yX0_isKey cX0_isKey 1 (some .boolean), Cond.methodLink RX0 83 yX0_read, Cond.instanceMethod yX0_read, Cond.selects RX0 yX0_read yX0_read, Cond.code yX0_read cX0_read 2 (some .int), Cond.methodLink RX0 93 yX0_rangeHolding, Cond.instanceMethod yX0_rangeHolding, Cond.selects RX0 yX0_rangeHolding yX0_rangeHolding, Cond.code yX0_rangeHolding cX0_rangeHolding 4 (some .int), Cond.fieldLink RX0 49 "ShardBallots" "rangeCount" "I", Cond.methodLink RX0 96 yX0_lastKeyOf]
def wsL_address_r2 : List Cond := [Cond.instanceMethod yX0_lastKeyOf, Cond.selects RX0 yX0_lastKeyOf yX0_lastKeyOf, Cond.code yX0_lastKeyOf cX0_lastKeyOf 2 (some .int), Cond.fieldLink RX0 13 "ShardBallots" "lastKeys" "[I", Cond.methodLink RX0 117 yX0_isRange, Cond.instanceMethod yX0_isRange, Cond.selects RX0 yX0_isRange yX0_isRange, Cond.code yX0_isRange cX0_isRange 2 (some .boolean), Cond.methodLink RX0 122 yX0_homeOf, Cond.instanceMethod yX0_homeOf, Cond.selects RX0 yX0_homeOf yX0_homeOf, Cond.code yX0_homeOf cX0_homeOf 2 (some .int), Cond.fieldLink RX0 16 "ShardBallots" "homes" "[I", Cond.methodLink RX0 152 yX0_rowOf, Cond.instanceMethod yX0_rowOf, Cond.selects RX0 yX0_rowOf yX0_rowOf, Cond.code yX0_rowOf cX0_rowOf 3 (some .int), Cond.fieldLink RX0 9 "ShardBallots" "rowTable" "[I", Cond.methodLink RX0 202 yX0_isShard, Cond.static yX0_isShard, Cond.code yX0_isShard cX0_isShard 1 (some .boolean)]
def wsL_address : List Cond := .codeWith yL_address cL_address 4 (some .int) [(0, 6, 9, 14)] :: ((wsL_address_r1 ++ wsL_address_r2) ++ wsX00 ++ (vx_atS RX0 218 "java/lang/IndexOutOfBoundsException" ["java/lang/RuntimeException", "java/lang/Exception"]).filter goodWord)
def wsL_inDistrict_r1 : List Cond := [Cond.classLink RL 14 "java/lang/IndexOutOfBoundsException", Cond.methodLink RL 30 yX0_inDistrict, Cond.instanceMethod yX0_inDistrict, Cond.selects RX0 yX0_inDistrict yX0_inDistrict, Cond.initialized RX0, Cond.code yX0_inDistrict cX0_inDistrict 4 (some .int), Cond.methodLink RX0 87 yX0_checkDistrict, Cond.static yX0_checkDistrict, Cond.code yX0_checkDistrict cX0_checkDistrict 1 none, Cond.classLink RX0 214 "java/lang/IndexOutOfBoundsException", Cond.initialized "java/lang/IndexOutOfBoundsException", Cond.methodLink RX0 83 yX0_read, Cond.instanceMethod yX0_read, Cond.selects RX0 yX0_read yX0_read, Cond.code yX0_read cX0_read 2 (some .int), Cond.methodLink RX0 93 yX0_rangeHolding, Cond.instanceMethod yX0_rangeHolding, Cond.selects RX0 yX0_rangeHolding yX0_rangeHolding, Cond.code yX0_rangeHolding cX0_rangeHolding 4 (some .int), Cond.fieldLink RX0 49 "ShardBallots" "rangeCount" "I", Cond.methodLink RX0 96 yX0_lastKeyOf, Cond.instanceMethod yX0_lastKeyOf, Cond.selects RX0 yX0_lastKeyOf yX0_lastKeyOf, Cond.code yX0_lastKeyOf cX0_lastKeyOf 2 (some .int)]
def wsL_inDistrict_r2 : List Cond := [Cond.fieldLink RX0 13 "ShardBallots" "lastKeys" "[I", Cond.methodLink RX0 117 yX0_isRange, Cond.instanceMethod yX0_isRange, Cond.selects RX0 yX0_isRange yX0_isRange, Cond.code yX0_isRange cX0_isRange 2 (some .boolean), Cond.methodLink RX0 122 yX0_homeOf, Cond.instanceMethod yX0_homeOf, Cond.selects RX0 yX0_homeOf yX0_homeOf, Cond.code yX0_homeOf cX0_homeOf 2 (some .int), Cond.fieldLink RX0 16 "ShardBallots" "homes" "[I", Cond.methodLink RX0 152 yX0_rowOf, Cond.instanceMethod yX0_rowOf, Cond.selects RX0 yX0_rowOf yX0_rowOf, Cond.code yX0_rowOf cX0_rowOf 3 (some .int), Cond.fieldLink RX0 9 "ShardBallots" "rowTable" "[I", Cond.methodLink RX0 202 yX0_isShard, Cond.static yX0_isShard, Cond.code yX0_isShard cX0_isShard 1 (some .boolean), Cond.methodLink RX0 205 yX0_isKey, Cond.static yX0_isKey, Cond.code yX0_isKey cX0_isKey 1 (some .boolean), Cond.methodLink RX0 90 yX0_districtOf, Cond.static yX0_districtOf, Cond.code yX0_districtOf cX0_districtOf 1 (some .int)]
def wsL_inDistrict : List Cond := .codeWith yL_inDistrict cL_inDistrict 4 (some .int) [(0, 6, 9, 14)] :: ((wsL_inDistrict_r1 ++ wsL_inDistrict_r2) ++ wsX00 ++ (vx_atS RX0 218 "java/lang/IndexOutOfBoundsException" ["java/lang/RuntimeException", "java/lang/Exception"]).filter goodWord)
def wsL_split_r1 : List Cond := [Cond.classLink RL 14 "java/lang/IndexOutOfBoundsException", Cond.classLink RL 18 "java/lang/IllegalStateException", Cond.methodLink RL 33 yX0_split, Cond.instanceMethod yX0_split, Cond.selects RX0 yX0_split yX0_split, Cond.initialized RX0, Cond.code yX0_split cX0_split 3 (some .int), Cond.classLink RX0 64 "java/lang/IllegalStateException", Cond.initialized "java/lang/IllegalStateException", Cond.fieldLink RX0 49 "ShardBallots" "rangeCount" "I", Cond.methodLink RX0 53 yX0_checkKey, Cond.static yX0_checkKey, Cond.code yX0_checkKey cX0_checkKey 1 none, Cond.classLink RX0 214 "java/lang/IndexOutOfBoundsException", Cond.initialized "java/lang/IndexOutOfBoundsException", Cond.methodLink RX0 205 yX0_isKey, Cond.static yX0_isKey, Cond.code yX0_isKey cX0_isKey 1 (some .boolean), Cond.methodLink RX0 93 yX0_rangeHolding, Cond.instanceMethod yX0_rangeHolding, Cond.selects RX0 yX0_rangeHolding yX0_rangeHolding, Cond.code yX0_rangeHolding cX0_rangeHolding 4 (some .int), Cond.methodLink RX0 96 yX0_lastKeyOf, Cond.instanceMethod yX0_lastKeyOf]
def wsL_split_r2 : List Cond := [Cond.selects RX0 yX0_lastKeyOf yX0_lastKeyOf, Cond.code yX0_lastKeyOf cX0_lastKeyOf 2 (some .int), Cond.fieldLink RX0 13 "ShardBallots" "lastKeys" "[I", Cond.methodLink RX0 117 yX0_isRange, Cond.instanceMethod yX0_isRange, Cond.selects RX0 yX0_isRange yX0_isRange, Cond.code yX0_isRange cX0_isRange 2 (some .boolean), Cond.methodLink RX0 101 yX0_isMoved, Cond.instanceMethod yX0_isMoved, Cond.selects RX0 yX0_isMoved yX0_isMoved, Cond.code yX0_isMoved cX0_isMoved 2 (some .boolean), Cond.methodLink RX0 208 yX0_targetOf, Cond.instanceMethod yX0_targetOf, Cond.selects RX0 yX0_targetOf yX0_targetOf, Cond.code yX0_targetOf cX0_targetOf 2 (some .int), Cond.fieldLink RX0 19 "ShardBallots" "targets" "[I", Cond.methodLink RX0 108 yX0_insertCopyBehind, Cond.instanceMethod yX0_insertCopyBehind, Cond.selects RX0 yX0_insertCopyBehind yX0_insertCopyBehind, Cond.code yX0_insertCopyBehind cX0_insertCopyBehind 3 none, Cond.methodLink RX0 211 yX0_copyRange, Cond.instanceMethod yX0_copyRange, Cond.selects RX0 yX0_copyRange yX0_copyRange, Cond.code yX0_copyRange cX0_copyRange 3 none]
def wsL_split_r3 : List Cond := [Cond.fieldLink RX0 16 "ShardBallots" "homes" "[I", Cond.methodLink RX0 111 yX0_putLastKey, Cond.instanceMethod yX0_putLastKey, Cond.selects RX0 yX0_putLastKey yX0_putLastKey, Cond.code yX0_putLastKey cX0_putLastKey 3 none]
def wsL_split : List Cond := .codeWith yL_split cL_split 4 (some .int) [(0, 6, 9, 14), (0, 6, 14, 18)] :: ((wsL_split_r1 ++ (wsL_split_r2 ++ wsL_split_r3)) ++ wsX00 ++ (vx_atS RX0 68 "java/lang/IllegalStateException" ["java/lang/RuntimeException", "java/lang/Exception"]).filter goodWord ++ (vx_atS RX0 218 "java/lang/IndexOutOfBoundsException" ["java/lang/RuntimeException", "java/lang/Exception"]).filter goodWord)
def wsL_merge_r1 : List Cond := [Cond.classLink RL 14 "java/lang/IndexOutOfBoundsException", Cond.classLink RL 18 "java/lang/IllegalStateException", Cond.methodLink RL 36 yX0_merge, Cond.instanceMethod yX0_merge, Cond.selects RX0 yX0_merge yX0_merge, Cond.initialized RX0, Cond.code yX0_merge cX0_merge 3 (some .int), Cond.classLink RX0 64 "java/lang/IllegalStateException", Cond.initialized "java/lang/IllegalStateException", Cond.fieldLink RX0 49 "ShardBallots" "rangeCount" "I", Cond.methodLink RX0 114 yX0_checkRange, Cond.instanceMethod yX0_checkRange, Cond.selects RX0 yX0_checkRange yX0_checkRange, Cond.code yX0_checkRange cX0_checkRange 2 none, Cond.classLink RX0 214 "java/lang/IndexOutOfBoundsException", Cond.initialized "java/lang/IndexOutOfBoundsException", Cond.methodLink RX0 117 yX0_isRange, Cond.instanceMethod yX0_isRange, Cond.selects RX0 yX0_isRange yX0_isRange, Cond.code yX0_isRange cX0_isRange 2 (some .boolean), Cond.methodLink RX0 122 yX0_homeOf, Cond.instanceMethod yX0_homeOf, Cond.selects RX0 yX0_homeOf yX0_homeOf, Cond.code yX0_homeOf cX0_homeOf 2 (some .int)]
def wsL_merge_r2 : List Cond := [Cond.fieldLink RX0 16 "ShardBallots" "homes" "[I", Cond.methodLink RX0 101 yX0_isMoved, Cond.instanceMethod yX0_isMoved, Cond.selects RX0 yX0_isMoved yX0_isMoved, Cond.code yX0_isMoved cX0_isMoved 2 (some .boolean), Cond.methodLink RX0 208 yX0_targetOf, Cond.instanceMethod yX0_targetOf, Cond.selects RX0 yX0_targetOf yX0_targetOf, Cond.code yX0_targetOf cX0_targetOf 2 (some .int), Cond.fieldLink RX0 19 "ShardBallots" "targets" "[I", Cond.methodLink RX0 129 yX0_remove, Cond.instanceMethod yX0_remove, Cond.selects RX0 yX0_remove yX0_remove, Cond.code yX0_remove cX0_remove 3 none, Cond.methodLink RX0 211 yX0_copyRange, Cond.instanceMethod yX0_copyRange, Cond.selects RX0 yX0_copyRange yX0_copyRange, Cond.code yX0_copyRange cX0_copyRange 3 none, Cond.fieldLink RX0 13 "ShardBallots" "lastKeys" "[I"]
def wsL_merge : List Cond := .codeWith yL_merge cL_merge 4 (some .int) [(0, 6, 9, 14), (0, 6, 14, 18)] :: ((wsL_merge_r1 ++ wsL_merge_r2) ++ wsX00 ++ (vx_atS RX0 68 "java/lang/IllegalStateException" ["java/lang/RuntimeException", "java/lang/Exception"]).filter goodWord ++ (vx_atS RX0 218 "java/lang/IndexOutOfBoundsException" ["java/lang/RuntimeException", "java/lang/Exception"]).filter goodWord)
def wsL_move_r1 : List Cond := [Cond.classLink RL 14 "java/lang/IndexOutOfBoundsException", Cond.classLink RL 18 "java/lang/IllegalStateException", Cond.methodLink RL 39 yX0_move, Cond.instanceMethod yX0_move, Cond.selects RX0 yX0_move yX0_move, Cond.initialized RX0, Cond.code yX0_move cX0_move 3 (some .int), Cond.classLink RX0 64 "java/lang/IllegalStateException", Cond.initialized "java/lang/IllegalStateException", Cond.fieldLink RX0 16 "ShardBallots" "homes" "[I", Cond.fieldLink RX0 19 "ShardBallots" "targets" "[I", Cond.methodLink RX0 114 yX0_checkRange, Cond.instanceMethod yX0_checkRange, Cond.selects RX0 yX0_checkRange yX0_checkRange, Cond.code yX0_checkRange cX0_checkRange 2 none, Cond.classLink RX0 214 "java/lang/IndexOutOfBoundsException", Cond.initialized "java/lang/IndexOutOfBoundsException", Cond.methodLink RX0 117 yX0_isRange, Cond.instanceMethod yX0_isRange, Cond.selects RX0 yX0_isRange yX0_isRange, Cond.code yX0_isRange cX0_isRange 2 (some .boolean), Cond.fieldLink RX0 49 "ShardBallots" "rangeCount" "I", Cond.methodLink RX0 132 yX0_checkShard, Cond.static yX0_checkShard]
def wsL_move_r2 : List Cond := [Cond.code yX0_checkShard cX0_checkShard 1 none, Cond.methodLink RX0 202 yX0_isShard, Cond.static yX0_isShard, Cond.code yX0_isShard cX0_isShard 1 (some .boolean), Cond.methodLink RX0 101 yX0_isMoved, Cond.instanceMethod yX0_isMoved, Cond.selects RX0 yX0_isMoved yX0_isMoved, Cond.code yX0_isMoved cX0_isMoved 2 (some .boolean), Cond.methodLink RX0 208 yX0_targetOf, Cond.instanceMethod yX0_targetOf, Cond.selects RX0 yX0_targetOf yX0_targetOf, Cond.code yX0_targetOf cX0_targetOf 2 (some .int), Cond.methodLink RX0 139 yX0_firstKeyOf, Cond.instanceMethod yX0_firstKeyOf, Cond.selects RX0 yX0_firstKeyOf yX0_firstKeyOf, Cond.code yX0_firstKeyOf cX0_firstKeyOf 2 (some .int), Cond.methodLink RX0 96 yX0_lastKeyOf, Cond.instanceMethod yX0_lastKeyOf, Cond.selects RX0 yX0_lastKeyOf yX0_lastKeyOf, Cond.code yX0_lastKeyOf cX0_lastKeyOf 2 (some .int), Cond.fieldLink RX0 13 "ShardBallots" "lastKeys" "[I", Cond.methodLink RX0 142 yX0_countRows, Cond.instanceMethod yX0_countRows, Cond.selects RX0 yX0_countRows yX0_countRows]
def wsL_move_r3 : List Cond := [Cond.code yX0_countRows cX0_countRows 6 (some .int), Cond.methodLink RX0 152 yX0_rowOf, Cond.instanceMethod yX0_rowOf, Cond.selects RX0 yX0_rowOf yX0_rowOf, Cond.code yX0_rowOf cX0_rowOf 3 (some .int), Cond.fieldLink RX0 9 "ShardBallots" "rowTable" "[I", Cond.methodLink RX0 205 yX0_isKey, Cond.static yX0_isKey, Cond.code yX0_isKey cX0_isKey 1 (some .boolean)]
def wsL_move : List Cond := .codeWith yL_move cL_move 5 (some .int) [(0, 7, 10, 14), (0, 7, 16, 18)] :: ((wsL_move_r1 ++ (wsL_move_r2 ++ wsL_move_r3)) ++ wsX00 ++ (vx_atS RX0 68 "java/lang/IllegalStateException" ["java/lang/RuntimeException", "java/lang/Exception"]).filter goodWord ++ (vx_atS RX0 218 "java/lang/IndexOutOfBoundsException" ["java/lang/RuntimeException", "java/lang/Exception"]).filter goodWord)
def wsL_step_r1 : List Cond := [Cond.classLink RL 14 "java/lang/IndexOutOfBoundsException", Cond.classLink RL 18 "java/lang/IllegalStateException", Cond.methodLink RL 42 yX0_step, Cond.instanceMethod yX0_step, Cond.selects RX0 yX0_step yX0_step, Cond.initialized RX0, Cond.code yX0_step cX0_step 5 (some .int), Cond.fieldLink RX0 16 "ShardBallots" "homes" "[I", Cond.fieldLink RX0 19 "ShardBallots" "targets" "[I", Cond.methodLink RX0 114 yX0_checkRange, Cond.instanceMethod yX0_checkRange, Cond.selects RX0 yX0_checkRange yX0_checkRange, Cond.code yX0_checkRange cX0_checkRange 2 none, Cond.classLink RX0 214 "java/lang/IndexOutOfBoundsException", Cond.initialized "java/lang/IndexOutOfBoundsException", Cond.methodLink RX0 117 yX0_isRange, Cond.instanceMethod yX0_isRange, Cond.selects RX0 yX0_isRange yX0_isRange, Cond.code yX0_isRange cX0_isRange 2 (some .boolean), Cond.fieldLink RX0 49 "ShardBallots" "rangeCount" "I", Cond.methodLink RX0 146 yX0_checkMoved, Cond.instanceMethod yX0_checkMoved, Cond.selects RX0 yX0_checkMoved yX0_checkMoved, Cond.code yX0_checkMoved cX0_checkMoved 2 none]
def wsL_step_r2 : List Cond := [Cond.classLink RX0 64 "java/lang/IllegalStateException", Cond.initialized "java/lang/IllegalStateException", Cond.methodLink RX0 101 yX0_isMoved, Cond.instanceMethod yX0_isMoved, Cond.selects RX0 yX0_isMoved yX0_isMoved, Cond.code yX0_isMoved cX0_isMoved 2 (some .boolean), Cond.methodLink RX0 208 yX0_targetOf, Cond.instanceMethod yX0_targetOf, Cond.selects RX0 yX0_targetOf yX0_targetOf, Cond.code yX0_targetOf cX0_targetOf 2 (some .int), Cond.methodLink RX0 149 yX0_lowestKeyNotBrought, Cond.instanceMethod yX0_lowestKeyNotBrought, Cond.selects RX0 yX0_lowestKeyNotBrought yX0_lowestKeyNotBrought, Cond.code yX0_lowestKeyNotBrought cX0_lowestKeyNotBrought 6 (some .int), Cond.methodLink RX0 122 yX0_homeOf, Cond.instanceMethod yX0_homeOf, Cond.selects RX0 yX0_homeOf yX0_homeOf, Cond.code yX0_homeOf cX0_homeOf 2 (some .int), Cond.methodLink RX0 96 yX0_lastKeyOf, Cond.instanceMethod yX0_lastKeyOf, Cond.selects RX0 yX0_lastKeyOf yX0_lastKeyOf, Cond.code yX0_lastKeyOf cX0_lastKeyOf 2 (some .int), Cond.fieldLink RX0 13 "ShardBallots" "lastKeys" "[I", Cond.methodLink RX0 139 yX0_firstKeyOf]
def wsL_step_r3 : List Cond := [Cond.instanceMethod yX0_firstKeyOf, Cond.selects RX0 yX0_firstKeyOf yX0_firstKeyOf, Cond.code yX0_firstKeyOf cX0_firstKeyOf 2 (some .int), Cond.methodLink RX0 152 yX0_rowOf, Cond.instanceMethod yX0_rowOf, Cond.selects RX0 yX0_rowOf yX0_rowOf, Cond.code yX0_rowOf cX0_rowOf 3 (some .int), Cond.fieldLink RX0 9 "ShardBallots" "rowTable" "[I", Cond.methodLink RX0 202 yX0_isShard, Cond.static yX0_isShard, Cond.code yX0_isShard cX0_isShard 1 (some .boolean), Cond.methodLink RX0 205 yX0_isKey, Cond.static yX0_isKey, Cond.code yX0_isKey cX0_isKey 1 (some .boolean), Cond.methodLink RX0 156 yX0_putRow, Cond.instanceMethod yX0_putRow, Cond.selects RX0 yX0_putRow yX0_putRow, Cond.code yX0_putRow cX0_putRow 4 none, Cond.methodLink RX0 160 yX0_dropRows, Cond.instanceMethod yX0_dropRows, Cond.selects RX0 yX0_dropRows yX0_dropRows, Cond.code yX0_dropRows cX0_dropRows 5 none]
def wsL_step : List Cond := .codeWith yL_step cL_step 4 (some .int) [(0, 6, 9, 14), (0, 6, 14, 18)] :: ((wsL_step_r1 ++ (wsL_step_r2 ++ wsL_step_r3)) ++ wsX00 ++ (vx_atS RX0 218 "java/lang/IndexOutOfBoundsException" ["java/lang/RuntimeException", "java/lang/Exception"]).filter goodWord ++ (vx_atS RX0 68 "java/lang/IllegalStateException" ["java/lang/RuntimeException", "java/lang/Exception"]).filter goodWord)
def wsL_giveUp_r1 : List Cond := [Cond.classLink RL 14 "java/lang/IndexOutOfBoundsException", Cond.classLink RL 18 "java/lang/IllegalStateException", Cond.methodLink RL 45 yX0_giveUp, Cond.instanceMethod yX0_giveUp, Cond.selects RX0 yX0_giveUp yX0_giveUp, Cond.initialized RX0, Cond.code yX0_giveUp cX0_giveUp 4 (some .int), Cond.fieldLink RX0 19 "ShardBallots" "targets" "[I", Cond.methodLink RX0 114 yX0_checkRange, Cond.instanceMethod yX0_checkRange, Cond.selects RX0 yX0_checkRange yX0_checkRange, Cond.code yX0_checkRange cX0_checkRange 2 none, Cond.classLink RX0 214 "java/lang/IndexOutOfBoundsException", Cond.initialized "java/lang/IndexOutOfBoundsException", Cond.methodLink RX0 117 yX0_isRange, Cond.instanceMethod yX0_isRange, Cond.selects RX0 yX0_isRange yX0_isRange, Cond.code yX0_isRange cX0_isRange 2 (some .boolean), Cond.fieldLink RX0 49 "ShardBallots" "rangeCount" "I", Cond.methodLink RX0 146 yX0_checkMoved, Cond.instanceMethod yX0_checkMoved, Cond.selects RX0 yX0_checkMoved yX0_checkMoved, Cond.code yX0_checkMoved cX0_checkMoved 2 none, Cond.classLink RX0 64 "java/lang/IllegalStateException"]
def wsL_giveUp_r2 : List Cond := [Cond.initialized "java/lang/IllegalStateException", Cond.methodLink RX0 101 yX0_isMoved, Cond.instanceMethod yX0_isMoved, Cond.selects RX0 yX0_isMoved yX0_isMoved, Cond.code yX0_isMoved cX0_isMoved 2 (some .boolean), Cond.methodLink RX0 208 yX0_targetOf, Cond.instanceMethod yX0_targetOf, Cond.selects RX0 yX0_targetOf yX0_targetOf, Cond.code yX0_targetOf cX0_targetOf 2 (some .int), Cond.methodLink RX0 139 yX0_firstKeyOf, Cond.instanceMethod yX0_firstKeyOf, Cond.selects RX0 yX0_firstKeyOf yX0_firstKeyOf, Cond.code yX0_firstKeyOf cX0_firstKeyOf 2 (some .int), Cond.methodLink RX0 96 yX0_lastKeyOf, Cond.instanceMethod yX0_lastKeyOf, Cond.selects RX0 yX0_lastKeyOf yX0_lastKeyOf, Cond.code yX0_lastKeyOf cX0_lastKeyOf 2 (some .int), Cond.fieldLink RX0 13 "ShardBallots" "lastKeys" "[I", Cond.methodLink RX0 142 yX0_countRows, Cond.instanceMethod yX0_countRows, Cond.selects RX0 yX0_countRows yX0_countRows, Cond.code yX0_countRows cX0_countRows 6 (some .int), Cond.methodLink RX0 152 yX0_rowOf, Cond.instanceMethod yX0_rowOf]
def wsL_giveUp_r3 : List Cond := [Cond.selects RX0 yX0_rowOf yX0_rowOf, Cond.code yX0_rowOf cX0_rowOf 3 (some .int), Cond.fieldLink RX0 9 "ShardBallots" "rowTable" "[I", Cond.methodLink RX0 202 yX0_isShard, Cond.static yX0_isShard, Cond.code yX0_isShard cX0_isShard 1 (some .boolean), Cond.methodLink RX0 205 yX0_isKey, Cond.static yX0_isKey, Cond.code yX0_isKey cX0_isKey 1 (some .boolean), Cond.methodLink RX0 160 yX0_dropRows, Cond.instanceMethod yX0_dropRows, Cond.selects RX0 yX0_dropRows yX0_dropRows, Cond.code yX0_dropRows cX0_dropRows 5 none, Cond.methodLink RX0 156 yX0_putRow, Cond.instanceMethod yX0_putRow, Cond.selects RX0 yX0_putRow yX0_putRow, Cond.code yX0_putRow cX0_putRow 4 none]
def wsL_giveUp : List Cond := .codeWith yL_giveUp cL_giveUp 4 (some .int) [(0, 6, 9, 14), (0, 6, 14, 18)] :: ((wsL_giveUp_r1 ++ (wsL_giveUp_r2 ++ wsL_giveUp_r3)) ++ wsX00 ++ (vx_atS RX0 218 "java/lang/IndexOutOfBoundsException" ["java/lang/RuntimeException", "java/lang/Exception"]).filter goodWord ++ (vx_atS RX0 68 "java/lang/IllegalStateException" ["java/lang/RuntimeException", "java/lang/Exception"]).filter goodWord)
def wsL_rangeOf_r1 : List Cond := [Cond.classLink RL 14 "java/lang/IndexOutOfBoundsException", Cond.methodLink RL 48 yX0_rangeOf, Cond.instanceMethod yX0_rangeOf, Cond.selects RX0 yX0_rangeOf yX0_rangeOf, Cond.initialized RX0, Cond.code yX0_rangeOf cX0_rangeOf 2 (some .int), Cond.methodLink RX0 53 yX0_checkKey, Cond.static yX0_checkKey, Cond.code yX0_checkKey cX0_checkKey 1 none, Cond.classLink RX0 214 "java/lang/IndexOutOfBoundsException", Cond.initialized "java/lang/IndexOutOfBoundsException", Cond.methodLink RX0 205 yX0_isKey, Cond.static yX0_isKey, Cond.code yX0_isKey cX0_isKey 1 (some .boolean), Cond.methodLink RX0 93 yX0_rangeHolding, Cond.instanceMethod yX0_rangeHolding, Cond.selects RX0 yX0_rangeHolding yX0_rangeHolding, Cond.code yX0_rangeHolding cX0_rangeHolding 4 (some .int), Cond.fieldLink RX0 49 "ShardBallots" "rangeCount" "I", Cond.methodLink RX0 96 yX0_lastKeyOf, Cond.instanceMethod yX0_lastKeyOf, Cond.selects RX0 yX0_lastKeyOf yX0_lastKeyOf, Cond.code yX0_lastKeyOf cX0_lastKeyOf 2 (some .int), Cond.fieldLink RX0 13 "ShardBallots" "lastKeys" "[I"]
def wsL_rangeOf_r2 : List Cond := [Cond.methodLink RX0 117 yX0_isRange, Cond.instanceMethod yX0_isRange, Cond.selects RX0 yX0_isRange yX0_isRange, Cond.code yX0_isRange cX0_isRange 2 (some .boolean)]
def wsL_rangeOf : List Cond := .codeWith yL_rangeOf cL_rangeOf 4 (some .int) [(0, 6, 9, 14)] :: ((wsL_rangeOf_r1 ++ wsL_rangeOf_r2) ++ wsX00 ++ (vx_atS RX0 218 "java/lang/IndexOutOfBoundsException" ["java/lang/RuntimeException", "java/lang/Exception"]).filter goodWord)
def wsL_shardOf : List Cond := .codeWith yL_shardOf cL_shardOf 4 (some .int) [(0, 6, 9, 14)] :: ([.classLink RL 14 "java/lang/IndexOutOfBoundsException", .methodLink RL 51 yX0_shardOf, .instanceMethod yX0_shardOf, .selects RX0 yX0_shardOf yX0_shardOf, .initialized RX0, .code yX0_shardOf cX0_shardOf 2 (some .int), .fieldLink RX0 16 "ShardBallots" "homes" "[I", .methodLink RX0 114 yX0_checkRange, .instanceMethod yX0_checkRange, .selects RX0 yX0_checkRange yX0_checkRange, .code yX0_checkRange cX0_checkRange 2 none, .classLink RX0 214 "java/lang/IndexOutOfBoundsException", .initialized "java/lang/IndexOutOfBoundsException", .methodLink RX0 117 yX0_isRange, .instanceMethod yX0_isRange, .selects RX0 yX0_isRange yX0_isRange, .code yX0_isRange cX0_isRange 2 (some .boolean), .fieldLink RX0 49 "ShardBallots" "rangeCount" "I"] ++ wsX00 ++ (vx_atS RX0 218 "java/lang/IndexOutOfBoundsException" ["java/lang/RuntimeException", "java/lang/Exception"]).filter goodWord)
def wsL_rows_r1 : List Cond := [Cond.classLink RL 14 "java/lang/IndexOutOfBoundsException", Cond.methodLink RL 54 yX0_rows, Cond.instanceMethod yX0_rows, Cond.selects RX0 yX0_rows yX0_rows, Cond.initialized RX0, Cond.code yX0_rows cX0_rows 2 (some .int), Cond.methodLink RX0 132 yX0_checkShard, Cond.static yX0_checkShard, Cond.code yX0_checkShard cX0_checkShard 1 none, Cond.classLink RX0 214 "java/lang/IndexOutOfBoundsException", Cond.initialized "java/lang/IndexOutOfBoundsException", Cond.methodLink RX0 202 yX0_isShard, Cond.static yX0_isShard, Cond.code yX0_isShard cX0_isShard 1 (some .boolean), Cond.methodLink RX0 142 yX0_countRows, Cond.instanceMethod yX0_countRows, Cond.selects RX0 yX0_countRows yX0_countRows, Cond.code yX0_countRows cX0_countRows 6 (some .int), Cond.methodLink RX0 152 yX0_rowOf, Cond.instanceMethod yX0_rowOf, Cond.selects RX0 yX0_rowOf yX0_rowOf, Cond.code yX0_rowOf cX0_rowOf 3 (some .int), Cond.fieldLink RX0 9 "ShardBallots" "rowTable" "[I", Cond.methodLink RX0 205 yX0_isKey]
def wsL_rows_r2 : List Cond := [Cond.static yX0_isKey, Cond.code yX0_isKey cX0_isKey 1 (some .boolean)]
def wsL_rows : List Cond := .codeWith yL_rows cL_rows 4 (some .int) [(0, 6, 9, 14)] :: ((wsL_rows_r1 ++ wsL_rows_r2) ++ wsX00 ++ (vx_atS RX0 218 "java/lang/IndexOutOfBoundsException" ["java/lang/RuntimeException", "java/lang/Exception"]).filter goodWord)
def wsL_fix_r1 : List Cond := [Cond.classLink RL 18 "java/lang/IllegalStateException", Cond.methodLink RL 57 yX0_fix, Cond.instanceMethod yX0_fix, Cond.selects RX0 yX0_fix yX0_fix, Cond.initialized RX0, Cond.code yX0_fix cX0_fix 2 (some .int), Cond.classLink RX0 64 "java/lang/IllegalStateException", Cond.initialized "java/lang/IllegalStateException", Cond.fieldLink RX0 163 "ShardBallots" "rollLaid" "Z", Cond.fieldLink RX0 22 "ShardBallots" "roll" "[I", Cond.fieldLink RX0 169 "ShardBallots" "voteNumber" "I", Cond.fieldLink RX0 71 "ShardBallots" "memberCount" "I", Cond.methodLink RX0 83 yX0_read, Cond.instanceMethod yX0_read, Cond.selects RX0 yX0_read yX0_read, Cond.code yX0_read cX0_read 2 (some .int), Cond.methodLink RX0 93 yX0_rangeHolding, Cond.instanceMethod yX0_rangeHolding, Cond.selects RX0 yX0_rangeHolding yX0_rangeHolding, Cond.code yX0_rangeHolding cX0_rangeHolding 4 (some .int), Cond.fieldLink RX0 49 "ShardBallots" "rangeCount" "I", Cond.methodLink RX0 96 yX0_lastKeyOf, Cond.instanceMethod yX0_lastKeyOf, Cond.selects RX0 yX0_lastKeyOf yX0_lastKeyOf]
def wsL_fix_r2 : List Cond := [Cond.code yX0_lastKeyOf cX0_lastKeyOf 2 (some .int), Cond.fieldLink RX0 13 "ShardBallots" "lastKeys" "[I", Cond.methodLink RX0 117 yX0_isRange, Cond.instanceMethod yX0_isRange, Cond.selects RX0 yX0_isRange yX0_isRange, Cond.code yX0_isRange cX0_isRange 2 (some .boolean), Cond.methodLink RX0 122 yX0_homeOf, Cond.instanceMethod yX0_homeOf, Cond.selects RX0 yX0_homeOf yX0_homeOf, Cond.code yX0_homeOf cX0_homeOf 2 (some .int), Cond.fieldLink RX0 16 "ShardBallots" "homes" "[I", Cond.methodLink RX0 152 yX0_rowOf, Cond.instanceMethod yX0_rowOf, Cond.selects RX0 yX0_rowOf yX0_rowOf, Cond.code yX0_rowOf cX0_rowOf 3 (some .int), Cond.fieldLink RX0 9 "ShardBallots" "rowTable" "[I", Cond.methodLink RX0 202 yX0_isShard, Cond.static yX0_isShard, Cond.code yX0_isShard cX0_isShard 1 (some .boolean), Cond.methodLink RX0 205 yX0_isKey, Cond.static yX0_isKey, Cond.code yX0_isKey cX0_isKey 1 (some .boolean), Cond.methodLink RX0 90 yX0_districtOf, Cond.static yX0_districtOf]
def wsL_fix_r3 : List Cond := [Cond.code yX0_districtOf cX0_districtOf 1 (some .int)]
def wsL_fix : List Cond := .codeWith yL_fix cL_fix 3 (some .int) [(0, 5, 8, 18)] :: ((wsL_fix_r1 ++ (wsL_fix_r2 ++ wsL_fix_r3)) ++ wsX00 ++ (vx_atS RX0 68 "java/lang/IllegalStateException" ["java/lang/RuntimeException", "java/lang/Exception"]).filter goodWord)
def wsL_onRoll : List Cond := .codeWith yL_onRoll cL_onRoll 4 (some .int) [(0, 6, 9, 14)] :: ([.classLink RL 14 "java/lang/IndexOutOfBoundsException", .methodLink RL 61 yX0_onRoll, .instanceMethod yX0_onRoll, .selects RX0 yX0_onRoll yX0_onRoll, .initialized RX0, .code yX0_onRoll cX0_onRoll 2 (some .int), .fieldLink RX0 163 "ShardBallots" "rollLaid" "Z", .fieldLink RX0 22 "ShardBallots" "roll" "[I", .methodLink RX0 53 yX0_checkKey, .static yX0_checkKey, .code yX0_checkKey cX0_checkKey 1 none, .classLink RX0 214 "java/lang/IndexOutOfBoundsException", .initialized "java/lang/IndexOutOfBoundsException", .methodLink RX0 205 yX0_isKey, .static yX0_isKey, .code yX0_isKey cX0_isKey 1 (some .boolean)] ++ wsX00 ++ (vx_atS RX0 218 "java/lang/IndexOutOfBoundsException" ["java/lang/RuntimeException", "java/lang/Exception"]).filter goodWord)
def wsL_send_r1 : List Cond := [Cond.classLink RL 14 "java/lang/IndexOutOfBoundsException", Cond.classLink RL 18 "java/lang/IllegalStateException", Cond.methodLink RL 64 yX0_send, Cond.instanceMethod yX0_send, Cond.selects RX0 yX0_send yX0_send, Cond.initialized RX0, Cond.code yX0_send cX0_send 4 (some .int), Cond.classLink RX0 64 "java/lang/IllegalStateException", Cond.initialized "java/lang/IllegalStateException", Cond.fieldLink RX0 163 "ShardBallots" "rollLaid" "Z", Cond.fieldLink RX0 22 "ShardBallots" "roll" "[I", Cond.fieldLink RX0 37 "ShardBallots" "ballotStates" "[I", Cond.fieldLink RX0 182 "ShardBallots" "ballotCount" "I", Cond.fieldLink RX0 25 "ShardBallots" "ballotKeys" "[I", Cond.fieldLink RX0 28 "ShardBallots" "ballotVotes" "[I", Cond.fieldLink RX0 169 "ShardBallots" "voteNumber" "I", Cond.fieldLink RX0 31 "ShardBallots" "ballotAddresses" "[I", Cond.fieldLink RX0 34 "ShardBallots" "ballotDistricts" "[I", Cond.methodLink RX0 53 yX0_checkKey, Cond.static yX0_checkKey, Cond.code yX0_checkKey cX0_checkKey 1 none, Cond.classLink RX0 214 "java/lang/IndexOutOfBoundsException", Cond.initialized "java/lang/IndexOutOfBoundsException", Cond.methodLink RX0 205 yX0_isKey]
def wsL_send_r2 : List Cond := [Cond.static yX0_isKey, Cond.code yX0_isKey cX0_isKey 1 (some .boolean), Cond.methodLink RX0 80 yX0_checkMember, Cond.instanceMethod yX0_checkMember, Cond.selects RX0 yX0_checkMember yX0_checkMember, Cond.code yX0_checkMember cX0_checkMember 2 none, Cond.methodLink RX0 60 yX0_isMember, Cond.instanceMethod yX0_isMember, Cond.selects RX0 yX0_isMember yX0_isMember, Cond.code yX0_isMember cX0_isMember 2 (some .boolean), Cond.methodLink RX0 83 yX0_read, Cond.instanceMethod yX0_read, Cond.selects RX0 yX0_read yX0_read, Cond.code yX0_read cX0_read 2 (some .int), Cond.methodLink RX0 93 yX0_rangeHolding, Cond.instanceMethod yX0_rangeHolding, Cond.selects RX0 yX0_rangeHolding yX0_rangeHolding, Cond.code yX0_rangeHolding cX0_rangeHolding 4 (some .int), Cond.fieldLink RX0 49 "ShardBallots" "rangeCount" "I", Cond.methodLink RX0 96 yX0_lastKeyOf, Cond.instanceMethod yX0_lastKeyOf, Cond.selects RX0 yX0_lastKeyOf yX0_lastKeyOf, Cond.code yX0_lastKeyOf cX0_lastKeyOf 2 (some .int), Cond.fieldLink RX0 13 "ShardBallots" "lastKeys" "[I"]
def wsL_send_r3 : List Cond := [Cond.methodLink RX0 117 yX0_isRange, Cond.instanceMethod yX0_isRange, Cond.selects RX0 yX0_isRange yX0_isRange, Cond.code yX0_isRange cX0_isRange 2 (some .boolean), Cond.methodLink RX0 122 yX0_homeOf, Cond.instanceMethod yX0_homeOf, Cond.selects RX0 yX0_homeOf yX0_homeOf, Cond.code yX0_homeOf cX0_homeOf 2 (some .int), Cond.fieldLink RX0 16 "ShardBallots" "homes" "[I", Cond.methodLink RX0 152 yX0_rowOf, Cond.instanceMethod yX0_rowOf, Cond.selects RX0 yX0_rowOf yX0_rowOf, Cond.code yX0_rowOf cX0_rowOf 3 (some .int), Cond.fieldLink RX0 9 "ShardBallots" "rowTable" "[I", Cond.methodLink RX0 202 yX0_isShard, Cond.static yX0_isShard, Cond.code yX0_isShard cX0_isShard 1 (some .boolean), Cond.methodLink RX0 174 yX0_latestBallotTo, Cond.instanceMethod yX0_latestBallotTo, Cond.selects RX0 yX0_latestBallotTo yX0_latestBallotTo, Cond.code yX0_latestBallotTo cX0_latestBallotTo 3 (some .int), Cond.methodLink RX0 195 yX0_isOfOpenVote, Cond.instanceMethod yX0_isOfOpenVote, Cond.selects RX0 yX0_isOfOpenVote yX0_isOfOpenVote]
def wsL_send_r4 : List Cond := [Cond.code yX0_isOfOpenVote cX0_isOfOpenVote 2 (some .boolean), Cond.methodLink RX0 177 yX0_isBallot, Cond.instanceMethod yX0_isBallot, Cond.selects RX0 yX0_isBallot yX0_isBallot, Cond.code yX0_isBallot cX0_isBallot 2 (some .boolean)]
def wsL_send : List Cond := .codeWith yL_send cL_send 4 (some .int) [(0, 6, 9, 14), (0, 6, 14, 18)] :: ((wsL_send_r1 ++ (wsL_send_r2 ++ (wsL_send_r3 ++ wsL_send_r4))) ++ wsX00 ++ (vx_atS RX0 68 "java/lang/IllegalStateException" ["java/lang/RuntimeException", "java/lang/Exception"]).filter goodWord ++ (vx_atS RX0 218 "java/lang/IndexOutOfBoundsException" ["java/lang/RuntimeException", "java/lang/Exception"]).filter goodWord)
def wsL_sentTo : List Cond := .codeWith yL_sentTo cL_sentTo 4 (some .int) [(0, 6, 9, 14)] :: ([.classLink RL 14 "java/lang/IndexOutOfBoundsException", .methodLink RL 67 yX0_sentTo, .instanceMethod yX0_sentTo, .selects RX0 yX0_sentTo yX0_sentTo, .initialized RX0, .code yX0_sentTo cX0_sentTo 2 (some .int), .fieldLink RX0 31 "ShardBallots" "ballotAddresses" "[I", .methodLink RX0 187 yX0_checkBallot, .instanceMethod yX0_checkBallot, .selects RX0 yX0_checkBallot yX0_checkBallot, .code yX0_checkBallot cX0_checkBallot 2 none, .classLink RX0 214 "java/lang/IndexOutOfBoundsException", .initialized "java/lang/IndexOutOfBoundsException", .methodLink RX0 177 yX0_isBallot, .instanceMethod yX0_isBallot, .selects RX0 yX0_isBallot yX0_isBallot, .code yX0_isBallot cX0_isBallot 2 (some .boolean), .fieldLink RX0 182 "ShardBallots" "ballotCount" "I"] ++ wsX00 ++ (vx_atS RX0 218 "java/lang/IndexOutOfBoundsException" ["java/lang/RuntimeException", "java/lang/Exception"]).filter goodWord)
def wsL_giveBack_r1 : List Cond := [Cond.classLink RL 14 "java/lang/IndexOutOfBoundsException", Cond.classLink RL 16 "java/lang/IllegalArgumentException", Cond.classLink RL 18 "java/lang/IllegalStateException", Cond.methodLink RL 70 yX0_giveBack, Cond.instanceMethod yX0_giveBack, Cond.selects RX0 yX0_giveBack yX0_giveBack, Cond.initialized RX0, Cond.code yX0_giveBack cX0_giveBack 3 (some .int), Cond.classLink RX0 64 "java/lang/IllegalStateException", Cond.initialized "java/lang/IllegalStateException", Cond.fieldLink RX0 37 "ShardBallots" "ballotStates" "[I", Cond.fieldLink RX0 40 "ShardBallots" "ballotChoices" "[I", Cond.fieldLink RX0 34 "ShardBallots" "ballotDistricts" "[I", Cond.methodLink RX0 187 yX0_checkBallot, Cond.instanceMethod yX0_checkBallot, Cond.selects RX0 yX0_checkBallot yX0_checkBallot, Cond.code yX0_checkBallot cX0_checkBallot 2 none, Cond.classLink RX0 214 "java/lang/IndexOutOfBoundsException", Cond.initialized "java/lang/IndexOutOfBoundsException", Cond.methodLink RX0 177 yX0_isBallot, Cond.instanceMethod yX0_isBallot, Cond.selects RX0 yX0_isBallot yX0_isBallot, Cond.code yX0_isBallot cX0_isBallot 2 (some .boolean), Cond.fieldLink RX0 182 "ShardBallots" "ballotCount" "I"]
def wsL_giveBack_r2 : List Cond := [Cond.methodLink RX0 190 yX0_checkChoice, Cond.static yX0_checkChoice, Cond.code yX0_checkChoice cX0_checkChoice 1 none, Cond.classLink RX0 227 "java/lang/IllegalArgumentException", Cond.initialized "java/lang/IllegalArgumentException", Cond.methodLink RX0 195 yX0_isOfOpenVote, Cond.instanceMethod yX0_isOfOpenVote, Cond.selects RX0 yX0_isOfOpenVote yX0_isOfOpenVote, Cond.code yX0_isOfOpenVote cX0_isOfOpenVote 2 (some .boolean), Cond.fieldLink RX0 163 "ShardBallots" "rollLaid" "Z", Cond.fieldLink RX0 28 "ShardBallots" "ballotVotes" "[I", Cond.fieldLink RX0 169 "ShardBallots" "voteNumber" "I"]
def wsL_giveBack : List Cond := .codeWith yL_giveBack cL_giveBack 5 (some .int) [(0, 7, 10, 14), (0, 7, 16, 16), (0, 7, 22, 18)] :: ((wsL_giveBack_r1 ++ wsL_giveBack_r2) ++ wsX00 ++ (vx_atS RX0 68 "java/lang/IllegalStateException" ["java/lang/RuntimeException", "java/lang/Exception"]).filter goodWord ++ (vx_atS RX0 218 "java/lang/IndexOutOfBoundsException" ["java/lang/RuntimeException", "java/lang/Exception"]).filter goodWord ++ (vx_atS RX0 231 "java/lang/IllegalArgumentException" ["java/lang/RuntimeException", "java/lang/Exception"]).filter goodWord)
def wsL_stateOf : List Cond := .codeWith yL_stateOf cL_stateOf 4 (some .int) [(0, 6, 9, 14)] :: ([.classLink RL 14 "java/lang/IndexOutOfBoundsException", .methodLink RL 73 yX0_stateOf, .instanceMethod yX0_stateOf, .selects RX0 yX0_stateOf yX0_stateOf, .initialized RX0, .code yX0_stateOf cX0_stateOf 2 (some .int), .fieldLink RX0 37 "ShardBallots" "ballotStates" "[I", .methodLink RX0 187 yX0_checkBallot, .instanceMethod yX0_checkBallot, .selects RX0 yX0_checkBallot yX0_checkBallot, .code yX0_checkBallot cX0_checkBallot 2 none, .classLink RX0 214 "java/lang/IndexOutOfBoundsException", .initialized "java/lang/IndexOutOfBoundsException", .methodLink RX0 177 yX0_isBallot, .instanceMethod yX0_isBallot, .selects RX0 yX0_isBallot yX0_isBallot, .code yX0_isBallot cX0_isBallot 2 (some .boolean), .fieldLink RX0 182 "ShardBallots" "ballotCount" "I"] ++ wsX00 ++ (vx_atS RX0 218 "java/lang/IndexOutOfBoundsException" ["java/lang/RuntimeException", "java/lang/Exception"]).filter goodWord)
def wsL_counted : List Cond := .codeWith yL_counted cL_counted 5 (some .int) [(0, 7, 10, 14), (0, 7, 16, 16)] :: ([.classLink RL 14 "java/lang/IndexOutOfBoundsException", .classLink RL 16 "java/lang/IllegalArgumentException", .methodLink RL 76 yX0_counted, .instanceMethod yX0_counted, .selects RX0 yX0_counted yX0_counted, .initialized RX0, .code yX0_counted cX0_counted 5 (some .int), .fieldLink RX0 182 "ShardBallots" "ballotCount" "I", .fieldLink RX0 37 "ShardBallots" "ballotStates" "[I", .fieldLink RX0 34 "ShardBallots" "ballotDistricts" "[I", .fieldLink RX0 40 "ShardBallots" "ballotChoices" "[I", .methodLink RX0 87 yX0_checkDistrict, .static yX0_checkDistrict, .code yX0_checkDistrict cX0_checkDistrict 1 none, .classLink RX0 214 "java/lang/IndexOutOfBoundsException", .initialized "java/lang/IndexOutOfBoundsException", .methodLink RX0 190 yX0_checkChoice, .static yX0_checkChoice, .code yX0_checkChoice cX0_checkChoice 1 none, .classLink RX0 227 "java/lang/IllegalArgumentException", .initialized "java/lang/IllegalArgumentException"] ++ wsX00 ++ (vx_atS RX0 218 "java/lang/IndexOutOfBoundsException" ["java/lang/RuntimeException", "java/lang/Exception"]).filter goodWord ++ (vx_atS RX0 231 "java/lang/IllegalArgumentException" ["java/lang/RuntimeException", "java/lang/Exception"]).filter goodWord)
def wsL_close : List Cond := .codeWith yL_close cL_close 3 (some .int) [(0, 5, 8, 18)] :: ([.classLink RL 18 "java/lang/IllegalStateException", .methodLink RL 79 yX0_close, .instanceMethod yX0_close, .selects RX0 yX0_close yX0_close, .initialized RX0, .code yX0_close cX0_close 3 (some .int), .classLink RX0 64 "java/lang/IllegalStateException", .initialized "java/lang/IllegalStateException", .fieldLink RX0 163 "ShardBallots" "rollLaid" "Z", .fieldLink RX0 182 "ShardBallots" "ballotCount" "I", .fieldLink RX0 37 "ShardBallots" "ballotStates" "[I", .methodLink RX0 195 yX0_isOfOpenVote, .instanceMethod yX0_isOfOpenVote, .selects RX0 yX0_isOfOpenVote yX0_isOfOpenVote, .code yX0_isOfOpenVote cX0_isOfOpenVote 2 (some .boolean), .fieldLink RX0 28 "ShardBallots" "ballotVotes" "[I", .fieldLink RX0 169 "ShardBallots" "voteNumber" "I", .methodLink RX0 177 yX0_isBallot, .instanceMethod yX0_isBallot, .selects RX0 yX0_isBallot yX0_isBallot, .code yX0_isBallot cX0_isBallot 2 (some .boolean)] ++ wsX00 ++ (vx_atS RX0 68 "java/lang/IllegalStateException" ["java/lang/RuntimeException", "java/lang/Exception"]).filter goodWord)
def wsL_member : List Cond := .code yL_member cL_member 4 (some .int) :: ([])
def wsL_range : List Cond := .code yL_range cL_range 3 (some .int) :: ([])
def wsL_first : List Cond := .code yL_first cL_first 2 (some .int) :: ([])
def wsL_ofRange : List Cond := .code yL_ofRange cL_ofRange 9 (some .int) :: ([.methodLink RL 82 yL_first, .static yL_first, .initialized RL, .code yL_first cL_first 2 (some .int)])
def wsL_writes_r1 : List Cond := [Cond.constant RL 103 (-2147483648), Cond.methodLink RL 88 yL_low, Cond.static yL_low, Cond.initialized RL, Cond.code yL_low cL_low 2 (some .int), Cond.methodLink RL 91 yL_member, Cond.static yL_member, Cond.code yL_member cL_member 4 (some .int), Cond.methodLink RL 95 yL_join, Cond.static yL_join, Cond.codeWith yL_join cL_join 5 (some .int) [(0, 7, 10, 14), (0, 7, 16, 16), (0, 7, 22, 18)], Cond.classLink RL 14 "java/lang/IndexOutOfBoundsException", Cond.classLink RL 16 "java/lang/IllegalArgumentException", Cond.classLink RL 18 "java/lang/IllegalStateException", Cond.methodLink RL 8 yX0_join, Cond.instanceMethod yX0_join, Cond.selects RX0 yX0_join yX0_join, Cond.initialized RX0, Cond.code yX0_join cX0_join 3 (some .int), Cond.classLink RX0 64 "java/lang/IllegalStateException", Cond.initialized "java/lang/IllegalStateException", Cond.fieldLink RX0 71 "ShardBallots" "memberCount" "I", Cond.methodLink RX0 53 yX0_checkKey, Cond.static yX0_checkKey]
def wsL_writes_r2 : List Cond := [Cond.code yX0_checkKey cX0_checkKey 1 none, Cond.classLink RX0 214 "java/lang/IndexOutOfBoundsException", Cond.initialized "java/lang/IndexOutOfBoundsException", Cond.methodLink RX0 205 yX0_isKey, Cond.static yX0_isKey, Cond.code yX0_isKey cX0_isKey 1 (some .boolean), Cond.methodLink RX0 57 yX0_checkAddress, Cond.static yX0_checkAddress, Cond.code yX0_checkAddress cX0_checkAddress 1 none, Cond.classLink RX0 227 "java/lang/IllegalArgumentException", Cond.initialized "java/lang/IllegalArgumentException", Cond.methodLink RX0 60 yX0_isMember, Cond.instanceMethod yX0_isMember, Cond.selects RX0 yX0_isMember yX0_isMember, Cond.code yX0_isMember cX0_isMember 2 (some .boolean), Cond.methodLink RX0 83 yX0_read, Cond.instanceMethod yX0_read, Cond.selects RX0 yX0_read yX0_read, Cond.code yX0_read cX0_read 2 (some .int), Cond.methodLink RX0 93 yX0_rangeHolding, Cond.instanceMethod yX0_rangeHolding, Cond.selects RX0 yX0_rangeHolding yX0_rangeHolding, Cond.code yX0_rangeHolding cX0_rangeHolding 4 (some .int), Cond.fieldLink RX0 49 "ShardBallots" "rangeCount" "I"]
def wsL_writes_r3 : List Cond := [Cond.methodLink RX0 96 yX0_lastKeyOf, Cond.instanceMethod yX0_lastKeyOf, Cond.selects RX0 yX0_lastKeyOf yX0_lastKeyOf, Cond.code yX0_lastKeyOf cX0_lastKeyOf 2 (some .int), Cond.fieldLink RX0 13 "ShardBallots" "lastKeys" "[I", Cond.methodLink RX0 117 yX0_isRange, Cond.instanceMethod yX0_isRange, Cond.selects RX0 yX0_isRange yX0_isRange, Cond.code yX0_isRange cX0_isRange 2 (some .boolean), Cond.methodLink RX0 122 yX0_homeOf, Cond.instanceMethod yX0_homeOf, Cond.selects RX0 yX0_homeOf yX0_homeOf, Cond.code yX0_homeOf cX0_homeOf 2 (some .int), Cond.fieldLink RX0 16 "ShardBallots" "homes" "[I", Cond.methodLink RX0 152 yX0_rowOf, Cond.instanceMethod yX0_rowOf, Cond.selects RX0 yX0_rowOf yX0_rowOf, Cond.code yX0_rowOf cX0_rowOf 3 (some .int), Cond.fieldLink RX0 9 "ShardBallots" "rowTable" "[I", Cond.methodLink RX0 202 yX0_isShard, Cond.static yX0_isShard, Cond.code yX0_isShard cX0_isShard 1 (some .boolean), Cond.methodLink RX0 76 yX0_write, Cond.instanceMethod yX0_write]
def wsL_writes_r4 : List Cond := [Cond.selects RX0 yX0_write yX0_write, Cond.code yX0_write cX0_write 4 none, Cond.methodLink RX0 156 yX0_putRow, Cond.instanceMethod yX0_putRow, Cond.selects RX0 yX0_putRow yX0_putRow, Cond.code yX0_putRow cX0_putRow 4 none, Cond.methodLink RX0 208 yX0_targetOf, Cond.instanceMethod yX0_targetOf, Cond.selects RX0 yX0_targetOf yX0_targetOf, Cond.code yX0_targetOf cX0_targetOf 2 (some .int), Cond.fieldLink RX0 19 "ShardBallots" "targets" "[I", Cond.methodLink RL 98 yL_change, Cond.static yL_change, Cond.codeWith yL_change cL_change 5 (some .int) [(0, 7, 10, 14), (0, 7, 16, 16), (0, 7, 22, 18)], Cond.methodLink RL 20 yX0_change, Cond.instanceMethod yX0_change, Cond.selects RX0 yX0_change yX0_change, Cond.code yX0_change cX0_change 4 (some .int), Cond.methodLink RX0 80 yX0_checkMember, Cond.instanceMethod yX0_checkMember, Cond.selects RX0 yX0_checkMember yX0_checkMember, Cond.code yX0_checkMember cX0_checkMember 2 none, Cond.methodLink RL 100 yL_leave, Cond.static yL_leave]
def wsL_writes_r5 : List Cond := [Cond.codeWith yL_leave cL_leave 4 (some .int) [(0, 6, 9, 14), (0, 6, 14, 18)], Cond.methodLink RL 23 yX0_leave, Cond.instanceMethod yX0_leave, Cond.selects RX0 yX0_leave yX0_leave, Cond.code yX0_leave cX0_leave 3 (some .int)]
def wsL_writes : List Cond := .code yL_writes cL_writes 11 (some .boolean) :: ((wsL_writes_r1 ++ (wsL_writes_r2 ++ (wsL_writes_r3 ++ (wsL_writes_r4 ++ wsL_writes_r5)))) ++ wsX00 ++ (vx_atS RX0 68 "java/lang/IllegalStateException" ["java/lang/RuntimeException", "java/lang/Exception"]).filter goodWord ++ (vx_atS RX0 218 "java/lang/IndexOutOfBoundsException" ["java/lang/RuntimeException", "java/lang/Exception"]).filter goodWord ++ (vx_atS RX0 231 "java/lang/IllegalArgumentException" ["java/lang/RuntimeException", "java/lang/Exception"]).filter goodWord)
def wsL_shards_r1 : List Cond := [Cond.methodLink RL 88 yL_low, Cond.static yL_low, Cond.initialized RL, Cond.code yL_low cL_low 2 (some .int), Cond.methodLink RL 104 yL_range, Cond.static yL_range, Cond.code yL_range cL_range 3 (some .int), Cond.methodLink RL 107 yL_split, Cond.static yL_split, Cond.codeWith yL_split cL_split 4 (some .int) [(0, 6, 9, 14), (0, 6, 14, 18)], Cond.classLink RL 14 "java/lang/IndexOutOfBoundsException", Cond.classLink RL 18 "java/lang/IllegalStateException", Cond.methodLink RL 33 yX0_split, Cond.instanceMethod yX0_split, Cond.selects RX0 yX0_split yX0_split, Cond.initialized RX0, Cond.code yX0_split cX0_split 3 (some .int), Cond.classLink RX0 64 "java/lang/IllegalStateException", Cond.initialized "java/lang/IllegalStateException", Cond.fieldLink RX0 49 "ShardBallots" "rangeCount" "I", Cond.methodLink RX0 53 yX0_checkKey, Cond.static yX0_checkKey, Cond.code yX0_checkKey cX0_checkKey 1 none, Cond.classLink RX0 214 "java/lang/IndexOutOfBoundsException"]
def wsL_shards_r2 : List Cond := [Cond.initialized "java/lang/IndexOutOfBoundsException", Cond.methodLink RX0 205 yX0_isKey, Cond.static yX0_isKey, Cond.code yX0_isKey cX0_isKey 1 (some .boolean), Cond.methodLink RX0 93 yX0_rangeHolding, Cond.instanceMethod yX0_rangeHolding, Cond.selects RX0 yX0_rangeHolding yX0_rangeHolding, Cond.code yX0_rangeHolding cX0_rangeHolding 4 (some .int), Cond.methodLink RX0 96 yX0_lastKeyOf, Cond.instanceMethod yX0_lastKeyOf, Cond.selects RX0 yX0_lastKeyOf yX0_lastKeyOf, Cond.code yX0_lastKeyOf cX0_lastKeyOf 2 (some .int), Cond.fieldLink RX0 13 "ShardBallots" "lastKeys" "[I", Cond.methodLink RX0 117 yX0_isRange, Cond.instanceMethod yX0_isRange, Cond.selects RX0 yX0_isRange yX0_isRange, Cond.code yX0_isRange cX0_isRange 2 (some .boolean), Cond.methodLink RX0 101 yX0_isMoved, Cond.instanceMethod yX0_isMoved, Cond.selects RX0 yX0_isMoved yX0_isMoved, Cond.code yX0_isMoved cX0_isMoved 2 (some .boolean), Cond.methodLink RX0 208 yX0_targetOf, Cond.instanceMethod yX0_targetOf, Cond.selects RX0 yX0_targetOf yX0_targetOf]
def wsL_shards_r3 : List Cond := [Cond.code yX0_targetOf cX0_targetOf 2 (some .int), Cond.fieldLink RX0 19 "ShardBallots" "targets" "[I", Cond.methodLink RX0 108 yX0_insertCopyBehind, Cond.instanceMethod yX0_insertCopyBehind, Cond.selects RX0 yX0_insertCopyBehind yX0_insertCopyBehind, Cond.code yX0_insertCopyBehind cX0_insertCopyBehind 3 none, Cond.methodLink RX0 211 yX0_copyRange, Cond.instanceMethod yX0_copyRange, Cond.selects RX0 yX0_copyRange yX0_copyRange, Cond.code yX0_copyRange cX0_copyRange 3 none, Cond.fieldLink RX0 16 "ShardBallots" "homes" "[I", Cond.methodLink RX0 111 yX0_putLastKey, Cond.instanceMethod yX0_putLastKey, Cond.selects RX0 yX0_putLastKey yX0_putLastKey, Cond.code yX0_putLastKey cX0_putLastKey 3 none, Cond.methodLink RL 109 yL_merge, Cond.static yL_merge, Cond.codeWith yL_merge cL_merge 4 (some .int) [(0, 6, 9, 14), (0, 6, 14, 18)], Cond.methodLink RL 36 yX0_merge, Cond.instanceMethod yX0_merge, Cond.selects RX0 yX0_merge yX0_merge, Cond.code yX0_merge cX0_merge 3 (some .int), Cond.methodLink RX0 114 yX0_checkRange, Cond.instanceMethod yX0_checkRange]
def wsL_shards_r4 : List Cond := [Cond.selects RX0 yX0_checkRange yX0_checkRange, Cond.code yX0_checkRange cX0_checkRange 2 none, Cond.methodLink RX0 122 yX0_homeOf, Cond.instanceMethod yX0_homeOf, Cond.selects RX0 yX0_homeOf yX0_homeOf, Cond.code yX0_homeOf cX0_homeOf 2 (some .int), Cond.methodLink RX0 129 yX0_remove, Cond.instanceMethod yX0_remove, Cond.selects RX0 yX0_remove yX0_remove, Cond.code yX0_remove cX0_remove 3 none, Cond.methodLink RL 111 yL_move, Cond.static yL_move, Cond.codeWith yL_move cL_move 5 (some .int) [(0, 7, 10, 14), (0, 7, 16, 18)], Cond.methodLink RL 39 yX0_move, Cond.instanceMethod yX0_move, Cond.selects RX0 yX0_move yX0_move, Cond.code yX0_move cX0_move 3 (some .int), Cond.methodLink RX0 132 yX0_checkShard, Cond.static yX0_checkShard, Cond.code yX0_checkShard cX0_checkShard 1 none, Cond.methodLink RX0 202 yX0_isShard, Cond.static yX0_isShard, Cond.code yX0_isShard cX0_isShard 1 (some .boolean), Cond.methodLink RX0 139 yX0_firstKeyOf]
def wsL_shards_r5 : List Cond := [Cond.instanceMethod yX0_firstKeyOf, Cond.selects RX0 yX0_firstKeyOf yX0_firstKeyOf, Cond.code yX0_firstKeyOf cX0_firstKeyOf 2 (some .int), Cond.methodLink RX0 142 yX0_countRows, Cond.instanceMethod yX0_countRows, Cond.selects RX0 yX0_countRows yX0_countRows, Cond.code yX0_countRows cX0_countRows 6 (some .int), Cond.methodLink RX0 152 yX0_rowOf, Cond.instanceMethod yX0_rowOf, Cond.selects RX0 yX0_rowOf yX0_rowOf, Cond.code yX0_rowOf cX0_rowOf 3 (some .int), Cond.fieldLink RX0 9 "ShardBallots" "rowTable" "[I", Cond.methodLink RL 113 yL_step, Cond.static yL_step, Cond.codeWith yL_step cL_step 4 (some .int) [(0, 6, 9, 14), (0, 6, 14, 18)], Cond.methodLink RL 42 yX0_step, Cond.instanceMethod yX0_step, Cond.selects RX0 yX0_step yX0_step, Cond.code yX0_step cX0_step 5 (some .int), Cond.methodLink RX0 146 yX0_checkMoved, Cond.instanceMethod yX0_checkMoved, Cond.selects RX0 yX0_checkMoved yX0_checkMoved, Cond.code yX0_checkMoved cX0_checkMoved 2 none, Cond.methodLink RX0 149 yX0_lowestKeyNotBrought]
def wsL_shards_r6 : List Cond := [Cond.instanceMethod yX0_lowestKeyNotBrought, Cond.selects RX0 yX0_lowestKeyNotBrought yX0_lowestKeyNotBrought, Cond.code yX0_lowestKeyNotBrought cX0_lowestKeyNotBrought 6 (some .int), Cond.methodLink RX0 156 yX0_putRow, Cond.instanceMethod yX0_putRow, Cond.selects RX0 yX0_putRow yX0_putRow, Cond.code yX0_putRow cX0_putRow 4 none, Cond.methodLink RX0 160 yX0_dropRows, Cond.instanceMethod yX0_dropRows, Cond.selects RX0 yX0_dropRows yX0_dropRows, Cond.code yX0_dropRows cX0_dropRows 5 none, Cond.methodLink RL 115 yL_giveUp, Cond.static yL_giveUp, Cond.codeWith yL_giveUp cL_giveUp 4 (some .int) [(0, 6, 9, 14), (0, 6, 14, 18)], Cond.methodLink RL 45 yX0_giveUp, Cond.instanceMethod yX0_giveUp, Cond.selects RX0 yX0_giveUp yX0_giveUp, Cond.code yX0_giveUp cX0_giveUp 4 (some .int), Cond.methodLink RL 117 yL_shardOf, Cond.static yL_shardOf, Cond.codeWith yL_shardOf cL_shardOf 4 (some .int) [(0, 6, 9, 14)], Cond.methodLink RL 51 yX0_shardOf, Cond.instanceMethod yX0_shardOf, Cond.selects RX0 yX0_shardOf yX0_shardOf]
def wsL_shards_r7 : List Cond := [Cond.code yX0_shardOf cX0_shardOf 2 (some .int), Cond.methodLink RL 82 yL_first, Cond.static yL_first, Cond.code yL_first cL_first 2 (some .int), Cond.methodLink RL 119 yL_ofRange, Cond.static yL_ofRange, Cond.code yL_ofRange cL_ofRange 9 (some .int), Cond.methodLink RL 91 yL_member, Cond.static yL_member, Cond.code yL_member cL_member 4 (some .int)]
def wsL_shards : List Cond := .code yL_shards cL_shards 11 (some .boolean) :: ((wsL_shards_r1 ++ (wsL_shards_r2 ++ (wsL_shards_r3 ++ (wsL_shards_r4 ++ (wsL_shards_r5 ++ (wsL_shards_r6 ++ wsL_shards_r7)))))) ++ wsX00 ++ (vx_atS RX0 68 "java/lang/IllegalStateException" ["java/lang/RuntimeException", "java/lang/Exception"]).filter goodWord ++ (vx_atS RX0 218 "java/lang/IndexOutOfBoundsException" ["java/lang/RuntimeException", "java/lang/Exception"]).filter goodWord)
def wsL_rolled : List Cond := .code yL_rolled cL_rolled 4 (some .int) :: ([])
def wsL_votes_r1 : List Cond := [Cond.constant RL 133 (32768), Cond.constant RL 134 (262144), Cond.methodLink RL 123 yL_fix, Cond.static yL_fix, Cond.initialized RL, Cond.codeWith yL_fix cL_fix 3 (some .int) [(0, 5, 8, 18)], Cond.classLink RL 18 "java/lang/IllegalStateException", Cond.methodLink RL 57 yX0_fix, Cond.instanceMethod yX0_fix, Cond.selects RX0 yX0_fix yX0_fix, Cond.initialized RX0, Cond.code yX0_fix cX0_fix 2 (some .int), Cond.classLink RX0 64 "java/lang/IllegalStateException", Cond.initialized "java/lang/IllegalStateException", Cond.fieldLink RX0 163 "ShardBallots" "rollLaid" "Z", Cond.fieldLink RX0 22 "ShardBallots" "roll" "[I", Cond.fieldLink RX0 169 "ShardBallots" "voteNumber" "I", Cond.fieldLink RX0 71 "ShardBallots" "memberCount" "I", Cond.methodLink RX0 83 yX0_read, Cond.instanceMethod yX0_read, Cond.selects RX0 yX0_read yX0_read, Cond.code yX0_read cX0_read 2 (some .int), Cond.methodLink RX0 93 yX0_rangeHolding, Cond.instanceMethod yX0_rangeHolding]
def wsL_votes_r2 : List Cond := [Cond.selects RX0 yX0_rangeHolding yX0_rangeHolding, Cond.code yX0_rangeHolding cX0_rangeHolding 4 (some .int), Cond.fieldLink RX0 49 "ShardBallots" "rangeCount" "I", Cond.methodLink RX0 96 yX0_lastKeyOf, Cond.instanceMethod yX0_lastKeyOf, Cond.selects RX0 yX0_lastKeyOf yX0_lastKeyOf, Cond.code yX0_lastKeyOf cX0_lastKeyOf 2 (some .int), Cond.fieldLink RX0 13 "ShardBallots" "lastKeys" "[I", Cond.methodLink RX0 117 yX0_isRange, Cond.instanceMethod yX0_isRange, Cond.selects RX0 yX0_isRange yX0_isRange, Cond.code yX0_isRange cX0_isRange 2 (some .boolean), Cond.methodLink RX0 122 yX0_homeOf, Cond.instanceMethod yX0_homeOf, Cond.selects RX0 yX0_homeOf yX0_homeOf, Cond.code yX0_homeOf cX0_homeOf 2 (some .int), Cond.fieldLink RX0 16 "ShardBallots" "homes" "[I", Cond.methodLink RX0 152 yX0_rowOf, Cond.instanceMethod yX0_rowOf, Cond.selects RX0 yX0_rowOf yX0_rowOf, Cond.code yX0_rowOf cX0_rowOf 3 (some .int), Cond.fieldLink RX0 9 "ShardBallots" "rowTable" "[I", Cond.methodLink RX0 202 yX0_isShard, Cond.static yX0_isShard]
def wsL_votes_r3 : List Cond := [Cond.code yX0_isShard cX0_isShard 1 (some .boolean), Cond.methodLink RX0 205 yX0_isKey, Cond.static yX0_isKey, Cond.code yX0_isKey cX0_isKey 1 (some .boolean), Cond.methodLink RX0 90 yX0_districtOf, Cond.static yX0_districtOf, Cond.code yX0_districtOf cX0_districtOf 1 (some .int), Cond.methodLink RL 126 yL_close, Cond.static yL_close, Cond.codeWith yL_close cL_close 3 (some .int) [(0, 5, 8, 18)], Cond.methodLink RL 79 yX0_close, Cond.instanceMethod yX0_close, Cond.selects RX0 yX0_close yX0_close, Cond.code yX0_close cX0_close 3 (some .int), Cond.fieldLink RX0 182 "ShardBallots" "ballotCount" "I", Cond.fieldLink RX0 37 "ShardBallots" "ballotStates" "[I", Cond.methodLink RX0 195 yX0_isOfOpenVote, Cond.instanceMethod yX0_isOfOpenVote, Cond.selects RX0 yX0_isOfOpenVote yX0_isOfOpenVote, Cond.code yX0_isOfOpenVote cX0_isOfOpenVote 2 (some .boolean), Cond.fieldLink RX0 28 "ShardBallots" "ballotVotes" "[I", Cond.methodLink RX0 177 yX0_isBallot, Cond.instanceMethod yX0_isBallot, Cond.selects RX0 yX0_isBallot yX0_isBallot]
def wsL_votes_r4 : List Cond := [Cond.code yX0_isBallot cX0_isBallot 2 (some .boolean), Cond.methodLink RL 88 yL_low, Cond.static yL_low, Cond.code yL_low cL_low 2 (some .int), Cond.methodLink RL 91 yL_member, Cond.static yL_member, Cond.code yL_member cL_member 4 (some .int), Cond.methodLink RL 128 yL_rolled, Cond.static yL_rolled, Cond.code yL_rolled cL_rolled 4 (some .int), Cond.methodLink RL 131 yL_send, Cond.static yL_send, Cond.codeWith yL_send cL_send 4 (some .int) [(0, 6, 9, 14), (0, 6, 14, 18)], Cond.classLink RL 14 "java/lang/IndexOutOfBoundsException", Cond.methodLink RL 64 yX0_send, Cond.instanceMethod yX0_send, Cond.selects RX0 yX0_send yX0_send, Cond.code yX0_send cX0_send 4 (some .int), Cond.fieldLink RX0 25 "ShardBallots" "ballotKeys" "[I", Cond.fieldLink RX0 31 "ShardBallots" "ballotAddresses" "[I", Cond.fieldLink RX0 34 "ShardBallots" "ballotDistricts" "[I", Cond.methodLink RX0 53 yX0_checkKey, Cond.static yX0_checkKey, Cond.code yX0_checkKey cX0_checkKey 1 none]
def wsL_votes_r5 : List Cond := [Cond.classLink RX0 214 "java/lang/IndexOutOfBoundsException", Cond.initialized "java/lang/IndexOutOfBoundsException", Cond.methodLink RX0 80 yX0_checkMember, Cond.instanceMethod yX0_checkMember, Cond.selects RX0 yX0_checkMember yX0_checkMember, Cond.code yX0_checkMember cX0_checkMember 2 none, Cond.methodLink RX0 60 yX0_isMember, Cond.instanceMethod yX0_isMember, Cond.selects RX0 yX0_isMember yX0_isMember, Cond.code yX0_isMember cX0_isMember 2 (some .boolean), Cond.methodLink RX0 174 yX0_latestBallotTo, Cond.instanceMethod yX0_latestBallotTo, Cond.selects RX0 yX0_latestBallotTo yX0_latestBallotTo, Cond.code yX0_latestBallotTo cX0_latestBallotTo 3 (some .int), Cond.methodLink RL 135 yL_giveBack, Cond.static yL_giveBack, Cond.codeWith yL_giveBack cL_giveBack 5 (some .int) [(0, 7, 10, 14), (0, 7, 16, 16), (0, 7, 22, 18)], Cond.classLink RL 16 "java/lang/IllegalArgumentException", Cond.methodLink RL 70 yX0_giveBack, Cond.instanceMethod yX0_giveBack, Cond.selects RX0 yX0_giveBack yX0_giveBack, Cond.code yX0_giveBack cX0_giveBack 3 (some .int), Cond.fieldLink RX0 40 "ShardBallots" "ballotChoices" "[I", Cond.methodLink RX0 187 yX0_checkBallot]
def wsL_votes_r6 : List Cond := [Cond.instanceMethod yX0_checkBallot, Cond.selects RX0 yX0_checkBallot yX0_checkBallot, Cond.code yX0_checkBallot cX0_checkBallot 2 none, Cond.methodLink RX0 190 yX0_checkChoice, Cond.static yX0_checkChoice, Cond.code yX0_checkChoice cX0_checkChoice 1 none, Cond.classLink RX0 227 "java/lang/IllegalArgumentException", Cond.initialized "java/lang/IllegalArgumentException", Cond.methodLink RL 137 yL_stateOf, Cond.static yL_stateOf, Cond.codeWith yL_stateOf cL_stateOf 4 (some .int) [(0, 6, 9, 14)], Cond.methodLink RL 73 yX0_stateOf, Cond.instanceMethod yX0_stateOf, Cond.selects RX0 yX0_stateOf yX0_stateOf, Cond.code yX0_stateOf cX0_stateOf 2 (some .int), Cond.methodLink RL 139 yL_sentTo, Cond.static yL_sentTo, Cond.codeWith yL_sentTo cL_sentTo 4 (some .int) [(0, 6, 9, 14)], Cond.methodLink RL 67 yX0_sentTo, Cond.instanceMethod yX0_sentTo, Cond.selects RX0 yX0_sentTo yX0_sentTo, Cond.code yX0_sentTo cX0_sentTo 2 (some .int)]
def wsL_votes : List Cond := .code yL_votes cL_votes 14 (some .boolean) :: ((wsL_votes_r1 ++ (wsL_votes_r2 ++ (wsL_votes_r3 ++ (wsL_votes_r4 ++ (wsL_votes_r5 ++ wsL_votes_r6))))) ++ wsX00 ++ (vx_atS RX0 68 "java/lang/IllegalStateException" ["java/lang/RuntimeException", "java/lang/Exception"]).filter goodWord ++ (vx_atS RX0 218 "java/lang/IndexOutOfBoundsException" ["java/lang/RuntimeException", "java/lang/Exception"]).filter goodWord ++ (vx_atS RX0 231 "java/lang/IllegalArgumentException" ["java/lang/RuntimeException", "java/lang/Exception"]).filter goodWord)
def wsL_isTold_r1 : List Cond := [Cond.constant RL 103 (-2147483648), Cond.constant RL 156 (2147483647), Cond.methodLink RL 119 yL_ofRange, Cond.static yL_ofRange, Cond.initialized RL, Cond.code yL_ofRange cL_ofRange 9 (some .int), Cond.methodLink RL 82 yL_first, Cond.static yL_first, Cond.code yL_first cL_first 2 (some .int), Cond.methodLink RL 141 yL_rows, Cond.static yL_rows, Cond.codeWith yL_rows cL_rows 4 (some .int) [(0, 6, 9, 14)], Cond.classLink RL 14 "java/lang/IndexOutOfBoundsException", Cond.methodLink RL 54 yX0_rows, Cond.instanceMethod yX0_rows, Cond.selects RX0 yX0_rows yX0_rows, Cond.initialized RX0, Cond.code yX0_rows cX0_rows 2 (some .int), Cond.methodLink RX0 132 yX0_checkShard, Cond.static yX0_checkShard, Cond.code yX0_checkShard cX0_checkShard 1 none, Cond.classLink RX0 214 "java/lang/IndexOutOfBoundsException", Cond.initialized "java/lang/IndexOutOfBoundsException", Cond.methodLink RX0 202 yX0_isShard]
def wsL_isTold_r2 : List Cond := [Cond.static yX0_isShard, Cond.code yX0_isShard cX0_isShard 1 (some .boolean), Cond.methodLink RX0 142 yX0_countRows, Cond.instanceMethod yX0_countRows, Cond.selects RX0 yX0_countRows yX0_countRows, Cond.code yX0_countRows cX0_countRows 6 (some .int), Cond.methodLink RX0 152 yX0_rowOf, Cond.instanceMethod yX0_rowOf, Cond.selects RX0 yX0_rowOf yX0_rowOf, Cond.code yX0_rowOf cX0_rowOf 3 (some .int), Cond.fieldLink RX0 9 "ShardBallots" "rowTable" "[I", Cond.methodLink RX0 205 yX0_isKey, Cond.static yX0_isKey, Cond.code yX0_isKey cX0_isKey 1 (some .boolean), Cond.methodLink RL 143 yL_inDistrict, Cond.static yL_inDistrict, Cond.codeWith yL_inDistrict cL_inDistrict 4 (some .int) [(0, 6, 9, 14)], Cond.methodLink RL 30 yX0_inDistrict, Cond.instanceMethod yX0_inDistrict, Cond.selects RX0 yX0_inDistrict yX0_inDistrict, Cond.code yX0_inDistrict cX0_inDistrict 4 (some .int), Cond.methodLink RX0 87 yX0_checkDistrict, Cond.static yX0_checkDistrict, Cond.code yX0_checkDistrict cX0_checkDistrict 1 none]
def wsL_isTold_r3 : List Cond := [Cond.methodLink RX0 83 yX0_read, Cond.instanceMethod yX0_read, Cond.selects RX0 yX0_read yX0_read, Cond.code yX0_read cX0_read 2 (some .int), Cond.methodLink RX0 93 yX0_rangeHolding, Cond.instanceMethod yX0_rangeHolding, Cond.selects RX0 yX0_rangeHolding yX0_rangeHolding, Cond.code yX0_rangeHolding cX0_rangeHolding 4 (some .int), Cond.fieldLink RX0 49 "ShardBallots" "rangeCount" "I", Cond.methodLink RX0 96 yX0_lastKeyOf, Cond.instanceMethod yX0_lastKeyOf, Cond.selects RX0 yX0_lastKeyOf yX0_lastKeyOf, Cond.code yX0_lastKeyOf cX0_lastKeyOf 2 (some .int), Cond.fieldLink RX0 13 "ShardBallots" "lastKeys" "[I", Cond.methodLink RX0 117 yX0_isRange, Cond.instanceMethod yX0_isRange, Cond.selects RX0 yX0_isRange yX0_isRange, Cond.code yX0_isRange cX0_isRange 2 (some .boolean), Cond.methodLink RX0 122 yX0_homeOf, Cond.instanceMethod yX0_homeOf, Cond.selects RX0 yX0_homeOf yX0_homeOf, Cond.code yX0_homeOf cX0_homeOf 2 (some .int), Cond.fieldLink RX0 16 "ShardBallots" "homes" "[I", Cond.methodLink RX0 90 yX0_districtOf]
def wsL_isTold_r4 : List Cond := [Cond.static yX0_districtOf, Cond.code yX0_districtOf cX0_districtOf 1 (some .int), Cond.methodLink RL 145 yL_counted, Cond.static yL_counted, Cond.codeWith yL_counted cL_counted 5 (some .int) [(0, 7, 10, 14), (0, 7, 16, 16)], Cond.classLink RL 16 "java/lang/IllegalArgumentException", Cond.methodLink RL 76 yX0_counted, Cond.instanceMethod yX0_counted, Cond.selects RX0 yX0_counted yX0_counted, Cond.code yX0_counted cX0_counted 5 (some .int), Cond.fieldLink RX0 182 "ShardBallots" "ballotCount" "I", Cond.fieldLink RX0 37 "ShardBallots" "ballotStates" "[I", Cond.fieldLink RX0 34 "ShardBallots" "ballotDistricts" "[I", Cond.fieldLink RX0 40 "ShardBallots" "ballotChoices" "[I", Cond.methodLink RX0 190 yX0_checkChoice, Cond.static yX0_checkChoice, Cond.code yX0_checkChoice cX0_checkChoice 1 none, Cond.classLink RX0 227 "java/lang/IllegalArgumentException", Cond.initialized "java/lang/IllegalArgumentException", Cond.methodLink RL 117 yL_shardOf, Cond.static yL_shardOf, Cond.codeWith yL_shardOf cL_shardOf 4 (some .int) [(0, 6, 9, 14)], Cond.methodLink RL 51 yX0_shardOf, Cond.instanceMethod yX0_shardOf]
def wsL_isTold_r5 : List Cond := [Cond.selects RX0 yX0_shardOf yX0_shardOf, Cond.code yX0_shardOf cX0_shardOf 2 (some .int), Cond.methodLink RX0 114 yX0_checkRange, Cond.instanceMethod yX0_checkRange, Cond.selects RX0 yX0_checkRange yX0_checkRange, Cond.code yX0_checkRange cX0_checkRange 2 none, Cond.methodLink RL 88 yL_low, Cond.static yL_low, Cond.code yL_low cL_low 2 (some .int), Cond.methodLink RL 91 yL_member, Cond.static yL_member, Cond.code yL_member cL_member 4 (some .int), Cond.methodLink RL 147 yL_address, Cond.static yL_address, Cond.codeWith yL_address cL_address 4 (some .int) [(0, 6, 9, 14)], Cond.methodLink RL 27 yX0_address, Cond.instanceMethod yX0_address, Cond.selects RX0 yX0_address yX0_address, Cond.code yX0_address cX0_address 2 (some .int), Cond.methodLink RX0 53 yX0_checkKey, Cond.static yX0_checkKey, Cond.code yX0_checkKey cX0_checkKey 1 none, Cond.methodLink RL 149 yL_onRoll, Cond.static yL_onRoll]
def wsL_isTold_r6 : List Cond := [Cond.codeWith yL_onRoll cL_onRoll 4 (some .int) [(0, 6, 9, 14)], Cond.methodLink RL 61 yX0_onRoll, Cond.instanceMethod yX0_onRoll, Cond.selects RX0 yX0_onRoll yX0_onRoll, Cond.code yX0_onRoll cX0_onRoll 2 (some .int), Cond.fieldLink RX0 163 "ShardBallots" "rollLaid" "Z", Cond.fieldLink RX0 22 "ShardBallots" "roll" "[I", Cond.methodLink RL 128 yL_rolled, Cond.static yL_rolled, Cond.code yL_rolled cL_rolled 4 (some .int), Cond.methodLink RL 151 yL_rangeOf, Cond.static yL_rangeOf, Cond.codeWith yL_rangeOf cL_rangeOf 4 (some .int) [(0, 6, 9, 14)], Cond.methodLink RL 48 yX0_rangeOf, Cond.instanceMethod yX0_rangeOf, Cond.selects RX0 yX0_rangeOf yX0_rangeOf, Cond.code yX0_rangeOf cX0_rangeOf 2 (some .int), Cond.methodLink RL 104 yL_range, Cond.static yL_range, Cond.code yL_range cL_range 3 (some .int), Cond.methodLink RL 137 yL_stateOf, Cond.static yL_stateOf, Cond.codeWith yL_stateOf cL_stateOf 4 (some .int) [(0, 6, 9, 14)], Cond.methodLink RL 73 yX0_stateOf]
def wsL_isTold_r7 : List Cond := [Cond.instanceMethod yX0_stateOf, Cond.selects RX0 yX0_stateOf yX0_stateOf, Cond.code yX0_stateOf cX0_stateOf 2 (some .int), Cond.methodLink RX0 187 yX0_checkBallot, Cond.instanceMethod yX0_checkBallot, Cond.selects RX0 yX0_checkBallot yX0_checkBallot, Cond.code yX0_checkBallot cX0_checkBallot 2 none, Cond.methodLink RX0 177 yX0_isBallot, Cond.instanceMethod yX0_isBallot, Cond.selects RX0 yX0_isBallot yX0_isBallot, Cond.code yX0_isBallot cX0_isBallot 2 (some .boolean), Cond.methodLink RL 139 yL_sentTo, Cond.static yL_sentTo, Cond.codeWith yL_sentTo cL_sentTo 4 (some .int) [(0, 6, 9, 14)], Cond.methodLink RL 67 yX0_sentTo, Cond.instanceMethod yX0_sentTo, Cond.selects RX0 yX0_sentTo yX0_sentTo, Cond.code yX0_sentTo cX0_sentTo 2 (some .int), Cond.fieldLink RX0 31 "ShardBallots" "ballotAddresses" "[I", Cond.methodLink RL 153 yX0_ranges, Cond.instanceMethod yX0_ranges, Cond.selects RX0 yX0_ranges yX0_ranges, Cond.code yX0_ranges cX0_ranges 1 (some .int)]
def wsL_isTold : List Cond := .code yL_isTold cL_isTold 12 (some .boolean) :: ((wsL_isTold_r1 ++ (wsL_isTold_r2 ++ (wsL_isTold_r3 ++ (wsL_isTold_r4 ++ (wsL_isTold_r5 ++ (wsL_isTold_r6 ++ wsL_isTold_r7)))))) ++ wsX00 ++ (vx_atS RX0 218 "java/lang/IndexOutOfBoundsException" ["java/lang/RuntimeException", "java/lang/Exception"]).filter goodWord ++ (vx_atS RX0 231 "java/lang/IllegalArgumentException" ["java/lang/RuntimeException", "java/lang/Exception"]).filter goodWord)
def wsL_law0_r1 : List Cond := [Cond.classLink RL 9 RX0, Cond.instantiable RX0 16, Cond.initialized RX0, Cond.arrayClass .int, Cond.methodLink RL 157 yX0_init, Cond.instanceMethod yX0_init, Cond.code yX0_init cX0_init 1 none, Cond.methodLink RX0 1 objectInit, Cond.instanceMethod objectInit, Cond.code objectInit ⟨#[0xb1]⟩ 1 none, Cond.fieldLink RX0 9 "ShardBallots" "rowTable" "[I", Cond.fieldLink RX0 13 "ShardBallots" "lastKeys" "[I", Cond.fieldLink RX0 16 "ShardBallots" "homes" "[I", Cond.fieldLink RX0 19 "ShardBallots" "targets" "[I", Cond.fieldLink RX0 22 "ShardBallots" "roll" "[I", Cond.fieldLink RX0 25 "ShardBallots" "ballotKeys" "[I", Cond.fieldLink RX0 28 "ShardBallots" "ballotVotes" "[I", Cond.fieldLink RX0 31 "ShardBallots" "ballotAddresses" "[I", Cond.fieldLink RX0 34 "ShardBallots" "ballotDistricts" "[I", Cond.fieldLink RX0 37 "ShardBallots" "ballotStates" "[I", Cond.fieldLink RX0 40 "ShardBallots" "ballotChoices" "[I", Cond.fieldLink RX0 49 "ShardBallots" "rangeCount" "I", Cond.methodLink RX0 43 yJ7_fill_53178, Cond.static yJ7_fill_53178]
def wsL_law0_r2 : List Cond := [Cond.initialized RJ7, Cond.code yJ7_fill_53178 cJ7_fill_53178 4 none, Cond.methodLink RL 158 yL_isTold, Cond.static yL_isTold, Cond.initialized RL, Cond.code yL_isTold cL_isTold 12 (some .boolean), Cond.constant RL 103 (-2147483648), Cond.constant RL 156 (2147483647), Cond.methodLink RL 119 yL_ofRange, Cond.static yL_ofRange, Cond.code yL_ofRange cL_ofRange 9 (some .int), Cond.methodLink RL 82 yL_first, Cond.static yL_first, Cond.code yL_first cL_first 2 (some .int), Cond.methodLink RL 141 yL_rows, Cond.static yL_rows, Cond.codeWith yL_rows cL_rows 4 (some .int) [(0, 6, 9, 14)], Cond.classLink RL 14 "java/lang/IndexOutOfBoundsException", Cond.methodLink RL 54 yX0_rows, Cond.instanceMethod yX0_rows, Cond.selects RX0 yX0_rows yX0_rows, Cond.code yX0_rows cX0_rows 2 (some .int), Cond.methodLink RX0 132 yX0_checkShard, Cond.static yX0_checkShard]
def wsL_law0_r3 : List Cond := [Cond.code yX0_checkShard cX0_checkShard 1 none, Cond.classLink RX0 214 "java/lang/IndexOutOfBoundsException", Cond.initialized "java/lang/IndexOutOfBoundsException", Cond.methodLink RX0 202 yX0_isShard, Cond.static yX0_isShard, Cond.code yX0_isShard cX0_isShard 1 (some .boolean), Cond.methodLink RX0 142 yX0_countRows, Cond.instanceMethod yX0_countRows, Cond.selects RX0 yX0_countRows yX0_countRows, Cond.code yX0_countRows cX0_countRows 6 (some .int), Cond.methodLink RX0 152 yX0_rowOf, Cond.instanceMethod yX0_rowOf, Cond.selects RX0 yX0_rowOf yX0_rowOf, Cond.code yX0_rowOf cX0_rowOf 3 (some .int), Cond.methodLink RX0 205 yX0_isKey, Cond.static yX0_isKey, Cond.code yX0_isKey cX0_isKey 1 (some .boolean), Cond.methodLink RL 143 yL_inDistrict, Cond.static yL_inDistrict, Cond.codeWith yL_inDistrict cL_inDistrict 4 (some .int) [(0, 6, 9, 14)], Cond.methodLink RL 30 yX0_inDistrict, Cond.instanceMethod yX0_inDistrict, Cond.selects RX0 yX0_inDistrict yX0_inDistrict, Cond.code yX0_inDistrict cX0_inDistrict 4 (some .int)]
def wsL_law0_r4 : List Cond := [Cond.methodLink RX0 87 yX0_checkDistrict, Cond.static yX0_checkDistrict, Cond.code yX0_checkDistrict cX0_checkDistrict 1 none, Cond.methodLink RX0 83 yX0_read, Cond.instanceMethod yX0_read, Cond.selects RX0 yX0_read yX0_read, Cond.code yX0_read cX0_read 2 (some .int), Cond.methodLink RX0 93 yX0_rangeHolding, Cond.instanceMethod yX0_rangeHolding, Cond.selects RX0 yX0_rangeHolding yX0_rangeHolding, Cond.code yX0_rangeHolding cX0_rangeHolding 4 (some .int), Cond.methodLink RX0 96 yX0_lastKeyOf, Cond.instanceMethod yX0_lastKeyOf, Cond.selects RX0 yX0_lastKeyOf yX0_lastKeyOf, Cond.code yX0_lastKeyOf cX0_lastKeyOf 2 (some .int), Cond.methodLink RX0 117 yX0_isRange, Cond.instanceMethod yX0_isRange, Cond.selects RX0 yX0_isRange yX0_isRange, Cond.code yX0_isRange cX0_isRange 2 (some .boolean), Cond.methodLink RX0 122 yX0_homeOf, Cond.instanceMethod yX0_homeOf, Cond.selects RX0 yX0_homeOf yX0_homeOf, Cond.code yX0_homeOf cX0_homeOf 2 (some .int), Cond.methodLink RX0 90 yX0_districtOf]
def wsL_law0_r5 : List Cond := [Cond.static yX0_districtOf, Cond.code yX0_districtOf cX0_districtOf 1 (some .int), Cond.methodLink RL 145 yL_counted, Cond.static yL_counted, Cond.codeWith yL_counted cL_counted 5 (some .int) [(0, 7, 10, 14), (0, 7, 16, 16)], Cond.classLink RL 16 "java/lang/IllegalArgumentException", Cond.methodLink RL 76 yX0_counted, Cond.instanceMethod yX0_counted, Cond.selects RX0 yX0_counted yX0_counted, Cond.code yX0_counted cX0_counted 5 (some .int), Cond.fieldLink RX0 182 "ShardBallots" "ballotCount" "I", Cond.methodLink RX0 190 yX0_checkChoice, Cond.static yX0_checkChoice, Cond.code yX0_checkChoice cX0_checkChoice 1 none, Cond.classLink RX0 227 "java/lang/IllegalArgumentException", Cond.initialized "java/lang/IllegalArgumentException", Cond.methodLink RL 117 yL_shardOf, Cond.static yL_shardOf, Cond.codeWith yL_shardOf cL_shardOf 4 (some .int) [(0, 6, 9, 14)], Cond.methodLink RL 51 yX0_shardOf, Cond.instanceMethod yX0_shardOf, Cond.selects RX0 yX0_shardOf yX0_shardOf, Cond.code yX0_shardOf cX0_shardOf 2 (some .int), Cond.methodLink RX0 114 yX0_checkRange]
def wsL_law0_r6 : List Cond := [Cond.instanceMethod yX0_checkRange, Cond.selects RX0 yX0_checkRange yX0_checkRange, Cond.code yX0_checkRange cX0_checkRange 2 none, Cond.methodLink RL 88 yL_low, Cond.static yL_low, Cond.code yL_low cL_low 2 (some .int), Cond.methodLink RL 91 yL_member, Cond.static yL_member, Cond.code yL_member cL_member 4 (some .int), Cond.methodLink RL 147 yL_address, Cond.static yL_address, Cond.codeWith yL_address cL_address 4 (some .int) [(0, 6, 9, 14)], Cond.methodLink RL 27 yX0_address, Cond.instanceMethod yX0_address, Cond.selects RX0 yX0_address yX0_address, Cond.code yX0_address cX0_address 2 (some .int), Cond.methodLink RX0 53 yX0_checkKey, Cond.static yX0_checkKey, Cond.code yX0_checkKey cX0_checkKey 1 none, Cond.methodLink RL 149 yL_onRoll, Cond.static yL_onRoll, Cond.codeWith yL_onRoll cL_onRoll 4 (some .int) [(0, 6, 9, 14)], Cond.methodLink RL 61 yX0_onRoll, Cond.instanceMethod yX0_onRoll]
def wsL_law0_r7 : List Cond := [Cond.selects RX0 yX0_onRoll yX0_onRoll, Cond.code yX0_onRoll cX0_onRoll 2 (some .int), Cond.fieldLink RX0 163 "ShardBallots" "rollLaid" "Z", Cond.methodLink RL 128 yL_rolled, Cond.static yL_rolled, Cond.code yL_rolled cL_rolled 4 (some .int), Cond.methodLink RL 151 yL_rangeOf, Cond.static yL_rangeOf, Cond.codeWith yL_rangeOf cL_rangeOf 4 (some .int) [(0, 6, 9, 14)], Cond.methodLink RL 48 yX0_rangeOf, Cond.instanceMethod yX0_rangeOf, Cond.selects RX0 yX0_rangeOf yX0_rangeOf, Cond.code yX0_rangeOf cX0_rangeOf 2 (some .int), Cond.methodLink RL 104 yL_range, Cond.static yL_range, Cond.code yL_range cL_range 3 (some .int), Cond.methodLink RL 137 yL_stateOf, Cond.static yL_stateOf, Cond.codeWith yL_stateOf cL_stateOf 4 (some .int) [(0, 6, 9, 14)], Cond.methodLink RL 73 yX0_stateOf, Cond.instanceMethod yX0_stateOf, Cond.selects RX0 yX0_stateOf yX0_stateOf, Cond.code yX0_stateOf cX0_stateOf 2 (some .int), Cond.methodLink RX0 187 yX0_checkBallot]
def wsL_law0_r8 : List Cond := [Cond.instanceMethod yX0_checkBallot, Cond.selects RX0 yX0_checkBallot yX0_checkBallot, Cond.code yX0_checkBallot cX0_checkBallot 2 none, Cond.methodLink RX0 177 yX0_isBallot, Cond.instanceMethod yX0_isBallot, Cond.selects RX0 yX0_isBallot yX0_isBallot, Cond.code yX0_isBallot cX0_isBallot 2 (some .boolean), Cond.methodLink RL 139 yL_sentTo, Cond.static yL_sentTo, Cond.codeWith yL_sentTo cL_sentTo 4 (some .int) [(0, 6, 9, 14)], Cond.methodLink RL 67 yX0_sentTo, Cond.instanceMethod yX0_sentTo, Cond.selects RX0 yX0_sentTo yX0_sentTo, Cond.code yX0_sentTo cX0_sentTo 2 (some .int), Cond.methodLink RL 153 yX0_ranges, Cond.instanceMethod yX0_ranges, Cond.selects RX0 yX0_ranges yX0_ranges, Cond.code yX0_ranges cX0_ranges 1 (some .int), Cond.methodLink RL 162 yL_cell, Cond.static yL_cell, Cond.code yL_cell cL_cell 2 (some .int), Cond.constant RL 7 (1205586403), Cond.methodLink RL 165 yL_writes, Cond.static yL_writes]
def wsL_law0_r9 : List Cond := [Cond.code yL_writes cL_writes 11 (some .boolean), Cond.methodLink RL 95 yL_join, Cond.static yL_join, Cond.codeWith yL_join cL_join 5 (some .int) [(0, 7, 10, 14), (0, 7, 16, 16), (0, 7, 22, 18)], Cond.classLink RL 18 "java/lang/IllegalStateException", Cond.methodLink RL 8 yX0_join, Cond.instanceMethod yX0_join, Cond.selects RX0 yX0_join yX0_join, Cond.code yX0_join cX0_join 3 (some .int), Cond.classLink RX0 64 "java/lang/IllegalStateException", Cond.initialized "java/lang/IllegalStateException", Cond.fieldLink RX0 71 "ShardBallots" "memberCount" "I", Cond.methodLink RX0 57 yX0_checkAddress, Cond.static yX0_checkAddress, Cond.code yX0_checkAddress cX0_checkAddress 1 none, Cond.methodLink RX0 60 yX0_isMember, Cond.instanceMethod yX0_isMember, Cond.selects RX0 yX0_isMember yX0_isMember, Cond.code yX0_isMember cX0_isMember 2 (some .boolean), Cond.methodLink RX0 76 yX0_write, Cond.instanceMethod yX0_write, Cond.selects RX0 yX0_write yX0_write, Cond.code yX0_write cX0_write 4 none, Cond.methodLink RX0 156 yX0_putRow]
def wsL_law0_r10 : List Cond := [Cond.instanceMethod yX0_putRow, Cond.selects RX0 yX0_putRow yX0_putRow, Cond.code yX0_putRow cX0_putRow 4 none, Cond.methodLink RX0 208 yX0_targetOf, Cond.instanceMethod yX0_targetOf, Cond.selects RX0 yX0_targetOf yX0_targetOf, Cond.code yX0_targetOf cX0_targetOf 2 (some .int), Cond.methodLink RL 98 yL_change, Cond.static yL_change, Cond.codeWith yL_change cL_change 5 (some .int) [(0, 7, 10, 14), (0, 7, 16, 16), (0, 7, 22, 18)], Cond.methodLink RL 20 yX0_change, Cond.instanceMethod yX0_change, Cond.selects RX0 yX0_change yX0_change, Cond.code yX0_change cX0_change 4 (some .int), Cond.methodLink RX0 80 yX0_checkMember, Cond.instanceMethod yX0_checkMember, Cond.selects RX0 yX0_checkMember yX0_checkMember, Cond.code yX0_checkMember cX0_checkMember 2 none, Cond.methodLink RL 100 yL_leave, Cond.static yL_leave, Cond.codeWith yL_leave cL_leave 4 (some .int) [(0, 6, 9, 14), (0, 6, 14, 18)], Cond.methodLink RL 23 yX0_leave, Cond.instanceMethod yX0_leave, Cond.selects RX0 yX0_leave yX0_leave]
def wsL_law0_r11_0 : List Cond := [Cond.code yX0_leave cX0_leave 3 (some .int), Cond.methodLink RL 169 yL_shards, Cond.static yL_shards]
def wsL_law0_r11_1 : List Cond := [Cond.code yL_shards cL_shards 11 (some .boolean)]
def wsL_law0_r11_2 : List Cond := [Cond.methodLink RL 107 yL_split, Cond.static yL_split, Cond.codeWith yL_split cL_split 4 (some .int) [(0, 6, 9, 14), (0, 6, 14, 18)], Cond.methodLink RL 33 yX0_split, Cond.instanceMethod yX0_split, Cond.selects RX0 yX0_split yX0_split, Cond.code yX0_split cX0_split 3 (some .int), Cond.methodLink RX0 101 yX0_isMoved, Cond.instanceMethod yX0_isMoved, Cond.selects RX0 yX0_isMoved yX0_isMoved, Cond.code yX0_isMoved cX0_isMoved 2 (some .boolean), Cond.methodLink RX0 108 yX0_insertCopyBehind, Cond.instanceMethod yX0_insertCopyBehind, Cond.selects RX0 yX0_insertCopyBehind yX0_insertCopyBehind, Cond.code yX0_insertCopyBehind cX0_insertCopyBehind 3 none, Cond.methodLink RX0 211 yX0_copyRange, Cond.instanceMethod yX0_copyRange, Cond.selects RX0 yX0_copyRange yX0_copyRange, Cond.code yX0_copyRange cX0_copyRange 3 none, Cond.methodLink RX0 111 yX0_putLastKey]
def wsL_law0_r11 : List Cond := (wsL_law0_r11_0 ++ (wsL_law0_r11_1 ++ wsL_law0_r11_2))
def wsL_law0_r12 : List Cond := [Cond.instanceMethod yX0_putLastKey, Cond.selects RX0 yX0_putLastKey yX0_putLastKey, Cond.code yX0_putLastKey cX0_putLastKey 3 none, Cond.methodLink RL 109 yL_merge, Cond.static yL_merge, Cond.codeWith yL_merge cL_merge 4 (some .int) [(0, 6, 9, 14), (0, 6, 14, 18)], Cond.methodLink RL 36 yX0_merge, Cond.instanceMethod yX0_merge, Cond.selects RX0 yX0_merge yX0_merge, Cond.code yX0_merge cX0_merge 3 (some .int), Cond.methodLink RX0 129 yX0_remove, Cond.instanceMethod yX0_remove, Cond.selects RX0 yX0_remove yX0_remove, Cond.code yX0_remove cX0_remove 3 none, Cond.methodLink RL 111 yL_move, Cond.static yL_move, Cond.codeWith yL_move cL_move 5 (some .int) [(0, 7, 10, 14), (0, 7, 16, 18)], Cond.methodLink RL 39 yX0_move, Cond.instanceMethod yX0_move, Cond.selects RX0 yX0_move yX0_move, Cond.code yX0_move cX0_move 3 (some .int), Cond.methodLink RX0 139 yX0_firstKeyOf, Cond.instanceMethod yX0_firstKeyOf, Cond.selects RX0 yX0_firstKeyOf yX0_firstKeyOf]
def wsL_law0_r13 : List Cond := [Cond.code yX0_firstKeyOf cX0_firstKeyOf 2 (some .int), Cond.methodLink RL 113 yL_step, Cond.static yL_step, Cond.codeWith yL_step cL_step 4 (some .int) [(0, 6, 9, 14), (0, 6, 14, 18)], Cond.methodLink RL 42 yX0_step, Cond.instanceMethod yX0_step, Cond.selects RX0 yX0_step yX0_step, Cond.code yX0_step cX0_step 5 (some .int), Cond.methodLink RX0 146 yX0_checkMoved, Cond.instanceMethod yX0_checkMoved, Cond.selects RX0 yX0_checkMoved yX0_checkMoved, Cond.code yX0_checkMoved cX0_checkMoved 2 none, Cond.methodLink RX0 149 yX0_lowestKeyNotBrought, Cond.instanceMethod yX0_lowestKeyNotBrought, Cond.selects RX0 yX0_lowestKeyNotBrought yX0_lowestKeyNotBrought, Cond.code yX0_lowestKeyNotBrought cX0_lowestKeyNotBrought 6 (some .int), Cond.methodLink RX0 160 yX0_dropRows, Cond.instanceMethod yX0_dropRows, Cond.selects RX0 yX0_dropRows yX0_dropRows, Cond.code yX0_dropRows cX0_dropRows 5 none, Cond.methodLink RL 115 yL_giveUp, Cond.static yL_giveUp, Cond.codeWith yL_giveUp cL_giveUp 4 (some .int) [(0, 6, 9, 14), (0, 6, 14, 18)], Cond.methodLink RL 45 yX0_giveUp]
def wsL_law0_r14_0 : List Cond := [Cond.instanceMethod yX0_giveUp, Cond.selects RX0 yX0_giveUp yX0_giveUp, Cond.code yX0_giveUp cX0_giveUp 4 (some .int), Cond.methodLink RL 173 yL_votes, Cond.static yL_votes]
def wsL_law0_r14_1 : List Cond := [Cond.code yL_votes cL_votes 14 (some .boolean)]
def wsL_law0_r14_2 : List Cond := [Cond.constant RL 133 (32768), Cond.constant RL 134 (262144), Cond.methodLink RL 123 yL_fix, Cond.static yL_fix, Cond.codeWith yL_fix cL_fix 3 (some .int) [(0, 5, 8, 18)], Cond.methodLink RL 57 yX0_fix, Cond.instanceMethod yX0_fix, Cond.selects RX0 yX0_fix yX0_fix, Cond.code yX0_fix cX0_fix 2 (some .int), Cond.fieldLink RX0 169 "ShardBallots" "voteNumber" "I", Cond.methodLink RL 126 yL_close, Cond.static yL_close, Cond.codeWith yL_close cL_close 3 (some .int) [(0, 5, 8, 18)], Cond.methodLink RL 79 yX0_close, Cond.instanceMethod yX0_close, Cond.selects RX0 yX0_close yX0_close, Cond.code yX0_close cX0_close 3 (some .int), Cond.methodLink RX0 195 yX0_isOfOpenVote]
def wsL_law0_r14 : List Cond := (wsL_law0_r14_0 ++ (wsL_law0_r14_1 ++ wsL_law0_r14_2))
def wsL_law0_r15 : List Cond := [Cond.instanceMethod yX0_isOfOpenVote, Cond.selects RX0 yX0_isOfOpenVote yX0_isOfOpenVote, Cond.code yX0_isOfOpenVote cX0_isOfOpenVote 2 (some .boolean), Cond.methodLink RL 131 yL_send, Cond.static yL_send, Cond.codeWith yL_send cL_send 4 (some .int) [(0, 6, 9, 14), (0, 6, 14, 18)], Cond.methodLink RL 64 yX0_send, Cond.instanceMethod yX0_send, Cond.selects RX0 yX0_send yX0_send, Cond.code yX0_send cX0_send 4 (some .int), Cond.methodLink RX0 174 yX0_latestBallotTo, Cond.instanceMethod yX0_latestBallotTo, Cond.selects RX0 yX0_latestBallotTo yX0_latestBallotTo, Cond.code yX0_latestBallotTo cX0_latestBallotTo 3 (some .int), Cond.methodLink RL 135 yL_giveBack, Cond.static yL_giveBack, Cond.codeWith yL_giveBack cL_giveBack 5 (some .int) [(0, 7, 10, 14), (0, 7, 16, 16), (0, 7, 22, 18)], Cond.methodLink RL 70 yX0_giveBack, Cond.instanceMethod yX0_giveBack, Cond.selects RX0 yX0_giveBack yX0_giveBack, Cond.code yX0_giveBack cX0_giveBack 3 (some .int)]
def wsL_law0 : List Cond := (wsL_law0_r1 ++ (wsL_law0_r2 ++ (wsL_law0_r3 ++ (wsL_law0_r4 ++ (wsL_law0_r5 ++ (wsL_law0_r6 ++ (wsL_law0_r7 ++ (wsL_law0_r8 ++ (wsL_law0_r9 ++ (wsL_law0_r10 ++ (wsL_law0_r11 ++ (wsL_law0_r12 ++ (wsL_law0_r13 ++ (wsL_law0_r14 ++ wsL_law0_r15)))))))))))))) ++ wsX00 ++ ([] : List Cond)
def wsL_law : List Cond := wsL_law0 ++ (vx_atS RX0 218 "java/lang/IndexOutOfBoundsException" ["java/lang/RuntimeException", "java/lang/Exception"]).filter goodWord ++ (vx_atS RX0 231 "java/lang/IllegalArgumentException" ["java/lang/RuntimeException", "java/lang/Exception"]).filter goodWord ++ (vx_atS RX0 68 "java/lang/IllegalStateException" ["java/lang/RuntimeException", "java/lang/Exception"]).filter goodWord
end
section
set_option maxRecDepth 20000 in
theorem wsL_law_in0_1 : ∀ w ∈ wsL_law0_r1, w ∈ lw_tbl := fun w h => (goodIn_r wsL_law0_r1 [36, 37, 28, 96, 38, 39, 40, 41, 42, 43, 47, 49, 50, 51, 53, 56, 57, 58, 59, 60, 61, 52, 44, 45] (by decide +kernel) (by decide +kernel) w h).1
set_option maxRecDepth 20000 in
theorem wsL_law_in0_2 : ∀ w ∈ wsL_law0_r2, w ∈ lw_tbl := fun w h => (goodIn_r wsL_law0_r2 [29, 46, 486, 487, 27, 488, 292, 539, 402, 403, 404, 399, 400, 401, 489, 490, 491, 113, 492, 493, 494, 495, 351, 352] (by decide +kernel) (by decide +kernel) w h).1
set_option maxRecDepth 20000 in
theorem wsL_law_in0_3 : ∀ w ∈ wsL_law0_r3, w ∈ lw_tbl := fun w h => (goodIn_r wsL_law0_r3 [353, 126, 33, 241, 242, 243, 361, 363, 19, 364, 237, 239, 7, 240, 123, 124, 125, 496, 497, 498, 499, 500, 501, 502] (by decide +kernel) (by decide +kernel) w h).1
set_option maxRecDepth 20000 in
theorem wsL_law_in0_4 : ∀ w ∈ wsL_law0_r4, w ∈ lw_tbl := fun w h => (goodIn_r wsL_law0_r4 [503, 504, 505, 217, 219, 2, 220, 221, 223, 3, 224, 225, 227, 4, 228, 229, 231, 5, 232, 233, 235, 6, 236, 416] (by decide +kernel) (by decide +kernel) w h).1
set_option maxRecDepth 20000 in
theorem wsL_law_in0_5 : ∀ w ∈ wsL_law0_r5, w ∈ lw_tbl := fun w h => (goodIn_r wsL_law0_r5 [417, 418, 507, 508, 509, 114, 510, 511, 512, 513, 62, 466, 467, 468, 197, 34, 392, 393, 394, 395, 396, 397, 398, 332] (by decide +kernel) (by decide +kernel) w h).1
set_option maxRecDepth 20000 in
theorem wsL_law_in0_6 : ∀ w ∈ wsL_law0_r6, w ∈ lw_tbl := fun w h => (goodIn_r wsL_law0_r6 [334, 16, 335, 101, 102, 103, 107, 108, 109, 514, 515, 516, 517, 518, 519, 520, 120, 121, 122, 521, 522, 523, 524, 525] (by decide +kernel) (by decide +kernel) w h).1
set_option maxRecDepth 20000 in
theorem wsL_law_in0_7 : ∀ w ∈ wsL_law0_r7, w ∈ lw_tbl := fun w h => (goodIn_r wsL_law0_r7 [526, 527, 54, 435, 436, 437, 528, 529, 530, 531, 532, 533, 534, 296, 297, 298, 472, 473, 474, 475, 476, 477, 478, 461] (by decide +kernel) (by decide +kernel) w h).1
set_option maxRecDepth 20000 in
theorem wsL_law_in0_8 : ∀ w ∈ wsL_law0_r8, w ∈ lw_tbl := fun w h => (goodIn_r wsL_law0_r8 [463, 26, 464, 431, 433, 24, 434, 479, 480, 481, 482, 483, 484, 485, 535, 536, 537, 538, 97, 98, 99, 100, 104, 105] (by decide +kernel) (by decide +kernel) w h).1
set_option maxRecDepth 20000 in
theorem wsL_law_in0_9 : ∀ w ∈ wsL_law0_r9, w ∈ lw_tbl := fun w h => (goodIn_r wsL_law0_r9 [106, 110, 111, 112, 115, 116, 117, 118, 119, 244, 35, 48, 194, 195, 196, 213, 215, 1, 216, 261, 263, 8, 264, 265] (by decide +kernel) (by decide +kernel) w h).1
set_option maxRecDepth 20000 in
theorem wsL_law_in0_10 : ∀ w ∈ wsL_law0_r10, w ∈ lw_tbl := fun w h => (goodIn_r wsL_law0_r10 [267, 9, 268, 269, 271, 10, 272, 273, 274, 275, 276, 277, 278, 279, 280, 282, 11, 283, 285, 286, 287, 288, 289, 290] (by decide +kernel) (by decide +kernel) w h).1
set_option maxRecDepth 20000 in
theorem wsL_law0_r11_in0 : ∀ w ∈ wsL_law0_r11_0, w ∈ lw_tbl := fun w h => (goodIn_r wsL_law0_r11_0 [291, 293, 294] (by decide +kernel) (by decide +kernel) w h).1
set_option maxRecDepth 20000 in
theorem wsL_law0_r11_in1 : ∀ w ∈ wsL_law0_r11_1, w ∈ lw_tbl := List.forall_mem_cons.mpr ⟨List.mem_of_getElem? (i := 295) rfl, fun _ h => nomatch h⟩
set_option maxRecDepth 20000 in
theorem wsL_law0_r11_in2 : ∀ w ∈ wsL_law0_r11_2, w ∈ lw_tbl := fun w h => (goodIn_r wsL_law0_r11_2 [299, 300, 301, 302, 303, 304, 305, 307, 309, 12, 310, 313, 315, 13, 316, 317, 319, 14, 320, 321] (by decide +kernel) (by decide +kernel) w h).1
theorem wsL_law_in0_11 : ∀ w ∈ wsL_law0_r11, w ∈ lw_tbl := fun w => (fun h => (List.mem_append.mp h).elim (wsL_law0_r11_in0 w) (fun h => (List.mem_append.mp h).elim (wsL_law0_r11_in1 w) (wsL_law0_r11_in2 w)))
set_option maxRecDepth 20000 in
theorem wsL_law_in0_12 : ∀ w ∈ wsL_law0_r12, w ∈ lw_tbl := fun w h => (goodIn_r wsL_law0_r12 [323, 15, 324, 325, 326, 327, 328, 329, 330, 331, 340, 342, 17, 343, 344, 345, 346, 347, 348, 349, 350, 357, 359, 18] (by decide +kernel) (by decide +kernel) w h).1
set_option maxRecDepth 20000 in
theorem wsL_law_in0_13 : ∀ w ∈ wsL_law0_r13, w ∈ lw_tbl := fun w h => (goodIn_r wsL_law0_r13 [360, 365, 366, 367, 368, 369, 370, 371, 372, 374, 20, 375, 377, 379, 21, 380, 381, 383, 22, 384, 385, 386, 387, 388] (by decide +kernel) (by decide +kernel) w h).1
set_option maxRecDepth 20000 in
theorem wsL_law0_r14_in0 : ∀ w ∈ wsL_law0_r14_0, w ∈ lw_tbl := fun w h => (goodIn_r wsL_law0_r14_0 [389, 390, 391, 405, 406] (by decide +kernel) (by decide +kernel) w h).1
set_option maxRecDepth 20000 in
theorem wsL_law0_r14_in1 : ∀ w ∈ wsL_law0_r14_1, w ∈ lw_tbl := List.forall_mem_cons.mpr ⟨List.mem_of_getElem? (i := 407) rfl, fun _ h => nomatch h⟩
set_option maxRecDepth 20000 in
theorem wsL_law0_r14_in2 : ∀ w ∈ wsL_law0_r14_2, w ∈ lw_tbl := fun w h => (goodIn_r wsL_law0_r14_2 [452, 453, 408, 409, 410, 411, 412, 413, 414, 55, 419, 420, 421, 422, 423, 424, 425, 427] (by decide +kernel) (by decide +kernel) w h).1
theorem wsL_law_in0_14 : ∀ w ∈ wsL_law0_r14, w ∈ lw_tbl := fun w => (fun h => (List.mem_append.mp h).elim (wsL_law0_r14_in0 w) (fun h => (List.mem_append.mp h).elim (wsL_law0_r14_in1 w) (wsL_law0_r14_in2 w)))
set_option maxRecDepth 20000 in
theorem wsL_law_in0_15 : ∀ w ∈ wsL_law0_r15, w ∈ lw_tbl := fun w h => (goodIn_r wsL_law0_r15 [429, 23, 430, 438, 439, 440, 441, 442, 443, 444, 446, 448, 25, 449, 454, 455, 456, 457, 458, 459, 460] (by decide +kernel) (by decide +kernel) w h).1
set_option maxRecDepth 20000 in
theorem wsL_law_in0_wsX00 : ∀ w ∈ wsX00, w ∈ lw_tbl := fun w h => (goodIn_r wsX00 [63, 65, 67, 69, 71, 73, 75, 77, 79, 81, 83, 85, 87, 89, 91, 93] (by decide +kernel) (by decide +kernel) w h).1
set_option maxRecDepth 20000 in
theorem wsL_law_in0 : ∀ w ∈ wsL_law0, w ∈ lw_tbl := fun w h => (List.mem_append.mp h).elim (fun h => (List.mem_append.mp h).elim (fun h => (List.mem_append.mp h).elim (wsL_law_in0_1 w) (fun h => (List.mem_append.mp h).elim (wsL_law_in0_2 w) (fun h => (List.mem_append.mp h).elim (wsL_law_in0_3 w) (fun h => (List.mem_append.mp h).elim (wsL_law_in0_4 w) (fun h => (List.mem_append.mp h).elim (wsL_law_in0_5 w) (fun h => (List.mem_append.mp h).elim (wsL_law_in0_6 w) (fun h => (List.mem_append.mp h).elim (wsL_law_in0_7 w) (fun h => (List.mem_append.mp h).elim (wsL_law_in0_8 w) (fun h => (List.mem_append.mp h).elim (wsL_law_in0_9 w) (fun h => (List.mem_append.mp h).elim (wsL_law_in0_10 w) (fun h => (List.mem_append.mp h).elim (wsL_law_in0_11 w) (fun h => (List.mem_append.mp h).elim (wsL_law_in0_12 w) (fun h => (List.mem_append.mp h).elim (wsL_law_in0_13 w) (fun h => (List.mem_append.mp h).elim (wsL_law_in0_14 w) (wsL_law_in0_15 w))))))))))))))) (wsL_law_in0_wsX00 w)) (fun h => absurd h List.not_mem_nil)
theorem wsL_law_x0 : ∀ w ∈ (vx_atS RX0 218 "java/lang/IndexOutOfBoundsException" ["java/lang/RuntimeException", "java/lang/Exception"]).filter goodWord, w ∈ lw_tbl := by decide +kernel
theorem wsL_law_x1 : ∀ w ∈ (vx_atS RX0 231 "java/lang/IllegalArgumentException" ["java/lang/RuntimeException", "java/lang/Exception"]).filter goodWord, w ∈ lw_tbl := by decide +kernel
theorem wsL_law_x2 : ∀ w ∈ (vx_atS RX0 68 "java/lang/IllegalStateException" ["java/lang/RuntimeException", "java/lang/Exception"]).filter goodWord, w ∈ lw_tbl := by decide +kernel
theorem wsL_law_in : ∀ w ∈ wsL_law, w ∈ lw_tbl := fun w h => (List.mem_append.mp h).elim (fun h => (List.mem_append.mp h).elim (fun h => (List.mem_append.mp h).elim (fun h => wsL_law_in0 w h) (fun h => wsL_law_x0 w h)) (fun h => wsL_law_x1 w h)) (fun h => wsL_law_x2 w h)
theorem inlX0 : ∀ w ∈ wsX00, w ∈ wsL_law := fun _ h => List.mem_append_left _ (List.mem_append_left _ (List.mem_append_left _ (List.mem_append_left _ (List.mem_append_right _ h))))
theorem inX0 : ∀ w ∈ wsX00, w ∈ lw_tbl := fun w h => wsL_law_in w (inlX0 w h)
theorem inX1 : ∀ w ∈ wsX10, w ∈ lw_tbl := by decide +kernel
theorem inJx145de : ∀ w ∈ wsJx145de0, w ∈ lw_tbl := by decide +kernel
theorem inJ0 : ∀ w ∈ wsJ00, w ∈ lw_tbl := by decide +kernel
theorem inJ7 : ∀ w ∈ wsJ70, w ∈ lw_tbl := by decide +kernel
end
