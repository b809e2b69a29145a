section
-- ===== PART A: goes FIRST, ahead of the names: the tables' words, and 'selects' of the private methods out of them =====
/-- a private method of a class that the tables say can be made, by its rows of tables_1 -/
def lw_okq (q : MethodName × Nat) : Prop := (q.1.cls ≠ "java/lang/invoke/MethodHandle" ∧ q.1.cls ≠ "java/lang/invoke/VarHandle") ∧ Cond.instantiable q.1.cls q.2 ∈ tables_1 ∧ Cond.privateMethod q.1 ∈ tables_1 ∧ Cond.instanceMethod q.1 ∈ tables_1
theorem lw_p0 : lw_okq (⟨"java/lang/Throwable", "fillInStackTrace", "(I)Ljava/lang/Throwable;"⟩, 6) := ⟨⟨by decide +kernel, by decide +kernel⟩, List.mem_of_getElem? (i := 138) (by decide +kernel), List.mem_of_getElem? (i := 136) (by decide +kernel), List.mem_of_getElem? (i := 137) (by decide +kernel)⟩
theorem lw_p1 : lw_okq (⟨"ShardBallots", "isMember", "(I)Z"⟩, 16) := ⟨⟨by decide +kernel, by decide +kernel⟩, List.mem_of_getElem? (i := 10) (by decide +kernel), List.mem_of_getElem? (i := 187) (by decide +kernel), List.mem_of_getElem? (i := 188) (by decide +kernel)⟩
theorem lw_p2 : lw_okq (⟨"ShardBallots", "read", "(I)I"⟩, 16) := ⟨⟨by decide +kernel, by decide +kernel⟩, List.mem_of_getElem? (i := 10) (by decide +kernel), List.mem_of_getElem? (i := 191) (by decide +kernel), List.mem_of_getElem? (i := 192) (by decide +kernel)⟩
theorem lw_p3 : lw_okq (⟨"ShardBallots", "rangeHolding", "(I)I"⟩, 16) := ⟨⟨by decide +kernel, by decide +kernel⟩, List.mem_of_getElem? (i := 10) (by decide +kernel), List.mem_of_getElem? (i := 195) (by decide +kernel), List.mem_of_getElem? (i := 196) (by decide +kernel)⟩
theorem lw_p4 : lw_okq (⟨"ShardBallots", "lastKeyOf", "(I)I"⟩, 16) := ⟨⟨by decide +kernel, by decide +kernel⟩, List.mem_of_getElem? (i := 10) (by decide +kernel), List.mem_of_getElem? (i := 199) (by decide +kernel), List.mem_of_getElem? (i := 200) (by decide +kernel)⟩
theorem lw_p5 : lw_okq (⟨"ShardBallots", "isRange", "(I)Z"⟩, 16) := ⟨⟨by decide +kernel, by decide +kernel⟩, List.mem_of_getElem? (i := 10) (by decide +kernel), List.mem_of_getElem? (i := 203) (by decide +kernel), List.mem_of_getElem? (i := 204) (by decide +kernel)⟩
theorem lw_p6 : lw_okq (⟨"ShardBallots", "homeOf", "(I)I"⟩, 16) := ⟨⟨by decide +kernel, by decide +kernel⟩, List.mem_of_getElem? (i := 10) (by decide +kernel), List.mem_of_getElem? (i := 207) (by decide +kernel), List.mem_of_getElem? (i := 208) (by decide +kernel)⟩
theorem lw_p7 : lw_okq (⟨"ShardBallots", "rowOf", "(II)I"⟩, 16) := ⟨⟨by decide +kernel, by decide +kernel⟩, List.mem_of_getElem? (i := 10) (by decide +kernel), List.mem_of_getElem? (i := 211) (by decide +kernel), List.mem_of_getElem? (i := 212) (by decide +kernel)⟩
theorem lw_p8 : lw_okq (⟨"ShardBallots", "write", "(II)V"⟩, 16) := ⟨⟨by decide +kernel, by decide +kernel⟩, List.mem_of_getElem? (i := 10) (by decide +kernel), List.mem_of_getElem? (i := 235) (by decide +kernel), List.mem_of_getElem? (i := 236) (by decide +kernel)⟩
theorem lw_p9 : lw_okq (⟨"ShardBallots", "putRow", "(III)V"⟩, 16) := ⟨⟨by decide +kernel, by decide +kernel⟩, List.mem_of_getElem? (i := 10) (by decide +kernel), List.mem_of_getElem? (i := 239) (by decide +kernel), List.mem_of_getElem? (i := 240) (by decide +kernel)⟩
theorem lw_p10 : lw_okq (⟨"ShardBallots", "targetOf", "(I)I"⟩, 16) := ⟨⟨by decide +kernel, by decide +kernel⟩, List.mem_of_getElem? (i := 10) (by decide +kernel), List.mem_of_getElem? (i := 243) (by decide +kernel), List.mem_of_getElem? (i := 244) (by decide +kernel)⟩
theorem lw_p11 : lw_okq (⟨"ShardBallots", "checkMember", "(I)V"⟩, 16) := ⟨⟨by decide +kernel, by decide +kernel⟩, List.mem_of_getElem? (i := 10) (by decide +kernel), List.mem_of_getElem? (i := 254) (by decide +kernel), List.mem_of_getElem? (i := 255) (by decide +kernel)⟩
theorem lw_p12 : lw_okq (⟨"ShardBallots", "isMoved", "(I)Z"⟩, 16) := ⟨⟨by decide +kernel, by decide +kernel⟩, List.mem_of_getElem? (i := 10) (by decide +kernel), List.mem_of_getElem? (i := 281) (by decide +kernel), List.mem_of_getElem? (i := 282) (by decide +kernel)⟩
theorem lw_p13 : lw_okq (⟨"ShardBallots", "insertCopyBehind", "(I)V"⟩, 16) := ⟨⟨by decide +kernel, by decide +kernel⟩, List.mem_of_getElem? (i := 10) (by decide +kernel), List.mem_of_getElem? (i := 287) (by decide +kernel), List.mem_of_getElem? (i := 288) (by decide +kernel)⟩
theorem lw_p14 : lw_okq (⟨"ShardBallots", "copyRange", "(II)V"⟩, 16) := ⟨⟨by decide +kernel, by decide +kernel⟩, List.mem_of_getElem? (i := 10) (by decide +kernel), List.mem_of_getElem? (i := 291) (by decide +kernel), List.mem_of_getElem? (i := 292) (by decide +kernel)⟩
theorem lw_p15 : lw_okq (⟨"ShardBallots", "putLastKey", "(II)V"⟩, 16) := ⟨⟨by decide +kernel, by decide +kernel⟩, List.mem_of_getElem? (i := 10) (by decide +kernel), List.mem_of_getElem? (i := 295) (by decide +kernel), List.mem_of_getElem? (i := 296) (by decide +kernel)⟩
def lw_privs_1 : List (MethodName × Nat) := [(⟨"java/lang/Throwable", "fillInStackTrace", "(I)Ljava/lang/Throwable;"⟩, 6), (⟨"ShardBallots", "isMember", "(I)Z"⟩, 16), (⟨"ShardBallots", "read", "(I)I"⟩, 16), (⟨"ShardBallots", "rangeHolding", "(I)I"⟩, 16), (⟨"ShardBallots", "lastKeyOf", "(I)I"⟩, 16), (⟨"ShardBallots", "isRange", "(I)Z"⟩, 16), (⟨"ShardBallots", "homeOf", "(I)I"⟩, 16), (⟨"ShardBallots", "rowOf", "(II)I"⟩, 16), (⟨"ShardBallots", "write", "(II)V"⟩, 16), (⟨"ShardBallots", "putRow", "(III)V"⟩, 16), (⟨"ShardBallots", "targetOf", "(I)I"⟩, 16), (⟨"ShardBallots", "checkMember", "(I)V"⟩, 16), (⟨"ShardBallots", "isMoved", "(I)Z"⟩, 16), (⟨"ShardBallots", "insertCopyBehind", "(I)V"⟩, 16), (⟨"ShardBallots", "copyRange", "(II)V"⟩, 16), (⟨"ShardBallots", "putLastKey", "(II)V"⟩, 16)]
theorem lw_r1 : ∀ q ∈ lw_privs_1, lw_okq q := List.forall_mem_cons.mpr ⟨lw_p0, List.forall_mem_cons.mpr ⟨lw_p1, List.forall_mem_cons.mpr ⟨lw_p2, List.forall_mem_cons.mpr ⟨lw_p3, List.forall_mem_cons.mpr ⟨lw_p4, List.forall_mem_cons.mpr ⟨lw_p5, List.forall_mem_cons.mpr ⟨lw_p6, List.forall_mem_cons.mpr ⟨lw_p7, List.forall_mem_cons.mpr ⟨lw_p8, List.forall_mem_cons.mpr ⟨lw_p9, List.forall_mem_cons.mpr ⟨lw_p10, List.forall_mem_cons.mpr ⟨lw_p11, List.forall_mem_cons.mpr ⟨lw_p12, List.forall_mem_cons.mpr ⟨lw_p13, List.forall_mem_cons.mpr ⟨lw_p14, List.forall_mem_cons.mpr ⟨lw_p15, fun _ h => absurd h List.not_mem_nil⟩⟩⟩⟩⟩⟩⟩⟩⟩⟩⟩⟩⟩⟩⟩⟩
theorem lw_p16 : lw_okq (⟨"ShardBallots", "checkRange", "(I)V"⟩, 16) := ⟨⟨by decide +kernel, by decide +kernel⟩, List.mem_of_getElem? (i := 10) (by decide +kernel), List.mem_of_getElem? (i := 306) (by decide +kernel), List.mem_of_getElem? (i := 307) (by decide +kernel)⟩
theorem lw_p17 : lw_okq (⟨"ShardBallots", "remove", "(I)V"⟩, 16) := ⟨⟨by decide +kernel, by decide +kernel⟩, List.mem_of_getElem? (i := 10) (by decide +kernel), List.mem_of_getElem? (i := 314) (by decide +kernel), List.mem_of_getElem? (i := 315) (by decide +kernel)⟩
theorem lw_p18 : lw_okq (⟨"ShardBallots", "firstKeyOf", "(I)I"⟩, 16) := ⟨⟨by decide +kernel, by decide +kernel⟩, List.mem_of_getElem? (i := 10) (by decide +kernel), List.mem_of_getElem? (i := 331) (by decide +kernel), List.mem_of_getElem? (i := 332) (by decide +kernel)⟩
theorem lw_p19 : lw_okq (⟨"ShardBallots", "countRows", "(III)I"⟩, 16) := ⟨⟨by decide +kernel, by decide +kernel⟩, List.mem_of_getElem? (i := 10) (by decide +kernel), List.mem_of_getElem? (i := 335) (by decide +kernel), List.mem_of_getElem? (i := 336) (by decide +kernel)⟩
theorem lw_p20 : lw_okq (⟨"ShardBallots", "checkMoved", "(I)V"⟩, 16) := ⟨⟨by decide +kernel, by decide +kernel⟩, List.mem_of_getElem? (i := 10) (by decide +kernel), List.mem_of_getElem? (i := 346) (by decide +kernel), List.mem_of_getElem? (i := 347) (by decide +kernel)⟩
theorem lw_p21 : lw_okq (⟨"ShardBallots", "lowestKeyNotBrought", "(I)I"⟩, 16) := ⟨⟨by decide +kernel, by decide +kernel⟩, List.mem_of_getElem? (i := 10) (by decide +kernel), List.mem_of_getElem? (i := 351) (by decide +kernel), List.mem_of_getElem? (i := 352) (by decide +kernel)⟩
theorem lw_p22 : lw_okq (⟨"ShardBallots", "dropRows", "(II)V"⟩, 16) := ⟨⟨by decide +kernel, by decide +kernel⟩, List.mem_of_getElem? (i := 10) (by decide +kernel), List.mem_of_getElem? (i := 355) (by decide +kernel), List.mem_of_getElem? (i := 356) (by decide +kernel)⟩
theorem lw_p23 : lw_okq (⟨"ShardBallots", "isOfOpenVote", "(I)Z"⟩, 16) := ⟨⟨by decide +kernel, by decide +kernel⟩, List.mem_of_getElem? (i := 10) (by decide +kernel), List.mem_of_getElem? (i := 401) (by decide +kernel), List.mem_of_getElem? (i := 402) (by decide +kernel)⟩
theorem lw_p24 : lw_okq (⟨"ShardBallots", "isBallot", "(I)Z"⟩, 16) := ⟨⟨by decide +kernel, by decide +kernel⟩, List.mem_of_getElem? (i := 10) (by decide +kernel), List.mem_of_getElem? (i := 405) (by decide +kernel), List.mem_of_getElem? (i := 406) (by decide +kernel)⟩
theorem lw_p25 : lw_okq (⟨"ShardBallots", "latestBallotTo", "(I)I"⟩, 16) := ⟨⟨by decide +kernel, by decide +kernel⟩, List.mem_of_getElem? (i := 10) (by decide +kernel), List.mem_of_getElem? (i := 420) (by decide +kernel), List.mem_of_getElem? (i := 421) (by decide +kernel)⟩
theorem lw_p26 : lw_okq (⟨"ShardBallots", "checkBallot", "(I)V"⟩, 16) := ⟨⟨by decide +kernel, by decide +kernel⟩, List.mem_of_getElem? (i := 10) (by decide +kernel), List.mem_of_getElem? (i := 435) (by decide +kernel), List.mem_of_getElem? (i := 436) (by decide +kernel)⟩
def lw_privs_2 : List (MethodName × Nat) := [(⟨"ShardBallots", "checkRange", "(I)V"⟩, 16), (⟨"ShardBallots", "remove", "(I)V"⟩, 16), (⟨"ShardBallots", "firstKeyOf", "(I)I"⟩, 16), (⟨"ShardBallots", "countRows", "(III)I"⟩, 16), (⟨"ShardBallots", "checkMoved", "(I)V"⟩, 16), (⟨"ShardBallots", "lowestKeyNotBrought", "(I)I"⟩, 16), (⟨"ShardBallots", "dropRows", "(II)V"⟩, 16), (⟨"ShardBallots", "isOfOpenVote", "(I)Z"⟩, 16), (⟨"ShardBallots", "isBallot", "(I)Z"⟩, 16), (⟨"ShardBallots", "latestBallotTo", "(I)I"⟩, 16), (⟨"ShardBallots", "checkBallot", "(I)V"⟩, 16)]
theorem lw_r2 : ∀ q ∈ lw_privs_2, lw_okq q := List.forall_mem_cons.mpr ⟨lw_p16, List.forall_mem_cons.mpr ⟨lw_p17, List.forall_mem_cons.mpr ⟨lw_p18, List.forall_mem_cons.mpr ⟨lw_p19, List.forall_mem_cons.mpr ⟨lw_p20, List.forall_mem_cons.mpr ⟨lw_p21, List.forall_mem_cons.mpr ⟨lw_p22, List.forall_mem_cons.mpr ⟨lw_p23, List.forall_mem_cons.mpr ⟨lw_p24, List.forall_mem_cons.mpr ⟨lw_p25, List.forall_mem_cons.mpr ⟨lw_p26, fun _ h => absurd h List.not_mem_nil⟩⟩⟩⟩⟩⟩⟩⟩⟩⟩⟩
def lw_privs : List (MethodName × Nat) := lw_privs_1 ++ (lw_privs_2)
def lw_tbl : List Cond := k2_sels lw_privs ++ tables_1
theorem lw_privs_ok : ∀ q ∈ lw_privs, lw_okq q := by
  show ∀ q ∈ lw_privs_1 ++ (lw_privs_2), lw_okq q
  exact List.forall_mem_append.mpr ⟨lw_r1, lw_r2⟩
-- ===== end of PART A; then your names; then what follows =====
end
section
/-! ===== BEGIN words of one list among another's, by their places ===== -/
theorem goodIn_r {big : List Cond} (ws : List Cond) (ps : List Nat) (hp : ws = ps.filterMap (fun i => big[i]?)) (h : ws.all goodWord = true) : GoodIn big ws := by
  intro w hw
  have h1 := List.all_eq_true.mp h w hw
  rw [hp] at hw
  obtain ⟨i, -, hi⟩ := List.mem_filterMap.mp hw
  have hm : w ∈ big := by first | exact List.mem_of_getElem? hi | exact List.getElem?_mem hi
  exact ⟨hm, good_of_word h1⟩
theorem goodIn_app {big a b : List Cond} (ha : GoodIn big a) (hb : GoodIn big b) : GoodIn big (a ++ b) := fun w h => (List.mem_append.mp h).elim (ha w) (hb w)
theorem goodIn_ca {big a b : List Cond} {c : Cond} (ha : GoodIn big (c :: a)) (hb : GoodIn big b) : GoodIn big (c :: (a ++ b)) := fun w h => (List.mem_cons.mp h).elim (fun e => ha w (List.mem_cons.mpr (Or.inl e))) (fun h => (List.mem_append.mp h).elim (fun h => ha w (List.mem_cons.mpr (Or.inr h))) (hb w))
theorem goodIn_sub {big ws : List Cond} (hm : ∀ w ∈ ws, w ∈ big) (h : ws.all goodWord = true) : GoodIn big ws := fun w hw => ⟨hm w hw, good_of_word (List.all_eq_true.mp h w hw)⟩
/-! ===== END ===== -/

/-! ===== BEGIN exceptions that leave a method, and their catching by the caller (launches without stack traces) ===== -/
section VXA
/-! The laws vx_back, vx_callV, vx_callS, vx_callSW, vx_throw0, vx_throwS follow proofs of the library, with one case more: JvmDerived/Free/Laws.lean (Back.of_free), Shelf42/LK1.lean (callV, callS), Shelf/KitTraced.lean (throwNew0V, throwNewS). -/
/-- where a method has thrown q: the class by its name, the cell, what was written, the world -/
def vx_T (XC : String → State → State → Prop) (st : State) (q : Addr) (t : State) (mc ms : Nat) (free : Addr → Prop) : Prop :=
  ∃ (E : String) (ce : Cell) (L : List Loc), XC E st t ∧ t.heap[q]? = some ce ∧ ce.vm = .none ∧ st.vm.findClass E = some ce.cls ∧ st.WarmedH t.vm ∧ st.sameButNew ({ t with vm := st.vm } : State) L mc ms ∧ ∀ z ∈ L, free z.base
def vx_Q (Qc : Array Value → State → Outcome → State → Prop) (XC : String → State → State → Prop) (mc ms : Nat) (free : Addr → Prop) : Array Value → State → Outcome → State → Prop := fun a st o t =>
  (Qc a st o t ∧ ∃ L, FrameEnd st o t L mc ms ∧ ∀ q ∈ L, free q.base) ∨ ∃ q, o = .threw q ∧ vx_T XC st q t mc ms free
/-- a callee that returns or throws -/
def vx_Met (l : Launch) (y : MethodName) (ws : List Cond) (rm : Room) (Pc : Array Value → State → Prop) (Qc : Array Value → State → Outcome → State → Prop) (XC : String → State → State → Prop) (mc ms : Nat) (free : Addr → Prop) : Prop :=
  MetFree l y (headSpec ws rm) Pc (fun _ _ _ _ _ => True) (vx_Q Qc XC mc ms free)
def vx_Post (XC : String → State → State → Prop) (mc ms : Nat) (free : Addr → Prop) : Pt → Array Value → Addr → Pt → Prop := fun A a q B =>
  ∃ (g : JFrame) (mk : MethodId) (t : State) (L : List Loc) (E : String) (ce : Cell), B.U.heap = t.heap ∧ B.U.vm = t.vm ∧ XC E (A.U.calling g mk a) t ∧ t.heap[q]? = some ce ∧ ce.vm = .none ∧ A.U.vm.findClass E = some ce.cls ∧ B.locs = A.locs ++ L ∧ (∀ z ∈ L, free z.base) ∧ B.cells = A.cells + mc ∧ B.slots = A.slots + ms
def vx_Back (l : Launch) (R : Room) (p : Program) (e : Env) (below : List Frame) (s : State) (sargs : Array Value) (y : MethodName) (len W9 : Nat)
    (Pre : Pt → Array Value → Prop) (Post : Pt → Array Value → Option Value → Pt → Prop) (PostX : Pt → Array Value → Addr → Pt → Prop) : Prop :=
  ∀ (m : MethodId) (meth : Method) (c : Code) (A : Pt) (g : JFrame) (ig : Instr) (mk : MethodId) (a : Array Value),
    Stand p l e R s m sargs below meth c A.U A.locs A.cells A.slots → g.method = m → g.locals.size = c.maxLocals → decode c.code g.pc = .ok (ig, len) →
    2 * g.monitorRoom + (g.stack.map fun v => v.category).sum ≤ W9 → A.U.methodNamed? y = some mk → Pre A a →
    (∃ (v : Option Value) (B : Pt), Stand p l e R s m sargs below meth c B.U B.locs B.cells B.slots ∧ Post A a v B ∧
      Steps p.tables e below (doInvoke e (A.U.setTop g) [] mk a).1 (B.U.setTop { g with pc := g.pc + len, stack := v.toList ++ g.stack })) ∨
    (∃ (q : Addr) (B : Pt), Stand p l e R s m sargs below meth c B.U B.locs B.cells B.slots ∧ PostX A a q B ∧
      Steps p.tables e below (doInvoke e (A.U.setTop g) [] mk a).1 ((B.U.setTop g).pushFrame (.throwing q)))
section Payer
variable {l : Launch} {R : Room} {p : Program} {e : Env} {below : List Frame} {s : State} {sargs : Array Value} {y : MethodName} {len W9 : Nat}
theorem vx_back {ws : List Cond} {rm : Room} {Pc : Array Value → State → Prop} {Qc : Array Value → State → Outcome → State → Prop} {XC : String → State → State → Prop} {mc ms : Nat} {free : Addr → Prop} {bytes : ByteArray} {maxL : Nat} {ret : Option FieldType}
    (hM : vx_Met l y ws rm Pc Qc XC mc ms free) (hblind : FrameBlind Pc) (hrc : rm.cells = mc) (hrs : rm.slots = ms)
    (hframes : rm.frames + 1 ≤ R.frames) (hlocals : W9 + (maxL + 11) + rm.locals ≤ R.locals)
    (hws : ∀ w ∈ ws, ∀ a' U, s.WarmedH U.vm → w.before a' U = true) (hcode : Cond.code y bytes maxL ret ∈ ws) (hinit : ∀ a' U, s.WarmedH U.vm → (Cond.initialized y.cls).before a' U = true) :
    vx_Back l R p e below s sargs y len W9 (PreOf R mc ms Pc) (PostOf Qc mc ms free) (vx_Post XC mc ms free) := by
  intro m meth c A g ig mk a X hg hsize hdg hW hn hp
  have h1 : (headSpec ws rm).pre.before a A.U = true := atoms_intro fun w hw => hws w hw _ _ X.warmed
  have h2 : (Cond.code y bytes maxL ret).before a A.U = true := hws _ hcode _ _ X.warmed
  have h3 : (Cond.initialized y.cls).before a A.U = true := hinit _ _ X.warmed
  have h4 : A.cells + (headSpec ws rm).room.cells ≤ R.cells := by rw [show (headSpec ws rm).room.cells = mc from hrc]; exact hp.1
  have h5 : A.slots + (headSpec ws rm).room.slots ≤ R.slots := by rw [show (headSpec ws rm).room.slots = ms from hrs]; exact hp.2.1
  have hPc : Pc a (A.U.calling g mk a) := hblind _ _ _ _ hp.2.2
  obtain ⟨U, Ls, c0, s0⟩ := A
  dsimp only [Pt.U, Pt.locs, Pt.cells, Pt.slots] at h1 h2 h3 h4 h5 X hn hPc ⊢
  obtain ⟨methY, cY, hmY, hcY, -, hlY, -, -, -, -⟩ := Cond.code_spec hn h2
  obtain ⟨kY, hkY, -⟩ := className_of_methodNamed hn
  have hinitY : kY.init = .initialized := Cond.initialized_spec (findClass_of_methodNamed hn) hkY h3
  have h : At U g.method c below := by rw [hg]; exact X.here
  have hlocals9 : W9 + (maxL + 11) + (headSpec ws rm).room.locals ≤ R.locals := hlocals
  have happ : (headSpec ws rm).appliesLoose y e.platform (U.calling g mk a) = true :=
    Spec.appliesLoose_calling (g := g) h hdg hn hkY hinitY
      (X.room_calling (g := g) (R' := (headSpec ws rm).room) hsize hmY hcY hframes (by rw [hlY]; omega) h4 h5) h1
  obtain ⟨mid, hmid⟩ := h.above
  have hfr : (U.setTop g).frames = (.java g :: mid) ++ below := by rw [State.frames_setTop' g h.top, hmid]; rfl
  obtain ⟨o, s₂, hsteps, -, hend, hq⟩ := Steps.callFree hM p X.admits X.cas X.clock (acts := []) hfr happ hPc trivial
  have hq' : vx_Q Qc XC mc ms free a (U.calling g mk a) o s₂ := hq
  rw [State.frames_setTop' g h.top] at hend
  obtain ⟨g₀, hg0⟩ := Option.isSome_iff_exists.mp h.top
  obtain ⟨r, hr⟩ := State.topJava?_eq_some.mp hg0
  have hr' : (({ U with heap := s₂.heap, slotsUsed := s₂.slotsUsed } : State).setVm s₂.vm).frames = .java g₀ :: r := hr
  rcases hq' with ⟨hqc, L, hfe, hL⟩ | ⟨q, rfl, E, ce, L, hx, hce, hcv, hcl, hW₂, hsm, hL⟩
  · obtain ⟨⟨v, rfl⟩, hW₂, e2, q2, q3, q4, q5, q6⟩ := id hfe
    have e3 : s₂ = ({ (U.calling g mk a).setFrames s₂.frames with heap := s₂.heap, slotsUsed := s₂.slotsUsed } : State).setVm s₂.vm := by
      have : s₂ = ({ s₂ with vm := (U.calling g mk a).vm } : State).setVm s₂.vm := rfl
      rw [e2] at this
      exact this
    obtain ⟨c₂, i₂, len₂, hc₂, hd₂, hf₂⟩ := hend
    have hW' : U.WarmedH s₂.vm := hW₂
    have hcc : c₂ = c := by
      have h1 : s₂.code? g.method = U.code? g.method := by
        rw [State.code?_eq, State.code?_eq, hW'.alike.method?]
      exact Option.some.inj (hc₂.symm.trans (h1.trans h.code))
    subst hcc
    have hlen : len₂ = len := by rw [hdg] at hd₂; cases hd₂; rfl
    subst hlen
    have hs₂ : s₂ = (({ U with heap := s₂.heap, slotsUsed := s₂.slotsUsed } : State).setVm s₂.vm).setTop { g with pc := g.pc + len₂, stack := v.toList ++ g.stack } := by
      refine e3.trans ?_
      rw [hf₂, State.calling_eq h.top, State.setFrames_setFrames, State.setTop_of_frames _ hr', hr]
      rfl
    have hsame : U.sameButNew ({ U with heap := s₂.heap, slotsUsed := s₂.slotsUsed } : State) L mc ms := by
      refine ⟨?_, q2, q3, q4, q5, q6⟩
      obtain ⟨t, ht, -⟩ := State.frames_cons hr
      show ({ U with heap := s₂.heap, slotsUsed := s₂.slotsUsed } : State) = { U.setFrames U.frames with heap := s₂.heap, slotsUsed := s₂.slotsUsed }
      rw [State.setFrames_self ht]
    subst hg
    refine Or.inl ⟨v, ⟨(({ U with heap := s₂.heap, slotsUsed := s₂.slotsUsed } : State).setVm s₂.vm), Ls ++ L, c0 + mc, s0 + ms⟩,
      ⟨X.admits, X.cas, X.clock, X.frames, X.room, X.hears, X.method, X.code, (X.here.setHeapUsed s₂.heap s₂.slotsUsed).setVm hW'.alike, X.tail, State.WarmedH.trans X.warmed hW', X.limits, X.bytes, X.same.trans (hsame.setVm s.vm)⟩,
      ⟨g, mk, s₂, L, rfl, rfl, hqc, rfl, hL, rfl, rfl⟩, ?_⟩
    show Steps p.tables e below _ ((({ U with heap := s₂.heap, slotsUsed := s₂.slotsUsed } : State).setVm s₂.vm).setTop { g with pc := g.pc + len₂, stack := v.toList ++ g.stack })
    rw [← hs₂]
    exact hsteps
  · obtain ⟨e2, q2, q3, q4, q5, q6⟩ := id hsm
    have e3 : s₂ = ({ (U.calling g mk a).setFrames s₂.frames with heap := s₂.heap, slotsUsed := s₂.slotsUsed } : State).setVm s₂.vm := by
      have : s₂ = ({ s₂ with vm := (U.calling g mk a).vm } : State).setVm s₂.vm := rfl
      rw [e2] at this
      exact this
    have hf₂ : s₂.frames = .throwing q :: .java g :: U.frames.tail := hend
    have hW' : U.WarmedH s₂.vm := hW₂
    have hs₂ : s₂ = ((({ U with heap := s₂.heap, slotsUsed := s₂.slotsUsed } : State).setVm s₂.vm).setTop g).pushFrame (.throwing q) := by
      refine e3.trans ?_
      rw [hf₂, State.calling_eq h.top, State.setFrames_setFrames, State.pushFrame, State.frames_setTop _ hr', State.setTop_of_frames _ hr', State.setFrames_setFrames, hr]
      rfl
    have hsame : U.sameButNew ({ U with heap := s₂.heap, slotsUsed := s₂.slotsUsed } : State) L mc ms := by
      refine ⟨?_, q2, q3, q4, q5, q6⟩
      obtain ⟨t, ht, -⟩ := State.frames_cons hr
      show ({ U with heap := s₂.heap, slotsUsed := s₂.slotsUsed } : State) = { U.setFrames U.frames with heap := s₂.heap, slotsUsed := s₂.slotsUsed }
      rw [State.setFrames_self ht]
    subst hg
    refine Or.inr ⟨q, ⟨(({ U with heap := s₂.heap, slotsUsed := s₂.slotsUsed } : State).setVm s₂.vm), Ls ++ L, c0 + mc, s0 + ms⟩,
      ⟨X.admits, X.cas, X.clock, X.frames, X.room, X.hears, X.method, X.code, (X.here.setHeapUsed s₂.heap s₂.slotsUsed).setVm hW'.alike, X.tail, State.WarmedH.trans X.warmed hW', X.limits, X.bytes, X.same.trans (hsame.setVm s.vm)⟩,
      ⟨g, mk, s₂, L, E, ce, rfl, rfl, hx, hce, hcv, hcl, rfl, hL, rfl, rfl⟩, ?_⟩
    show Steps p.tables e below _ (((({ U with heap := s₂.heap, slotsUsed := s₂.slotsUsed } : State).setVm s₂.vm).setTop g).pushFrame (.throwing q))
    rw [← hs₂]
    exact hsteps
end Payer
section Calls
variable {p : Program} {l : Launch} {e : Env} {R : Room} {s : State} {m : MethodId} {args : Array Value} {below : List Frame} {meth : Method} {c : Code} {T : State} {locs : List Loc} {cells slots : Nat}
theorem vx_callV (X : Stand p l e R s m args below meth c T locs cells slots) (hexec : p.tables.exec = Jvm.exec) {own C : String} {index : Nat} {y : MethodName} {bytes : ByteArray} {maxL : Nat} {ret : Option FieldType}
    (hown : s.vm.findClass own = some m.cls) (hlink : (Cond.methodLink own index y).before args s = true) (hinst : (Cond.instanceMethod y).before args s = true) (hsel : (Cond.selects C y y).before args s = true)
    (hcode : (Cond.code y bytes maxL ret).before args s = true) (hy : y.cls ≠ "java/lang/invoke/MethodHandle" ∧ y.cls ≠ "java/lang/invoke/VarHandle")
    {W9 : Nat} {Pre : Pt → Array Value → Prop} {Post : Pt → Array Value → Option Value → Pt → Prop} {PostX : Pt → Array Value → Addr → Pt → Prop} (hK : vx_Back l R p e below s args y 3 W9 Pre Post PostX)
    {b : Addr} {cellB : Cell} (hcell : T.heap[b]? = some cellB) (hobj : cellB.vm.isStatics = false) (hcls : s.vm.findClass C = some cellB.cls)
    {g : JFrame} (hg : g.method = m) (hsize : g.locals.size = c.maxLocals) {argsL rest : List Value} (hlen : ∀ sig, parseMethodDescriptor y.desc = some sig → argsL.length = sig.parameters.length)
    (hstack : g.stack = argsL.reverse ++ .ref b :: rest) (hW : 2 * g.monitorRoom + (rest.map fun v => v.category).sum ≤ W9) (hdg : decode c.code g.pc = .ok (.invokevirtual index, 3))
    (hpre : ∀ vm₁, s.WarmedH vm₁ → Pre ⟨T.setVm vm₁, locs, cells, slots⟩ (Value.ref b :: argsL).toArray) :
    (∃ (v : Option Value) (vm₁ : Vm) (B : Pt), s.WarmedH vm₁ ∧ Stand p l e R s m args below meth c B.U B.locs B.cells B.slots ∧ Post ⟨T.setVm vm₁, locs, cells, slots⟩ (Value.ref b :: argsL).toArray v B ∧
      ∀ target, Steps p.tables e below (B.U.setTop { g with pc := g.pc + 3, stack := v.toList ++ rest }) target → Steps p.tables e below (T.setTop g) target) ∨
    (∃ (q : Addr) (vm₁ : Vm) (B : Pt), s.WarmedH vm₁ ∧ Stand p l e R s m args below meth c B.U B.locs B.cells B.slots ∧ PostX ⟨T.setVm vm₁, locs, cells, slots⟩ (Value.ref b :: argsL).toArray q B ∧
      Steps p.tables e below (T.setTop g) ((B.U.setTop { g with stack := rest }).pushFrame (.throwing q))) := by
  obtain ⟨mk, methM, hnamed, hmethM, hstM, habM⟩ := Cond.instanceMethod_spec hinst
  obtain ⟨methM', cM, hmethM', -, -, -, -, -, -, hsigM⟩ := Cond.code_spec hnamed hcode
  cases hmethM.symm.trans hmethM'
  obtain ⟨c2, r2, m2, q1, q2, q3, q4, kP, hkP, hkPi⟩ := Cond.selects_spec hsel
  cases hcls.symm.trans q1
  cases (State.methodFound?_of_named hnamed hy).symm.trans q2
  cases hnamed.symm.trans q3
  have hselP : selectMethod e.platform s.vm cellB.cls mk = .method mk := by rw [Launch.admits_selectMethod X.admits]; exact q4
  obtain ⟨vm₁, X₁, hstep₁⟩ := X.invokevirtual hexec hown hlink hnamed hmethM hstM hkP hkPi hy (a := b) (cell := cellB) hcell
    (fun z h => by rw [h] at hobj; cases hobj) hselP hmethM habM hkP hkPi (g := g) hg (argsL := argsL) (rest := rest) (hlen _ hsigM) hstack hdg
  rcases hK m meth c ⟨T.setVm vm₁, locs, cells, slots⟩ { g with stack := rest } (.invokevirtual index) mk (Value.ref b :: argsL).toArray X₁ hg hsize hdg hW (X₁.named hnamed) (hpre vm₁ X₁.warmed) with ⟨v, B, X', hpost, hsteps⟩ | ⟨q, B, X', hpost, hsteps⟩
  · exact Or.inl ⟨v, vm₁, B, X₁.warmed, X', hpost, fun target h => hstep₁ _ fun acts => by rw [doInvoke_state]; exact hsteps.trans h⟩
  · exact Or.inr ⟨q, vm₁, B, X₁.warmed, X', hpost, hstep₁ _ fun acts => by rw [doInvoke_state]; exact hsteps⟩
theorem vx_callS (X : Stand p l e R s m args below meth c T locs cells slots) (hexec : p.tables.exec = Jvm.exec) {own : String} {index : Nat} {y : MethodName} {bytes : ByteArray} {maxL : Nat} {ret : Option FieldType}
    (hown : s.vm.findClass own = some m.cls) (hlink : (Cond.methodLink own index y).before args s = true) (hstat : (Cond.static y).before args s = true) (hinit : (Cond.initialized y.cls).before args s = true)
    (hcode : (Cond.code y bytes maxL ret).before args s = true) (hy : y.cls ≠ "java/lang/invoke/MethodHandle" ∧ y.cls ≠ "java/lang/invoke/VarHandle")
    {W9 : Nat} {Pre : Pt → Array Value → Prop} {Post : Pt → Array Value → Option Value → Pt → Prop} {PostX : Pt → Array Value → Addr → Pt → Prop} (hK : vx_Back l R p e below s args y 3 W9 Pre Post PostX)
    {g : JFrame} (hg : g.method = m) (hsize : g.locals.size = c.maxLocals) {argsL rest : List Value} (hlen : ∀ sig, parseMethodDescriptor y.desc = some sig → argsL.length = sig.parameters.length)
    (hstack : g.stack = argsL.reverse ++ rest) (hW : 2 * g.monitorRoom + (rest.map fun v => v.category).sum ≤ W9) (hdg : decode c.code g.pc = .ok (.invokestatic index, 3))
    (hpre : ∀ vm₁, s.WarmedH vm₁ → Pre ⟨T.setVm vm₁, locs, cells, slots⟩ argsL.toArray) :
    (∃ (v : Option Value) (vm₁ : Vm) (B : Pt), s.WarmedH vm₁ ∧ Stand p l e R s m args below meth c B.U B.locs B.cells B.slots ∧ Post ⟨T.setVm vm₁, locs, cells, slots⟩ argsL.toArray v B ∧
      ∀ target, Steps p.tables e below (B.U.setTop { g with pc := g.pc + 3, stack := v.toList ++ rest }) target → Steps p.tables e below (T.setTop g) target) ∨
    (∃ (q : Addr) (vm₁ : Vm) (B : Pt), s.WarmedH vm₁ ∧ Stand p l e R s m args below meth c B.U B.locs B.cells B.slots ∧ PostX ⟨T.setVm vm₁, locs, cells, slots⟩ argsL.toArray q B ∧
      Steps p.tables e below (T.setTop g) ((B.U.setTop { g with stack := rest }).pushFrame (.throwing q))) := by
  obtain ⟨mk, hnamed⟩ := Cond.code_named hcode
  obtain ⟨methM, cM, hmethM, -, -, -, -, -, -, hsigM⟩ := Cond.code_spec hnamed hcode
  have hstatic : methM.isStatic = true := Cond.static_spec hnamed hmethM hstat
  obtain ⟨kP, hkP, -⟩ := className_of_methodNamed hnamed
  have hinitP : kP.init = .initialized := Cond.initialized_spec (findClass_of_methodNamed hnamed) hkP hinit
  obtain ⟨vm₁, X₁, hstep₁⟩ := X.invokestatic hexec hown hlink hnamed hmethM hstatic hkP hinitP hy (g := g) hg (argsL := argsL) (rest := rest) (hlen _ hsigM) hstack hdg
  rcases hK m meth c ⟨T.setVm vm₁, locs, cells, slots⟩ { g with stack := rest } (.invokestatic index) mk argsL.toArray X₁ hg hsize hdg hW (X₁.named hnamed) (hpre vm₁ X₁.warmed) with ⟨v, B, X', hpost, hsteps⟩ | ⟨q, B, X', hpost, hsteps⟩
  · exact Or.inl ⟨v, vm₁, B, X₁.warmed, X', hpost, fun target h => hstep₁ _ fun acts => by rw [doInvoke_state]; exact hsteps.trans h⟩
  · exact Or.inr ⟨q, vm₁, B, X₁.warmed, X', hpost, hstep₁ _ fun acts => by rw [doInvoke_state]; exact hsteps⟩
end Calls
theorem vx_cls {s : State} {T : State} {vm₁ : Vm} {E : String} {k : ClassId} (hW : s.WarmedH vm₁) (h : (T.setVm vm₁).vm.findClass E = some k) : s.vm.findClass E = some k := by
  have h1 : vm₁.findClass E = some k := h
  rw [hW.alike.findClass] at h1
  exact h1
/-- the method's frame g, with q thrown over it -/
def vx_W (p : Program) (l : Launch) (e : Env) (R : Room) (s : State) (m : MethodId) (args : Array Value) (below : List Frame) (meth : Method) (c : Code) (H : Heap) (locs : List Loc) (cells slots : Nat) (Q : State → Prop) (g : JFrame) (q : Addr) : Prop :=
  ∀ T : State, T.heap = H → Stand p l e R s m args below meth c T locs cells slots → ∃ t, Steps p.tables e below ((T.setTop g).pushFrame (.throwing q)) t ∧ Q t
def vx_Run (p : Program) (l : Launch) (e : Env) (R : Room) (s : State) (m : MethodId) (args : Array Value) (below : List Frame) (meth : Method) (c : Code) (H : Heap) (locs : List Loc) (cells slots mc ms : Nat) (g : JFrame) (rest : List Value) (Qa : State → Outcome → State → Prop) (XC : String → State → State → Prop) (free : Addr → Prop) : Prop :=
  ∀ T : State, T.heap = H → Stand p l e R s m args below meth c T locs cells slots →
    (∃ (v : Option Value) (st₀ t T' : State) (L : List Loc), st₀.heap = H ∧ Stand p l e R s m args below meth c T' (locs ++ L) (cells + mc) (slots + ms) ∧ (∀ q ∈ L, free q.base) ∧ T'.heap = t.heap ∧ T'.vm = t.vm ∧ Qa st₀ (.returned v) t ∧
      Goes p e below T g T' { g with pc := g.pc + 3, stack := v.toList ++ rest }) ∨
    (∃ (q : Addr) (st₀ t T' : State) (L : List Loc) (E : String) (ce : Cell), st₀.heap = H ∧ Stand p l e R s m args below meth c T' (locs ++ L) (cells + mc) (slots + ms) ∧ (∀ z ∈ L, free z.base) ∧ T'.heap = t.heap ∧ T'.vm = t.vm ∧ XC E st₀ t ∧ t.heap[q]? = some ce ∧ ce.vm = .none ∧ s.vm.findClass E = some ce.cls ∧
      Steps p.tables e below (T.setTop g) ((T'.setTop { g with stack := rest }).pushFrame (.throwing q)))
def vx_X {S : Type} (px : S → Prop) (B : String → S → State → Prop) (A : Nat → Prop) : String → State → State → Prop := fun E st t => ∃ u : S, px u ∧ B E u t ∧ va_F A st t
section Runs
variable {p : Program} {l : Launch} {e : Env} {R : Room} {s : State} {m : MethodId} {args : Array Value} {below : List Frame} {meth : Method} {c : Code} {H : Heap} {locs : List Loc} {cells slots : Nat}
variable {y : MethodName} {bytes cc : ByteArray} {maxL nL mc ms n index : Nat} {ret : Option FieldType} {ws : List Cond} {rm : Room} {Pc : Array Value → State → Prop} {Qc : Array Value → State → Outcome → State → Prop} {XC : String → State → State → Prop} {free : Addr → Prop} {Ts : List Cond} {own C : String} {b : Addr} {As rest : List Value} {g : JFrame}
theorem vx_callBack (cb : CallB R s args own index y bytes maxL ret ws rm mc ms n) (hM : vx_Met l y ws rm Pc Qc XC mc ms free) (hbl : FrameBlind Pc) : vx_Back l R p e below s args y 3 8 (PreOf R mc ms Pc) (PostOf Qc mc ms free) (vx_Post XC mc ms free) := by
  obtain ⟨hrc, hrs, hfr, hlo, hws, hcw, -, hini, -⟩ := cb
  exact vx_back (bytes := bytes) (maxL := maxL) (ret := ret) hM hbl hrc hrs hfr hlo hws hcw (fun a' U hW => word_at hW (Or.inl (by first | rfl | simp [Cond.onTables, Cond.keeps, Cond.steady])) hini)
theorem vx_runV (S : CallFix p m c cc nL s args Ts own) (hM : vx_Met l y ws rm Pc Qc XC mc ms free) (cw : CallW R s args own C index y bytes maxL ret ws rm mc ms n) (hp : PreV s H C b Pc As)
    (hg : g.method = m) (hn : As.length = n) (hsize : g.locals.size = nL) (hstack : g.stack = As.reverse ++ .ref b :: rest) (hW : 2 * g.monitorRoom + (rest.map fun v => v.category).sum ≤ 8) (hdg : decode cc g.pc = .ok (.invokevirtual index, 3)) (hf : cells + mc ≤ R.cells ∧ slots + ms ≤ R.slots) :
    vx_Run p l e R s m args below meth c H locs cells slots mc ms g rest (Qc (Value.ref b :: As).toArray) XC free := by
  have hK : vx_Back l R p e below s args y 3 8 (PreOf R mc ms Pc) (PostOf Qc mc ms free) (vx_Post XC mc ms free) := vx_callBack cw.1 hM hp.1
  obtain ⟨⟨-, -, -, -, -, -, hcode, -, hy, hlen, hl⟩, hin, hse⟩ := cw
  obtain ⟨hx, hb, hml, ho, -⟩ := S
  obtain ⟨-, ⟨cellB, hcB, hoB, hclB⟩, hPc⟩ := hp
  intro T hT X
  rcases vx_callV X hx (C := C) (bytes := bytes) (maxL := maxL) (ret := ret) ho hl hin hse hcode hy hK (by rw [hT]; exact hcB) hoB hclB hg (hsize.trans hml.symm) (argsL := As) (rest := rest) (fun sig h => hn.trans (hlen sig h)) hstack hW (by rw [hb]; exact hdg)
    (fun vm₁ hW₁ => ⟨hf.1, hf.2, hPc (T.setVm vm₁) hT hW₁⟩) with ⟨v, vm₁, ⟨U', l2, c2, s2⟩, hW₁, X', ⟨g', mk, t, L, e1, e2, hq, h1, hL, h2, h3⟩, st⟩ | ⟨q, vm₁, ⟨U', l2, c2, s2⟩, hW₁, X', ⟨g', mk, t, L, E, ce, e1, e2, hq, hce, hcv, hcl, h1, hL, h2, h3⟩, st⟩
  · dsimp only [Pt.U, Pt.locs, Pt.cells, Pt.slots] at X' e1 e2 h1 h2 h3 st
    subst h1; subst h2; subst h3
    exact Or.inl ⟨v, (T.setVm vm₁).calling g' mk (Value.ref b :: As).toArray, t, U', L, hT, X', hL, e1, e2, hq, st⟩
  · dsimp only [Pt.U, Pt.locs, Pt.cells, Pt.slots] at X' e1 e2 h1 h2 h3 st hcl
    subst h1; subst h2; subst h3
    exact Or.inr ⟨q, (T.setVm vm₁).calling g' mk (Value.ref b :: As).toArray, t, U', L, E, ce, hT, X', hL, e1, e2, hq, hce, hcv, vx_cls hW₁ hcl, st⟩
theorem vx_runS (S : CallFix p m c cc nL s args Ts own) (hM : vx_Met l y ws rm Pc Qc XC mc ms free) (cw : CallB R s args own index y bytes maxL ret ws rm mc ms n ∧ (Cond.static y).before args s = true) (hp : PreS s H Pc As)
    (hg : g.method = m) (hn : As.length = n) (hsize : g.locals.size = nL) (hstack : g.stack = As.reverse ++ rest) (hW : 2 * g.monitorRoom + (rest.map fun v => v.category).sum ≤ 8) (hdg : decode cc g.pc = .ok (.invokestatic index, 3)) (hf : cells + mc ≤ R.cells ∧ slots + ms ≤ R.slots) :
    vx_Run p l e R s m args below meth c H locs cells slots mc ms g rest (Qc As.toArray) XC free := by
  have hK : vx_Back l R p e below s args y 3 8 (PreOf R mc ms Pc) (PostOf Qc mc ms free) (vx_Post XC mc ms free) := vx_callBack cw.1 hM hp.1
  obtain ⟨⟨-, -, -, -, -, -, hcode, hini, hy, hlen, hl⟩, hstt⟩ := cw
  obtain ⟨hx, hb, hml, ho, -⟩ := S
  intro T hT X
  rcases vx_callS X hx (bytes := bytes) (maxL := maxL) (ret := ret) ho hl hstt hini hcode hy hK hg (hsize.trans hml.symm) (argsL := As) (rest := rest) (fun sig h => hn.trans (hlen sig h)) hstack hW (by rw [hb]; exact hdg)
    (fun vm₁ hW₁ => ⟨hf.1, hf.2, hp.2 (T.setVm vm₁) hT hW₁⟩) with ⟨v, vm₁, ⟨U', l2, c2, s2⟩, hW₁, X', ⟨g', mk, t, L, e1, e2, hq, h1, hL, h2, h3⟩, st⟩ | ⟨q, vm₁, ⟨U', l2, c2, s2⟩, hW₁, X', ⟨g', mk, t, L, E, ce, e1, e2, hq, hce, hcv, hcl, h1, hL, h2, h3⟩, st⟩
  · dsimp only [Pt.U, Pt.locs, Pt.cells, Pt.slots] at X' e1 e2 h1 h2 h3 st
    subst h1; subst h2; subst h3
    exact Or.inl ⟨v, (T.setVm vm₁).calling g' mk As.toArray, t, U', L, hT, X', hL, e1, e2, hq, st⟩
  · dsimp only [Pt.U, Pt.locs, Pt.cells, Pt.slots] at X' e1 e2 h1 h2 h3 st hcl
    subst h1; subst h2; subst h3
    exact Or.inr ⟨q, (T.setVm vm₁).calling g' mk As.toArray, t, U', L, E, ce, hT, X', hL, e1, e2, hq, hce, hcv, vx_cls hW₁ hcl, st⟩
end Runs
section Rows
variable {p : Program} {l : Launch} {e : Env} {R : Room} {s : State} {m : MethodId} {args : Array Value} {below : List Frame} {meth : Method} {c : Code} {H : Heap} {locs : List Loc} {cells slots : Nat} {Q : State → Prop}
variable {mc ms : Nat} {free : Addr → Prop} {A0 A1 : Nat → Prop} {H0 : Heap} {a : Array Value} {pc : Nat} {ls : Array Slot} {st0 rest : List Value}
theorem vx_keep {st₀ t T' : State} {L : List Loc} (h0 : st₀.heap = H) (e1 : T'.heap = t.heap) (hS : va_S A0 H0 H locs) (hA : ∀ q, q < H.size → A1 q → A0 q) (hf : ∀ q, free q → A0 q) (hL : ∀ q ∈ L, free q.base) (hF : va_F A1 st₀ t) :
    H.size ≤ T'.heap.size ∧ (∀ q : Nat, q < H.size → ¬ A1 q → T'.heap[q]? = H[q]?) ∧ va_S A0 H0 T'.heap (locs ++ L) := by
  obtain ⟨hz, hk⟩ := hF
  rw [h0] at hz hk
  exact ⟨by rw [e1]; exact hz, fun q h1 h2 => by rw [e1]; exact hk q h1 h2,
    ⟨Nat.le_trans hS.1 (by rw [e1]; exact hz), fun q h1 h2 => by rw [e1, hk q (Nat.lt_of_lt_of_le h1 hS.1) (fun z => h2 (hA q (Nat.lt_of_lt_of_le h1 hS.1) z))]; exact hS.2.1 q h1 h2, fun q hq => by
      rcases List.mem_append.mp hq with h | h
      · exact hS.2.2 q h
      · exact hf _ (hL q h)⟩⟩
theorem vx_calli {S SX : Type} {post : Int32 → S → Prop} {px : SX → Prop} {B : S → State → Prop} {BX : String → SX → State → Prop} {AX : Nat → Prop} (hr : vx_Run p l e R s m args below meth c H locs cells slots mc ms (F0 m pc ls st0) rest (va_Qi post B A1 a) (vx_X px BX AX) free) (hS : va_S A0 H0 H locs) (hA : ∀ q, q < H.size → A1 q → A0 q) (hf : ∀ q, free q → A0 q) (hAX : ∀ q, q < H.size → AX q → A0 q)
    (kx : ∀ (E : String) (ce : Cell) (q9 : Addr) (u : SX) (t : State) (H1 : Heap) (locs1 : List Loc), t.heap = H1 → s.vm.Alike t.vm → px u → BX E u t → H.size ≤ H1.size → (∀ q : Nat, q < H.size → ¬ AX q → H1[q]? = H[q]?) → va_S A0 H0 H1 locs1 → H1[q9]? = some ce → ce.vm = .none → s.vm.findClass E = some ce.cls → vx_W p l e R s m args below meth c H1 locs1 (cells + mc) (slots + ms) Q (F0 m pc ls rest) q9)
    (kk : ∀ (r : Int32) (u : S) (t : State) (H1 : Heap) (locs1 : List Loc), t.heap = H1 → s.vm.Alike t.vm → post r u → B u t → H.size ≤ H1.size → (∀ q : Nat, q < H.size → ¬ A1 q → H1[q]? = H[q]?) → va_S A0 H0 H1 locs1 → W p l e R s m args below meth c H1 locs1 (cells + mc) (slots + ms) Q (F0 m (pc + 3) ls (.int r :: rest))) : W p l e R s m args below meth c H locs cells slots Q (F0 m pc ls st0) := by
  intro T hT X
  rcases hr T hT X with ⟨v, st₀, t, T', L, h0, X', hL, e1, e2, ⟨⟨r, u, hv, hp, hb⟩, hF⟩, st⟩ | ⟨q, st₀, t, T', L, E, ce, h0, X', hL, e1, e2, ⟨u, hp, hb, hF⟩, hce, hcv, hcl, st⟩
  · cases hv
    obtain ⟨k1, k2, k3⟩ := vx_keep h0 e1 hS hA hf hL hF
    obtain ⟨t2, a1, b1⟩ := kk r u t T'.heap (locs ++ L) e1.symm (by rw [← e2]; exact X'.warmed.alike) hp hb k1 k2 k3 T' rfl X'
    exact ⟨t2, st t2 a1, b1⟩
  · obtain ⟨k1, k2, k3⟩ := vx_keep h0 e1 hS hAX hf hL hF
    obtain ⟨t2, a1, b1⟩ := kx E ce q u t T'.heap (locs ++ L) e1.symm (by rw [← e2]; exact X'.warmed.alike) hp hb k1 k2 k3 (by rw [e1]; exact hce) hcv hcl T' rfl X'
    exact ⟨t2, st.trans a1, b1⟩
theorem vx_calll {S SX : Type} {post : Int64 → S → Prop} {px : SX → Prop} {B : S → State → Prop} {BX : String → SX → State → Prop} {AX : Nat → Prop} (hr : vx_Run p l e R s m args below meth c H locs cells slots mc ms (F0 m pc ls st0) rest (va_Ql post B A1 a) (vx_X px BX AX) free) (hS : va_S A0 H0 H locs) (hA : ∀ q, q < H.size → A1 q → A0 q) (hf : ∀ q, free q → A0 q) (hAX : ∀ q, q < H.size → AX q → A0 q)
    (kx : ∀ (E : String) (ce : Cell) (q9 : Addr) (u : SX) (t : State) (H1 : Heap) (locs1 : List Loc), t.heap = H1 → s.vm.Alike t.vm → px u → BX E u t → H.size ≤ H1.size → (∀ q : Nat, q < H.size → ¬ AX q → H1[q]? = H[q]?) → va_S A0 H0 H1 locs1 → H1[q9]? = some ce → ce.vm = .none → s.vm.findClass E = some ce.cls → vx_W p l e R s m args below meth c H1 locs1 (cells + mc) (slots + ms) Q (F0 m pc ls rest) q9)
    (kk : ∀ (r : Int64) (u : S) (t : State) (H1 : Heap) (locs1 : List Loc), t.heap = H1 → s.vm.Alike t.vm → post r u → B u t → H.size ≤ H1.size → (∀ q : Nat, q < H.size → ¬ A1 q → H1[q]? = H[q]?) → va_S A0 H0 H1 locs1 → W p l e R s m args below meth c H1 locs1 (cells + mc) (slots + ms) Q (F0 m (pc + 3) ls (.long r :: rest))) : W p l e R s m args below meth c H locs cells slots Q (F0 m pc ls st0) := by
  intro T hT X
  rcases hr T hT X with ⟨v, st₀, t, T', L, h0, X', hL, e1, e2, ⟨⟨r, u, hv, hp, hb⟩, hF⟩, st⟩ | ⟨q, st₀, t, T', L, E, ce, h0, X', hL, e1, e2, ⟨u, hp, hb, hF⟩, hce, hcv, hcl, st⟩
  · cases hv
    obtain ⟨k1, k2, k3⟩ := vx_keep h0 e1 hS hA hf hL hF
    obtain ⟨t2, a1, b1⟩ := kk r u t T'.heap (locs ++ L) e1.symm (by rw [← e2]; exact X'.warmed.alike) hp hb k1 k2 k3 T' rfl X'
    exact ⟨t2, st t2 a1, b1⟩
  · obtain ⟨k1, k2, k3⟩ := vx_keep h0 e1 hS hAX hf hL hF
    obtain ⟨t2, a1, b1⟩ := kx E ce q u t T'.heap (locs ++ L) e1.symm (by rw [← e2]; exact X'.warmed.alike) hp hb k1 k2 k3 (by rw [e1]; exact hce) hcv hcl T' rfl X'
    exact ⟨t2, st.trans a1, b1⟩
theorem vx_callf {S SX : Type} {post : UInt32 → S → Prop} {px : SX → Prop} {B : S → State → Prop} {BX : String → SX → State → Prop} {AX : Nat → Prop} (hr : vx_Run p l e R s m args below meth c H locs cells slots mc ms (F0 m pc ls st0) rest (va_Qf post B A1 a) (vx_X px BX AX) free) (hS : va_S A0 H0 H locs) (hA : ∀ q, q < H.size → A1 q → A0 q) (hf : ∀ q, free q → A0 q) (hAX : ∀ q, q < H.size → AX q → A0 q)
    (kx : ∀ (E : String) (ce : Cell) (q9 : Addr) (u : SX) (t : State) (H1 : Heap) (locs1 : List Loc), t.heap = H1 → s.vm.Alike t.vm → px u → BX E u t → H.size ≤ H1.size → (∀ q : Nat, q < H.size → ¬ AX q → H1[q]? = H[q]?) → va_S A0 H0 H1 locs1 → H1[q9]? = some ce → ce.vm = .none → s.vm.findClass E = some ce.cls → vx_W p l e R s m args below meth c H1 locs1 (cells + mc) (slots + ms) Q (F0 m pc ls rest) q9)
    (kk : ∀ (r : UInt32) (u : S) (t : State) (H1 : Heap) (locs1 : List Loc), t.heap = H1 → s.vm.Alike t.vm → post r u → B u t → H.size ≤ H1.size → (∀ q : Nat, q < H.size → ¬ A1 q → H1[q]? = H[q]?) → va_S A0 H0 H1 locs1 → W p l e R s m args below meth c H1 locs1 (cells + mc) (slots + ms) Q (F0 m (pc + 3) ls (.float r :: rest))) : W p l e R s m args below meth c H locs cells slots Q (F0 m pc ls st0) := by
  intro T hT X
  rcases hr T hT X with ⟨v, st₀, t, T', L, h0, X', hL, e1, e2, ⟨⟨r, u, hv, hp, hb⟩, hF⟩, st⟩ | ⟨q, st₀, t, T', L, E, ce, h0, X', hL, e1, e2, ⟨u, hp, hb, hF⟩, hce, hcv, hcl, st⟩
  · cases hv
    obtain ⟨k1, k2, k3⟩ := vx_keep h0 e1 hS hA hf hL hF
    obtain ⟨t2, a1, b1⟩ := kk r u t T'.heap (locs ++ L) e1.symm (by rw [← e2]; exact X'.warmed.alike) hp hb k1 k2 k3 T' rfl X'
    exact ⟨t2, st t2 a1, b1⟩
  · obtain ⟨k1, k2, k3⟩ := vx_keep h0 e1 hS hAX hf hL hF
    obtain ⟨t2, a1, b1⟩ := kx E ce q u t T'.heap (locs ++ L) e1.symm (by rw [← e2]; exact X'.warmed.alike) hp hb k1 k2 k3 (by rw [e1]; exact hce) hcv hcl T' rfl X'
    exact ⟨t2, st.trans a1, b1⟩
theorem vx_calld {S SX : Type} {post : UInt64 → S → Prop} {px : SX → Prop} {B : S → State → Prop} {BX : String → SX → State → Prop} {AX : Nat → Prop} (hr : vx_Run p l e R s m args below meth c H locs cells slots mc ms (F0 m pc ls st0) rest (va_Qd post B A1 a) (vx_X px BX AX) free) (hS : va_S A0 H0 H locs) (hA : ∀ q, q < H.size → A1 q → A0 q) (hf : ∀ q, free q → A0 q) (hAX : ∀ q, q < H.size → AX q → A0 q)
    (kx : ∀ (E : String) (ce : Cell) (q9 : Addr) (u : SX) (t : State) (H1 : Heap) (locs1 : List Loc), t.heap = H1 → s.vm.Alike t.vm → px u → BX E u t → H.size ≤ H1.size → (∀ q : Nat, q < H.size → ¬ AX q → H1[q]? = H[q]?) → va_S A0 H0 H1 locs1 → H1[q9]? = some ce → ce.vm = .none → s.vm.findClass E = some ce.cls → vx_W p l e R s m args below meth c H1 locs1 (cells + mc) (slots + ms) Q (F0 m pc ls rest) q9)
    (kk : ∀ (r : UInt64) (u : S) (t : State) (H1 : Heap) (locs1 : List Loc), t.heap = H1 → s.vm.Alike t.vm → post r u → B u t → H.size ≤ H1.size → (∀ q : Nat, q < H.size → ¬ A1 q → H1[q]? = H[q]?) → va_S A0 H0 H1 locs1 → W p l e R s m args below meth c H1 locs1 (cells + mc) (slots + ms) Q (F0 m (pc + 3) ls (.double r :: rest))) : W p l e R s m args below meth c H locs cells slots Q (F0 m pc ls st0) := by
  intro T hT X
  rcases hr T hT X with ⟨v, st₀, t, T', L, h0, X', hL, e1, e2, ⟨⟨r, u, hv, hp, hb⟩, hF⟩, st⟩ | ⟨q, st₀, t, T', L, E, ce, h0, X', hL, e1, e2, ⟨u, hp, hb, hF⟩, hce, hcv, hcl, st⟩
  · cases hv
    obtain ⟨k1, k2, k3⟩ := vx_keep h0 e1 hS hA hf hL hF
    obtain ⟨t2, a1, b1⟩ := kk r u t T'.heap (locs ++ L) e1.symm (by rw [← e2]; exact X'.warmed.alike) hp hb k1 k2 k3 T' rfl X'
    exact ⟨t2, st t2 a1, b1⟩
  · obtain ⟨k1, k2, k3⟩ := vx_keep h0 e1 hS hAX hf hL hF
    obtain ⟨t2, a1, b1⟩ := kx E ce q u t T'.heap (locs ++ L) e1.symm (by rw [← e2]; exact X'.warmed.alike) hp hb k1 k2 k3 (by rw [e1]; exact hce) hcv hcl T' rfl X'
    exact ⟨t2, st.trans a1, b1⟩
theorem vx_callv {S SX : Type} {post : S → Prop} {px : SX → Prop} {B : S → State → Prop} {BX : String → SX → State → Prop} {AX : Nat → Prop} (hr : vx_Run p l e R s m args below meth c H locs cells slots mc ms (F0 m pc ls st0) rest (va_Qv post B A1 a) (vx_X px BX AX) free) (hS : va_S A0 H0 H locs) (hA : ∀ q, q < H.size → A1 q → A0 q) (hf : ∀ q, free q → A0 q) (hAX : ∀ q, q < H.size → AX q → A0 q)
    (kx : ∀ (E : String) (ce : Cell) (q9 : Addr) (u : SX) (t : State) (H1 : Heap) (locs1 : List Loc), t.heap = H1 → s.vm.Alike t.vm → px u → BX E u t → H.size ≤ H1.size → (∀ q : Nat, q < H.size → ¬ AX q → H1[q]? = H[q]?) → va_S A0 H0 H1 locs1 → H1[q9]? = some ce → ce.vm = .none → s.vm.findClass E = some ce.cls → vx_W p l e R s m args below meth c H1 locs1 (cells + mc) (slots + ms) Q (F0 m pc ls rest) q9)
    (kk : ∀ (u : S) (t : State) (H1 : Heap) (locs1 : List Loc), t.heap = H1 → s.vm.Alike t.vm → post u → B u t → H.size ≤ H1.size → (∀ q : Nat, q < H.size → ¬ A1 q → H1[q]? = H[q]?) → va_S A0 H0 H1 locs1 → W p l e R s m args below meth c H1 locs1 (cells + mc) (slots + ms) Q (F0 m (pc + 3) ls (rest))) : W p l e R s m args below meth c H locs cells slots Q (F0 m pc ls st0) := by
  intro T hT X
  rcases hr T hT X with ⟨v, st₀, t, T', L, h0, X', hL, e1, e2, ⟨⟨u, hv, hp, hb⟩, hF⟩, st⟩ | ⟨q, st₀, t, T', L, E, ce, h0, X', hL, e1, e2, ⟨u, hp, hb, hF⟩, hce, hcv, hcl, st⟩
  · cases hv
    obtain ⟨k1, k2, k3⟩ := vx_keep h0 e1 hS hA hf hL hF
    obtain ⟨t2, a1, b1⟩ := kk u t T'.heap (locs ++ L) e1.symm (by rw [← e2]; exact X'.warmed.alike) hp hb k1 k2 k3 T' rfl X'
    exact ⟨t2, st t2 a1, b1⟩
  · obtain ⟨k1, k2, k3⟩ := vx_keep h0 e1 hS hAX hf hL hF
    obtain ⟨t2, a1, b1⟩ := kx E ce q u t T'.heap (locs ++ L) e1.symm (by rw [← e2]; exact X'.warmed.alike) hp hb k1 k2 k3 (by rw [e1]; exact hce) hcv hcl T' rfl X'
    exact ⟨t2, st.trans a1, b1⟩
/-- caught by the row x of this method's table; the rows ahead don't take it -/
theorem vx_catch {own name : String} {E : String} {ce : Cell} {q : Addr} (hown : s.vm.findClass own = some m.cls) (pre : List ExceptionTableEntry) (x : ExceptionTableEntry) (suf : List ExceptionTableEntry) (hsplit : c.exceptionTable.toList = pre ++ x :: suf)
    (hpass : ∀ z ∈ pre, covers z pc = false ∨ (z.catchType ≠ 0 ∧ ∃ nm : String, (Cond.classLink own z.catchType nm).before args s = true ∧ va_Nc E nm s)) (hx : covers x pc = true) (h0 : x.catchType ≠ 0)
    (hlink : (Cond.classLink own x.catchType name).before args s = true) (hcast : (Cond.castable E name).before args s = true) (hcell : H[q]? = some ce) (hv : ce.vm = .none) (hcl : s.vm.findClass E = some ce.cls)
    (kk : W p l e R s m args below meth c H locs cells slots Q (F0 m x.handlerPc ls [.ref q])) : vx_W p l e R s m args below meth c H locs cells slots Q (F0 m pc ls rest) q := by
  intro T hT X
  have hpl : e.platform.magicAccessors = ({} : Platform).magicAccessors := by rw [X.admits.platform]
  obtain ⟨c3, c4, hc3, hc4, hasg⟩ := Cond.castable_spec hcast
  cases Option.some.inj (hc3.symm.trans hcl)
  obtain ⟨c5, hc5, hcl5⟩ := Cond.classLink_spec hown hlink e.platform hpl
  cases Option.some.inj (hc4.symm.trans hc5)
  obtain ⟨vm', X', st⟩ := X.thenCaughtThrough q (g := F0 m pc ls rest) rfl (Steps.refl _) (by rw [hT]; exact hcell) (by rw [hv]; rfl) (by obtain ⟨k9, h9, -⟩ := Vm.findClass_spec hcl; exact ⟨k9, h9⟩) pre x suf hsplit
    (fun z hz => by
      rcases hpass z hz with h | ⟨hz0, nm, hl1, hn1⟩
      · exact Or.inl h
      · obtain ⟨c6, hc6, hcl6⟩ := Cond.classLink_spec hown hl1 e.platform hpl
        obtain ⟨a8, b8, h1, h2, h3⟩ := hn1
        cases Option.some.inj (h1.symm.trans hcl)
        cases Option.some.inj (h2.symm.trans hc6)
        exact Or.inr ⟨hz0, _, hcl6, h3⟩) hx (Or.inr ⟨h0, c4, hcl5, hasg⟩)
  obtain ⟨t, a1, b1⟩ := kk (T.setVm vm') hT X'
  exact ⟨t, st.trans a1, b1⟩
end Rows
section Ends
variable {p : Program} {l : Launch} {e : Env} {R : Room} {s : State} {m : MethodId} {args : Array Value} {below : List Frame} {meth : Method} {c : Code} {H : Heap} {locs : List Loc} {cells slots : Nat} {Q : State → Prop}
variable {mc ms : Nat} {free : Addr → Prop} {A0 A1 : Nat → Prop} {H0 : Heap} {a : Array Value} {ls : Array Slot} {st0 rest : List Value}
variable {Qc : Array Value → State → Outcome → State → Prop} {XC : String → State → State → Prop}
/-- what a body that may throw owes at its end -/
def vx_MQ (below : List Frame) (Qc : Array Value → State → Outcome → State → Prop) (XC : String → State → State → Prop) (a : Array Value) (s : State) (mc ms : Nat) (free : Addr → Prop) : State → Prop := fun t =>
  ∃ o, t.status = .running ∧ Ended t below o ∧ vx_Q Qc XC mc ms free a s o t
theorem vx_ret {g : JFrame} {mc ms : Nat} (k : W p l e R s m args below meth c H locs cells slots (MQ below Qc args s mc ms free) g) : W p l e R s m args below meth c H locs cells slots (vx_MQ below Qc XC args s mc ms free) g := by
  intro T hT X
  obtain ⟨t, a1, o, b1, b2, b3, b4⟩ := k T hT X
  exact ⟨t, a1, o, b1, b2, Or.inl ⟨b3, b4⟩⟩
/-- not caught here: it goes on to the caller -/
theorem vx_widen {g : JFrame} {q : Addr} {k n : Nat} (h1 : cells ≤ k) (h2 : slots ≤ n) (kk : vx_W p l e R s m args below meth c H locs k n Q g q) : vx_W p l e R s m args below meth c H locs cells slots Q g q := fun T hT X => kk T hT (stand_widen X h1 h2)
theorem vx_out {pc : Nat} {E : String} {ce : Cell} {q : Addr} {mc ms : Nat} (hout : ∀ x ∈ c.exceptionTable.toList, covers x pc = false) (hlocks : meth.locks = false) (hcell : H[q]? = some ce) (hv : ce.vm = .none) (hcl : s.vm.findClass E = some ce.cls)
    (hx : ∀ t : State, t.heap = H → s.vm.Alike t.vm → XC E s t) (hf : ∀ z ∈ locs, free z.base) (hc : cells ≤ mc) (hs : slots ≤ ms) :
    vx_W p l e R s m args below meth c H locs cells slots (vx_MQ below Qc XC args s mc ms free) (F0 m pc ls rest) q := by
  intro T hT X
  obtain ⟨st1, hrun, hend, hW, hsm⟩ := X.leaveThrown q (g := F0 m pc ls rest) rfl rfl rfl hout hlocks
  have hcell9 : (T.setFrames (.throwing q :: below)).heap[q]? = some ce := by
    show T.heap[q]? = some ce
    rw [hT]; exact hcell
  exact ⟨_, st1, .threw q, hrun, hend, Or.inr ⟨q, rfl, E, ce, locs, hx _ hT hW.alike, hcell9, hv, hcl, hW, hsm.mono hc hs, hf⟩⟩
theorem vx_frame {U : State} {k n : Nat} (h : s.sameButNew ({ U with vm := s.vm } : State) locs k n) : s.heap.size ≤ U.heap.size ∧ ∀ q : Nat, q < s.heap.size → (∀ z ∈ locs, z.base ≠ q) → U.heap[q]? = s.heap[q]? := by
  obtain ⟨-, h2, -, -, -, h6⟩ := h
  refine ⟨h2, fun q hq hz => ?_⟩
  obtain ⟨c9, e1, e2, e3, e4⟩ := h6 q _ (Array.getElem?_eq_getElem hq)
  have hs : c9.slots = (s.heap[q]).slots := Array.ext_getElem? fun i => e4 i fun hm => hz _ hm rfl
  have h9 : c9 = s.heap[q] := by
    rw [hs] at e2
    exact e2
  have e5 : U.heap[q]? = some c9 := e1
  rw [e5, h9, Array.getElem?_eq_getElem hq]
/-- the words of a throw but the four that speak of the heap -/
def vx_no (w : Cond) : Bool := decide (w ≠ .isRef (.static Bundle.tN "UNASSIGNED_STACK" Bundle.steD)) && decide (w ≠ .isRef (.static Bundle.tN "SUPPRESSED_SENTINEL" Bundle.listD)) && decide (w ≠ .laysStatic Bundle.tN "UNASSIGNED_STACK" Bundle.steD) && decide (w ≠ .laysStatic Bundle.tN "SUPPRESSED_SENTINEL" Bundle.listD)
def vx_at0 (own : String) (ic : Nat) (X : String) (names : List String) : List Cond := (Bundle.ownAtoms0 own ic X names).filter vx_no
def vx_atS (own : String) (ic : Nat) (X : String) (names : List String) : List Cond := (Bundle.ownAtoms own ic X names).filter vx_no
/-- a word that the tables alone decide, or a good one -/
def vx_ot (w : Cond) : Bool := w.onTables || goodWord w
theorem vx_ot_at {args a' : Array Value} {s U : State} {w : Cond} (hW : s.WarmedH U.vm) (hvm : s.vm = U.vm) (hg : vx_ot w = true) (h : w.before args s = true) : w.before a' U = true := by
  simp only [vx_ot, Bool.or_eq_true] at hg
  rcases hg with hg | hg
  · exact va_tabs hg hvm h
  · exact word_at hW (good_of_word hg) h
/-- a list's words: the good ones out of the method's own list, the others by premises of their own -/
theorem vx_hat {args : Array Value} {s : State} {L B : List Cond} (h1 : ∀ w ∈ L.filter goodWord, w.before args s = true) (h2 : ∀ w ∈ L.filter (fun w => !goodWord w), w ∈ B) (h3 : ∀ w ∈ B, w.before args s = true) : ∀ w ∈ L, w.before args s = true := by
  intro w hw
  by_cases g : goodWord w = true
  · exact h1 w (List.mem_filter.mpr ⟨hw, g⟩)
  · refine h3 w (h2 w (List.mem_filter.mpr ⟨hw, ?_⟩))
    show (!goodWord w) = true
    cases hgw : goodWord w
    · rfl
    · exact absurd hgw g
theorem vx_c {args : Array Value} {s : State} {w : Cond} {B : List Cond} (h : w.before args s = true) (t : ∀ w ∈ B, w.before args s = true) : ∀ w' ∈ w :: B, w'.before args s = true := fun w' h' => (List.mem_cons.mp h').elim (fun e => by rw [e]; exact h) (t w')
theorem vx_n {args : Array Value} {s : State} : ∀ w ∈ ([] : List Cond), w.before args s = true := fun _ h => nomatch h
theorem vx_own {args : Array Value} {s : State} {L : List Cond} (h1 : ∀ w ∈ L.filter vx_no, w.before args s = true)
    (hU : (Cond.isRef (.static Bundle.tN "UNASSIGNED_STACK" Bundle.steD)).before args s = true) (hN : (Cond.isRef (.static Bundle.tN "SUPPRESSED_SENTINEL" Bundle.listD)).before args s = true)
    (lU : (Cond.laysStatic Bundle.tN "UNASSIGNED_STACK" Bundle.steD).before args s = true) (lN : (Cond.laysStatic Bundle.tN "SUPPRESSED_SENTINEL" Bundle.listD).before args s = true) : ∀ w ∈ L, w.before args s = true := by
  intro w hw
  by_cases e1 : w = .isRef (.static Bundle.tN "UNASSIGNED_STACK" Bundle.steD)
  · rw [e1]; exact hU
  · by_cases e2 : w = .isRef (.static Bundle.tN "SUPPRESSED_SENTINEL" Bundle.listD)
    · rw [e2]; exact hN
    · by_cases e3 : w = .laysStatic Bundle.tN "UNASSIGNED_STACK" Bundle.steD
      · rw [e3]; exact lU
      · by_cases e4 : w = .laysStatic Bundle.tN "SUPPRESSED_SENTINEL" Bundle.listD
        · rw [e4]; exact lN
        · exact h1 w (List.mem_filter.mpr ⟨hw, by unfold vx_no; rw [decide_eq_true e1, decide_eq_true e2, decide_eq_true e3, decide_eq_true e4]; rfl⟩)
/-- where a static field lies, its class's statics cell in H -/
def vx_L (C n d : String) (A : Nat → Prop) (U : State) (H : Heap) : Prop := ∃ (c : ClassId) (k : Class) (i : Nat) (f : Field) (a : Nat) (cell : Cell), U.vm.findClass C = some c ∧ U.fieldFound? C n d = some (c, k, i, f) ∧ f.isStatic = true ∧ k.statics = some a ∧ H[a]? = some cell ∧ cell.vm.isStatics = true ∧ cell.cls = c ∧ f.slot < cell.slots.size ∧ k.staticTypes[f.slot]? = some f.type ∧ ¬ A a
theorem vx_L.moved {C n d : String} {A : Nat → Prop} {u U : State} {H : Heap} (hvm : u.vm.Alike U.vm) (h : vx_L C n d A u H) : vx_L C n d A U H := by
  obtain ⟨c, k, i, f, a, cell, h1, h2, h3, h4, h5, h6, h7, h8, h9, h10⟩ := h
  obtain ⟨k', hi', he⟩ := State.fieldFound?_setVm hvm h2
  exact ⟨c, k', i, f, a, cell, by rw [hvm.findClass]; exact h1, hi', h3, by rw [he]; exact h4, h5, h6, h7, h8, by rw [he]; exact h9, h10⟩
theorem vx_L.kept {C n d : String} {A : Nat → Prop} {U : State} {H H1 : Heap} (h : vx_L C n d A U H) (hq : ∀ a : Nat, a < H.size → ¬ A a → H1[a]? = H[a]?) : vx_L C n d A U H1 := by
  obtain ⟨c, k, i, f, a, cell, h1, h2, h3, h4, h5, h6, h7, h8, h9, h10⟩ := h
  exact ⟨c, k, i, f, a, cell, h1, h2, h3, h4, by rw [hq a (Array.getElem?_eq_some_iff.mp h5).1 h10]; exact h5, h6, h7, h8, h9, h10⟩
theorem vx_L.narrow {C n d : String} {A B : Nat → Prop} {U : State} {H : Heap} (h : vx_L C n d A U H) (hAB : ∀ q, B q → A q) : vx_L C n d B U H := by
  obtain ⟨c, k, i, f, a, cell, h1, h2, h3, h4, h5, h6, h7, h8, h9, h10⟩ := h
  exact ⟨c, k, i, f, a, cell, h1, h2, h3, h4, h5, h6, h7, h8, h9, fun z => h10 (hAB _ z)⟩
theorem vx_L.word {C n d : String} {A : Nat → Prop} {s : State} {args : Array Value} (h : vx_L C n d A s s.heap) : (Cond.laysStatic C n d).before args s = true := by
  obtain ⟨c, k, i, f, a, cell, h1, h2, h3, h4, h5, h6, h7, h8, h9, -⟩ := h
  show (Cond.laysStatic C n d).holds args s none s [] = true
  exact Cond.laysStatic_of h1 h2 h3 h4 h5 h6 h7 h8 h9
/-- .. and what it holds: null or some reference -/
def vx_Zq (C n d : String) (A : Nat → Prop) (U : State) (H : Heap) : Prop := va_Zq C n d A U H ∧ vx_L C n d A U H
theorem vx_Zq.moved {C n d : String} {A : Nat → Prop} {u U : State} {H : Heap} (hvm : u.vm.Alike U.vm) (h : vx_Zq C n d A u H) : vx_Zq C n d A U H := ⟨va_Zq.moved hvm h.1, vx_L.moved hvm h.2⟩
theorem vx_Zq.kept {C n d : String} {A : Nat → Prop} {U : State} {H H1 : Heap} (h : vx_Zq C n d A U H) (hq : ∀ a : Nat, a < H.size → ¬ A a → H1[a]? = H[a]?) : vx_Zq C n d A U H1 := ⟨va_Zq.kept h.1 hq, vx_L.kept h.2 hq⟩
theorem vx_Zq.narrow {C n d : String} {A B : Nat → Prop} {U : State} {H : Heap} (h : vx_Zq C n d A U H) (hAB : ∀ q, B q → A q) : vx_Zq C n d B U H := ⟨va_Zq.narrow h.1 hAB, vx_L.narrow h.2 hAB⟩
theorem vx_Zqof {args : Array Value} {s : State} {C n d : String} {A : Nat → Prop} (hl : (Cond.laysStatic C n d).before args s = true) (hini : (Cond.initialized C).before args s = true) (h : (Cond.isRef (.static C n d)).before args s = true) (hA : ∀ a : Nat, a < s.heap.size → ¬ A a) : vx_Zq C n d A s s.heap := by
  refine ⟨va_Zqof hl hini h hA, ?_⟩
  obtain ⟨c, k, i, f, a, cell, h1, h2, h3, h4, h5, h6, h7, h8, h9⟩ := Cond.laysStatic_spec hl
  exact ⟨c, k, i, f, a, cell, h1, h2, h3, h4, h5, h6, h7, h8, h9, hA a (Array.getElem?_eq_some_iff.mp h5).1⟩
theorem vx_isRef {C n d : String} {v : Value} {A : Nat → Prop} {s : State} {args : Array Value} (h : va_Z C n d v A s s.heap) (hv : v.isRef = true) : (Cond.isRef (.static C n d)).before args s = true := by
  obtain ⟨cf, kf, fi, f, a, cell, h1, h2, h3, h4, h5, h6, h7, -⟩ := h
  have he : (Term.static C n d).eval args s none [] s = some v := by
    simp [Term.eval, State.fieldNamed?, h1, h2, h4, h5, h6, h7]
  simp only [Cond.before, Cond.holds, Cond.value, he]
  cases v <;> simp_all [Value.isRef]
theorem vx_isRefq {C n d : String} {A : Nat → Prop} {s : State} {args : Array Value} (h : va_Zq C n d A s s.heap) : (Cond.isRef (.static C n d)).before args s = true := by
  rcases h with h | ⟨t, h⟩
  · exact vx_isRef h rfl
  · exact vx_isRef h rfl
/-- the same frame, seen from here: as if the method were called anew in this heap -/
theorem vx_rebase {T : State} (X : Stand p l e R s m args below meth c T locs cells slots) {R' : Room} (hf : R'.frames ≤ R.frames) (hl : R'.locals ≤ R.locals) (hc : cells + R'.cells ≤ R.cells) (hs : slots + R'.slots ≤ R.slots) :
    Stand p l e R' ((T.setVm s.vm).setFrames (.invoking m args :: below)) m args below meth c T [] 0 0 := by
  have htop : (T.setVm s.vm).topJava?.isSome := X.here.top
  have hF : ((T.setVm s.vm).setFrames (.invoking m args :: below)).frames = .invoking m args :: below := State.frames_setFrames _ (State.cur_lt_of_top htop)
  obtain ⟨g₀, hg0⟩ := Option.isSome_iff_exists.mp htop
  obtain ⟨r, hr⟩ := State.topJava?_eq_some.mp hg0
  have hl9 : e.platform.stackLimits (T.setVm s.vm).me = e.platform.stackLimits s.me := X.limits
  have hb9 : (T.setVm s.vm).me.stackBytes = s.me.stackBytes := X.bytes
  refine ⟨X.admits, X.cas, X.clock, hF, ?_, X.hears, X.method, X.code, X.here, X.tail, X.warmed, ?_, ?_, ?_⟩
  · have h := X.room
    have hU : ((T.setVm s.vm).setFrames (.invoking m args :: below)).localsInUse = s.localsInUse := by
      rw [State.localsInUse_invoking hF (meth := meth) (c := c) X.method X.code, State.localsInUse_invoking X.frames X.method X.code]
    simp only [State.hasRoom, Bool.and_eq_true, decide_eq_true_eq] at h ⊢
    obtain ⟨⟨⟨⟨h1, h2, h3, h4, h5, h6⟩, h7⟩, h8⟩, h9⟩ := h
    rw [X.frames, List.length_cons] at h2 h3
    have q1 := X.heapSize
    have q2 := X.used
    simp only [hF, hU, List.length_cons, State.stackLimits_setFrames, State.stackBytes_setFrames, hl9, hb9]
    refine ⟨⟨⟨⟨by omega, by omega, by omega, by omega, by omega, h6⟩, ?_⟩, ?_⟩, X.book⟩
    · show T.heap.size + R'.cells ≤ e.platform.maxCells
      omega
    · show T.slotsUsed + R'.slots ≤ e.platform.maxSlots
      omega
  · rw [State.stackLimits_setFrames]; rfl
  · rw [State.stackBytes_setFrames]; rfl
  · refine ⟨?_, Nat.le_refl _, Nat.le_refl _, ?_, ?_, fun a c9 h9 => ⟨c9, h9, rfl, rfl, fun _ _ => rfl⟩⟩
    · obtain ⟨t, ht, -⟩ := State.frames_cons hr
      show T.setVm s.vm = { ((T.setVm s.vm).setFrames (.invoking m args :: below)).setFrames (T.setVm s.vm).frames with heap := T.heap, slotsUsed := T.slotsUsed }
      rw [State.setFrames_setFrames, State.setFrames_self ht]
      rfl
    · show T.slotsUsed = T.slotsUsed + ((T.heap.toList.drop T.heap.size).map (·.slots.size)).sum
      rw [List.drop_eq_nil_of_le (Nat.le_of_eq Array.length_toList)]
      rfl
    · show ((T.heap.toList.drop T.heap.size).map (·.slots.size)).sum ≤ 0
      rw [List.drop_eq_nil_of_le (Nat.le_of_eq Array.length_toList)]
      exact Nat.le_refl _
/-- 'throw new E()': new; dup; invokespecial; athrow -/
theorem vx_throw0 {cc : ByteArray} {pc : Nat} (hexec : p.tables.exec = Jvm.exec) (hb : c.code = cc) (hl : l.stackTraces = false) {own cls : String} {names : List String} {ik ic mc ms : Nat} {A : Nat → Prop}
    (hown : s.vm.findClass own = some m.cls) (hcls : Bundle.fit cls = true) (hnames : ∀ n ∈ names, Bundle.fit n = true)
    (hk : (Cond.classLink own ik cls).before args s = true) (hini : (Cond.initialized cls).before args s = true) (hat : ∀ w ∈ vx_at0 own ic cls names, w.before args s = true)
    (hgood : ∀ w ∈ Cond.classLink own ik cls :: Cond.initialized cls :: vx_at0 own ic cls names, vx_ot w = true)
    (hU : vx_Zq Bundle.tN "UNASSIGNED_STACK" Bundle.steD A s s.heap) (hN : vx_Zq Bundle.tN "SUPPRESSED_SENTINEL" Bundle.listD A s s.heap) (hS : va_S A s.heap H locs) (hsize : ls.size = c.maxLocals)
    (d0 : decode cc pc = .ok (.new ik, 3)) (d3 : decode cc (pc + 3) = .ok (.dup, 1)) (d4 : decode cc (pc + 4) = .ok (.invokespecial ic, 3)) (d7 : decode cc (pc + 7) = .ok (.athrow, 1))
    (hout : ∀ x ∈ c.exceptionTable.toList, covers x (pc + 7) = false)
    (hRframes : names.length + 3 < R.frames) (hRlocals : (rest.map fun v => v.category).sum + (13 * (names.length + 1) + 42) ≤ R.locals) (hRcells : cells + 1 ≤ R.cells) (hRslots : slots + 6 ≤ R.slots) (hlocks : meth.locks = false)
    (hx : ∀ t : State, s.vm.Alike t.vm → H.size ≤ t.heap.size → (∀ q : Nat, q < H.size → t.heap[q]? = H[q]?) → XC cls s t)
    (hf : ∀ z ∈ locs, free z.base) (hc : cells + 1 ≤ mc) (hs : slots + 6 ≤ ms) :
    W p l e R s m args below meth c H locs cells slots (vx_MQ below Qc XC args s mc ms free) (F0 m pc ls rest) := by
  intro T hT X
  have htr : e.platform.stackTraces = false := (show e.platform.stackTraces = l.stackTraces by rw [X.admits.platform]).trans hl
  have Y := vx_rebase X (R' := { frames := R.frames, locals := R.locals, cells := 1, slots := 6 }) (Nat.le_refl _) (Nat.le_refl _) hRcells hRslots
  obtain ⟨s', hA⟩ : ∃ z, z = (T.setVm s.vm).setFrames (.invoking m args :: below) := ⟨_, rfl⟩
  rw [← hA] at Y
  have hvm : s'.vm = s.vm := by rw [hA]; rfl
  have hhp : s'.heap = H := by rw [hA]; exact hT
  have hW0 : s.WarmedH s'.vm := by rw [hvm]; exact State.WarmedH.refl s
  have hat' : ∀ w ∈ vx_at0 own ic cls names, w.before args s' = true := fun w hw => vx_ot_at hW0 hvm.symm (hgood w (List.mem_cons_of_mem _ (List.mem_cons_of_mem _ hw))) (hat w hw)
  have hk' : (Cond.classLink own ik cls).before args s' = true := vx_ot_at hW0 hvm.symm (hgood _ List.mem_cons_self) hk
  have hini' : (Cond.initialized cls).before args s' = true := vx_ot_at hW0 hvm.symm (hgood _ (List.mem_cons_of_mem _ List.mem_cons_self)) hini
  have hU' : vx_Zq Bundle.tN "UNASSIGNED_STACK" Bundle.steD A s' s'.heap := by rw [hhp]; exact vx_Zq.moved hW0.alike (hU.kept hS.2.1)
  have hN' : vx_Zq Bundle.tN "SUPPRESSED_SENTINEL" Bundle.listD A s' s'.heap := by rw [hhp]; exact vx_Zq.moved hW0.alike (hN.kept hS.2.1)
  have h : ∀ w ∈ Bundle.ownAtoms0 own ic cls names, w.before args s' = true := vx_own hat' (vx_isRefq hU'.1) (vx_isRefq hN'.1) hU'.2.word hN'.2.word
  have hown' : s'.vm.findClass own = some m.cls := by rw [hvm]; exact hown
  have hins : (Cond.instantiable cls 6).before args s' = true := h _ (by simp [Bundle.ownAtoms0])
  obtain ⟨vm₁, cX, kX, hfX, hkX, -, -, X₁, st1⟩ := Y.newCold hexec (own := own) (C := cls) (index := ik) (n := 6) hown' hk' hins hini'
    (g := F0 m pc ls rest) rfl (by rw [hb]; exact d0) (Nat.le_refl _) (Nat.le_refl _)
  generalize hT1 : (T.setVm vm₁).pushCell { cls := cX, slots := kX.instanceTypes.map defaultValue, vm := .none } = T1 at X₁ st1
  have hcat : (Value.ref T.heap.size).category = 1 := rfl
  have hcellA : T1.heap[T.heap.size]? = some (freshCell cX kX) := by rw [← hT1]; exact State.heap_pushCell_size _ _
  have d3' : decode c.code (pc + 3) = .ok (.dup, 1) := by rw [hb]; exact d3
  obtain ⟨U, hsteps, hrun, hend, hW, hsame, ce, hce, hO⟩ := X₁.ctorThrow0 hexec htr (own := own) (cls := cls) (names := names) (ic := ic) hown' hcls hnames h (fun x hx => nomatch hx) hfX hkX hcellA (by rw [hhp, hT]; exact Nat.le_refl _)
    (g := { method := m, pc := pc + 4, locals := ls, stack := .ref T.heap.size :: .ref T.heap.size :: rest, locked := none }) rfl hsize rfl rfl (rest := rest) rfl
    (by rw [hb]; exact d4) (by rw [hb]; exact d7) hout hRframes (by simp only [List.map_cons, List.sum_cons, hcat]; omega) hlocks
  obtain ⟨f1, f2⟩ := vx_frame hsame
  rw [hhp] at f1 f2
  have hWs : s.WarmedH U.vm := State.WarmedH.trans hW0 hW
  have hcl : s.vm.findClass cls = some ce.cls := by
    have h9 := hO.cls
    rw [hvm] at h9
    exact h9
  have hall : s.sameButNew ({ U with vm := s.vm } : State) locs mc ms := by
    subst hA
    obtain ⟨e1, e2⟩ := hsame
    rw [State.setFrames_setFrames] at e1
    have h2 : (T.setVm s.vm).sameButNew ({ U with vm := s.vm } : State) [] (0 + 1) (0 + 6) := ⟨e1, e2⟩
    have h3 := X.same.trans h2
    rw [List.append_nil] at h3
    exact h3.mono hc hs
  refine ⟨U, ?_, .threw T.heap.size, hrun, hend, Or.inr ⟨T.heap.size, rfl, cls, ce, locs, hx U hWs.alike f1 (fun q hq => f2 q hq (fun z hz => nomatch hz)), hce, hO.vm, hcl, hWs, hall, hf⟩⟩
  refine st1 _ ?_
  show Steps p.tables e below (T1.setTop { method := m, pc := pc + 3, locals := ls, stack := .ref T.heap.size :: rest, locked := none }) _
  jvm_step X₁.here [X₁.here.top, hexec, d3', Value.category]
  exact hsteps
/-- 'throw new E("text")': new; dup; ldc; invokespecial; athrow -/
theorem vx_throwS {cc : ByteArray} {pc : Nat} (hexec : p.tables.exec = Jvm.exec) (hb : c.code = cc) (hl : l.stackTraces = false) {own cls text : String} {names : List String} {ik is ic mc ms sa : Nat} {A : Nat → Prop}
    (hown : s.vm.findClass own = some m.cls) (hcls : Bundle.fit cls = true) (hnames : ∀ n ∈ names, Bundle.fit n = true)
    (hk : (Cond.classLink own ik cls).before args s = true) (hini : (Cond.initialized cls).before args s = true) (hstr : vk_R own is text sa s) (hat : ∀ w ∈ vx_atS own ic cls names, w.before args s = true)
    (hgood : ∀ w ∈ Cond.classLink own ik cls :: Cond.initialized cls :: vx_atS own ic cls names, vx_ot w = true)
    (hU : vx_Zq Bundle.tN "UNASSIGNED_STACK" Bundle.steD A s s.heap) (hN : vx_Zq Bundle.tN "SUPPRESSED_SENTINEL" Bundle.listD A s s.heap) (hS : va_S A s.heap H locs) (hsize : ls.size = c.maxLocals)
    (d0 : decode cc pc = .ok (.new ik, 3)) (d3 : decode cc (pc + 3) = .ok (.dup, 1)) (d4 : decode cc (pc + 4) = .ok (.ldc is, 2)) (d6 : decode cc (pc + 6) = .ok (.invokespecial ic, 3)) (d9 : decode cc (pc + 9) = .ok (.athrow, 1))
    (hout : ∀ x ∈ c.exceptionTable.toList, covers x (pc + 9) = false)
    (hRframes : names.length + 3 < R.frames) (hRlocals : (rest.map fun v => v.category).sum + (13 * (names.length + 1) + 43) ≤ R.locals) (hRcells : cells + 1 ≤ R.cells) (hRslots : slots + 6 ≤ R.slots) (hlocks : meth.locks = false)
    (hx : ∀ t : State, s.vm.Alike t.vm → H.size + 1 ≤ t.heap.size → (∀ q : Nat, q < H.size → t.heap[q]? = H[q]?) → XC cls s t)
    (hf : ∀ z ∈ locs, free z.base) (hc : cells + 1 ≤ mc) (hs : slots + 6 ≤ ms) :
    W p l e R s m args below meth c H locs cells slots (vx_MQ below Qc XC args s mc ms free) (F0 m pc ls rest) := by
  intro T hT X
  have htr : e.platform.stackTraces = false := (show e.platform.stackTraces = l.stackTraces by rw [X.admits.platform]).trans hl
  have Y := vx_rebase X (R' := { frames := R.frames, locals := R.locals, cells := 1, slots := 6 }) (Nat.le_refl _) (Nat.le_refl _) hRcells hRslots
  obtain ⟨s', hA⟩ : ∃ z, z = (T.setVm s.vm).setFrames (.invoking m args :: below) := ⟨_, rfl⟩
  rw [← hA] at Y
  have hvm : s'.vm = s.vm := by rw [hA]; rfl
  have hhp : s'.heap = H := by rw [hA]; exact hT
  have hW0 : s.WarmedH s'.vm := by rw [hvm]; exact State.WarmedH.refl s
  have hat' : ∀ w ∈ vx_atS own ic cls names, w.before args s' = true := fun w hw => vx_ot_at hW0 hvm.symm (hgood w (List.mem_cons_of_mem _ (List.mem_cons_of_mem _ hw))) (hat w hw)
  have hk' : (Cond.classLink own ik cls).before args s' = true := vx_ot_at hW0 hvm.symm (hgood _ List.mem_cons_self) hk
  have hini' : (Cond.initialized cls).before args s' = true := vx_ot_at hW0 hvm.symm (hgood _ (List.mem_cons_of_mem _ List.mem_cons_self)) hini
  have hU' : vx_Zq Bundle.tN "UNASSIGNED_STACK" Bundle.steD A s' s'.heap := by rw [hhp]; exact vx_Zq.moved hW0.alike (hU.kept hS.2.1)
  have hN' : vx_Zq Bundle.tN "SUPPRESSED_SENTINEL" Bundle.listD A s' s'.heap := by rw [hhp]; exact vx_Zq.moved hW0.alike (hN.kept hS.2.1)
  have h : ∀ w ∈ Bundle.ownAtoms own ic cls names, w.before args s' = true := vx_own hat' (vx_isRefq hU'.1) (vx_isRefq hN'.1) hU'.2.word hN'.2.word
  have hown' : s'.vm.findClass own = some m.cls := by rw [hvm]; exact hown
  have hins : (Cond.instantiable cls 6).before args s' = true := h _ (by simp [Bundle.ownAtoms])
  obtain ⟨vm₁, cX, kX, hfX, hkX, -, -, X₁, st1⟩ := Y.newCold hexec (own := own) (C := cls) (index := ik) (n := 6) hown' hk' hins hini'
    (g := F0 m pc ls rest) rfl (by rw [hb]; exact d0) (Nat.le_refl _) (Nat.le_refl _)
  generalize hT1 : (T.setVm vm₁).pushCell { cls := cX, slots := kX.instanceTypes.map defaultValue, vm := .none } = T1 at X₁ st1
  have hcat : (Value.ref T.heap.size).category = 1 := rfl
  have hcellA : T1.heap[T.heap.size]? = some (freshCell cX kX) := by rw [← hT1]; exact State.heap_pushCell_size _ _
  have d3' : decode c.code (pc + 3) = .ok (.dup, 1) := by rw [hb]; exact d3
  have d4' : decode c.code (pc + 4) = .ok (.ldc is, 2) := by rw [hb]; exact d4
  have hstr' : vk_R own is text sa s' := vk_R.warm hW0 hstr
  obtain ⟨U, hsteps, hrun, hend, hW, hsame, ce, hce, hO⟩ := X₁.ctorThrowS hexec htr (own := own) (cls := cls) (names := names) (ic := ic) hown' hcls hnames h (fun x hx => nomatch hx) hfX hkX hcellA (by rw [hhp, hT]; exact Nat.le_refl _) (msg := .ref sa) rfl
    (g := { method := m, pc := pc + 6, locals := ls, stack := .ref sa :: .ref T.heap.size :: .ref T.heap.size :: rest, locked := none }) rfl hsize rfl rfl (rest := rest) rfl
    (by rw [hb]; exact d6) (by rw [hb]; exact d9) hout hRframes (by simp only [List.map_cons, List.sum_cons, hcat]; omega) hlocks
  obtain ⟨f1, f2⟩ := vx_frame hsame
  rw [hhp] at f1 f2
  have hWs : s.WarmedH U.vm := State.WarmedH.trans hW0 hW
  have hcl : s.vm.findClass cls = some ce.cls := by
    have h9 := hO.cls
    rw [hvm] at h9
    exact h9
  have hall : s.sameButNew ({ U with vm := s.vm } : State) locs mc ms := by
    subst hA
    obtain ⟨e1, e2⟩ := hsame
    rw [State.setFrames_setFrames] at e1
    have h2 : (T.setVm s.vm).sameButNew ({ U with vm := s.vm } : State) [] (0 + 1) (0 + 6) := ⟨e1, e2⟩
    have h3 := X.same.trans h2
    rw [List.append_nil] at h3
    exact h3.mono hc hs
  refine ⟨U, ?_, .threw T.heap.size, hrun, hend, Or.inr ⟨T.heap.size, rfl, cls, ce, locs, hx U hWs.alike (by have h7 := (Array.getElem?_eq_some_iff.mp hce).1; rw [hT] at h7; exact h7) (fun q hq => f2 q hq (fun z hz => nomatch hz)), hce, hO.vm, hcl, hWs, hall, hf⟩⟩
  refine st1 _ ?_
  show Steps p.tables e below (T1.setTop { method := m, pc := pc + 3, locals := ls, stack := .ref T.heap.size :: rest, locked := none }) _
  jvm_step X₁.here [X₁.here.top, hexec, d3', Value.category]
  exact X₁.ldcString hexec (own := own) (text := text) (index := is) (a := sa) hown' hstr'.1 hstr'.2
    (g := { method := m, pc := pc + 4, locals := ls, stack := .ref T.heap.size :: .ref T.heap.size :: rest, locked := none }) rfl d4' _ hsteps
/-- 'throw new E("text")', the text by a wide index -/
theorem vx_throwSW {cc : ByteArray} {pc : Nat} (hexec : p.tables.exec = Jvm.exec) (hb : c.code = cc) (hl : l.stackTraces = false) {own cls text : String} {names : List String} {ik is ic mc ms sa : Nat} {A : Nat → Prop}
    (hown : s.vm.findClass own = some m.cls) (hcls : Bundle.fit cls = true) (hnames : ∀ n ∈ names, Bundle.fit n = true)
    (hk : (Cond.classLink own ik cls).before args s = true) (hini : (Cond.initialized cls).before args s = true) (hstr : vk_R own is text sa s) (hat : ∀ w ∈ vx_atS own ic cls names, w.before args s = true)
    (hgood : ∀ w ∈ Cond.classLink own ik cls :: Cond.initialized cls :: vx_atS own ic cls names, vx_ot w = true)
    (hU : vx_Zq Bundle.tN "UNASSIGNED_STACK" Bundle.steD A s s.heap) (hN : vx_Zq Bundle.tN "SUPPRESSED_SENTINEL" Bundle.listD A s s.heap) (hS : va_S A s.heap H locs) (hsize : ls.size = c.maxLocals)
    (d0 : decode cc pc = .ok (.new ik, 3)) (d3 : decode cc (pc + 3) = .ok (.dup, 1)) (d4 : decode cc (pc + 4) = .ok (.ldc_w is, 3)) (d7 : decode cc (pc + 7) = .ok (.invokespecial ic, 3)) (d10 : decode cc (pc + 10) = .ok (.athrow, 1))
    (hout : ∀ x ∈ c.exceptionTable.toList, covers x (pc + 10) = false)
    (hRframes : names.length + 3 < R.frames) (hRlocals : (rest.map fun v => v.category).sum + (13 * (names.length + 1) + 43) ≤ R.locals) (hRcells : cells + 1 ≤ R.cells) (hRslots : slots + 6 ≤ R.slots) (hlocks : meth.locks = false)
    (hx : ∀ t : State, s.vm.Alike t.vm → H.size ≤ t.heap.size → (∀ q : Nat, q < H.size → t.heap[q]? = H[q]?) → XC cls s t)
    (hf : ∀ z ∈ locs, free z.base) (hc : cells + 1 ≤ mc) (hs : slots + 6 ≤ ms) :
    W p l e R s m args below meth c H locs cells slots (vx_MQ below Qc XC args s mc ms free) (F0 m pc ls rest) := by
  intro T hT X
  have htr : e.platform.stackTraces = false := (show e.platform.stackTraces = l.stackTraces by rw [X.admits.platform]).trans hl
  have Y := vx_rebase X (R' := { frames := R.frames, locals := R.locals, cells := 1, slots := 6 }) (Nat.le_refl _) (Nat.le_refl _) hRcells hRslots
  obtain ⟨s', hA⟩ : ∃ z, z = (T.setVm s.vm).setFrames (.invoking m args :: below) := ⟨_, rfl⟩
  rw [← hA] at Y
  have hvm : s'.vm = s.vm := by rw [hA]; rfl
  have hhp : s'.heap = H := by rw [hA]; exact hT
  have hW0 : s.WarmedH s'.vm := by rw [hvm]; exact State.WarmedH.refl s
  have hat' : ∀ w ∈ vx_atS own ic cls names, w.before args s' = true := fun w hw => vx_ot_at hW0 hvm.symm (hgood w (List.mem_cons_of_mem _ (List.mem_cons_of_mem _ hw))) (hat w hw)
  have hk' : (Cond.classLink own ik cls).before args s' = true := vx_ot_at hW0 hvm.symm (hgood _ List.mem_cons_self) hk
  have hini' : (Cond.initialized cls).before args s' = true := vx_ot_at hW0 hvm.symm (hgood _ (List.mem_cons_of_mem _ List.mem_cons_self)) hini
  have hU' : vx_Zq Bundle.tN "UNASSIGNED_STACK" Bundle.steD A s' s'.heap := by rw [hhp]; exact vx_Zq.moved hW0.alike (hU.kept hS.2.1)
  have hN' : vx_Zq Bundle.tN "SUPPRESSED_SENTINEL" Bundle.listD A s' s'.heap := by rw [hhp]; exact vx_Zq.moved hW0.alike (hN.kept hS.2.1)
  have h : ∀ w ∈ Bundle.ownAtoms own ic cls names, w.before args s' = true := vx_own hat' (vx_isRefq hU'.1) (vx_isRefq hN'.1) hU'.2.word hN'.2.word
  have hown' : s'.vm.findClass own = some m.cls := by rw [hvm]; exact hown
  have hins : (Cond.instantiable cls 6).before args s' = true := h _ (by simp [Bundle.ownAtoms])
  obtain ⟨vm₁, cX, kX, hfX, hkX, -, -, X₁, st1⟩ := Y.newCold hexec (own := own) (C := cls) (index := ik) (n := 6) hown' hk' hins hini'
    (g := F0 m pc ls rest) rfl (by rw [hb]; exact d0) (Nat.le_refl _) (Nat.le_refl _)
  generalize hT1 : (T.setVm vm₁).pushCell { cls := cX, slots := kX.instanceTypes.map defaultValue, vm := .none } = T1 at X₁ st1
  have hcat : (Value.ref T.heap.size).category = 1 := rfl
  have hcellA : T1.heap[T.heap.size]? = some (freshCell cX kX) := by rw [← hT1]; exact State.heap_pushCell_size _ _
  have d3' : decode c.code (pc + 3) = .ok (.dup, 1) := by rw [hb]; exact d3
  have d4' : decode c.code (pc + 4) = .ok (.ldc_w is, 3) := by rw [hb]; exact d4
  have hstr' : vk_R own is text sa s' := vk_R.warm hW0 hstr
  obtain ⟨U, hsteps, hrun, hend, hW, hsame, ce, hce, hO⟩ := X₁.ctorThrowS hexec htr (own := own) (cls := cls) (names := names) (ic := ic) hown' hcls hnames h (fun x hx => nomatch hx) hfX hkX hcellA (by rw [hhp, hT]; exact Nat.le_refl _) (msg := .ref sa) rfl
    (g := { method := m, pc := pc + 7, locals := ls, stack := .ref sa :: .ref T.heap.size :: .ref T.heap.size :: rest, locked := none }) rfl hsize rfl rfl (rest := rest) rfl
    (by rw [hb]; exact d7) (by rw [hb]; exact d10) hout hRframes (by simp only [List.map_cons, List.sum_cons, hcat]; omega) hlocks
  obtain ⟨f1, f2⟩ := vx_frame hsame
  rw [hhp] at f1 f2
  have hWs : s.WarmedH U.vm := State.WarmedH.trans hW0 hW
  have hcl : s.vm.findClass cls = some ce.cls := by
    have h9 := hO.cls
    rw [hvm] at h9
    exact h9
  have hall : s.sameButNew ({ U with vm := s.vm } : State) locs mc ms := by
    subst hA
    obtain ⟨e1, e2⟩ := hsame
    rw [State.setFrames_setFrames] at e1
    have h2 : (T.setVm s.vm).sameButNew ({ U with vm := s.vm } : State) [] (0 + 1) (0 + 6) := ⟨e1, e2⟩
    have h3 := X.same.trans h2
    rw [List.append_nil] at h3
    exact h3.mono hc hs
  refine ⟨U, ?_, .threw T.heap.size, hrun, hend, Or.inr ⟨T.heap.size, rfl, cls, ce, locs, hx U hWs.alike f1 (fun q hq => f2 q hq (fun z hz => nomatch hz)), hce, hO.vm, hcl, hWs, hall, hf⟩⟩
  refine st1 _ ?_
  show Steps p.tables e below (T1.setTop { method := m, pc := pc + 3, locals := ls, stack := .ref T.heap.size :: rest, locked := none }) _
  jvm_step X₁.here [X₁.here.top, hexec, d3', Value.category]
  exact X₁.ldcStringW hexec (own := own) (text := text) (index := is) (a := sa) hown' hstr'.1 hstr'.2
    (g := { method := m, pc := pc + 4, locals := ls, stack := .ref T.heap.size :: .ref T.heap.size :: rest, locked := none }) rfl d4' _ hsteps
end Ends
section Bodies
variable {l : Launch}
theorem vx_ofW {y : MethodName} {ws ws' : List Cond} {rm : Room} {Pc : Array Value → State → Prop} {Qc : Array Value → State → Outcome → State → Prop} {XC : String → State → State → Prop} {mc ms : Nat} {free : Addr → Prop} {cc : ByteArray} {maxL : Nat} {ret : Option FieldType}
    (hy : plainName y.cls = true) (hw : ws = Cond.code y cc maxL ret :: ws')
    (body : ∀ p e s m args below meth c s₁, BodyLoose p l y (headSpec ws rm) cc maxL ret e s m args below meth c s₁ → c.maxLocals = maxL → (∀ x ∈ c.exceptionTable.toList, False) → Pc args s →
      W p l e (headSpec ws rm).room s m args below meth c s.heap [] 0 0 (vx_MQ below Qc XC args s mc ms free) (entryFrame m args maxL)) : vx_Met l y ws rm Pc Qc XC mc ms free := by
  refine MetFree.of_bodyS (code := cc) (maxLocals := maxL) (ret := ret) hy ?_ ?_
  · intro args s m h hn
    obtain ⟨meth, c, h1, h2, h3, h4, h5, h6, -, -⟩ := Cond.code_spec hn (atoms_spec (ws := ws) h _ (by rw [hw]; exact List.mem_cons_self))
    exact ⟨meth, c, h1, h2, h3, h4, h5, h6⟩
  · intro p e s m args below meth c s₁ B hml hP _
    have hh0 : s₁.heap = s.heap := by rw [B.state]; rfl
    have ht : ∀ x ∈ c.exceptionTable.toList, False := by
      obtain ⟨meth9, c9, h1, h2, -, -, -, -, h7, -⟩ := Cond.code_spec B.named (atoms_spec (ws := ws) B.pre _ (by rw [hw]; exact List.mem_cons_self))
      cases Option.some.inj (h1.symm.trans B.method)
      cases Option.some.inj (h2.symm.trans (Stand.of_body B).code)
      intro x hx
      rw [Array.isEmpty_iff.mp h7] at hx
      cases hx
    obtain ⟨t, a1, o, b1, b2, b3⟩ := body p e s m args below meth c s₁ B hml ht hP s₁ hh0 (Stand.of_body B)
    exact ⟨t, o, a1, b1, b2, b3⟩
/-- the table of a body with handlers -/
theorem vx_table {p : Program} {x y : MethodName} {S : Spec} {cc bytes : ByteArray} {maxL maxL' : Nat} {ret ret' : Option FieldType} {e : Env} {s s₁ : State} {m : MethodId} {args : Array Value} {below : List Frame} {meth : Method} {c : Code} {hh : List (Nat × Nat × Nat × Nat)}
    (B : BodyLoose p l y S cc maxL ret e s m args below meth c s₁) (h : (Cond.codeWith y bytes maxL' ret' hh).before args s = true) : c.exceptionTable.toList = tableOf hh := by
  obtain ⟨m9, meth9, c9, hn9, h1, h2, -, -, h6, -⟩ := Cond.codeWith_spec h
  cases Option.some.inj (hn9.symm.trans B.named)
  cases Option.some.inj (h1.symm.trans B.method)
  cases Option.some.inj (h2.symm.trans (Stand.of_body B).code)
  rw [← h6, table_eq]
end Bodies
end VXA
/-! ===== END ===== -/
/-! ===== BEGIN a static call of a method with an exception table ===== -/
section VXS
variable {p : Program} {l : Launch} {e : Env} {R : Room} {s : State} {m : MethodId} {args : Array Value} {below : List Frame} {meth : Method} {c : Code} {T : State} {H : Heap} {locs : List Loc} {cells slots : Nat}
abbrev vx_CSW (R : Room) (s : State) (args : Array Value) (own : String) (index : Nat) (y : MethodName) (bytes : ByteArray) (maxL : Nat) (ret : Option FieldType) (hh : List (Nat × Nat × Nat × Nat)) (ws : List Cond) (rm : Room) (mc ms n : Nat) : Prop :=
  (rm.cells = mc ∧ rm.slots = ms ∧ rm.frames + 1 ≤ R.frames ∧ 8 + (maxL + 11) + rm.locals ≤ R.locals ∧ (∀ w ∈ ws, ∀ (a' : Array Value) (U : State), s.WarmedH U.vm → w.before a' U = true) ∧ Cond.codeWith y bytes maxL ret hh ∈ ws) ∧
  (Cond.codeWith y bytes maxL ret hh).before args s = true ∧ (Cond.initialized y.cls).before args s = true ∧ (y.cls ≠ "java/lang/invoke/MethodHandle" ∧ y.cls ≠ "java/lang/invoke/VarHandle") ∧
  (∀ sig, parseMethodDescriptor y.desc = some sig → n = sig.parameters.length) ∧ (Cond.methodLink own index y).before args s = true ∧ (Cond.static y).before args s = true
theorem vx_cwSW {own : String} {index maxL mc ms : Nat} {y : MethodName} {bytes : ByteArray} {ret : Option FieldType} {hh : List (Nat × Nat × Nat × Nat)} {Ts ws ws' : List Cond} {rm : Room} (n : Nat) (ht : ∀ w ∈ Ts, w.before args s = true) (hT : GoodIn Ts (va_wsS own index y ws)) (hw : ws = Cond.codeWith y bytes maxL ret hh :: ws') (hrc : rm.cells = mc) (hrs : rm.slots = ms)
    (hd : y.cls ≠ "java/lang/invoke/MethodHandle" ∧ y.cls ≠ "java/lang/invoke/VarHandle" ∧ (parseMethodDescriptor y.desc).map (fun d => d.parameters.length) = some n) (hR : rm.frames + 1 ≤ R.frames ∧ 8 + (maxL + 11) + rm.locals ≤ R.locals) :
    vx_CSW R s args own index y bytes maxL ret hh ws rm mc ms n := by
  have ok : ∀ w ∈ va_wsS own index y ws, w.before args s = true := fun w h => ht w (hT w h).1
  have hG : GoodIn Ts ws := fun w h => hT w (by unfold va_wsS; exact List.mem_append_right _ h)
  have hc : Cond.codeWith y bytes maxL ret hh ∈ ws := by rw [hw]; exact List.mem_cons_self
  refine ⟨⟨hrc, hrs, hR.1, hR.2, pay_in ht hG, hc⟩, ht _ (hG _ hc).1, ok _ (by simp [va_wsS]), ⟨hd.1, hd.2.1⟩, fun sig h => ?_, ok _ (by simp [va_wsS]), ok _ (by simp [va_wsS])⟩
  have h2 := hd.2.2
  rw [h] at h2
  exact (Option.some.inj h2).symm
theorem vx_callSW (X : Stand p l e R s m args below meth c T locs cells slots) (hexec : p.tables.exec = Jvm.exec) {own : String} {index : Nat} {y : MethodName} {bytes : ByteArray} {maxL : Nat} {ret : Option FieldType} {hh : List (Nat × Nat × Nat × Nat)}
    (hown : s.vm.findClass own = some m.cls) (hlink : (Cond.methodLink own index y).before args s = true) (hstat : (Cond.static y).before args s = true) (hinit : (Cond.initialized y.cls).before args s = true)
    (hcode : (Cond.codeWith y bytes maxL ret hh).before args s = true) (hy : y.cls ≠ "java/lang/invoke/MethodHandle" ∧ y.cls ≠ "java/lang/invoke/VarHandle")
    {W9 : Nat} {Pre : Pt → Array Value → Prop} {Post : Pt → Array Value → Option Value → Pt → Prop} (hK : Back l R p e below s args y 3 W9 Pre Post)
    {g : JFrame} (hg : g.method = m) (hsize : g.locals.size = c.maxLocals) {argsL rest : List Value} (hlen : ∀ sig, parseMethodDescriptor y.desc = some sig → argsL.length = sig.parameters.length)
    (hstack : g.stack = argsL.reverse ++ rest) (hW : 2 * g.monitorRoom + (rest.map fun v => v.category).sum ≤ W9) (hdg : decode c.code g.pc = .ok (.invokestatic index, 3))
    (hpre : ∀ vm₁, s.WarmedH vm₁ → Pre ⟨T.setVm vm₁, locs, cells, slots⟩ argsL.toArray) :
    ∃ (v : Option Value) (vm₁ : Vm) (B : Pt), s.WarmedH vm₁ ∧ Stand p l e R s m args below meth c B.U B.locs B.cells B.slots ∧ Post ⟨T.setVm vm₁, locs, cells, slots⟩ argsL.toArray v B ∧
      ∀ target, Steps p.tables e below (B.U.setTop { g with pc := g.pc + 3, stack := v.toList ++ rest }) target → Steps p.tables e below (T.setTop g) target := by
  obtain ⟨mk, methM, cM, hnamed, hmethM, -, -, -, -, -, -, hsigM⟩ := Cond.codeWith_spec hcode
  have hstatic : methM.isStatic = true := Cond.static_spec hnamed hmethM hstat
  obtain ⟨kP, hkP, -⟩ := className_of_methodNamed hnamed
  have hinitP : kP.init = .initialized := Cond.initialized_spec (findClass_of_methodNamed hnamed) hkP hinit
  obtain ⟨vm₁, X₁, hstep₁⟩ := X.invokestatic hexec hown hlink hnamed hmethM hstatic hkP hinitP hy (g := g) hg (argsL := argsL) (rest := rest) (hlen _ hsigM) hstack hdg
  obtain ⟨v, B, X', hpost, hsteps⟩ := hK m meth c ⟨T.setVm vm₁, locs, cells, slots⟩ { g with stack := rest } (.invokestatic index) mk argsL.toArray X₁ hg hsize hdg hW (X₁.named hnamed) (hpre vm₁ X₁.warmed)
  exact ⟨v, vm₁, B, X₁.warmed, X', hpost, fun target h => hstep₁ _ fun acts => by rw [doInvoke_state]; exact hsteps.trans h⟩
theorem vx_runSW {y : MethodName} {bytes cc : ByteArray} {maxL nL mc ms n index : Nat} {ret : Option FieldType} {hh : List (Nat × Nat × Nat × Nat)} {ws : List Cond} {rm : Room} {Pc : Array Value → State → Prop} {Qc : Array Value → State → Outcome → State → Prop} {free : Addr → Prop} {Ts : List Cond} {own : String} {As rest : List Value} {g : JFrame}
    (S : CallFix p m c cc nL s args Ts own) (hM : Met l y ws rm Pc Qc mc ms free) (cw : vx_CSW R s args own index y bytes maxL ret hh ws rm mc ms n) (hp : PreS s H Pc As)
    (hg : g.method = m) (hn : As.length = n) (hsize : g.locals.size = nL) (hstack : g.stack = As.reverse ++ rest) (hW : 2 * g.monitorRoom + (rest.map fun v => v.category).sum ≤ 8) (hdg : decode cc g.pc = .ok (.invokestatic index, 3)) (hf : cells + mc ≤ R.cells ∧ slots + ms ≤ R.slots) :
    va_Run p l e R s m args below meth c H locs cells slots mc ms g rest (Qc As.toArray) (free) := by
  obtain ⟨⟨hrc, hrs, hfr, hlo, hws, hcw⟩, hcode, hini, hy, hlen, hl, hstt⟩ := cw
  have hK : Back l R p e below s args y 3 8 (PreOf R mc ms Pc) (PostOf Qc mc ms free) := va_backW (hh := hh) (bytes := bytes) (maxL := maxL) (ret := ret) hM hp.1 hrc hrs hfr hlo hws hcw (fun a' U hW => word_at hW (Or.inl (by first | rfl | simp [Cond.onTables, Cond.keeps, Cond.steady])) hini)
  obtain ⟨hx, hb, hml, ho, -⟩ := S
  intro T hT X
  obtain ⟨v, vm₁, ⟨U', l2, c2, s2⟩, hW₁, X', ⟨g', mk, t, L, e1, e2, hq, h1, hL, h2, h3⟩, st⟩ := vx_callSW X hx (hh := hh) (bytes := bytes) (maxL := maxL) (ret := ret) ho hl hstt hini hcode hy hK hg (hsize.trans hml.symm) (argsL := As) (rest := rest) (fun sig h => hn.trans (hlen sig h)) hstack hW (by rw [hb]; exact hdg)
    (fun vm₁ hW₁ => ⟨hf.1, hf.2, hp.2 (T.setVm vm₁) hT hW₁⟩)
  dsimp only [Pt.U, Pt.locs, Pt.cells, Pt.slots] at X' e1 e2 h1 h2 h3 st
  subst h1; subst h2; subst h3
  exact ⟨v, (T.setVm vm₁).calling g' mk As.toArray, t, U', L, hT, X', hL, e1, e2, hq, st⟩
/-- not caught here, past rows that name other classes: it goes on to the caller -/
theorem vx_outP {p : Program} {l : Launch} {e : Env} {R : Room} {s : State} {m : MethodId} {args : Array Value} {below : List Frame} {meth : Method} {c : Code} {H : Heap} {locs : List Loc} {cells slots : Nat} {free : Addr → Prop} {ls : Array Slot} {rest : List Value} {Qc : Array Value → State → Outcome → State → Prop} {XC : String → State → State → Prop}
    {pc : Nat} {own E : String} {ce : Cell} {q : Addr} {mc ms : Nat} (hown : s.vm.findClass own = some m.cls) (hlocks : meth.locks = false)
    (hpass : ∀ z ∈ c.exceptionTable.toList, covers z pc = false ∨ (z.catchType ≠ 0 ∧ ∃ nm : String, (Cond.classLink own z.catchType nm).before args s = true ∧ va_Nc E nm s)) (hcell : H[q]? = some ce) (hv : ce.vm = .none) (hcl : s.vm.findClass E = some ce.cls)
    (hx : ∀ t : State, t.heap = H → s.vm.Alike t.vm → XC E s t) (hf : ∀ z ∈ locs, free z.base) (hc : cells ≤ mc) (hs : slots ≤ ms) :
    vx_W p l e R s m args below meth c H locs cells slots (vx_MQ below Qc XC args s mc ms free) (F0 m pc ls rest) q := by
  intro T hT X
  have hpl : e.platform.magicAccessors = ({} : Platform).magicAccessors := by rw [X.admits.platform]
  obtain ⟨vm', hW', X', st⟩ := X.outThrough hlocks q (g := F0 m pc ls rest) rfl rfl rfl (cell := ce) (by rw [hT]; exact hcell) (by rw [hv]; rfl)
    (by obtain ⟨k9, h9, -⟩ := Vm.findClass_spec hcl; exact ⟨k9, h9⟩) (fun z hz => by
      rcases hpass z hz with h | ⟨hz0, nm, hl1, hn1⟩
      · exact Or.inl h
      · obtain ⟨c6, hc6, hcl6⟩ := Cond.classLink_spec hown hl1 e.platform hpl
        obtain ⟨a8, b8, h1, h2, h3⟩ := hn1
        cases Option.some.inj (h1.symm.trans hcl)
        cases Option.some.inj (h2.symm.trans hc6)
        exact Or.inr ⟨hz0, _, hcl6, h3⟩)
  obtain ⟨g₀, hfr⟩ := X'.frames_eq
  have hcell9 : ((T.setVm vm').setFrames (.throwing q :: below)).heap[q]? = some ce := by
    show T.heap[q]? = some ce
    rw [hT]; exact hcell
  have hend : Ended ((T.setVm vm').setFrames (.throwing q :: below)) below (.threw q) := State.frames_setFrames _ (State.cur_lt_of_frames hfr)
  refine ⟨(T.setVm vm').setFrames (.throwing q :: below), ?_, .threw q, X'.here.running, hend, Or.inr ⟨q, rfl, E, ce, locs, hx _ hT (X'.ends _).1.alike, hcell9, hv, hcl, (X'.ends _).1, (X'.ends _).2.mono hc hs, hf⟩⟩
  rw [X.pushThrowing_eq]
  exact st
/-- a thing of a world lies in the heap -/
theorem vx_lt {D : va_G} {cl : List vw_C} {ws : va_W} {H1 : Heap} (h : va_P D cl ws H1) {k : Nat} {q : Nat × va_E} (hk : ws[k]? = some q) : q.1 < H1.size := (h k q hk).lt
end VXS
/-! ===== END ===== -/
/-! ===== BEGIN methods with a table of their own: called by a name, returning or throwing ===== -/
section VXH
/-! vx_backW, vx_callVX, vx_callSX, vx_callVW, vx_runVW, vx_runVX, vx_runSX, vx_ofWH follow the same proofs as their sisters above (Free/Laws.lean, Shelf42/LK1.lean); vx_outP calls Shelf42/NT130.lean (outThrough). -/
section
variable {l : Launch} {R : Room} {p : Program} {e : Env} {below : List Frame} {s : State} {sargs : Array Value} {y : MethodName} {len W9 : Nat}
theorem vx_backW {ws : List Cond} {rm : Room} {Pc : Array Value → State → Prop} {Qc : Array Value → State → Outcome → State → Prop} {XC : String → State → State → Prop} {mc ms : Nat} {free : Addr → Prop} {bytes : ByteArray} {maxL : Nat} {ret : Option FieldType} {hh : List (Nat × Nat × Nat × Nat)}
    (hM : vx_Met l y ws rm Pc Qc XC mc ms free) (hblind : FrameBlind Pc) (hrc : rm.cells = mc) (hrs : rm.slots = ms)
    (hframes : rm.frames + 1 ≤ R.frames) (hlocals : W9 + (maxL + 11) + rm.locals ≤ R.locals)
    (hws : ∀ w ∈ ws, ∀ a' U, s.WarmedH U.vm → w.before a' U = true) (hcode : Cond.codeWith y bytes maxL ret hh ∈ ws) (hinit : ∀ a' U, s.WarmedH U.vm → (Cond.initialized y.cls).before a' U = true) :
    vx_Back l R p e below s sargs y len W9 (PreOf R mc ms Pc) (PostOf Qc mc ms free) (vx_Post XC mc ms free) := by
  intro m meth c A g ig mk a X hg hsize hdg hW hn hp
  have h1 : (headSpec ws rm).pre.before a A.U = true := atoms_intro fun w hw => hws w hw _ _ X.warmed
  have h2 : (Cond.codeWith y bytes maxL ret hh).before a A.U = true := hws _ hcode _ _ X.warmed
  have h3 : (Cond.initialized y.cls).before a A.U = true := hinit _ _ X.warmed
  have h4 : A.cells + (headSpec ws rm).room.cells ≤ R.cells := by rw [show (headSpec ws rm).room.cells = mc from hrc]; exact hp.1
  have h5 : A.slots + (headSpec ws rm).room.slots ≤ R.slots := by rw [show (headSpec ws rm).room.slots = ms from hrs]; exact hp.2.1
  have hPc : Pc a (A.U.calling g mk a) := hblind _ _ _ _ hp.2.2
  obtain ⟨U, Ls, c0, s0⟩ := A
  dsimp only [Pt.U, Pt.locs, Pt.cells, Pt.slots] at h1 h2 h3 h4 h5 X hn hPc ⊢
  obtain ⟨m9, methY, cY, hn9, hmY, hcY, -, hlY, -⟩ := Cond.codeWith_spec h2
  cases Option.some.inj (hn9.symm.trans hn)
  obtain ⟨kY, hkY, -⟩ := className_of_methodNamed hn
  have hinitY : kY.init = .initialized := Cond.initialized_spec (findClass_of_methodNamed hn) hkY h3
  have h : At U g.method c below := by rw [hg]; exact X.here
  have hlocals9 : W9 + (maxL + 11) + (headSpec ws rm).room.locals ≤ R.locals := hlocals
  have happ : (headSpec ws rm).appliesLoose y e.platform (U.calling g mk a) = true :=
    Spec.appliesLoose_calling (g := g) h hdg hn hkY hinitY
      (X.room_calling (g := g) (R' := (headSpec ws rm).room) hsize hmY hcY hframes (by rw [hlY]; omega) h4 h5) h1
  obtain ⟨mid, hmid⟩ := h.above
  have hfr : (U.setTop g).frames = (.java g :: mid) ++ below := by rw [State.frames_setTop' g h.top, hmid]; rfl
  obtain ⟨o, s₂, hsteps, -, hend, hq⟩ := Steps.callFree hM p X.admits X.cas X.clock (acts := []) hfr happ hPc trivial
  have hq' : vx_Q Qc XC mc ms free a (U.calling g mk a) o s₂ := hq
  rw [State.frames_setTop' g h.top] at hend
  obtain ⟨g₀, hg0⟩ := Option.isSome_iff_exists.mp h.top
  obtain ⟨r, hr⟩ := State.topJava?_eq_some.mp hg0
  have hr' : (({ U with heap := s₂.heap, slotsUsed := s₂.slotsUsed } : State).setVm s₂.vm).frames = .java g₀ :: r := hr
  rcases hq' with ⟨hqc, L, hfe, hL⟩ | ⟨q, rfl, E, ce, L, hx, hce, hcv, hcl, hW₂, hsm, hL⟩
  · obtain ⟨⟨v, rfl⟩, hW₂, e2, q2, q3, q4, q5, q6⟩ := id hfe
    have e3 : s₂ = ({ (U.calling g mk a).setFrames s₂.frames with heap := s₂.heap, slotsUsed := s₂.slotsUsed } : State).setVm s₂.vm := by
      have : s₂ = ({ s₂ with vm := (U.calling g mk a).vm } : State).setVm s₂.vm := rfl
      rw [e2] at this
      exact this
    obtain ⟨c₂, i₂, len₂, hc₂, hd₂, hf₂⟩ := hend
    have hW' : U.WarmedH s₂.vm := hW₂
    have hcc : c₂ = c := by
      have h1 : s₂.code? g.method = U.code? g.method := by
        rw [State.code?_eq, State.code?_eq, hW'.alike.method?]
      exact Option.some.inj (hc₂.symm.trans (h1.trans h.code))
    subst hcc
    have hlen : len₂ = len := by rw [hdg] at hd₂; cases hd₂; rfl
    subst hlen
    have hs₂ : s₂ = (({ U with heap := s₂.heap, slotsUsed := s₂.slotsUsed } : State).setVm s₂.vm).setTop { g with pc := g.pc + len₂, stack := v.toList ++ g.stack } := by
      refine e3.trans ?_
      rw [hf₂, State.calling_eq h.top, State.setFrames_setFrames, State.setTop_of_frames _ hr', hr]
      rfl
    have hsame : U.sameButNew ({ U with heap := s₂.heap, slotsUsed := s₂.slotsUsed } : State) L mc ms := by
      refine ⟨?_, q2, q3, q4, q5, q6⟩
      obtain ⟨t, ht, -⟩ := State.frames_cons hr
      show ({ U with heap := s₂.heap, slotsUsed := s₂.slotsUsed } : State) = { U.setFrames U.frames with heap := s₂.heap, slotsUsed := s₂.slotsUsed }
      rw [State.setFrames_self ht]
    subst hg
    refine Or.inl ⟨v, ⟨(({ U with heap := s₂.heap, slotsUsed := s₂.slotsUsed } : State).setVm s₂.vm), Ls ++ L, c0 + mc, s0 + ms⟩,
      ⟨X.admits, X.cas, X.clock, X.frames, X.room, X.hears, X.method, X.code, (X.here.setHeapUsed s₂.heap s₂.slotsUsed).setVm hW'.alike, X.tail, State.WarmedH.trans X.warmed hW', X.limits, X.bytes, X.same.trans (hsame.setVm s.vm)⟩,
      ⟨g, mk, s₂, L, rfl, rfl, hqc, rfl, hL, rfl, rfl⟩, ?_⟩
    show Steps p.tables e below _ ((({ U with heap := s₂.heap, slotsUsed := s₂.slotsUsed } : State).setVm s₂.vm).setTop { g with pc := g.pc + len₂, stack := v.toList ++ g.stack })
    rw [← hs₂]
    exact hsteps
  · obtain ⟨e2, q2, q3, q4, q5, q6⟩ := id hsm
    have e3 : s₂ = ({ (U.calling g mk a).setFrames s₂.frames with heap := s₂.heap, slotsUsed := s₂.slotsUsed } : State).setVm s₂.vm := by
      have : s₂ = ({ s₂ with vm := (U.calling g mk a).vm } : State).setVm s₂.vm := rfl
      rw [e2] at this
      exact this
    have hf₂ : s₂.frames = .throwing q :: .java g :: U.frames.tail := hend
    have hW' : U.WarmedH s₂.vm := hW₂
    have hs₂ : s₂ = ((({ U with heap := s₂.heap, slotsUsed := s₂.slotsUsed } : State).setVm s₂.vm).setTop g).pushFrame (.throwing q) := by
      refine e3.trans ?_
      rw [hf₂, State.calling_eq h.top, State.setFrames_setFrames, State.pushFrame, State.frames_setTop _ hr', State.setTop_of_frames _ hr', State.setFrames_setFrames, hr]
      rfl
    have hsame : U.sameButNew ({ U with heap := s₂.heap, slotsUsed := s₂.slotsUsed } : State) L mc ms := by
      refine ⟨?_, q2, q3, q4, q5, q6⟩
      obtain ⟨t, ht, -⟩ := State.frames_cons hr
      show ({ U with heap := s₂.heap, slotsUsed := s₂.slotsUsed } : State) = { U.setFrames U.frames with heap := s₂.heap, slotsUsed := s₂.slotsUsed }
      rw [State.setFrames_self ht]
    subst hg
    refine Or.inr ⟨q, ⟨(({ U with heap := s₂.heap, slotsUsed := s₂.slotsUsed } : State).setVm s₂.vm), Ls ++ L, c0 + mc, s0 + ms⟩,
      ⟨X.admits, X.cas, X.clock, X.frames, X.room, X.hears, X.method, X.code, (X.here.setHeapUsed s₂.heap s₂.slotsUsed).setVm hW'.alike, X.tail, State.WarmedH.trans X.warmed hW', X.limits, X.bytes, X.same.trans (hsame.setVm s.vm)⟩,
      ⟨g, mk, s₂, L, E, ce, rfl, rfl, hx, hce, hcv, hcl, rfl, hL, rfl, rfl⟩, ?_⟩
    show Steps p.tables e below _ (((({ U with heap := s₂.heap, slotsUsed := s₂.slotsUsed } : State).setVm s₂.vm).setTop g).pushFrame (.throwing q))
    rw [← hs₂]
    exact hsteps
end
variable {p : Program} {l : Launch} {e : Env} {R : Room} {s : State} {m : MethodId} {args : Array Value} {below : List Frame} {meth : Method} {c : Code} {T : State} {H : Heap} {locs : List Loc} {cells slots : Nat}
theorem vx_callVX (X : Stand p l e R s m args below meth c T locs cells slots) (hexec : p.tables.exec = Jvm.exec) {own C : String} {index : Nat} {y : MethodName} {bytes : ByteArray} {maxL : Nat} {ret : Option FieldType} {hh : List (Nat × Nat × Nat × Nat)}
    (hown : s.vm.findClass own = some m.cls) (hlink : (Cond.methodLink own index y).before args s = true) (hinst : (Cond.instanceMethod y).before args s = true) (hsel : (Cond.selects C y y).before args s = true)
    (hcode : (Cond.codeWith y bytes maxL ret hh).before args s = true) (hy : y.cls ≠ "java/lang/invoke/MethodHandle" ∧ y.cls ≠ "java/lang/invoke/VarHandle")
    {W9 : Nat} {Pre : Pt → Array Value → Prop} {Post : Pt → Array Value → Option Value → Pt → Prop} {PostX : Pt → Array Value → Addr → Pt → Prop} (hK : vx_Back l R p e below s args y 3 W9 Pre Post PostX)
    {b : Addr} {cellB : Cell} (hcell : T.heap[b]? = some cellB) (hobj : cellB.vm.isStatics = false) (hcls : s.vm.findClass C = some cellB.cls)
    {g : JFrame} (hg : g.method = m) (hsize : g.locals.size = c.maxLocals) {argsL rest : List Value} (hlen : ∀ sig, parseMethodDescriptor y.desc = some sig → argsL.length = sig.parameters.length)
    (hstack : g.stack = argsL.reverse ++ .ref b :: rest) (hW : 2 * g.monitorRoom + (rest.map fun v => v.category).sum ≤ W9) (hdg : decode c.code g.pc = .ok (.invokevirtual index, 3))
    (hpre : ∀ vm₁, s.WarmedH vm₁ → Pre ⟨T.setVm vm₁, locs, cells, slots⟩ (Value.ref b :: argsL).toArray) :
    (∃ (v : Option Value) (vm₁ : Vm) (B : Pt), s.WarmedH vm₁ ∧ Stand p l e R s m args below meth c B.U B.locs B.cells B.slots ∧ Post ⟨T.setVm vm₁, locs, cells, slots⟩ (Value.ref b :: argsL).toArray v B ∧
      ∀ target, Steps p.tables e below (B.U.setTop { g with pc := g.pc + 3, stack := v.toList ++ rest }) target → Steps p.tables e below (T.setTop g) target) ∨
    (∃ (q : Addr) (vm₁ : Vm) (B : Pt), s.WarmedH vm₁ ∧ Stand p l e R s m args below meth c B.U B.locs B.cells B.slots ∧ PostX ⟨T.setVm vm₁, locs, cells, slots⟩ (Value.ref b :: argsL).toArray q B ∧
      Steps p.tables e below (T.setTop g) ((B.U.setTop { g with stack := rest }).pushFrame (.throwing q))) := by
  obtain ⟨mk, methM, hnamed, hmethM, hstM, habM⟩ := Cond.instanceMethod_spec hinst
  obtain ⟨m8, methM', cM, hn8, hmethM', -, -, -, -, -, -, hsigM⟩ := Cond.codeWith_spec hcode
  cases Option.some.inj (hn8.symm.trans hnamed)
  cases hmethM.symm.trans hmethM'
  obtain ⟨c2, r2, m2, q1, q2, q3, q4, kP, hkP, hkPi⟩ := Cond.selects_spec hsel
  cases hcls.symm.trans q1
  cases (State.methodFound?_of_named hnamed hy).symm.trans q2
  cases hnamed.symm.trans q3
  have hselP : selectMethod e.platform s.vm cellB.cls mk = .method mk := by rw [Launch.admits_selectMethod X.admits]; exact q4
  obtain ⟨vm₁, X₁, hstep₁⟩ := X.invokevirtual hexec hown hlink hnamed hmethM hstM hkP hkPi hy (a := b) (cell := cellB) hcell
    (fun z h => by rw [h] at hobj; cases hobj) hselP hmethM habM hkP hkPi (g := g) hg (argsL := argsL) (rest := rest) (hlen _ hsigM) hstack hdg
  rcases hK m meth c ⟨T.setVm vm₁, locs, cells, slots⟩ { g with stack := rest } (.invokevirtual index) mk (Value.ref b :: argsL).toArray X₁ hg hsize hdg hW (X₁.named hnamed) (hpre vm₁ X₁.warmed) with ⟨v, B, X', hpost, hsteps⟩ | ⟨q, B, X', hpost, hsteps⟩
  · exact Or.inl ⟨v, vm₁, B, X₁.warmed, X', hpost, fun target h => hstep₁ _ fun acts => by rw [doInvoke_state]; exact hsteps.trans h⟩
  · exact Or.inr ⟨q, vm₁, B, X₁.warmed, X', hpost, hstep₁ _ fun acts => by rw [doInvoke_state]; exact hsteps⟩
theorem vx_callSX (X : Stand p l e R s m args below meth c T locs cells slots) (hexec : p.tables.exec = Jvm.exec) {own : String} {index : Nat} {y : MethodName} {bytes : ByteArray} {maxL : Nat} {ret : Option FieldType} {hh : List (Nat × Nat × Nat × Nat)}
    (hown : s.vm.findClass own = some m.cls) (hlink : (Cond.methodLink own index y).before args s = true) (hstat : (Cond.static y).before args s = true) (hinit : (Cond.initialized y.cls).before args s = true)
    (hcode : (Cond.codeWith y bytes maxL ret hh).before args s = true) (hy : y.cls ≠ "java/lang/invoke/MethodHandle" ∧ y.cls ≠ "java/lang/invoke/VarHandle")
    {W9 : Nat} {Pre : Pt → Array Value → Prop} {Post : Pt → Array Value → Option Value → Pt → Prop} {PostX : Pt → Array Value → Addr → Pt → Prop} (hK : vx_Back l R p e below s args y 3 W9 Pre Post PostX)
    {g : JFrame} (hg : g.method = m) (hsize : g.locals.size = c.maxLocals) {argsL rest : List Value} (hlen : ∀ sig, parseMethodDescriptor y.desc = some sig → argsL.length = sig.parameters.length)
    (hstack : g.stack = argsL.reverse ++ rest) (hW : 2 * g.monitorRoom + (rest.map fun v => v.category).sum ≤ W9) (hdg : decode c.code g.pc = .ok (.invokestatic index, 3))
    (hpre : ∀ vm₁, s.WarmedH vm₁ → Pre ⟨T.setVm vm₁, locs, cells, slots⟩ argsL.toArray) :
    (∃ (v : Option Value) (vm₁ : Vm) (B : Pt), s.WarmedH vm₁ ∧ Stand p l e R s m args below meth c B.U B.locs B.cells B.slots ∧ Post ⟨T.setVm vm₁, locs, cells, slots⟩ argsL.toArray v B ∧
      ∀ target, Steps p.tables e below (B.U.setTop { g with pc := g.pc + 3, stack := v.toList ++ rest }) target → Steps p.tables e below (T.setTop g) target) ∨
    (∃ (q : Addr) (vm₁ : Vm) (B : Pt), s.WarmedH vm₁ ∧ Stand p l e R s m args below meth c B.U B.locs B.cells B.slots ∧ PostX ⟨T.setVm vm₁, locs, cells, slots⟩ argsL.toArray q B ∧
      Steps p.tables e below (T.setTop g) ((B.U.setTop { g with stack := rest }).pushFrame (.throwing q))) := by
  obtain ⟨mk, methM, cM, hnamed, hmethM, -, -, -, -, -, -, hsigM⟩ := Cond.codeWith_spec hcode
  have hstatic : methM.isStatic = true := Cond.static_spec hnamed hmethM hstat
  obtain ⟨kP, hkP, -⟩ := className_of_methodNamed hnamed
  have hinitP : kP.init = .initialized := Cond.initialized_spec (findClass_of_methodNamed hnamed) hkP hinit
  obtain ⟨vm₁, X₁, hstep₁⟩ := X.invokestatic hexec hown hlink hnamed hmethM hstatic hkP hinitP hy (g := g) hg (argsL := argsL) (rest := rest) (hlen _ hsigM) hstack hdg
  rcases hK m meth c ⟨T.setVm vm₁, locs, cells, slots⟩ { g with stack := rest } (.invokestatic index) mk argsL.toArray X₁ hg hsize hdg hW (X₁.named hnamed) (hpre vm₁ X₁.warmed) with ⟨v, B, X', hpost, hsteps⟩ | ⟨q, B, X', hpost, hsteps⟩
  · exact Or.inl ⟨v, vm₁, B, X₁.warmed, X', hpost, fun target h => hstep₁ _ fun acts => by rw [doInvoke_state]; exact hsteps.trans h⟩
  · exact Or.inr ⟨q, vm₁, B, X₁.warmed, X', hpost, hstep₁ _ fun acts => by rw [doInvoke_state]; exact hsteps⟩
theorem vx_callVW (X : Stand p l e R s m args below meth c T locs cells slots) (hexec : p.tables.exec = Jvm.exec) {own C : String} {index : Nat} {y : MethodName} {bytes : ByteArray} {maxL : Nat} {ret : Option FieldType} {hh : List (Nat × Nat × Nat × Nat)}
    (hown : s.vm.findClass own = some m.cls) (hlink : (Cond.methodLink own index y).before args s = true) (hinst : (Cond.instanceMethod y).before args s = true) (hsel : (Cond.selects C y y).before args s = true)
    (hcode : (Cond.codeWith y bytes maxL ret hh).before args s = true) (hy : y.cls ≠ "java/lang/invoke/MethodHandle" ∧ y.cls ≠ "java/lang/invoke/VarHandle")
    {W9 : Nat} {Pre : Pt → Array Value → Prop} {Post : Pt → Array Value → Option Value → Pt → Prop} (hK : Back l R p e below s args y 3 W9 Pre Post)
    {b : Addr} {cellB : Cell} (hcell : T.heap[b]? = some cellB) (hobj : cellB.vm.isStatics = false) (hcls : s.vm.findClass C = some cellB.cls)
    {g : JFrame} (hg : g.method = m) (hsize : g.locals.size = c.maxLocals) {argsL rest : List Value} (hlen : ∀ sig, parseMethodDescriptor y.desc = some sig → argsL.length = sig.parameters.length)
    (hstack : g.stack = argsL.reverse ++ .ref b :: rest) (hW : 2 * g.monitorRoom + (rest.map fun v => v.category).sum ≤ W9) (hdg : decode c.code g.pc = .ok (.invokevirtual index, 3))
    (hpre : ∀ vm₁, s.WarmedH vm₁ → Pre ⟨T.setVm vm₁, locs, cells, slots⟩ (Value.ref b :: argsL).toArray) :
    ∃ (v : Option Value) (vm₁ : Vm) (B : Pt), s.WarmedH vm₁ ∧ Stand p l e R s m args below meth c B.U B.locs B.cells B.slots ∧ Post ⟨T.setVm vm₁, locs, cells, slots⟩ (Value.ref b :: argsL).toArray v B ∧
      ∀ target, Steps p.tables e below (B.U.setTop { g with pc := g.pc + 3, stack := v.toList ++ rest }) target → Steps p.tables e below (T.setTop g) target := by
  obtain ⟨mk, methM, hnamed, hmethM, hstM, habM⟩ := Cond.instanceMethod_spec hinst
  obtain ⟨m8, methM', cM, hn8, hmethM', -, -, -, -, -, -, hsigM⟩ := Cond.codeWith_spec hcode
  cases Option.some.inj (hn8.symm.trans hnamed)
  cases hmethM.symm.trans hmethM'
  obtain ⟨c2, r2, m2, q1, q2, q3, q4, kP, hkP, hkPi⟩ := Cond.selects_spec hsel
  cases hcls.symm.trans q1
  cases (State.methodFound?_of_named hnamed hy).symm.trans q2
  cases hnamed.symm.trans q3
  have hselP : selectMethod e.platform s.vm cellB.cls mk = .method mk := by rw [Launch.admits_selectMethod X.admits]; exact q4
  obtain ⟨vm₁, X₁, hstep₁⟩ := X.invokevirtual hexec hown hlink hnamed hmethM hstM hkP hkPi hy (a := b) (cell := cellB) hcell
    (fun z h => by rw [h] at hobj; cases hobj) hselP hmethM habM hkP hkPi (g := g) hg (argsL := argsL) (rest := rest) (hlen _ hsigM) hstack hdg
  obtain ⟨v, B, X', hpost, hsteps⟩ := hK m meth c ⟨T.setVm vm₁, locs, cells, slots⟩ { g with stack := rest } (.invokevirtual index) mk (Value.ref b :: argsL).toArray X₁ hg hsize hdg hW (X₁.named hnamed) (hpre vm₁ X₁.warmed)
  exact ⟨v, vm₁, B, X₁.warmed, X', hpost, fun target h => hstep₁ _ fun acts => by rw [doInvoke_state]; exact hsteps.trans h⟩
abbrev vx_CVW (R : Room) (s : State) (args : Array Value) (own C : String) (index : Nat) (y : MethodName) (bytes : ByteArray) (maxL : Nat) (ret : Option FieldType) (hh : List (Nat × Nat × Nat × Nat)) (ws : List Cond) (rm : Room) (mc ms n : Nat) : Prop :=
  (rm.cells = mc ∧ rm.slots = ms ∧ rm.frames + 1 ≤ R.frames ∧ 8 + (maxL + 11) + rm.locals ≤ R.locals ∧ (∀ w ∈ ws, ∀ (a' : Array Value) (U : State), s.WarmedH U.vm → w.before a' U = true) ∧ Cond.codeWith y bytes maxL ret hh ∈ ws) ∧
  (Cond.codeWith y bytes maxL ret hh).before args s = true ∧ (Cond.initialized y.cls).before args s = true ∧ (y.cls ≠ "java/lang/invoke/MethodHandle" ∧ y.cls ≠ "java/lang/invoke/VarHandle") ∧
  (∀ sig, parseMethodDescriptor y.desc = some sig → n = sig.parameters.length) ∧ (Cond.methodLink own index y).before args s = true ∧ (Cond.instanceMethod y).before args s = true ∧ (Cond.selects C y y).before args s = true
theorem vx_cwVW {own C : String} {index maxL mc ms : Nat} {y : MethodName} {bytes : ByteArray} {ret : Option FieldType} {hh : List (Nat × Nat × Nat × Nat)} {Ts ws ws' : List Cond} {rm : Room} (n : Nat) (ht : ∀ w ∈ Ts, w.before args s = true) (hT : GoodIn Ts (wsV own index C y ws)) (hw : ws = Cond.codeWith y bytes maxL ret hh :: ws') (hrc : rm.cells = mc) (hrs : rm.slots = ms)
    (hd : y.cls = C ∧ y.cls ≠ "java/lang/invoke/MethodHandle" ∧ y.cls ≠ "java/lang/invoke/VarHandle" ∧ (parseMethodDescriptor y.desc).map (fun d => d.parameters.length) = some n) (hR : rm.frames + 1 ≤ R.frames ∧ 8 + (maxL + 11) + rm.locals ≤ R.locals) :
    vx_CVW R s args own C index y bytes maxL ret hh ws rm mc ms n := by
  obtain ⟨hC, hd⟩ := hd
  subst hC
  have ok : ∀ w ∈ wsV own index y.cls y ws, w.before args s = true := fun w h => ht w (hT w h).1
  have hG : GoodIn Ts ws := fun w h => hT w (by unfold wsV; exact List.mem_append_right _ h)
  have hc : Cond.codeWith y bytes maxL ret hh ∈ ws := by rw [hw]; exact List.mem_cons_self
  refine ⟨⟨hrc, hrs, hR.1, hR.2, pay_in ht hG, hc⟩, ht _ (hG _ hc).1, ok _ (by simp [wsV]), ⟨hd.1, hd.2.1⟩, fun sig h => ?_, ok _ (by simp [wsV]), ok _ (by simp [wsV]), ok _ (by simp [wsV])⟩
  have h2 := hd.2.2
  rw [h] at h2
  exact (Option.some.inj h2).symm
theorem vx_runVW {y : MethodName} {bytes cc : ByteArray} {maxL nL mc ms n index : Nat} {ret : Option FieldType} {hh : List (Nat × Nat × Nat × Nat)} {ws : List Cond} {rm : Room} {Pc : Array Value → State → Prop} {Qc : Array Value → State → Outcome → State → Prop} {free : Addr → Prop} {Ts : List Cond} {own C : String} {b : Addr} {As rest : List Value} {g : JFrame}
    (S : CallFix p m c cc nL s args Ts own) (hM : Met l y ws rm Pc Qc mc ms free) (cw : vx_CVW R s args own C index y bytes maxL ret hh ws rm mc ms n) (hp : PreV s H C b Pc As)
    (hg : g.method = m) (hn : As.length = n) (hsize : g.locals.size = nL) (hstack : g.stack = As.reverse ++ .ref b :: rest) (hW : 2 * g.monitorRoom + (rest.map fun v => v.category).sum ≤ 8) (hdg : decode cc g.pc = .ok (.invokevirtual index, 3)) (hf : cells + mc ≤ R.cells ∧ slots + ms ≤ R.slots) :
    va_Run p l e R s m args below meth c H locs cells slots mc ms g rest (Qc (Value.ref b :: As).toArray) free := by
  obtain ⟨⟨hrc, hrs, hfr, hlo, hws, hcw⟩, hcode, hini, hy, hlen, hl, hin, hse⟩ := cw
  have hK : Back l R p e below s args y 3 8 (PreOf R mc ms Pc) (PostOf Qc mc ms free) := va_backW (hh := hh) (bytes := bytes) (maxL := maxL) (ret := ret) hM hp.1 hrc hrs hfr hlo hws hcw (fun a' U hW => word_at hW (Or.inl (by first | rfl | simp [Cond.onTables, Cond.keeps, Cond.steady])) hini)
  obtain ⟨hx, hb, hml, ho, -⟩ := S
  obtain ⟨-, ⟨cellB, hcB, hoB, hclB⟩, hPc⟩ := hp
  intro T hT X
  obtain ⟨v, vm₁, ⟨U', l2, c2, s2⟩, hW₁, X', ⟨g', mk, t, L, e1, e2, hq, h1, hL, h2, h3⟩, st⟩ := vx_callVW X hx (C := C) (hh := hh) (bytes := bytes) (maxL := maxL) (ret := ret) ho hl hin hse hcode hy hK (by rw [hT]; exact hcB) hoB hclB hg (hsize.trans hml.symm) (argsL := As) (rest := rest) (fun sig h => hn.trans (hlen sig h)) hstack hW (by rw [hb]; exact hdg)
    (fun vm₁ hW₁ => ⟨hf.1, hf.2, hPc (T.setVm vm₁) hT hW₁⟩)
  dsimp only [Pt.U, Pt.locs, Pt.cells, Pt.slots] at X' e1 e2 h1 h2 h3 st
  subst h1; subst h2; subst h3
  exact ⟨v, (T.setVm vm₁).calling g' mk (Value.ref b :: As).toArray, t, U', L, hT, X', hL, e1, e2, hq, st⟩
section
variable {y : MethodName} {bytes cc : ByteArray} {maxL nL mc ms n index : Nat} {ret : Option FieldType} {ws : List Cond} {rm : Room} {Pc : Array Value → State → Prop} {Qc : Array Value → State → Outcome → State → Prop} {XC : String → State → State → Prop} {free : Addr → Prop} {Ts : List Cond} {own C : String} {b : Addr} {As rest : List Value} {g : JFrame}
theorem vx_runVX {hh : List (Nat × Nat × Nat × Nat)} (S : CallFix p m c cc nL s args Ts own) (hM : vx_Met l y ws rm Pc Qc XC mc ms free) (cw : vx_CVW R s args own C index y bytes maxL ret hh ws rm mc ms n) (hp : PreV s H C b Pc As)
    (hg : g.method = m) (hn : As.length = n) (hsize : g.locals.size = nL) (hstack : g.stack = As.reverse ++ .ref b :: rest) (hW : 2 * g.monitorRoom + (rest.map fun v => v.category).sum ≤ 8) (hdg : decode cc g.pc = .ok (.invokevirtual index, 3)) (hf : cells + mc ≤ R.cells ∧ slots + ms ≤ R.slots) :
    vx_Run p l e R s m args below meth c H locs cells slots mc ms g rest (Qc (Value.ref b :: As).toArray) XC free := by
  obtain ⟨⟨hrc, hrs, hfr, hlo, hws, hcw⟩, hcode, hini, hy, hlen, hl, hin, hse⟩ := cw
  have hK : vx_Back l R p e below s args y 3 8 (PreOf R mc ms Pc) (PostOf Qc mc ms free) (vx_Post XC mc ms free) := vx_backW (hh := hh) (bytes := bytes) (maxL := maxL) (ret := ret) hM hp.1 hrc hrs hfr hlo hws hcw (fun a' U hW => word_at hW (Or.inl (by first | rfl | simp [Cond.onTables, Cond.keeps, Cond.steady])) hini)
  obtain ⟨hx, hb, hml, ho, -⟩ := S
  obtain ⟨-, ⟨cellB, hcB, hoB, hclB⟩, hPc⟩ := hp
  intro T hT X
  rcases vx_callVX X hx (C := C) (hh := hh) (bytes := bytes) (maxL := maxL) (ret := ret) ho hl hin hse hcode hy hK (by rw [hT]; exact hcB) hoB hclB hg (hsize.trans hml.symm) (argsL := As) (rest := rest) (fun sig h => hn.trans (hlen sig h)) hstack hW (by rw [hb]; exact hdg)
    (fun vm₁ hW₁ => ⟨hf.1, hf.2, hPc (T.setVm vm₁) hT hW₁⟩) with ⟨v, vm₁, ⟨U', l2, c2, s2⟩, hW₁, X', ⟨g', mk, t, L, e1, e2, hq, h1, hL, h2, h3⟩, st⟩ | ⟨q, vm₁, ⟨U', l2, c2, s2⟩, hW₁, X', ⟨g', mk, t, L, E, ce, e1, e2, hq, hce, hcv, hcl, h1, hL, h2, h3⟩, st⟩
  · dsimp only [Pt.U, Pt.locs, Pt.cells, Pt.slots] at X' e1 e2 h1 h2 h3 st
    subst h1; subst h2; subst h3
    exact Or.inl ⟨v, (T.setVm vm₁).calling g' mk (Value.ref b :: As).toArray, t, U', L, hT, X', hL, e1, e2, hq, st⟩
  · dsimp only [Pt.U, Pt.locs, Pt.cells, Pt.slots] at X' e1 e2 h1 h2 h3 st hcl
    subst h1; subst h2; subst h3
    exact Or.inr ⟨q, (T.setVm vm₁).calling g' mk (Value.ref b :: As).toArray, t, U', L, E, ce, hT, X', hL, e1, e2, hq, hce, hcv, vx_cls hW₁ hcl, st⟩
theorem vx_runSX {hh : List (Nat × Nat × Nat × Nat)} (S : CallFix p m c cc nL s args Ts own) (hM : vx_Met l y ws rm Pc Qc XC mc ms free) (cw : vx_CSW R s args own index y bytes maxL ret hh ws rm mc ms n) (hp : PreS s H Pc As)
    (hg : g.method = m) (hn : As.length = n) (hsize : g.locals.size = nL) (hstack : g.stack = As.reverse ++ rest) (hW : 2 * g.monitorRoom + (rest.map fun v => v.category).sum ≤ 8) (hdg : decode cc g.pc = .ok (.invokestatic index, 3)) (hf : cells + mc ≤ R.cells ∧ slots + ms ≤ R.slots) :
    vx_Run p l e R s m args below meth c H locs cells slots mc ms g rest (Qc As.toArray) XC free := by
  obtain ⟨⟨hrc, hrs, hfr, hlo, hws, hcw⟩, hcode, hini, hy, hlen, hl, hstt⟩ := cw
  have hK : vx_Back l R p e below s args y 3 8 (PreOf R mc ms Pc) (PostOf Qc mc ms free) (vx_Post XC mc ms free) := vx_backW (hh := hh) (bytes := bytes) (maxL := maxL) (ret := ret) hM hp.1 hrc hrs hfr hlo hws hcw (fun a' U hW => word_at hW (Or.inl (by first | rfl | simp [Cond.onTables, Cond.keeps, Cond.steady])) hini)
  obtain ⟨hx, hb, hml, ho, -⟩ := S
  intro T hT X
  rcases vx_callSX X hx (hh := hh) (bytes := bytes) (maxL := maxL) (ret := ret) ho hl hstt hini hcode hy hK hg (hsize.trans hml.symm) (argsL := As) (rest := rest) (fun sig h => hn.trans (hlen sig h)) hstack hW (by rw [hb]; exact hdg)
    (fun vm₁ hW₁ => ⟨hf.1, hf.2, hp.2 (T.setVm vm₁) hT hW₁⟩) with ⟨v, vm₁, ⟨U', l2, c2, s2⟩, hW₁, X', ⟨g', mk, t, L, e1, e2, hq, h1, hL, h2, h3⟩, st⟩ | ⟨q, vm₁, ⟨U', l2, c2, s2⟩, hW₁, X', ⟨g', mk, t, L, E, ce, e1, e2, hq, hce, hcv, hcl, h1, hL, h2, h3⟩, st⟩
  · dsimp only [Pt.U, Pt.locs, Pt.cells, Pt.slots] at X' e1 e2 h1 h2 h3 st
    subst h1; subst h2; subst h3
    exact Or.inl ⟨v, (T.setVm vm₁).calling g' mk As.toArray, t, U', L, hT, X', hL, e1, e2, hq, st⟩
  · dsimp only [Pt.U, Pt.locs, Pt.cells, Pt.slots] at X' e1 e2 h1 h2 h3 st hcl
    subst h1; subst h2; subst h3
    exact Or.inr ⟨q, (T.setVm vm₁).calling g' mk As.toArray, t, U', L, E, ce, hT, X', hL, e1, e2, hq, hce, hcv, vx_cls hW₁ hcl, st⟩
end
end VXH
theorem vx_ofWH {l : Launch} {y : MethodName} {ws ws' : List Cond} {rm : Room} {Pc : Array Value → State → Prop} {Qc : Array Value → State → Outcome → State → Prop} {XC : String → State → State → Prop} {mc ms : Nat} {free : Addr → Prop} {cc : ByteArray} {maxL : Nat} {ret : Option FieldType} {hh : List (Nat × Nat × Nat × Nat)}
    (hy : plainName y.cls = true) (hw : ws = Cond.codeWith y cc maxL ret hh :: ws')
    (body : ∀ p e s m args below meth c s₁, BodyLoose p l y (headSpec ws rm) cc maxL ret e s m args below meth c s₁ → c.maxLocals = maxL → Pc args s →
      W p l e (headSpec ws rm).room s m args below meth c s.heap [] 0 0 (vx_MQ below Qc XC args s mc ms free) (entryFrame m args maxL)) : vx_Met l y ws rm Pc Qc XC mc ms free := by
  refine MetFree.of_bodyS (code := cc) (maxLocals := maxL) (ret := ret) hy ?_ ?_
  · intro args s m h hn
    obtain ⟨m9, meth, c, hn9, h1, h2, h3, h4, -, h5, h6, -⟩ := Cond.codeWith_spec (atoms_spec (ws := ws) h _ (by rw [hw]; exact List.mem_cons_self))
    cases hn.symm.trans hn9
    exact ⟨meth, c, h1, h2, h3, h4, h5, h6⟩
  · intro p e s m args below meth c s₁ B hml hP _
    have hh0 : s₁.heap = s.heap := by rw [B.state]; rfl
    obtain ⟨t, a1, o, b1, b2, b3⟩ := body p e s m args below meth c s₁ B hml hP s₁ hh0 (Stand.of_body B)
    exact ⟨t, o, a1, b1, b2, b3⟩
/-! ===== END ===== -/
end
section
/-! ===== BEGIN printed: names, fields, word lists, decode rows ===== -/
def RX0 : String := "ShardBallots"
def TX0 : u_T := fun k => match k with
  | 0 => ("ShardBallots", "rowTable", "[I", true)
  | 1 => ("ShardBallots", "memberCount", "I", false)
  | 2 => ("ShardBallots", "lastKeys", "[I", true)
  | 3 => ("ShardBallots", "homes", "[I", true)
  | 4 => ("ShardBallots", "targets", "[I", true)
  | 5 => ("ShardBallots", "rangeCount", "I", false)
  | 6 => ("ShardBallots", "roll", "[I", true)
  | 7 => ("ShardBallots", "rollLaid", "Z", false)
  | 8 => ("ShardBallots", "voteNumber", "I", false)
  | 9 => ("ShardBallots", "ballotKeys", "[I", true)
  | 10 => ("ShardBallots", "ballotVotes", "[I", true)
  | 11 => ("ShardBallots", "ballotAddresses", "[I", true)
  | 12 => ("ShardBallots", "ballotDistricts", "[I", true)
  | 13 => ("ShardBallots", "ballotStates", "[I", true)
  | 14 => ("ShardBallots", "ballotChoices", "[I", true)
  | _ => ("ShardBallots", "ballotCount", "I", false)
def tyX0 : Nat → FieldType := fun k => match k with
  | 0 => .array .int
  | 1 => .int
  | 2 => .array .int
  | 3 => .array .int
  | 4 => .array .int
  | 5 => .int
  | 6 => .array .int
  | 7 => .boolean
  | 8 => .int
  | 9 => .array .int
  | 10 => .array .int
  | 11 => .array .int
  | 12 => .array .int
  | 13 => .array .int
  | 14 => .array .int
  | _ => .int
abbrev wsX00 : List Cond := u_ws RX0 TX0 16
theorem nmX0 : ∀ a, a < 16 → ∀ b, b < 16 → a ≠ b → (TX0 a).2.1 ≠ (TX0 b).2.1 := by decide +kernel
theorem tyX0_ok : ∀ k, k < 16 → parseFieldDescriptor (TX0 k).2.2.1 = some (tyX0 k) := by decide +kernel
abbrev cX0_init : ByteArray := prog_1_method_1_code
def yX0_init : MethodName := ⟨RX0, "<init>", "()V"⟩
abbrev cX0_join : ByteArray := prog_1_method_2_code
def yX0_join : MethodName := ⟨RX0, "join", "(II)I"⟩
abbrev cX0_change : ByteArray := prog_1_method_3_code
def yX0_change : MethodName := ⟨RX0, "change", "(II)I"⟩
abbrev cX0_leave : ByteArray := prog_1_method_4_code
def yX0_leave : MethodName := ⟨RX0, "leave", "(I)I"⟩
abbrev cX0_address : ByteArray := prog_1_method_5_code
def yX0_address : MethodName := ⟨RX0, "address", "(I)I"⟩
abbrev cX0_inDistrict : ByteArray := prog_1_method_6_code
def yX0_inDistrict : MethodName := ⟨RX0, "inDistrict", "(I)I"⟩
abbrev cX0_split : ByteArray := prog_1_method_7_code
def yX0_split : MethodName := ⟨RX0, "split", "(I)I"⟩
abbrev cX0_merge : ByteArray := prog_1_method_8_code
def yX0_merge : MethodName := ⟨RX0, "merge", "(I)I"⟩
abbrev cX0_move : ByteArray := prog_1_method_9_code
def yX0_move : MethodName := ⟨RX0, "move", "(II)I"⟩
abbrev cX0_step : ByteArray := prog_1_method_10_code
def yX0_step : MethodName := ⟨RX0, "step", "(I)I"⟩
abbrev cX0_giveUp : ByteArray := prog_1_method_11_code
def yX0_giveUp : MethodName := ⟨RX0, "giveUp", "(I)I"⟩
abbrev cX0_ranges : ByteArray := prog_1_method_12_code
def yX0_ranges : MethodName := ⟨RX0, "ranges", "()I"⟩
abbrev cX0_rangeOf : ByteArray := prog_1_method_13_code
def yX0_rangeOf : MethodName := ⟨RX0, "rangeOf", "(I)I"⟩
abbrev cX0_shardOf : ByteArray := prog_1_method_14_code
def yX0_shardOf : MethodName := ⟨RX0, "shardOf", "(I)I"⟩
abbrev cX0_rows : ByteArray := prog_1_method_15_code
def yX0_rows : MethodName := ⟨RX0, "rows", "(I)I"⟩
abbrev cX0_fix : ByteArray := prog_1_method_16_code
def yX0_fix : MethodName := ⟨RX0, "fix", "()I"⟩
abbrev cX0_onRoll : ByteArray := prog_1_method_17_code
def yX0_onRoll : MethodName := ⟨RX0, "onRoll", "(I)I"⟩
abbrev cX0_send : ByteArray := prog_1_method_18_code
def yX0_send : MethodName := ⟨RX0, "send", "(I)I"⟩
abbrev cX0_sentTo : ByteArray := prog_1_method_19_code
def yX0_sentTo : MethodName := ⟨RX0, "sentTo", "(I)I"⟩
abbrev cX0_giveBack : ByteArray := prog_1_method_20_code
def yX0_giveBack : MethodName := ⟨RX0, "giveBack", "(II)I"⟩
abbrev cX0_stateOf : ByteArray := prog_1_method_21_code
def yX0_stateOf : MethodName := ⟨RX0, "stateOf", "(I)I"⟩
abbrev cX0_counted : ByteArray := prog_1_method_22_code
def yX0_counted : MethodName := ⟨RX0, "counted", "(II)I"⟩
abbrev cX0_close : ByteArray := prog_1_method_23_code
def yX0_close : MethodName := ⟨RX0, "close", "()I"⟩
abbrev cX0_rowOf : ByteArray := prog_1_method_24_code
def yX0_rowOf : MethodName := ⟨RX0, "rowOf", "(II)I"⟩
abbrev cX0_putRow : ByteArray := prog_1_method_25_code
def yX0_putRow : MethodName := ⟨RX0, "putRow", "(III)V"⟩
abbrev cX0_read : ByteArray := prog_1_method_26_code
def yX0_read : MethodName := ⟨RX0, "read", "(I)I"⟩
abbrev cX0_write : ByteArray := prog_1_method_27_code
def yX0_write : MethodName := ⟨RX0, "write", "(II)V"⟩
abbrev cX0_countRows : ByteArray := prog_1_method_28_code
def yX0_countRows : MethodName := ⟨RX0, "countRows", "(III)I"⟩
abbrev cX0_dropRows : ByteArray := prog_1_method_29_code
def yX0_dropRows : MethodName := ⟨RX0, "dropRows", "(II)V"⟩
abbrev cX0_lowestKeyNotBrought : ByteArray := prog_1_method_30_code
def yX0_lowestKeyNotBrought : MethodName := ⟨RX0, "lowestKeyNotBrought", "(I)I"⟩
abbrev cX0_districtOf : ByteArray := prog_1_method_31_code
def yX0_districtOf : MethodName := ⟨RX0, "districtOf", "(I)I"⟩
abbrev cX0_rangeHolding : ByteArray := prog_1_method_32_code
def yX0_rangeHolding : MethodName := ⟨RX0, "rangeHolding", "(I)I"⟩
abbrev cX0_homeOf : ByteArray := prog_1_method_33_code
def yX0_homeOf : MethodName := ⟨RX0, "homeOf", "(I)I"⟩
abbrev cX0_targetOf : ByteArray := prog_1_method_34_code
def yX0_targetOf : MethodName := ⟨RX0, "targetOf", "(I)I"⟩
abbrev cX0_isMoved : ByteArray := prog_1_method_35_code
def yX0_isMoved : MethodName := ⟨RX0, "isMoved", "(I)Z"⟩
abbrev cX0_firstKeyOf : ByteArray := prog_1_method_36_code
def yX0_firstKeyOf : MethodName := ⟨RX0, "firstKeyOf", "(I)I"⟩
abbrev cX0_lastKeyOf : ByteArray := prog_1_method_37_code
def yX0_lastKeyOf : MethodName := ⟨RX0, "lastKeyOf", "(I)I"⟩
abbrev cX0_putLastKey : ByteArray := prog_1_method_38_code
def yX0_putLastKey : MethodName := ⟨RX0, "putLastKey", "(II)V"⟩
abbrev cX0_insertCopyBehind : ByteArray := prog_1_method_39_code
def yX0_insertCopyBehind : MethodName := ⟨RX0, "insertCopyBehind", "(I)V"⟩
abbrev cX0_remove : ByteArray := prog_1_method_40_code
def yX0_remove : MethodName := ⟨RX0, "remove", "(I)V"⟩
abbrev cX0_copyRange : ByteArray := prog_1_method_41_code
def yX0_copyRange : MethodName := ⟨RX0, "copyRange", "(II)V"⟩
abbrev cX0_isOfOpenVote : ByteArray := prog_1_method_42_code
def yX0_isOfOpenVote : MethodName := ⟨RX0, "isOfOpenVote", "(I)Z"⟩
abbrev cX0_latestBallotTo : ByteArray := prog_1_method_43_code
def yX0_latestBallotTo : MethodName := ⟨RX0, "latestBallotTo", "(I)I"⟩
abbrev cX0_isKey : ByteArray := prog_1_method_44_code
def yX0_isKey : MethodName := ⟨RX0, "isKey", "(I)Z"⟩
abbrev cX0_isShard : ByteArray := prog_1_method_45_code
def yX0_isShard : MethodName := ⟨RX0, "isShard", "(I)Z"⟩
abbrev cX0_isRange : ByteArray := prog_1_method_46_code
def yX0_isRange : MethodName := ⟨RX0, "isRange", "(I)Z"⟩
abbrev cX0_isBallot : ByteArray := prog_1_method_47_code
def yX0_isBallot : MethodName := ⟨RX0, "isBallot", "(I)Z"⟩
abbrev cX0_isMember : ByteArray := prog_1_method_48_code
def yX0_isMember : MethodName := ⟨RX0, "isMember", "(I)Z"⟩
abbrev cX0_checkKey : ByteArray := prog_1_method_49_code
def yX0_checkKey : MethodName := ⟨RX0, "checkKey", "(I)V"⟩
abbrev cX0_checkShard : ByteArray := prog_1_method_50_code
def yX0_checkShard : MethodName := ⟨RX0, "checkShard", "(I)V"⟩
abbrev cX0_checkDistrict : ByteArray := prog_1_method_51_code
def yX0_checkDistrict : MethodName := ⟨RX0, "checkDistrict", "(I)V"⟩
abbrev cX0_checkRange : ByteArray := prog_1_method_52_code
def yX0_checkRange : MethodName := ⟨RX0, "checkRange", "(I)V"⟩
abbrev cX0_checkBallot : ByteArray := prog_1_method_53_code
def yX0_checkBallot : MethodName := ⟨RX0, "checkBallot", "(I)V"⟩
abbrev cX0_checkAddress : ByteArray := prog_1_method_54_code
def yX0_checkAddress : MethodName := ⟨RX0, "checkAddress", "(I)V"⟩
abbrev cX0_checkChoice : ByteArray := prog_1_method_55_code
def yX0_checkChoice : MethodName := ⟨RX0, "checkChoice", "(I)V"⟩
abbrev cX0_checkMember : ByteArray := prog_1_method_56_code
def yX0_checkMember : MethodName := ⟨RX0, "checkMember", "(I)V"⟩
abbrev cX0_checkMoved : ByteArray := prog_1_method_57_code
def yX0_checkMoved : MethodName := ⟨RX0, "checkMoved", "(I)V"⟩
def RX1 : String := "ShardBallotsModel"
def TX1 : u_T := fun k => match k with
  | _ => ("", "", "", false)
def tyX1 : Nat → FieldType := fun k => match k with
  | _ => .int
abbrev wsX10 : List Cond := u_ws RX1 TX1 0
theorem nmX1 : ∀ a, a < 0 → ∀ b, b < 0 → a ≠ b → (TX1 a).2.1 ≠ (TX1 b).2.1 := by decide +kernel
theorem tyX1_ok : ∀ k, k < 0 → parseFieldDescriptor (TX1 k).2.2.1 = some (tyX1 k) := by decide +kernel
def RJx145de : String := "java/io/Serializable"
def TJx145de : u_T := fun k => match k with
  | _ => ("", "", "", false)
def tyJx145de : Nat → FieldType := fun k => match k with
  | _ => .int
abbrev wsJx145de0 : List Cond := u_ws RJx145de TJx145de 0
theorem nmJx145de : ∀ a, a < 0 → ∀ b, b < 0 → a ≠ b → (TJx145de a).2.1 ≠ (TJx145de b).2.1 := by decide +kernel
theorem tyJx145de_ok : ∀ k, k < 0 → parseFieldDescriptor (TJx145de k).2.2.1 = some (tyJx145de k) := by decide +kernel
def RJ0 : String := "java/lang/String"
def TJ0 : u_T := fun k => match k with
  | _ => ("", "", "", false)
def tyJ0 : Nat → FieldType := fun k => match k with
  | _ => .int
abbrev wsJ00 : List Cond := u_ws RJ0 TJ0 0
theorem nmJ0 : ∀ a, a < 0 → ∀ b, b < 0 → a ≠ b → (TJ0 a).2.1 ≠ (TJ0 b).2.1 := by decide +kernel
theorem tyJ0_ok : ∀ k, k < 0 → parseFieldDescriptor (TJ0 k).2.2.1 = some (tyJ0 k) := by decide +kernel
def RJ7 : String := "java/util/Arrays"
def TJ7 : u_T := fun k => match k with
  | _ => ("", "", "", false)
def tyJ7 : Nat → FieldType := fun k => match k with
  | _ => .int
abbrev wsJ70 : List Cond := u_ws RJ7 TJ7 0
theorem nmJ7 : ∀ a, a < 0 → ∀ b, b < 0 → a ≠ b → (TJ7 a).2.1 ≠ (TJ7 b).2.1 := by decide +kernel
theorem tyJ7_ok : ∀ k, k < 0 → parseFieldDescriptor (TJ7 k).2.2.1 = some (tyJ7 k) := by decide +kernel
abbrev cJ7_fill_53178 : ByteArray := prog_11_method_103_code
def yJ7_fill_53178 : MethodName := ⟨RJ7, "fill", "([II)V"⟩
def RL : String := "ShardBallotsLaw"
abbrev cL_cell : ByteArray := method_2_code
def yL_cell : MethodName := ⟨RL, "cell", "([II)I"⟩
abbrev cL_low : ByteArray := method_3_code
def yL_low : MethodName := ⟨RL, "low", "(II)I"⟩
abbrev cL_join : ByteArray := method_4_code
def yL_join : MethodName := ⟨RL, "join", "(LShardBallots;II)I"⟩
abbrev cL_change : ByteArray := method_5_code
def yL_change : MethodName := ⟨RL, "change", "(LShardBallots;II)I"⟩
abbrev cL_leave : ByteArray := method_6_code
def yL_leave : MethodName := ⟨RL, "leave", "(LShardBallots;I)I"⟩
abbrev cL_address : ByteArray := method_7_code
def yL_address : MethodName := ⟨RL, "address", "(LShardBallots;I)I"⟩
abbrev cL_inDistrict : ByteArray := method_8_code
def yL_inDistrict : MethodName := ⟨RL, "inDistrict", "(LShardBallots;I)I"⟩
abbrev cL_split : ByteArray := method_9_code
def yL_split : MethodName := ⟨RL, "split", "(LShardBallots;I)I"⟩
abbrev cL_merge : ByteArray := method_10_code
def yL_merge : MethodName := ⟨RL, "merge", "(LShardBallots;I)I"⟩
abbrev cL_move : ByteArray := method_11_code
def yL_move : MethodName := ⟨RL, "move", "(LShardBallots;II)I"⟩
abbrev cL_step : ByteArray := method_12_code
def yL_step : MethodName := ⟨RL, "step", "(LShardBallots;I)I"⟩
abbrev cL_giveUp : ByteArray := method_13_code
def yL_giveUp : MethodName := ⟨RL, "giveUp", "(LShardBallots;I)I"⟩
abbrev cL_rangeOf : ByteArray := method_14_code
def yL_rangeOf : MethodName := ⟨RL, "rangeOf", "(LShardBallots;I)I"⟩
abbrev cL_shardOf : ByteArray := method_15_code
def yL_shardOf : MethodName := ⟨RL, "shardOf", "(LShardBallots;I)I"⟩
abbrev cL_rows : ByteArray := method_16_code
def yL_rows : MethodName := ⟨RL, "rows", "(LShardBallots;I)I"⟩
abbrev cL_fix : ByteArray := method_17_code
def yL_fix : MethodName := ⟨RL, "fix", "(LShardBallots;)I"⟩
abbrev cL_onRoll : ByteArray := method_18_code
def yL_onRoll : MethodName := ⟨RL, "onRoll", "(LShardBallots;I)I"⟩
abbrev cL_send : ByteArray := method_19_code
def yL_send : MethodName := ⟨RL, "send", "(LShardBallots;I)I"⟩
abbrev cL_sentTo : ByteArray := method_20_code
def yL_sentTo : MethodName := ⟨RL, "sentTo", "(LShardBallots;I)I"⟩
abbrev cL_giveBack : ByteArray := method_21_code
def yL_giveBack : MethodName := ⟨RL, "giveBack", "(LShardBallots;II)I"⟩
abbrev cL_stateOf : ByteArray := method_22_code
def yL_stateOf : MethodName := ⟨RL, "stateOf", "(LShardBallots;I)I"⟩
abbrev cL_counted : ByteArray := method_23_code
def yL_counted : MethodName := ⟨RL, "counted", "(LShardBallots;II)I"⟩
abbrev cL_close : ByteArray := method_24_code
def yL_close : MethodName := ⟨RL, "close", "(LShardBallots;)I"⟩
abbrev cL_member : ByteArray := method_25_code
def yL_member : MethodName := ⟨RL, "member", "([I[II)I"⟩
abbrev cL_range : ByteArray := method_26_code
def yL_range : MethodName := ⟨RL, "range", "([II)I"⟩
abbrev cL_first : ByteArray := method_27_code
def yL_first : MethodName := ⟨RL, "first", "([II)I"⟩
abbrev cL_ofRange : ByteArray := method_28_code
def yL_ofRange : MethodName := ⟨RL, "ofRange", "([I[I[III)I"⟩
abbrev cL_writes : ByteArray := method_29_code
def yL_writes : MethodName := ⟨RL, "writes", "(LShardBallots;III[I[I)Z"⟩
abbrev cL_shards : ByteArray := method_30_code
def yL_shards : MethodName := ⟨RL, "shards", "(LShardBallots;III[I[I[I)Z"⟩
abbrev cL_rolled : ByteArray := method_31_code
def yL_rolled : MethodName := ⟨RL, "rolled", "([I[II)I"⟩
abbrev cL_votes : ByteArray := method_32_code
def yL_votes : MethodName := ⟨RL, "votes", "(LShardBallots;III[I[I[I[I[I)Z"⟩
abbrev cL_isTold : ByteArray := method_33_code
def yL_isTold : MethodName := ⟨RL, "isTold", "(LShardBallots;I[I[I[I[I[I[I)Z"⟩
abbrev cL_law : ByteArray := code
def yL_law : MethodName := ⟨RL, "law", "([I)Z"⟩
def wsJ7_fill_53178 : List Cond := .code yJ7_fill_53178 cJ7_fill_53178 4 none :: ([])
def wsX0_init : List Cond := .code yX0_init cX0_init 1 none :: ([.methodLink RX0 1 objectInit, .instanceMethod objectInit, .code objectInit ⟨#[0xb1]⟩ 1 none, .arrayClass .int, .fieldLink RX0 9 "ShardBallots" "rowTable" "[I", .fieldLink RX0 13 "ShardBallots" "lastKeys" "[I", .fieldLink RX0 16 "ShardBallots" "homes" "[I", .fieldLink RX0 19 "ShardBallots" "targets" "[I", .fieldLink RX0 22 "ShardBallots" "roll" "[I", .fieldLink RX0 25 "ShardBallots" "ballotKeys" "[I", .fieldLink RX0 28 "ShardBallots" "ballotVotes" "[I", .fieldLink RX0 31 "ShardBallots" "ballotAddresses" "[I", .fieldLink RX0 34 "ShardBallots" "ballotDistricts" "[I", .fieldLink RX0 37 "ShardBallots" "ballotStates" "[I", .fieldLink RX0 40 "ShardBallots" "ballotChoices" "[I", .fieldLink RX0 49 "ShardBallots" "rangeCount" "I", .methodLink RX0 43 yJ7_fill_53178, .static yJ7_fill_53178, .initialized RJ7, .code yJ7_fill_53178 cJ7_fill_53178 4 none] ++ wsX00)
def wsX0_isKey : List Cond := .code yX0_isKey cX0_isKey 1 (some .boolean) :: ([])
def wsX0_checkKey : List Cond := .code yX0_checkKey cX0_checkKey 1 none :: ([.classLink RX0 214 "java/lang/IndexOutOfBoundsException", .initialized "java/lang/IndexOutOfBoundsException", .methodLink RX0 205 yX0_isKey, .static yX0_isKey, .initialized RX0, .code yX0_isKey cX0_isKey 1 (some .boolean)] ++ (vx_atS RX0 218 "java/lang/IndexOutOfBoundsException" ["java/lang/RuntimeException", "java/lang/Exception"]).filter goodWord)
def wsX0_checkAddress : List Cond := .code yX0_checkAddress cX0_checkAddress 1 none :: ([.classLink RX0 227 "java/lang/IllegalArgumentException", .initialized "java/lang/IllegalArgumentException"] ++ (vx_atS RX0 231 "java/lang/IllegalArgumentException" ["java/lang/RuntimeException", "java/lang/Exception"]).filter goodWord)
def wsX0_isRange : List Cond := .code yX0_isRange cX0_isRange 2 (some .boolean) :: ([.fieldLink RX0 49 "ShardBallots" "rangeCount" "I"] ++ wsX00)
def wsX0_lastKeyOf : List Cond := .code yX0_lastKeyOf cX0_lastKeyOf 2 (some .int) :: ([.fieldLink RX0 13 "ShardBallots" "lastKeys" "[I", .methodLink RX0 117 yX0_isRange, .instanceMethod yX0_isRange, .selects RX0 yX0_isRange yX0_isRange, .initialized RX0, .code yX0_isRange cX0_isRange 2 (some .boolean), .fieldLink RX0 49 "ShardBallots" "rangeCount" "I"] ++ wsX00)
def wsX0_rangeHolding : List Cond := .code yX0_rangeHolding cX0_rangeHolding 4 (some .int) :: ([.fieldLink RX0 49 "ShardBallots" "rangeCount" "I", .methodLink RX0 96 yX0_lastKeyOf, .instanceMethod yX0_lastKeyOf, .selects RX0 yX0_lastKeyOf yX0_lastKeyOf, .initialized RX0, .code yX0_lastKeyOf cX0_lastKeyOf 2 (some .int), .fieldLink RX0 13 "ShardBallots" "lastKeys" "[I", .methodLink RX0 117 yX0_isRange, .instanceMethod yX0_isRange, .selects RX0 yX0_isRange yX0_isRange, .code yX0_isRange cX0_isRange 2 (some .boolean)] ++ wsX00)
def wsX0_homeOf : List Cond := .code yX0_homeOf cX0_homeOf 2 (some .int) :: ([.fieldLink RX0 16 "ShardBallots" "homes" "[I", .methodLink RX0 117 yX0_isRange, .instanceMethod yX0_isRange, .selects RX0 yX0_isRange yX0_isRange, .initialized RX0, .code yX0_isRange cX0_isRange 2 (some .boolean), .fieldLink RX0 49 "ShardBallots" "rangeCount" "I"] ++ wsX00)
def wsX0_isShard : List Cond := .code yX0_isShard cX0_isShard 1 (some .boolean) :: ([])
def wsX0_rowOf : List Cond := .code yX0_rowOf cX0_rowOf 3 (some .int) :: ([.fieldLink RX0 9 "ShardBallots" "rowTable" "[I", .methodLink RX0 202 yX0_isShard, .static yX0_isShard, .initialized RX0, .code yX0_isShard cX0_isShard 1 (some .boolean), .methodLink RX0 205 yX0_isKey, .static yX0_isKey, .code yX0_isKey cX0_isKey 1 (some .boolean)] ++ wsX00)
def wsX0_read_r1 : List Cond := [Cond.methodLink RX0 93 yX0_rangeHolding, Cond.instanceMethod yX0_rangeHolding, Cond.selects RX0 yX0_rangeHolding yX0_rangeHolding, Cond.initialized RX0, Cond.code yX0_rangeHolding cX0_rangeHolding 4 (some .int), Cond.fieldLink RX0 49 "ShardBallots" "rangeCount" "I", Cond.methodLink RX0 96 yX0_lastKeyOf, Cond.instanceMethod yX0_lastKeyOf, Cond.selects RX0 yX0_lastKeyOf yX0_lastKeyOf, Cond.code yX0_lastKeyOf cX0_lastKeyOf 2 (some .int), Cond.fieldLink RX0 13 "ShardBallots" "lastKeys" "[I", Cond.methodLink RX0 117 yX0_isRange, Cond.instanceMethod yX0_isRange, Cond.selects RX0 yX0_isRange yX0_isRange, Cond.code yX0_isRange cX0_isRange 2 (some .boolean), Cond.methodLink RX0 122 yX0_homeOf, Cond.instanceMethod yX0_homeOf, Cond.selects RX0 yX0_homeOf yX0_homeOf, Cond.code yX0_homeOf cX0_homeOf 2 (some .int), Cond.fieldLink RX0 16 "ShardBallots" "homes" "[I", Cond.methodLink RX0 152 yX0_rowOf, Cond.instanceMethod yX0_rowOf, Cond.selects RX0 yX0_rowOf yX0_rowOf, Cond.code yX0_rowOf cX0_rowOf 3 (some .int)]
def wsX0_read_r2 : List Cond := [Cond.fieldLink RX0 9 "ShardBallots" "rowTable" "[I", Cond.methodLink RX0 202 yX0_isShard, Cond.static yX0_isShard, Cond.code yX0_isShard cX0_isShard 1 (some .boolean), Cond.methodLink RX0 205 yX0_isKey, Cond.static yX0_isKey, Cond.code yX0_isKey cX0_isKey 1 (some .boolean)]
def wsX0_read : List Cond := .code yX0_read cX0_read 2 (some .int) :: ((wsX0_read_r1 ++ wsX0_read_r2) ++ wsX00)
def wsX0_isMember_r1 : List Cond := [Cond.methodLink RX0 83 yX0_read, Cond.instanceMethod yX0_read, Cond.selects RX0 yX0_read yX0_read, Cond.initialized RX0, Cond.code yX0_read cX0_read 2 (some .int), Cond.methodLink RX0 93 yX0_rangeHolding, Cond.instanceMethod yX0_rangeHolding, Cond.selects RX0 yX0_rangeHolding yX0_rangeHolding, Cond.code yX0_rangeHolding cX0_rangeHolding 4 (some .int), Cond.fieldLink RX0 49 "ShardBallots" "rangeCount" "I", Cond.methodLink RX0 96 yX0_lastKeyOf, Cond.instanceMethod yX0_lastKeyOf, Cond.selects RX0 yX0_lastKeyOf yX0_lastKeyOf, Cond.code yX0_lastKeyOf cX0_lastKeyOf 2 (some .int), Cond.fieldLink RX0 13 "ShardBallots" "lastKeys" "[I", Cond.methodLink RX0 117 yX0_isRange, Cond.instanceMethod yX0_isRange, Cond.selects RX0 yX0_isRange yX0_isRange, Cond.code yX0_isRange cX0_isRange 2 (some .boolean), Cond.methodLink RX0 122 yX0_homeOf, Cond.instanceMethod yX0_homeOf, Cond.selects RX0 yX0_homeOf yX0_homeOf, Cond.code yX0_homeOf cX0_homeOf 2 (some .int), Cond.fieldLink RX0 16 "ShardBallots" "homes" "[I"]
def wsX0_isMember_r2 : List Cond := [Cond.methodLink RX0 152 yX0_rowOf, Cond.instanceMethod yX0_rowOf, Cond.selects RX0 yX0_rowOf yX0_rowOf, Cond.code yX0_rowOf cX0_rowOf 3 (some .int), Cond.fieldLink RX0 9 "ShardBallots" "rowTable" "[I", Cond.methodLink RX0 202 yX0_isShard, Cond.static yX0_isShard, Cond.code yX0_isShard cX0_isShard 1 (some .boolean), Cond.methodLink RX0 205 yX0_isKey, Cond.static yX0_isKey, Cond.code yX0_isKey cX0_isKey 1 (some .boolean)]
def wsX0_isMember : List Cond := .code yX0_isMember cX0_isMember 2 (some .boolean) :: ((wsX0_isMember_r1 ++ wsX0_isMember_r2) ++ wsX00)
def wsX0_putRow : List Cond := .code yX0_putRow cX0_putRow 4 none :: ([.fieldLink RX0 9 "ShardBallots" "rowTable" "[I", .methodLink RX0 202 yX0_isShard, .static yX0_isShard, .initialized RX0, .code yX0_isShard cX0_isShard 1 (some .boolean), .methodLink RX0 205 yX0_isKey, .static yX0_isKey, .code yX0_isKey cX0_isKey 1 (some .boolean)] ++ wsX00)
def wsX0_targetOf : List Cond := .code yX0_targetOf cX0_targetOf 2 (some .int) :: ([.fieldLink RX0 19 "ShardBallots" "targets" "[I", .methodLink RX0 117 yX0_isRange, .instanceMethod yX0_isRange, .selects RX0 yX0_isRange yX0_isRange, .initialized RX0, .code yX0_isRange cX0_isRange 2 (some .boolean), .fieldLink RX0 49 "ShardBallots" "rangeCount" "I"] ++ wsX00)
def wsX0_write_r1 : List Cond := [Cond.methodLink RX0 93 yX0_rangeHolding, Cond.instanceMethod yX0_rangeHolding, Cond.selects RX0 yX0_rangeHolding yX0_rangeHolding, Cond.initialized RX0, Cond.code yX0_rangeHolding cX0_rangeHolding 4 (some .int), Cond.fieldLink RX0 49 "ShardBallots" "rangeCount" "I", Cond.methodLink RX0 96 yX0_lastKeyOf, Cond.instanceMethod yX0_lastKeyOf, Cond.selects RX0 yX0_lastKeyOf yX0_lastKeyOf, Cond.code yX0_lastKeyOf cX0_lastKeyOf 2 (some .int), Cond.fieldLink RX0 13 "ShardBallots" "lastKeys" "[I", Cond.methodLink RX0 117 yX0_isRange, Cond.instanceMethod yX0_isRange, Cond.selects RX0 yX0_isRange yX0_isRange, Cond.code yX0_isRange cX0_isRange 2 (some .boolean), Cond.methodLink RX0 122 yX0_homeOf, Cond.instanceMethod yX0_homeOf, Cond.selects RX0 yX0_homeOf yX0_homeOf, Cond.code yX0_homeOf cX0_homeOf 2 (some .int), Cond.fieldLink RX0 16 "ShardBallots" "homes" "[I", Cond.methodLink RX0 156 yX0_putRow, Cond.instanceMethod yX0_putRow, Cond.selects RX0 yX0_putRow yX0_putRow, Cond.code yX0_putRow cX0_putRow 4 none]
def wsX0_write_r2 : List Cond := [Cond.fieldLink RX0 9 "ShardBallots" "rowTable" "[I", Cond.methodLink RX0 202 yX0_isShard, Cond.static yX0_isShard, Cond.code yX0_isShard cX0_isShard 1 (some .boolean), Cond.methodLink RX0 205 yX0_isKey, Cond.static yX0_isKey, Cond.code yX0_isKey cX0_isKey 1 (some .boolean), Cond.methodLink RX0 208 yX0_targetOf, Cond.instanceMethod yX0_targetOf, Cond.selects RX0 yX0_targetOf yX0_targetOf, Cond.code yX0_targetOf cX0_targetOf 2 (some .int), Cond.fieldLink RX0 19 "ShardBallots" "targets" "[I"]
def wsX0_write : List Cond := .code yX0_write cX0_write 4 none :: ((wsX0_write_r1 ++ wsX0_write_r2) ++ wsX00)
def wsX0_join_r1 : List Cond := [Cond.classLink RX0 64 "java/lang/IllegalStateException", Cond.initialized "java/lang/IllegalStateException", Cond.fieldLink RX0 71 "ShardBallots" "memberCount" "I", Cond.methodLink RX0 53 yX0_checkKey, Cond.static yX0_checkKey, Cond.initialized RX0, Cond.code yX0_checkKey cX0_checkKey 1 none, Cond.classLink RX0 214 "java/lang/IndexOutOfBoundsException", Cond.initialized "java/lang/IndexOutOfBoundsException", Cond.methodLink RX0 205 yX0_isKey, Cond.static yX0_isKey, Cond.code yX0_isKey cX0_isKey 1 (some .boolean), Cond.methodLink RX0 57 yX0_checkAddress, Cond.static yX0_checkAddress, Cond.code yX0_checkAddress cX0_checkAddress 1 none, Cond.classLink RX0 227 "java/lang/IllegalArgumentException", Cond.initialized "java/lang/IllegalArgumentException", Cond.methodLink RX0 60 yX0_isMember, Cond.instanceMethod yX0_isMember, Cond.selects RX0 yX0_isMember yX0_isMember, Cond.code yX0_isMember cX0_isMember 2 (some .boolean), Cond.methodLink RX0 83 yX0_read, Cond.instanceMethod yX0_read, Cond.selects RX0 yX0_read yX0_read]
def wsX0_join_r2 : List Cond := [Cond.code yX0_read cX0_read 2 (some .int), Cond.methodLink RX0 93 yX0_rangeHolding, Cond.instanceMethod yX0_rangeHolding, Cond.selects RX0 yX0_rangeHolding yX0_rangeHolding, Cond.code yX0_rangeHolding cX0_rangeHolding 4 (some .int), Cond.fieldLink RX0 49 "ShardBallots" "rangeCount" "I", Cond.methodLink RX0 96 yX0_lastKeyOf, Cond.instanceMethod yX0_lastKeyOf, Cond.selects RX0 yX0_lastKeyOf yX0_lastKeyOf, Cond.code yX0_lastKeyOf cX0_lastKeyOf 2 (some .int), Cond.fieldLink RX0 13 "ShardBallots" "lastKeys" "[I", Cond.methodLink RX0 117 yX0_isRange, Cond.instanceMethod yX0_isRange, Cond.selects RX0 yX0_isRange yX0_isRange, Cond.code yX0_isRange cX0_isRange 2 (some .boolean), Cond.methodLink RX0 122 yX0_homeOf, Cond.instanceMethod yX0_homeOf, Cond.selects RX0 yX0_homeOf yX0_homeOf, Cond.code yX0_homeOf cX0_homeOf 2 (some .int), Cond.fieldLink RX0 16 "ShardBallots" "homes" "[I", Cond.methodLink RX0 152 yX0_rowOf, Cond.instanceMethod yX0_rowOf, Cond.selects RX0 yX0_rowOf yX0_rowOf, Cond.code yX0_rowOf cX0_rowOf 3 (some .int)]
def wsX0_join_r3 : List Cond := [Cond.fieldLink RX0 9 "ShardBallots" "rowTable" "[I", Cond.methodLink RX0 202 yX0_isShard, Cond.static yX0_isShard, Cond.code yX0_isShard cX0_isShard 1 (some .boolean), Cond.methodLink RX0 76 yX0_write, Cond.instanceMethod yX0_write, Cond.selects RX0 yX0_write yX0_write, Cond.code yX0_write cX0_write 4 none, Cond.methodLink RX0 156 yX0_putRow, Cond.instanceMethod yX0_putRow, Cond.selects RX0 yX0_putRow yX0_putRow, Cond.code yX0_putRow cX0_putRow 4 none, Cond.methodLink RX0 208 yX0_targetOf, Cond.instanceMethod yX0_targetOf, Cond.selects RX0 yX0_targetOf yX0_targetOf, Cond.code yX0_targetOf cX0_targetOf 2 (some .int), Cond.fieldLink RX0 19 "ShardBallots" "targets" "[I"]
def wsX0_join : List Cond := .code yX0_join cX0_join 3 (some .int) :: ((wsX0_join_r1 ++ (wsX0_join_r2 ++ wsX0_join_r3)) ++ wsX00 ++ (vx_atS RX0 68 "java/lang/IllegalStateException" ["java/lang/RuntimeException", "java/lang/Exception"]).filter goodWord ++ (vx_atS RX0 218 "java/lang/IndexOutOfBoundsException" ["java/lang/RuntimeException", "java/lang/Exception"]).filter goodWord ++ (vx_atS RX0 231 "java/lang/IllegalArgumentException" ["java/lang/RuntimeException", "java/lang/Exception"]).filter goodWord)
def wsX0_checkMember_r1 : List Cond := [Cond.classLink RX0 64 "java/lang/IllegalStateException", Cond.initialized "java/lang/IllegalStateException", Cond.methodLink RX0 60 yX0_isMember, Cond.instanceMethod yX0_isMember, Cond.selects RX0 yX0_isMember yX0_isMember, Cond.initialized RX0, Cond.code yX0_isMember cX0_isMember 2 (some .boolean), Cond.methodLink RX0 83 yX0_read, Cond.instanceMethod yX0_read, Cond.selects RX0 yX0_read yX0_read, Cond.code yX0_read cX0_read 2 (some .int), Cond.methodLink RX0 93 yX0_rangeHolding, Cond.instanceMethod yX0_rangeHolding, Cond.selects RX0 yX0_rangeHolding yX0_rangeHolding, Cond.code yX0_rangeHolding cX0_rangeHolding 4 (some .int), Cond.fieldLink RX0 49 "ShardBallots" "rangeCount" "I", Cond.methodLink RX0 96 yX0_lastKeyOf, Cond.instanceMethod yX0_lastKeyOf, Cond.selects RX0 yX0_lastKeyOf yX0_lastKeyOf, Cond.code yX0_lastKeyOf cX0_lastKeyOf 2 (some .int), Cond.fieldLink RX0 13 "ShardBallots" "lastKeys" "[I", Cond.methodLink RX0 117 yX0_isRange, Cond.instanceMethod yX0_isRange, Cond.selects RX0 yX0_isRange yX0_isRange]
def wsX0_checkMember_r2 : List Cond := [Cond.code yX0_isRange cX0_isRange 2 (some .boolean), Cond.methodLink RX0 122 yX0_homeOf, Cond.instanceMethod yX0_homeOf, Cond.selects RX0 yX0_homeOf yX0_homeOf, Cond.code yX0_homeOf cX0_homeOf 2 (some .int), Cond.fieldLink RX0 16 "ShardBallots" "homes" "[I", Cond.methodLink RX0 152 yX0_rowOf, Cond.instanceMethod yX0_rowOf, Cond.selects RX0 yX0_rowOf yX0_rowOf, Cond.code yX0_rowOf cX0_rowOf 3 (some .int), Cond.fieldLink RX0 9 "ShardBallots" "rowTable" "[I", Cond.methodLink RX0 202 yX0_isShard, Cond.static yX0_isShard, Cond.code yX0_isShard cX0_isShard 1 (some .boolean), Cond.methodLink RX0 205 yX0_isKey, Cond.static yX0_isKey, Cond.code yX0_isKey cX0_isKey 1 (some .boolean)]
def wsX0_checkMember : List Cond := .code yX0_checkMember cX0_checkMember 2 none :: ((wsX0_checkMember_r1 ++ wsX0_checkMember_r2) ++ wsX00 ++ (vx_atS RX0 68 "java/lang/IllegalStateException" ["java/lang/RuntimeException", "java/lang/Exception"]).filter goodWord)
def wsX0_change_r1 : List Cond := [Cond.methodLink RX0 53 yX0_checkKey, Cond.static yX0_checkKey, Cond.initialized RX0, Cond.code yX0_checkKey cX0_checkKey 1 none, Cond.classLink RX0 214 "java/lang/IndexOutOfBoundsException", Cond.initialized "java/lang/IndexOutOfBoundsException", Cond.methodLink RX0 205 yX0_isKey, Cond.static yX0_isKey, Cond.code yX0_isKey cX0_isKey 1 (some .boolean), Cond.methodLink RX0 57 yX0_checkAddress, Cond.static yX0_checkAddress, Cond.code yX0_checkAddress cX0_checkAddress 1 none, Cond.classLink RX0 227 "java/lang/IllegalArgumentException", Cond.initialized "java/lang/IllegalArgumentException", Cond.methodLink RX0 80 yX0_checkMember, Cond.instanceMethod yX0_checkMember, Cond.selects RX0 yX0_checkMember yX0_checkMember, Cond.code yX0_checkMember cX0_checkMember 2 none, Cond.classLink RX0 64 "java/lang/IllegalStateException", Cond.initialized "java/lang/IllegalStateException", Cond.methodLink RX0 60 yX0_isMember, Cond.instanceMethod yX0_isMember, Cond.selects RX0 yX0_isMember yX0_isMember, Cond.code yX0_isMember cX0_isMember 2 (some .boolean)]
def wsX0_change_r2 : List Cond := [Cond.methodLink RX0 83 yX0_read, Cond.instanceMethod yX0_read, Cond.selects RX0 yX0_read yX0_read, Cond.code yX0_read cX0_read 2 (some .int), Cond.methodLink RX0 93 yX0_rangeHolding, Cond.instanceMethod yX0_rangeHolding, Cond.selects RX0 yX0_rangeHolding yX0_rangeHolding, Cond.code yX0_rangeHolding cX0_rangeHolding 4 (some .int), Cond.fieldLink RX0 49 "ShardBallots" "rangeCount" "I", Cond.methodLink RX0 96 yX0_lastKeyOf, Cond.instanceMethod yX0_lastKeyOf, Cond.selects RX0 yX0_lastKeyOf yX0_lastKeyOf, Cond.code yX0_lastKeyOf cX0_lastKeyOf 2 (some .int), Cond.fieldLink RX0 13 "ShardBallots" "lastKeys" "[I", Cond.methodLink RX0 117 yX0_isRange, Cond.instanceMethod yX0_isRange, Cond.selects RX0 yX0_isRange yX0_isRange, Cond.code yX0_isRange cX0_isRange 2 (some .boolean), Cond.methodLink RX0 122 yX0_homeOf, Cond.instanceMethod yX0_homeOf, Cond.selects RX0 yX0_homeOf yX0_homeOf, Cond.code yX0_homeOf cX0_homeOf 2 (some .int), Cond.fieldLink RX0 16 "ShardBallots" "homes" "[I", Cond.methodLink RX0 152 yX0_rowOf]
def wsX0_change_r3 : List Cond := [Cond.instanceMethod yX0_rowOf, Cond.selects RX0 yX0_rowOf yX0_rowOf, Cond.code yX0_rowOf cX0_rowOf 3 (some .int), Cond.fieldLink RX0 9 "ShardBallots" "rowTable" "[I", Cond.methodLink RX0 202 yX0_isShard, Cond.static yX0_isShard, Cond.code yX0_isShard cX0_isShard 1 (some .boolean), Cond.methodLink RX0 76 yX0_write, Cond.instanceMethod yX0_write, Cond.selects RX0 yX0_write yX0_write, Cond.code yX0_write cX0_write 4 none, Cond.methodLink RX0 156 yX0_putRow, Cond.instanceMethod yX0_putRow, Cond.selects RX0 yX0_putRow yX0_putRow, Cond.code yX0_putRow cX0_putRow 4 none, Cond.methodLink RX0 208 yX0_targetOf, Cond.instanceMethod yX0_targetOf, Cond.selects RX0 yX0_targetOf yX0_targetOf, Cond.code yX0_targetOf cX0_targetOf 2 (some .int), Cond.fieldLink RX0 19 "ShardBallots" "targets" "[I"]
def wsX0_change : List Cond := .code yX0_change cX0_change 4 (some .int) :: ((wsX0_change_r1 ++ (wsX0_change_r2 ++ wsX0_change_r3)) ++ wsX00 ++ (vx_atS RX0 218 "java/lang/IndexOutOfBoundsException" ["java/lang/RuntimeException", "java/lang/Exception"]).filter goodWord ++ (vx_atS RX0 231 "java/lang/IllegalArgumentException" ["java/lang/RuntimeException", "java/lang/Exception"]).filter goodWord ++ (vx_atS RX0 68 "java/lang/IllegalStateException" ["java/lang/RuntimeException", "java/lang/Exception"]).filter goodWord)
def wsX0_leave_r1 : List Cond := [Cond.fieldLink RX0 71 "ShardBallots" "memberCount" "I", Cond.methodLink RX0 53 yX0_checkKey, Cond.static yX0_checkKey, Cond.initialized RX0, Cond.code yX0_checkKey cX0_checkKey 1 none, Cond.classLink RX0 214 "java/lang/IndexOutOfBoundsException", Cond.initialized "java/lang/IndexOutOfBoundsException", Cond.methodLink RX0 205 yX0_isKey, Cond.static yX0_isKey, Cond.code yX0_isKey cX0_isKey 1 (some .boolean), Cond.methodLink RX0 80 yX0_checkMember, Cond.instanceMethod yX0_checkMember, Cond.selects RX0 yX0_checkMember yX0_checkMember, Cond.code yX0_checkMember cX0_checkMember 2 none, Cond.classLink RX0 64 "java/lang/IllegalStateException", Cond.initialized "java/lang/IllegalStateException", Cond.methodLink RX0 60 yX0_isMember, Cond.instanceMethod yX0_isMember, Cond.selects RX0 yX0_isMember yX0_isMember, Cond.code yX0_isMember cX0_isMember 2 (some .boolean), Cond.methodLink RX0 83 yX0_read, Cond.instanceMethod yX0_read, Cond.selects RX0 yX0_read yX0_read, Cond.code yX0_read cX0_read 2 (some .int)]
def wsX0_leave_r2 : List Cond := [Cond.methodLink RX0 93 yX0_rangeHolding, Cond.instanceMethod yX0_rangeHolding, Cond.selects RX0 yX0_rangeHolding yX0_rangeHolding, Cond.code yX0_rangeHolding cX0_rangeHolding 4 (some .int), Cond.fieldLink RX0 49 "ShardBallots" "rangeCount" "I", Cond.methodLink RX0 96 yX0_lastKeyOf, Cond.instanceMethod yX0_lastKeyOf, Cond.selects RX0 yX0_lastKeyOf yX0_lastKeyOf, Cond.code yX0_lastKeyOf cX0_lastKeyOf 2 (some .int), Cond.fieldLink RX0 13 "ShardBallots" "lastKeys" "[I", Cond.methodLink RX0 117 yX0_isRange, Cond.instanceMethod yX0_isRange, Cond.selects RX0 yX0_isRange yX0_isRange, Cond.code yX0_isRange cX0_isRange 2 (some .boolean), Cond.methodLink RX0 122 yX0_homeOf, Cond.instanceMethod yX0_homeOf, Cond.selects RX0 yX0_homeOf yX0_homeOf, Cond.code yX0_homeOf cX0_homeOf 2 (some .int), Cond.fieldLink RX0 16 "ShardBallots" "homes" "[I", Cond.methodLink RX0 152 yX0_rowOf, Cond.instanceMethod yX0_rowOf, Cond.selects RX0 yX0_rowOf yX0_rowOf, Cond.code yX0_rowOf cX0_rowOf 3 (some .int), Cond.fieldLink RX0 9 "ShardBallots" "rowTable" "[I"]
def wsX0_leave_r3 : List Cond := [Cond.methodLink RX0 202 yX0_isShard, Cond.static yX0_isShard, Cond.code yX0_isShard cX0_isShard 1 (some .boolean), Cond.methodLink RX0 76 yX0_write, Cond.instanceMethod yX0_write, Cond.selects RX0 yX0_write yX0_write, Cond.code yX0_write cX0_write 4 none, Cond.methodLink RX0 156 yX0_putRow, Cond.instanceMethod yX0_putRow, Cond.selects RX0 yX0_putRow yX0_putRow, Cond.code yX0_putRow cX0_putRow 4 none, Cond.methodLink RX0 208 yX0_targetOf, Cond.instanceMethod yX0_targetOf, Cond.selects RX0 yX0_targetOf yX0_targetOf, Cond.code yX0_targetOf cX0_targetOf 2 (some .int), Cond.fieldLink RX0 19 "ShardBallots" "targets" "[I"]
def wsX0_leave : List Cond := .code yX0_leave cX0_leave 3 (some .int) :: ((wsX0_leave_r1 ++ (wsX0_leave_r2 ++ wsX0_leave_r3)) ++ wsX00 ++ (vx_atS RX0 218 "java/lang/IndexOutOfBoundsException" ["java/lang/RuntimeException", "java/lang/Exception"]).filter goodWord ++ (vx_atS RX0 68 "java/lang/IllegalStateException" ["java/lang/RuntimeException", "java/lang/Exception"]).filter goodWord)
def wsX0_address_r1 : List Cond := [Cond.methodLink RX0 53 yX0_checkKey, Cond.static yX0_checkKey, Cond.initialized RX0, Cond.code yX0_checkKey cX0_checkKey 1 none, Cond.classLink RX0 214 "java/lang/IndexOutOfBoundsException", Cond.initialized "java/lang/IndexOutOfBoundsException", Cond.methodLink RX0 205 yX0_isKey, Cond.static yX0_isKey, Cond.code yX0_isKey cX0_isKey 1 (some .boolean), Cond.methodLink RX0 83 yX0_read, Cond.instanceMethod yX0_read, Cond.selects RX0 yX0_read yX0_read, Cond.code yX0_read cX0_read 2 (some .int), Cond.methodLink RX0 93 yX0_rangeHolding, Cond.instanceMethod yX0_rangeHolding, Cond.selects RX0 yX0_rangeHolding yX0_rangeHolding, Cond.code yX0_rangeHolding cX0_rangeHolding 4 (some .int), Cond.fieldLink RX0 49 "ShardBallots" "rangeCount" "I", Cond.methodLink RX0 96 yX0_lastKeyOf, Cond.instanceMethod yX0_lastKeyOf, Cond.selects RX0 yX0_lastKeyOf yX0_lastKeyOf, Cond.code yX0_lastKeyOf cX0_lastKeyOf 2 (some .int), Cond.fieldLink RX0 13 "ShardBallots" "lastKeys" "[I", Cond.methodLink RX0 117 yX0_isRange]
def wsX0_address_r2 : List Cond := [Cond.instanceMethod yX0_isRange, Cond.selects RX0 yX0_isRange yX0_isRange, Cond.code yX0_isRange cX0_isRange 2 (some .boolean), Cond.methodLink RX0 122 yX0_homeOf, Cond.instanceMethod yX0_homeOf, Cond.selects RX0 yX0_homeOf yX0_homeOf, Cond.code yX0_homeOf cX0_homeOf 2 (some .int), Cond.fieldLink RX0 16 "ShardBallots" "homes" "[I", Cond.methodLink RX0 152 yX0_rowOf, Cond.instanceMethod yX0_rowOf, Cond.selects RX0 yX0_rowOf yX0_rowOf, Cond.code yX0_rowOf cX0_rowOf 3 (some .int), Cond.fieldLink RX0 9 "ShardBallots" "rowTable" "[I", Cond.methodLink RX0 202 yX0_isShard, Cond.static yX0_isShard, Cond.code yX0_isShard cX0_isShard 1 (some .boolean)]
def wsX0_address : List Cond := .code yX0_address cX0_address 2 (some .int) :: ((wsX0_address_r1 ++ wsX0_address_r2) ++ wsX00 ++ (vx_atS RX0 218 "java/lang/IndexOutOfBoundsException" ["java/lang/RuntimeException", "java/lang/Exception"]).filter goodWord)
def wsX0_checkDistrict : List Cond := .code yX0_checkDistrict cX0_checkDistrict 1 none :: ([.classLink RX0 214 "java/lang/IndexOutOfBoundsException", .initialized "java/lang/IndexOutOfBoundsException"] ++ (vx_atS RX0 218 "java/lang/IndexOutOfBoundsException" ["java/lang/RuntimeException", "java/lang/Exception"]).filter goodWord)
def wsX0_districtOf : List Cond := .code yX0_districtOf cX0_districtOf 1 (some .int) :: ([])
def wsX0_inDistrict_r1 : List Cond := [Cond.methodLink RX0 87 yX0_checkDistrict, Cond.static yX0_checkDistrict, Cond.initialized RX0, Cond.code yX0_checkDistrict cX0_checkDistrict 1 none, Cond.classLink RX0 214 "java/lang/IndexOutOfBoundsException", Cond.initialized "java/lang/IndexOutOfBoundsException", Cond.methodLink RX0 83 yX0_read, Cond.instanceMethod yX0_read, Cond.selects RX0 yX0_read yX0_read, Cond.code yX0_read cX0_read 2 (some .int), Cond.methodLink RX0 93 yX0_rangeHolding, Cond.instanceMethod yX0_rangeHolding, Cond.selects RX0 yX0_rangeHolding yX0_rangeHolding, Cond.code yX0_rangeHolding cX0_rangeHolding 4 (some .int), Cond.fieldLink RX0 49 "ShardBallots" "rangeCount" "I", Cond.methodLink RX0 96 yX0_lastKeyOf, Cond.instanceMethod yX0_lastKeyOf, Cond.selects RX0 yX0_lastKeyOf yX0_lastKeyOf, Cond.code yX0_lastKeyOf cX0_lastKeyOf 2 (some .int), Cond.fieldLink RX0 13 "ShardBallots" "lastKeys" "[I", Cond.methodLink RX0 117 yX0_isRange, Cond.instanceMethod yX0_isRange, Cond.selects RX0 yX0_isRange yX0_isRange, Cond.code yX0_isRange cX0_isRange 2 (some .boolean)]
def wsX0_inDistrict_r2 : List Cond := [Cond.methodLink RX0 122 yX0_homeOf, Cond.instanceMethod yX0_homeOf, Cond.selects RX0 yX0_homeOf yX0_homeOf, Cond.code yX0_homeOf cX0_homeOf 2 (some .int), Cond.fieldLink RX0 16 "ShardBallots" "homes" "[I", Cond.methodLink RX0 152 yX0_rowOf, Cond.instanceMethod yX0_rowOf, Cond.selects RX0 yX0_rowOf yX0_rowOf, Cond.code yX0_rowOf cX0_rowOf 3 (some .int), Cond.fieldLink RX0 9 "ShardBallots" "rowTable" "[I", Cond.methodLink RX0 202 yX0_isShard, Cond.static yX0_isShard, Cond.code yX0_isShard cX0_isShard 1 (some .boolean), Cond.methodLink RX0 205 yX0_isKey, Cond.static yX0_isKey, Cond.code yX0_isKey cX0_isKey 1 (some .boolean), Cond.methodLink RX0 90 yX0_districtOf, Cond.static yX0_districtOf, Cond.code yX0_districtOf cX0_districtOf 1 (some .int)]
def wsX0_inDistrict : List Cond := .code yX0_inDistrict cX0_inDistrict 4 (some .int) :: ((wsX0_inDistrict_r1 ++ wsX0_inDistrict_r2) ++ wsX00 ++ (vx_atS RX0 218 "java/lang/IndexOutOfBoundsException" ["java/lang/RuntimeException", "java/lang/Exception"]).filter goodWord)
def wsX0_isMoved : List Cond := .code yX0_isMoved cX0_isMoved 2 (some .boolean) :: ([.methodLink RX0 208 yX0_targetOf, .instanceMethod yX0_targetOf, .selects RX0 yX0_targetOf yX0_targetOf, .initialized RX0, .code yX0_targetOf cX0_targetOf 2 (some .int), .fieldLink RX0 19 "ShardBallots" "targets" "[I", .methodLink RX0 117 yX0_isRange, .instanceMethod yX0_isRange, .selects RX0 yX0_isRange yX0_isRange, .code yX0_isRange cX0_isRange 2 (some .boolean), .fieldLink RX0 49 "ShardBallots" "rangeCount" "I"] ++ wsX00)
def wsX0_copyRange : List Cond := .code yX0_copyRange cX0_copyRange 3 none :: ([.fieldLink RX0 13 "ShardBallots" "lastKeys" "[I", .fieldLink RX0 16 "ShardBallots" "homes" "[I", .fieldLink RX0 19 "ShardBallots" "targets" "[I", .methodLink RX0 117 yX0_isRange, .instanceMethod yX0_isRange, .selects RX0 yX0_isRange yX0_isRange, .initialized RX0, .code yX0_isRange cX0_isRange 2 (some .boolean), .fieldLink RX0 49 "ShardBallots" "rangeCount" "I"] ++ wsX00)
def wsX0_insertCopyBehind : List Cond := .code yX0_insertCopyBehind cX0_insertCopyBehind 3 none :: ([.fieldLink RX0 49 "ShardBallots" "rangeCount" "I", .methodLink RX0 211 yX0_copyRange, .instanceMethod yX0_copyRange, .selects RX0 yX0_copyRange yX0_copyRange, .initialized RX0, .code yX0_copyRange cX0_copyRange 3 none, .fieldLink RX0 13 "ShardBallots" "lastKeys" "[I", .fieldLink RX0 16 "ShardBallots" "homes" "[I", .fieldLink RX0 19 "ShardBallots" "targets" "[I", .methodLink RX0 117 yX0_isRange, .instanceMethod yX0_isRange, .selects RX0 yX0_isRange yX0_isRange, .code yX0_isRange cX0_isRange 2 (some .boolean)] ++ wsX00)
def wsX0_putLastKey : List Cond := .code yX0_putLastKey cX0_putLastKey 3 none :: ([.fieldLink RX0 13 "ShardBallots" "lastKeys" "[I", .methodLink RX0 117 yX0_isRange, .instanceMethod yX0_isRange, .selects RX0 yX0_isRange yX0_isRange, .initialized RX0, .code yX0_isRange cX0_isRange 2 (some .boolean), .fieldLink RX0 49 "ShardBallots" "rangeCount" "I"] ++ wsX00)
def wsX0_split_r1 : List Cond := [Cond.classLink RX0 64 "java/lang/IllegalStateException", Cond.initialized "java/lang/IllegalStateException", Cond.fieldLink RX0 49 "ShardBallots" "rangeCount" "I", Cond.methodLink RX0 53 yX0_checkKey, Cond.static yX0_checkKey, Cond.initialized RX0, Cond.code yX0_checkKey cX0_checkKey 1 none, Cond.classLink RX0 214 "java/lang/IndexOutOfBoundsException", Cond.initialized "java/lang/IndexOutOfBoundsException", Cond.methodLink RX0 205 yX0_isKey, Cond.static yX0_isKey, Cond.code yX0_isKey cX0_isKey 1 (some .boolean), Cond.methodLink RX0 93 yX0_rangeHolding, Cond.instanceMethod yX0_rangeHolding, Cond.selects RX0 yX0_rangeHolding yX0_rangeHolding, Cond.code yX0_rangeHolding cX0_rangeHolding 4 (some .int), Cond.methodLink RX0 96 yX0_lastKeyOf, Cond.instanceMethod yX0_lastKeyOf, Cond.selects RX0 yX0_lastKeyOf yX0_lastKeyOf, Cond.code yX0_lastKeyOf cX0_lastKeyOf 2 (some .int), Cond.fieldLink RX0 13 "ShardBallots" "lastKeys" "[I", Cond.methodLink RX0 117 yX0_isRange, Cond.instanceMethod yX0_isRange, Cond.selects RX0 yX0_isRange yX0_isRange]
def wsX0_split_r2 : List Cond := [Cond.code yX0_isRange cX0_isRange 2 (some .boolean), Cond.methodLink RX0 101 yX0_isMoved, Cond.instanceMethod yX0_isMoved, Cond.selects RX0 yX0_isMoved yX0_isMoved, Cond.code yX0_isMoved cX0_isMoved 2 (some .boolean), Cond.methodLink RX0 208 yX0_targetOf, Cond.instanceMethod yX0_targetOf, Cond.selects RX0 yX0_targetOf yX0_targetOf, Cond.code yX0_targetOf cX0_targetOf 2 (some .int), Cond.fieldLink RX0 19 "ShardBallots" "targets" "[I", Cond.methodLink RX0 108 yX0_insertCopyBehind, Cond.instanceMethod yX0_insertCopyBehind, Cond.selects RX0 yX0_insertCopyBehind yX0_insertCopyBehind, Cond.code yX0_insertCopyBehind cX0_insertCopyBehind 3 none, Cond.methodLink RX0 211 yX0_copyRange, Cond.instanceMethod yX0_copyRange, Cond.selects RX0 yX0_copyRange yX0_copyRange, Cond.code yX0_copyRange cX0_copyRange 3 none, Cond.fieldLink RX0 16 "ShardBallots" "homes" "[I", Cond.methodLink RX0 111 yX0_putLastKey, Cond.instanceMethod yX0_putLastKey, Cond.selects RX0 yX0_putLastKey yX0_putLastKey, Cond.code yX0_putLastKey cX0_putLastKey 3 none]
def wsX0_split : List Cond := .code yX0_split cX0_split 3 (some .int) :: ((wsX0_split_r1 ++ wsX0_split_r2) ++ wsX00 ++ (vx_atS RX0 68 "java/lang/IllegalStateException" ["java/lang/RuntimeException", "java/lang/Exception"]).filter goodWord ++ (vx_atS RX0 218 "java/lang/IndexOutOfBoundsException" ["java/lang/RuntimeException", "java/lang/Exception"]).filter goodWord)
def wsX0_checkRange : List Cond := .code yX0_checkRange cX0_checkRange 2 none :: ([.classLink RX0 214 "java/lang/IndexOutOfBoundsException", .initialized "java/lang/IndexOutOfBoundsException", .methodLink RX0 117 yX0_isRange, .instanceMethod yX0_isRange, .selects RX0 yX0_isRange yX0_isRange, .initialized RX0, .code yX0_isRange cX0_isRange 2 (some .boolean), .fieldLink RX0 49 "ShardBallots" "rangeCount" "I"] ++ wsX00 ++ (vx_atS RX0 218 "java/lang/IndexOutOfBoundsException" ["java/lang/RuntimeException", "java/lang/Exception"]).filter goodWord)
def wsX0_remove : List Cond := .code yX0_remove cX0_remove 3 none :: ([.fieldLink RX0 49 "ShardBallots" "rangeCount" "I", .methodLink RX0 211 yX0_copyRange, .instanceMethod yX0_copyRange, .selects RX0 yX0_copyRange yX0_copyRange, .initialized RX0, .code yX0_copyRange cX0_copyRange 3 none, .fieldLink RX0 13 "ShardBallots" "lastKeys" "[I", .fieldLink RX0 16 "ShardBallots" "homes" "[I", .fieldLink RX0 19 "ShardBallots" "targets" "[I", .methodLink RX0 117 yX0_isRange, .instanceMethod yX0_isRange, .selects RX0 yX0_isRange yX0_isRange, .code yX0_isRange cX0_isRange 2 (some .boolean)] ++ wsX00)
def wsX0_merge_r1 : List Cond := [Cond.classLink RX0 64 "java/lang/IllegalStateException", Cond.initialized "java/lang/IllegalStateException", Cond.fieldLink RX0 49 "ShardBallots" "rangeCount" "I", Cond.methodLink RX0 114 yX0_checkRange, Cond.instanceMethod yX0_checkRange, Cond.selects RX0 yX0_checkRange yX0_checkRange, Cond.initialized RX0, Cond.code yX0_checkRange cX0_checkRange 2 none, Cond.classLink RX0 214 "java/lang/IndexOutOfBoundsException", Cond.initialized "java/lang/IndexOutOfBoundsException", Cond.methodLink RX0 117 yX0_isRange, Cond.instanceMethod yX0_isRange, Cond.selects RX0 yX0_isRange yX0_isRange, Cond.code yX0_isRange cX0_isRange 2 (some .boolean), Cond.methodLink RX0 122 yX0_homeOf, Cond.instanceMethod yX0_homeOf, Cond.selects RX0 yX0_homeOf yX0_homeOf, Cond.code yX0_homeOf cX0_homeOf 2 (some .int), Cond.fieldLink RX0 16 "ShardBallots" "homes" "[I", Cond.methodLink RX0 101 yX0_isMoved, Cond.instanceMethod yX0_isMoved, Cond.selects RX0 yX0_isMoved yX0_isMoved, Cond.code yX0_isMoved cX0_isMoved 2 (some .boolean), Cond.methodLink RX0 208 yX0_targetOf]
def wsX0_merge_r2 : List Cond := [Cond.instanceMethod yX0_targetOf, Cond.selects RX0 yX0_targetOf yX0_targetOf, Cond.code yX0_targetOf cX0_targetOf 2 (some .int), Cond.fieldLink RX0 19 "ShardBallots" "targets" "[I", Cond.methodLink RX0 129 yX0_remove, Cond.instanceMethod yX0_remove, Cond.selects RX0 yX0_remove yX0_remove, Cond.code yX0_remove cX0_remove 3 none, Cond.methodLink RX0 211 yX0_copyRange, Cond.instanceMethod yX0_copyRange, Cond.selects RX0 yX0_copyRange yX0_copyRange, Cond.code yX0_copyRange cX0_copyRange 3 none, Cond.fieldLink RX0 13 "ShardBallots" "lastKeys" "[I"]
def wsX0_merge : List Cond := .code yX0_merge cX0_merge 3 (some .int) :: ((wsX0_merge_r1 ++ wsX0_merge_r2) ++ wsX00 ++ (vx_atS RX0 68 "java/lang/IllegalStateException" ["java/lang/RuntimeException", "java/lang/Exception"]).filter goodWord ++ (vx_atS RX0 218 "java/lang/IndexOutOfBoundsException" ["java/lang/RuntimeException", "java/lang/Exception"]).filter goodWord)
def wsX0_checkShard : List Cond := .code yX0_checkShard cX0_checkShard 1 none :: ([.classLink RX0 214 "java/lang/IndexOutOfBoundsException", .initialized "java/lang/IndexOutOfBoundsException", .methodLink RX0 202 yX0_isShard, .static yX0_isShard, .initialized RX0, .code yX0_isShard cX0_isShard 1 (some .boolean)] ++ (vx_atS RX0 218 "java/lang/IndexOutOfBoundsException" ["java/lang/RuntimeException", "java/lang/Exception"]).filter goodWord)
def wsX0_firstKeyOf : List Cond := .code yX0_firstKeyOf cX0_firstKeyOf 2 (some .int) :: ([.methodLink RX0 96 yX0_lastKeyOf, .instanceMethod yX0_lastKeyOf, .selects RX0 yX0_lastKeyOf yX0_lastKeyOf, .initialized RX0, .code yX0_lastKeyOf cX0_lastKeyOf 2 (some .int), .fieldLink RX0 13 "ShardBallots" "lastKeys" "[I", .methodLink RX0 117 yX0_isRange, .instanceMethod yX0_isRange, .selects RX0 yX0_isRange yX0_isRange, .code yX0_isRange cX0_isRange 2 (some .boolean), .fieldLink RX0 49 "ShardBallots" "rangeCount" "I"] ++ wsX00)
def wsX0_countRows : List Cond := .code yX0_countRows cX0_countRows 6 (some .int) :: ([.methodLink RX0 152 yX0_rowOf, .instanceMethod yX0_rowOf, .selects RX0 yX0_rowOf yX0_rowOf, .initialized RX0, .code yX0_rowOf cX0_rowOf 3 (some .int), .fieldLink RX0 9 "ShardBallots" "rowTable" "[I", .methodLink RX0 202 yX0_isShard, .static yX0_isShard, .code yX0_isShard cX0_isShard 1 (some .boolean), .methodLink RX0 205 yX0_isKey, .static yX0_isKey, .code yX0_isKey cX0_isKey 1 (some .boolean)] ++ wsX00)
def wsX0_move_r1 : List Cond := [Cond.classLink RX0 64 "java/lang/IllegalStateException", Cond.initialized "java/lang/IllegalStateException", Cond.fieldLink RX0 16 "ShardBallots" "homes" "[I", Cond.fieldLink RX0 19 "ShardBallots" "targets" "[I", Cond.methodLink RX0 114 yX0_checkRange, Cond.instanceMethod yX0_checkRange, Cond.selects RX0 yX0_checkRange yX0_checkRange, Cond.initialized RX0, Cond.code yX0_checkRange cX0_checkRange 2 none, Cond.classLink RX0 214 "java/lang/IndexOutOfBoundsException", Cond.initialized "java/lang/IndexOutOfBoundsException", Cond.methodLink RX0 117 yX0_isRange, Cond.instanceMethod yX0_isRange, Cond.selects RX0 yX0_isRange yX0_isRange, Cond.code yX0_isRange cX0_isRange 2 (some .boolean), Cond.fieldLink RX0 49 "ShardBallots" "rangeCount" "I", Cond.methodLink RX0 132 yX0_checkShard, Cond.static yX0_checkShard, Cond.code yX0_checkShard cX0_checkShard 1 none, Cond.methodLink RX0 202 yX0_isShard, Cond.static yX0_isShard, Cond.code yX0_isShard cX0_isShard 1 (some .boolean), Cond.methodLink RX0 101 yX0_isMoved, Cond.instanceMethod yX0_isMoved]
def wsX0_move_r2 : List Cond := [Cond.selects RX0 yX0_isMoved yX0_isMoved, Cond.code yX0_isMoved cX0_isMoved 2 (some .boolean), Cond.methodLink RX0 208 yX0_targetOf, Cond.instanceMethod yX0_targetOf, Cond.selects RX0 yX0_targetOf yX0_targetOf, Cond.code yX0_targetOf cX0_targetOf 2 (some .int), Cond.methodLink RX0 139 yX0_firstKeyOf, Cond.instanceMethod yX0_firstKeyOf, Cond.selects RX0 yX0_firstKeyOf yX0_firstKeyOf, Cond.code yX0_firstKeyOf cX0_firstKeyOf 2 (some .int), Cond.methodLink RX0 96 yX0_lastKeyOf, Cond.instanceMethod yX0_lastKeyOf, Cond.selects RX0 yX0_lastKeyOf yX0_lastKeyOf, Cond.code yX0_lastKeyOf cX0_lastKeyOf 2 (some .int), Cond.fieldLink RX0 13 "ShardBallots" "lastKeys" "[I", Cond.methodLink RX0 142 yX0_countRows, Cond.instanceMethod yX0_countRows, Cond.selects RX0 yX0_countRows yX0_countRows, Cond.code yX0_countRows cX0_countRows 6 (some .int), Cond.methodLink RX0 152 yX0_rowOf, Cond.instanceMethod yX0_rowOf, Cond.selects RX0 yX0_rowOf yX0_rowOf, Cond.code yX0_rowOf cX0_rowOf 3 (some .int), Cond.fieldLink RX0 9 "ShardBallots" "rowTable" "[I"]
def wsX0_move_r3 : List Cond := [Cond.methodLink RX0 205 yX0_isKey, Cond.static yX0_isKey, Cond.code yX0_isKey cX0_isKey 1 (some .boolean)]
def wsX0_move : List Cond := .code yX0_move cX0_move 3 (some .int) :: ((wsX0_move_r1 ++ (wsX0_move_r2 ++ wsX0_move_r3)) ++ wsX00 ++ (vx_atS RX0 68 "java/lang/IllegalStateException" ["java/lang/RuntimeException", "java/lang/Exception"]).filter goodWord ++ (vx_atS RX0 218 "java/lang/IndexOutOfBoundsException" ["java/lang/RuntimeException", "java/lang/Exception"]).filter goodWord)
def wsX0_checkMoved : List Cond := .code yX0_checkMoved cX0_checkMoved 2 none :: ([.classLink RX0 64 "java/lang/IllegalStateException", .initialized "java/lang/IllegalStateException", .methodLink RX0 101 yX0_isMoved, .instanceMethod yX0_isMoved, .selects RX0 yX0_isMoved yX0_isMoved, .initialized RX0, .code yX0_isMoved cX0_isMoved 2 (some .boolean), .methodLink RX0 208 yX0_targetOf, .instanceMethod yX0_targetOf, .selects RX0 yX0_targetOf yX0_targetOf, .code yX0_targetOf cX0_targetOf 2 (some .int), .fieldLink RX0 19 "ShardBallots" "targets" "[I", .methodLink RX0 117 yX0_isRange, .instanceMethod yX0_isRange, .selects RX0 yX0_isRange yX0_isRange, .code yX0_isRange cX0_isRange 2 (some .boolean), .fieldLink RX0 49 "ShardBallots" "rangeCount" "I"] ++ wsX00 ++ (vx_atS RX0 68 "java/lang/IllegalStateException" ["java/lang/RuntimeException", "java/lang/Exception"]).filter goodWord)
def wsX0_lowestKeyNotBrought_r1 : List Cond := [Cond.methodLink RX0 122 yX0_homeOf, Cond.instanceMethod yX0_homeOf, Cond.selects RX0 yX0_homeOf yX0_homeOf, Cond.initialized RX0, Cond.code yX0_homeOf cX0_homeOf 2 (some .int), Cond.fieldLink RX0 16 "ShardBallots" "homes" "[I", Cond.methodLink RX0 117 yX0_isRange, Cond.instanceMethod yX0_isRange, Cond.selects RX0 yX0_isRange yX0_isRange, Cond.code yX0_isRange cX0_isRange 2 (some .boolean), Cond.fieldLink RX0 49 "ShardBallots" "rangeCount" "I", Cond.methodLink RX0 208 yX0_targetOf, Cond.instanceMethod yX0_targetOf, Cond.selects RX0 yX0_targetOf yX0_targetOf, Cond.code yX0_targetOf cX0_targetOf 2 (some .int), Cond.fieldLink RX0 19 "ShardBallots" "targets" "[I", Cond.methodLink RX0 96 yX0_lastKeyOf, Cond.instanceMethod yX0_lastKeyOf, Cond.selects RX0 yX0_lastKeyOf yX0_lastKeyOf, Cond.code yX0_lastKeyOf cX0_lastKeyOf 2 (some .int), Cond.fieldLink RX0 13 "ShardBallots" "lastKeys" "[I", Cond.methodLink RX0 139 yX0_firstKeyOf, Cond.instanceMethod yX0_firstKeyOf, Cond.selects RX0 yX0_firstKeyOf yX0_firstKeyOf]
def wsX0_lowestKeyNotBrought_r2 : List Cond := [Cond.code yX0_firstKeyOf cX0_firstKeyOf 2 (some .int), Cond.methodLink RX0 152 yX0_rowOf, Cond.instanceMethod yX0_rowOf, Cond.selects RX0 yX0_rowOf yX0_rowOf, Cond.code yX0_rowOf cX0_rowOf 3 (some .int), Cond.fieldLink RX0 9 "ShardBallots" "rowTable" "[I", Cond.methodLink RX0 202 yX0_isShard, Cond.static yX0_isShard, Cond.code yX0_isShard cX0_isShard 1 (some .boolean), Cond.methodLink RX0 205 yX0_isKey, Cond.static yX0_isKey, Cond.code yX0_isKey cX0_isKey 1 (some .boolean)]
def wsX0_lowestKeyNotBrought : List Cond := .code yX0_lowestKeyNotBrought cX0_lowestKeyNotBrought 6 (some .int) :: ((wsX0_lowestKeyNotBrought_r1 ++ wsX0_lowestKeyNotBrought_r2) ++ wsX00)
def wsX0_dropRows_r1 : List Cond := [Cond.methodLink RX0 96 yX0_lastKeyOf, Cond.instanceMethod yX0_lastKeyOf, Cond.selects RX0 yX0_lastKeyOf yX0_lastKeyOf, Cond.initialized RX0, Cond.code yX0_lastKeyOf cX0_lastKeyOf 2 (some .int), Cond.fieldLink RX0 13 "ShardBallots" "lastKeys" "[I", Cond.methodLink RX0 117 yX0_isRange, Cond.instanceMethod yX0_isRange, Cond.selects RX0 yX0_isRange yX0_isRange, Cond.code yX0_isRange cX0_isRange 2 (some .boolean), Cond.fieldLink RX0 49 "ShardBallots" "rangeCount" "I", Cond.methodLink RX0 139 yX0_firstKeyOf, Cond.instanceMethod yX0_firstKeyOf, Cond.selects RX0 yX0_firstKeyOf yX0_firstKeyOf, Cond.code yX0_firstKeyOf cX0_firstKeyOf 2 (some .int), Cond.methodLink RX0 156 yX0_putRow, Cond.instanceMethod yX0_putRow, Cond.selects RX0 yX0_putRow yX0_putRow, Cond.code yX0_putRow cX0_putRow 4 none, Cond.fieldLink RX0 9 "ShardBallots" "rowTable" "[I", Cond.methodLink RX0 202 yX0_isShard, Cond.static yX0_isShard, Cond.code yX0_isShard cX0_isShard 1 (some .boolean), Cond.methodLink RX0 205 yX0_isKey]
def wsX0_dropRows_r2 : List Cond := [Cond.static yX0_isKey, Cond.code yX0_isKey cX0_isKey 1 (some .boolean)]
def wsX0_dropRows : List Cond := .code yX0_dropRows cX0_dropRows 5 none :: ((wsX0_dropRows_r1 ++ wsX0_dropRows_r2) ++ wsX00)
def wsX0_step_r1 : List Cond := [Cond.fieldLink RX0 16 "ShardBallots" "homes" "[I", Cond.fieldLink RX0 19 "ShardBallots" "targets" "[I", Cond.methodLink RX0 114 yX0_checkRange, Cond.instanceMethod yX0_checkRange, Cond.selects RX0 yX0_checkRange yX0_checkRange, Cond.initialized RX0, Cond.code yX0_checkRange cX0_checkRange 2 none, Cond.classLink RX0 214 "java/lang/IndexOutOfBoundsException", Cond.initialized "java/lang/IndexOutOfBoundsException", Cond.methodLink RX0 117 yX0_isRange, Cond.instanceMethod yX0_isRange, Cond.selects RX0 yX0_isRange yX0_isRange, Cond.code yX0_isRange cX0_isRange 2 (some .boolean), Cond.fieldLink RX0 49 "ShardBallots" "rangeCount" "I", Cond.methodLink RX0 146 yX0_checkMoved, Cond.instanceMethod yX0_checkMoved, Cond.selects RX0 yX0_checkMoved yX0_checkMoved, Cond.code yX0_checkMoved cX0_checkMoved 2 none, Cond.classLink RX0 64 "java/lang/IllegalStateException", Cond.initialized "java/lang/IllegalStateException", Cond.methodLink RX0 101 yX0_isMoved, Cond.instanceMethod yX0_isMoved, Cond.selects RX0 yX0_isMoved yX0_isMoved, Cond.code yX0_isMoved cX0_isMoved 2 (some .boolean)]
def wsX0_step_r2 : List Cond := [Cond.methodLink RX0 208 yX0_targetOf, Cond.instanceMethod yX0_targetOf, Cond.selects RX0 yX0_targetOf yX0_targetOf, Cond.code yX0_targetOf cX0_targetOf 2 (some .int), Cond.methodLink RX0 149 yX0_lowestKeyNotBrought, Cond.instanceMethod yX0_lowestKeyNotBrought, Cond.selects RX0 yX0_lowestKeyNotBrought yX0_lowestKeyNotBrought, Cond.code yX0_lowestKeyNotBrought cX0_lowestKeyNotBrought 6 (some .int), Cond.methodLink RX0 122 yX0_homeOf, Cond.instanceMethod yX0_homeOf, Cond.selects RX0 yX0_homeOf yX0_homeOf, Cond.code yX0_homeOf cX0_homeOf 2 (some .int), Cond.methodLink RX0 96 yX0_lastKeyOf, Cond.instanceMethod yX0_lastKeyOf, Cond.selects RX0 yX0_lastKeyOf yX0_lastKeyOf, Cond.code yX0_lastKeyOf cX0_lastKeyOf 2 (some .int), Cond.fieldLink RX0 13 "ShardBallots" "lastKeys" "[I", Cond.methodLink RX0 139 yX0_firstKeyOf, Cond.instanceMethod yX0_firstKeyOf, Cond.selects RX0 yX0_firstKeyOf yX0_firstKeyOf, Cond.code yX0_firstKeyOf cX0_firstKeyOf 2 (some .int), Cond.methodLink RX0 152 yX0_rowOf, Cond.instanceMethod yX0_rowOf, Cond.selects RX0 yX0_rowOf yX0_rowOf]
def wsX0_step_r3 : List Cond := [Cond.code yX0_rowOf cX0_rowOf 3 (some .int), Cond.fieldLink RX0 9 "ShardBallots" "rowTable" "[I", Cond.methodLink RX0 202 yX0_isShard, Cond.static yX0_isShard, Cond.code yX0_isShard cX0_isShard 1 (some .boolean), Cond.methodLink RX0 205 yX0_isKey, Cond.static yX0_isKey, Cond.code yX0_isKey cX0_isKey 1 (some .boolean), Cond.methodLink RX0 156 yX0_putRow, Cond.instanceMethod yX0_putRow, Cond.selects RX0 yX0_putRow yX0_putRow, Cond.code yX0_putRow cX0_putRow 4 none, Cond.methodLink RX0 160 yX0_dropRows, Cond.instanceMethod yX0_dropRows, Cond.selects RX0 yX0_dropRows yX0_dropRows, Cond.code yX0_dropRows cX0_dropRows 5 none]
def wsX0_step : List Cond := .code yX0_step cX0_step 5 (some .int) :: ((wsX0_step_r1 ++ (wsX0_step_r2 ++ wsX0_step_r3)) ++ wsX00 ++ (vx_atS RX0 218 "java/lang/IndexOutOfBoundsException" ["java/lang/RuntimeException", "java/lang/Exception"]).filter goodWord ++ (vx_atS RX0 68 "java/lang/IllegalStateException" ["java/lang/RuntimeException", "java/lang/Exception"]).filter goodWord)
def wsX0_giveUp_r1 : List Cond := [Cond.fieldLink RX0 19 "ShardBallots" "targets" "[I", Cond.methodLink RX0 114 yX0_checkRange, Cond.instanceMethod yX0_checkRange, Cond.selects RX0 yX0_checkRange yX0_checkRange, Cond.initialized RX0, Cond.code yX0_checkRange cX0_checkRange 2 none, Cond.classLink RX0 214 "java/lang/IndexOutOfBoundsException", Cond.initialized "java/lang/IndexOutOfBoundsException", Cond.methodLink RX0 117 yX0_isRange, Cond.instanceMethod yX0_isRange, Cond.selects RX0 yX0_isRange yX0_isRange, Cond.code yX0_isRange cX0_isRange 2 (some .boolean), Cond.fieldLink RX0 49 "ShardBallots" "rangeCount" "I", Cond.methodLink RX0 146 yX0_checkMoved, Cond.instanceMethod yX0_checkMoved, Cond.selects RX0 yX0_checkMoved yX0_checkMoved, Cond.code yX0_checkMoved cX0_checkMoved 2 none, Cond.classLink RX0 64 "java/lang/IllegalStateException", Cond.initialized "java/lang/IllegalStateException", Cond.methodLink RX0 101 yX0_isMoved, Cond.instanceMethod yX0_isMoved, Cond.selects RX0 yX0_isMoved yX0_isMoved, Cond.code yX0_isMoved cX0_isMoved 2 (some .boolean), Cond.methodLink RX0 208 yX0_targetOf]
def wsX0_giveUp_r2 : List Cond := [Cond.instanceMethod yX0_targetOf, Cond.selects RX0 yX0_targetOf yX0_targetOf, Cond.code yX0_targetOf cX0_targetOf 2 (some .int), Cond.methodLink RX0 139 yX0_firstKeyOf, Cond.instanceMethod yX0_firstKeyOf, Cond.selects RX0 yX0_firstKeyOf yX0_firstKeyOf, Cond.code yX0_firstKeyOf cX0_firstKeyOf 2 (some .int), Cond.methodLink RX0 96 yX0_lastKeyOf, Cond.instanceMethod yX0_lastKeyOf, Cond.selects RX0 yX0_lastKeyOf yX0_lastKeyOf, Cond.code yX0_lastKeyOf cX0_lastKeyOf 2 (some .int), Cond.fieldLink RX0 13 "ShardBallots" "lastKeys" "[I", Cond.methodLink RX0 142 yX0_countRows, Cond.instanceMethod yX0_countRows, Cond.selects RX0 yX0_countRows yX0_countRows, Cond.code yX0_countRows cX0_countRows 6 (some .int), Cond.methodLink RX0 152 yX0_rowOf, Cond.instanceMethod yX0_rowOf, Cond.selects RX0 yX0_rowOf yX0_rowOf, Cond.code yX0_rowOf cX0_rowOf 3 (some .int), Cond.fieldLink RX0 9 "ShardBallots" "rowTable" "[I", Cond.methodLink RX0 202 yX0_isShard, Cond.static yX0_isShard, Cond.code yX0_isShard cX0_isShard 1 (some .boolean)]
def wsX0_giveUp_r3 : List Cond := [Cond.methodLink RX0 205 yX0_isKey, Cond.static yX0_isKey, Cond.code yX0_isKey cX0_isKey 1 (some .boolean), Cond.methodLink RX0 160 yX0_dropRows, Cond.instanceMethod yX0_dropRows, Cond.selects RX0 yX0_dropRows yX0_dropRows, Cond.code yX0_dropRows cX0_dropRows 5 none, Cond.methodLink RX0 156 yX0_putRow, Cond.instanceMethod yX0_putRow, Cond.selects RX0 yX0_putRow yX0_putRow, Cond.code yX0_putRow cX0_putRow 4 none]
def wsX0_giveUp : List Cond := .code yX0_giveUp cX0_giveUp 4 (some .int) :: ((wsX0_giveUp_r1 ++ (wsX0_giveUp_r2 ++ wsX0_giveUp_r3)) ++ wsX00 ++ (vx_atS RX0 218 "java/lang/IndexOutOfBoundsException" ["java/lang/RuntimeException", "java/lang/Exception"]).filter goodWord ++ (vx_atS RX0 68 "java/lang/IllegalStateException" ["java/lang/RuntimeException", "java/lang/Exception"]).filter goodWord)
def wsX0_ranges : List Cond := .code yX0_ranges cX0_ranges 1 (some .int) :: ([.fieldLink RX0 49 "ShardBallots" "rangeCount" "I"] ++ wsX00)
def wsX0_rangeOf : List Cond := .code yX0_rangeOf cX0_rangeOf 2 (some .int) :: ([.methodLink RX0 53 yX0_checkKey, .static yX0_checkKey, .initialized RX0, .code yX0_checkKey cX0_checkKey 1 none, .classLink RX0 214 "java/lang/IndexOutOfBoundsException", .initialized "java/lang/IndexOutOfBoundsException", .methodLink RX0 205 yX0_isKey, .static yX0_isKey, .code yX0_isKey cX0_isKey 1 (some .boolean), .methodLink RX0 93 yX0_rangeHolding, .instanceMethod yX0_rangeHolding, .selects RX0 yX0_rangeHolding yX0_rangeHolding, .code yX0_rangeHolding cX0_rangeHolding 4 (some .int), .fieldLink RX0 49 "ShardBallots" "rangeCount" "I", .methodLink RX0 96 yX0_lastKeyOf, .instanceMethod yX0_lastKeyOf, .selects RX0 yX0_lastKeyOf yX0_lastKeyOf, .code yX0_lastKeyOf cX0_lastKeyOf 2 (some .int), .fieldLink RX0 13 "ShardBallots" "lastKeys" "[I", .methodLink RX0 117 yX0_isRange, .instanceMethod yX0_isRange, .selects RX0 yX0_isRange yX0_isRange, .code yX0_isRange cX0_isRange 2 (some .boolean)] ++ wsX00 ++ (vx_atS RX0 218 "java/lang/IndexOutOfBoundsException" ["java/lang/RuntimeException", "java/lang/Exception"]).filter goodWord)
def wsX0_shardOf : List Cond := .code yX0_shardOf cX0_shardOf 2 (some .int) :: ([.fieldLink RX0 16 "ShardBallots" "homes" "[I", .methodLink RX0 114 yX0_checkRange, .instanceMethod yX0_checkRange, .selects RX0 yX0_checkRange yX0_checkRange, .initialized RX0, .code yX0_checkRange cX0_checkRange 2 none, .classLink RX0 214 "java/lang/IndexOutOfBoundsException", .initialized "java/lang/IndexOutOfBoundsException", .methodLink RX0 117 yX0_isRange, .instanceMethod yX0_isRange, .selects RX0 yX0_isRange yX0_isRange, .code yX0_isRange cX0_isRange 2 (some .boolean), .fieldLink RX0 49 "ShardBallots" "rangeCount" "I"] ++ wsX00 ++ (vx_atS RX0 218 "java/lang/IndexOutOfBoundsException" ["java/lang/RuntimeException", "java/lang/Exception"]).filter goodWord)
def wsX0_rows : List Cond := .code yX0_rows cX0_rows 2 (some .int) :: ([.methodLink RX0 132 yX0_checkShard, .static yX0_checkShard, .initialized RX0, .code yX0_checkShard cX0_checkShard 1 none, .classLink RX0 214 "java/lang/IndexOutOfBoundsException", .initialized "java/lang/IndexOutOfBoundsException", .methodLink RX0 202 yX0_isShard, .static yX0_isShard, .code yX0_isShard cX0_isShard 1 (some .boolean), .methodLink RX0 142 yX0_countRows, .instanceMethod yX0_countRows, .selects RX0 yX0_countRows yX0_countRows, .code yX0_countRows cX0_countRows 6 (some .int), .methodLink RX0 152 yX0_rowOf, .instanceMethod yX0_rowOf, .selects RX0 yX0_rowOf yX0_rowOf, .code yX0_rowOf cX0_rowOf 3 (some .int), .fieldLink RX0 9 "ShardBallots" "rowTable" "[I", .methodLink RX0 205 yX0_isKey, .static yX0_isKey, .code yX0_isKey cX0_isKey 1 (some .boolean)] ++ wsX00 ++ (vx_atS RX0 218 "java/lang/IndexOutOfBoundsException" ["java/lang/RuntimeException", "java/lang/Exception"]).filter goodWord)
def wsX0_fix_r1 : List Cond := [Cond.classLink RX0 64 "java/lang/IllegalStateException", Cond.initialized "java/lang/IllegalStateException", Cond.fieldLink RX0 163 "ShardBallots" "rollLaid" "Z", Cond.fieldLink RX0 22 "ShardBallots" "roll" "[I", Cond.fieldLink RX0 169 "ShardBallots" "voteNumber" "I", Cond.fieldLink RX0 71 "ShardBallots" "memberCount" "I", Cond.methodLink RX0 83 yX0_read, Cond.instanceMethod yX0_read, Cond.selects RX0 yX0_read yX0_read, Cond.initialized RX0, Cond.code yX0_read cX0_read 2 (some .int), Cond.methodLink RX0 93 yX0_rangeHolding, Cond.instanceMethod yX0_rangeHolding, Cond.selects RX0 yX0_rangeHolding yX0_rangeHolding, Cond.code yX0_rangeHolding cX0_rangeHolding 4 (some .int), Cond.fieldLink RX0 49 "ShardBallots" "rangeCount" "I", Cond.methodLink RX0 96 yX0_lastKeyOf, Cond.instanceMethod yX0_lastKeyOf, Cond.selects RX0 yX0_lastKeyOf yX0_lastKeyOf, Cond.code yX0_lastKeyOf cX0_lastKeyOf 2 (some .int), Cond.fieldLink RX0 13 "ShardBallots" "lastKeys" "[I", Cond.methodLink RX0 117 yX0_isRange, Cond.instanceMethod yX0_isRange, Cond.selects RX0 yX0_isRange yX0_isRange]
def wsX0_fix_r2 : List Cond := [Cond.code yX0_isRange cX0_isRange 2 (some .boolean), Cond.methodLink RX0 122 yX0_homeOf, Cond.instanceMethod yX0_homeOf, Cond.selects RX0 yX0_homeOf yX0_homeOf, Cond.code yX0_homeOf cX0_homeOf 2 (some .int), Cond.fieldLink RX0 16 "ShardBallots" "homes" "[I", Cond.methodLink RX0 152 yX0_rowOf, Cond.instanceMethod yX0_rowOf, Cond.selects RX0 yX0_rowOf yX0_rowOf, Cond.code yX0_rowOf cX0_rowOf 3 (some .int), Cond.fieldLink RX0 9 "ShardBallots" "rowTable" "[I", Cond.methodLink RX0 202 yX0_isShard, Cond.static yX0_isShard, Cond.code yX0_isShard cX0_isShard 1 (some .boolean), Cond.methodLink RX0 205 yX0_isKey, Cond.static yX0_isKey, Cond.code yX0_isKey cX0_isKey 1 (some .boolean), Cond.methodLink RX0 90 yX0_districtOf, Cond.static yX0_districtOf, Cond.code yX0_districtOf cX0_districtOf 1 (some .int)]
def wsX0_fix : List Cond := .code yX0_fix cX0_fix 2 (some .int) :: ((wsX0_fix_r1 ++ wsX0_fix_r2) ++ wsX00 ++ (vx_atS RX0 68 "java/lang/IllegalStateException" ["java/lang/RuntimeException", "java/lang/Exception"]).filter goodWord)
def wsX0_onRoll : List Cond := .code yX0_onRoll cX0_onRoll 2 (some .int) :: ([.fieldLink RX0 163 "ShardBallots" "rollLaid" "Z", .fieldLink RX0 22 "ShardBallots" "roll" "[I", .methodLink RX0 53 yX0_checkKey, .static yX0_checkKey, .initialized RX0, .code yX0_checkKey cX0_checkKey 1 none, .classLink RX0 214 "java/lang/IndexOutOfBoundsException", .initialized "java/lang/IndexOutOfBoundsException", .methodLink RX0 205 yX0_isKey, .static yX0_isKey, .code yX0_isKey cX0_isKey 1 (some .boolean)] ++ wsX00 ++ (vx_atS RX0 218 "java/lang/IndexOutOfBoundsException" ["java/lang/RuntimeException", "java/lang/Exception"]).filter goodWord)
def wsX0_isBallot : List Cond := .code yX0_isBallot cX0_isBallot 2 (some .boolean) :: ([.fieldLink RX0 182 "ShardBallots" "ballotCount" "I"] ++ wsX00)
def wsX0_isOfOpenVote : List Cond := .code yX0_isOfOpenVote cX0_isOfOpenVote 2 (some .boolean) :: ([.fieldLink RX0 163 "ShardBallots" "rollLaid" "Z", .fieldLink RX0 28 "ShardBallots" "ballotVotes" "[I", .fieldLink RX0 169 "ShardBallots" "voteNumber" "I", .methodLink RX0 177 yX0_isBallot, .instanceMethod yX0_isBallot, .selects RX0 yX0_isBallot yX0_isBallot, .initialized RX0, .code yX0_isBallot cX0_isBallot 2 (some .boolean), .fieldLink RX0 182 "ShardBallots" "ballotCount" "I"] ++ wsX00)
def wsX0_latestBallotTo : List Cond := .code yX0_latestBallotTo cX0_latestBallotTo 3 (some .int) :: ([.fieldLink RX0 182 "ShardBallots" "ballotCount" "I", .fieldLink RX0 25 "ShardBallots" "ballotKeys" "[I", .methodLink RX0 195 yX0_isOfOpenVote, .instanceMethod yX0_isOfOpenVote, .selects RX0 yX0_isOfOpenVote yX0_isOfOpenVote, .initialized RX0, .code yX0_isOfOpenVote cX0_isOfOpenVote 2 (some .boolean), .fieldLink RX0 163 "ShardBallots" "rollLaid" "Z", .fieldLink RX0 28 "ShardBallots" "ballotVotes" "[I", .fieldLink RX0 169 "ShardBallots" "voteNumber" "I", .methodLink RX0 177 yX0_isBallot, .instanceMethod yX0_isBallot, .selects RX0 yX0_isBallot yX0_isBallot, .code yX0_isBallot cX0_isBallot 2 (some .boolean)] ++ wsX00)
def wsX0_send_r1 : List Cond := [Cond.classLink RX0 64 "java/lang/IllegalStateException", Cond.initialized "java/lang/IllegalStateException", Cond.fieldLink RX0 163 "ShardBallots" "rollLaid" "Z", Cond.fieldLink RX0 22 "ShardBallots" "roll" "[I", Cond.fieldLink RX0 37 "ShardBallots" "ballotStates" "[I", Cond.fieldLink RX0 182 "ShardBallots" "ballotCount" "I", Cond.fieldLink RX0 25 "ShardBallots" "ballotKeys" "[I", Cond.fieldLink RX0 28 "ShardBallots" "ballotVotes" "[I", Cond.fieldLink RX0 169 "ShardBallots" "voteNumber" "I", Cond.fieldLink RX0 31 "ShardBallots" "ballotAddresses" "[I", Cond.fieldLink RX0 34 "ShardBallots" "ballotDistricts" "[I", Cond.methodLink RX0 53 yX0_checkKey, Cond.static yX0_checkKey, Cond.initialized RX0, Cond.code yX0_checkKey cX0_checkKey 1 none, Cond.classLink RX0 214 "java/lang/IndexOutOfBoundsException", Cond.initialized "java/lang/IndexOutOfBoundsException", Cond.methodLink RX0 205 yX0_isKey, Cond.static yX0_isKey, Cond.code yX0_isKey cX0_isKey 1 (some .boolean), Cond.methodLink RX0 80 yX0_checkMember, Cond.instanceMethod yX0_checkMember, Cond.selects RX0 yX0_checkMember yX0_checkMember, Cond.code yX0_checkMember cX0_checkMember 2 none]
def wsX0_send_r2 : List Cond := [Cond.methodLink RX0 60 yX0_isMember, Cond.instanceMethod yX0_isMember, Cond.selects RX0 yX0_isMember yX0_isMember, Cond.code yX0_isMember cX0_isMember 2 (some .boolean), Cond.methodLink RX0 83 yX0_read, Cond.instanceMethod yX0_read, Cond.selects RX0 yX0_read yX0_read, Cond.code yX0_read cX0_read 2 (some .int), Cond.methodLink RX0 93 yX0_rangeHolding, Cond.instanceMethod yX0_rangeHolding, Cond.selects RX0 yX0_rangeHolding yX0_rangeHolding, Cond.code yX0_rangeHolding cX0_rangeHolding 4 (some .int), Cond.fieldLink RX0 49 "ShardBallots" "rangeCount" "I", Cond.methodLink RX0 96 yX0_lastKeyOf, Cond.instanceMethod yX0_lastKeyOf, Cond.selects RX0 yX0_lastKeyOf yX0_lastKeyOf, Cond.code yX0_lastKeyOf cX0_lastKeyOf 2 (some .int), Cond.fieldLink RX0 13 "ShardBallots" "lastKeys" "[I", Cond.methodLink RX0 117 yX0_isRange, Cond.instanceMethod yX0_isRange, Cond.selects RX0 yX0_isRange yX0_isRange, Cond.code yX0_isRange cX0_isRange 2 (some .boolean), Cond.methodLink RX0 122 yX0_homeOf, Cond.instanceMethod yX0_homeOf]
def wsX0_send_r3 : List Cond := [Cond.selects RX0 yX0_homeOf yX0_homeOf, Cond.code yX0_homeOf cX0_homeOf 2 (some .int), Cond.fieldLink RX0 16 "ShardBallots" "homes" "[I", Cond.methodLink RX0 152 yX0_rowOf, Cond.instanceMethod yX0_rowOf, Cond.selects RX0 yX0_rowOf yX0_rowOf, Cond.code yX0_rowOf cX0_rowOf 3 (some .int), Cond.fieldLink RX0 9 "ShardBallots" "rowTable" "[I", Cond.methodLink RX0 202 yX0_isShard, Cond.static yX0_isShard, Cond.code yX0_isShard cX0_isShard 1 (some .boolean), Cond.methodLink RX0 174 yX0_latestBallotTo, Cond.instanceMethod yX0_latestBallotTo, Cond.selects RX0 yX0_latestBallotTo yX0_latestBallotTo, Cond.code yX0_latestBallotTo cX0_latestBallotTo 3 (some .int), Cond.methodLink RX0 195 yX0_isOfOpenVote, Cond.instanceMethod yX0_isOfOpenVote, Cond.selects RX0 yX0_isOfOpenVote yX0_isOfOpenVote, Cond.code yX0_isOfOpenVote cX0_isOfOpenVote 2 (some .boolean), Cond.methodLink RX0 177 yX0_isBallot, Cond.instanceMethod yX0_isBallot, Cond.selects RX0 yX0_isBallot yX0_isBallot, Cond.code yX0_isBallot cX0_isBallot 2 (some .boolean)]
def wsX0_send : List Cond := .code yX0_send cX0_send 4 (some .int) :: ((wsX0_send_r1 ++ (wsX0_send_r2 ++ wsX0_send_r3)) ++ wsX00 ++ (vx_atS RX0 68 "java/lang/IllegalStateException" ["java/lang/RuntimeException", "java/lang/Exception"]).filter goodWord ++ (vx_atS RX0 218 "java/lang/IndexOutOfBoundsException" ["java/lang/RuntimeException", "java/lang/Exception"]).filter goodWord)
def wsX0_checkBallot : List Cond := .code yX0_checkBallot cX0_checkBallot 2 none :: ([.classLink RX0 214 "java/lang/IndexOutOfBoundsException", .initialized "java/lang/IndexOutOfBoundsException", .methodLink RX0 177 yX0_isBallot, .instanceMethod yX0_isBallot, .selects RX0 yX0_isBallot yX0_isBallot, .initialized RX0, .code yX0_isBallot cX0_isBallot 2 (some .boolean), .fieldLink RX0 182 "ShardBallots" "ballotCount" "I"] ++ wsX00 ++ (vx_atS RX0 218 "java/lang/IndexOutOfBoundsException" ["java/lang/RuntimeException", "java/lang/Exception"]).filter goodWord)
def wsX0_sentTo : List Cond := .code yX0_sentTo cX0_sentTo 2 (some .int) :: ([.fieldLink RX0 31 "ShardBallots" "ballotAddresses" "[I", .methodLink RX0 187 yX0_checkBallot, .instanceMethod yX0_checkBallot, .selects RX0 yX0_checkBallot yX0_checkBallot, .initialized RX0, .code yX0_checkBallot cX0_checkBallot 2 none, .classLink RX0 214 "java/lang/IndexOutOfBoundsException", .initialized "java/lang/IndexOutOfBoundsException", .methodLink RX0 177 yX0_isBallot, .instanceMethod yX0_isBallot, .selects RX0 yX0_isBallot yX0_isBallot, .code yX0_isBallot cX0_isBallot 2 (some .boolean), .fieldLink RX0 182 "ShardBallots" "ballotCount" "I"] ++ wsX00 ++ (vx_atS RX0 218 "java/lang/IndexOutOfBoundsException" ["java/lang/RuntimeException", "java/lang/Exception"]).filter goodWord)
def wsX0_checkChoice : List Cond := .code yX0_checkChoice cX0_checkChoice 1 none :: ([.classLink RX0 227 "java/lang/IllegalArgumentException", .initialized "java/lang/IllegalArgumentException"] ++ (vx_atS RX0 231 "java/lang/IllegalArgumentException" ["java/lang/RuntimeException", "java/lang/Exception"]).filter goodWord)
def wsX0_giveBack_r1 : List Cond := [Cond.classLink RX0 64 "java/lang/IllegalStateException", Cond.initialized "java/lang/IllegalStateException", Cond.fieldLink RX0 37 "ShardBallots" "ballotStates" "[I", Cond.fieldLink RX0 40 "ShardBallots" "ballotChoices" "[I", Cond.fieldLink RX0 34 "ShardBallots" "ballotDistricts" "[I", Cond.methodLink RX0 187 yX0_checkBallot, Cond.instanceMethod yX0_checkBallot, Cond.selects RX0 yX0_checkBallot yX0_checkBallot, Cond.initialized RX0, Cond.code yX0_checkBallot cX0_checkBallot 2 none, Cond.classLink RX0 214 "java/lang/IndexOutOfBoundsException", Cond.initialized "java/lang/IndexOutOfBoundsException", Cond.methodLink RX0 177 yX0_isBallot, Cond.instanceMethod yX0_isBallot, Cond.selects RX0 yX0_isBallot yX0_isBallot, Cond.code yX0_isBallot cX0_isBallot 2 (some .boolean), Cond.fieldLink RX0 182 "ShardBallots" "ballotCount" "I", Cond.methodLink RX0 190 yX0_checkChoice, Cond.static yX0_checkChoice, Cond.code yX0_checkChoice cX0_checkChoice 1 none, Cond.classLink RX0 227 "java/lang/IllegalArgumentException", Cond.initialized "java/lang/IllegalArgumentException", Cond.methodLink RX0 195 yX0_isOfOpenVote, Cond.instanceMethod yX0_isOfOpenVote]
def wsX0_giveBack_r2 : List Cond := [Cond.selects RX0 yX0_isOfOpenVote yX0_isOfOpenVote, Cond.code yX0_isOfOpenVote cX0_isOfOpenVote 2 (some .boolean), Cond.fieldLink RX0 163 "ShardBallots" "rollLaid" "Z", Cond.fieldLink RX0 28 "ShardBallots" "ballotVotes" "[I", Cond.fieldLink RX0 169 "ShardBallots" "voteNumber" "I"]
def wsX0_giveBack : List Cond := .code yX0_giveBack cX0_giveBack 3 (some .int) :: ((wsX0_giveBack_r1 ++ wsX0_giveBack_r2) ++ wsX00 ++ (vx_atS RX0 68 "java/lang/IllegalStateException" ["java/lang/RuntimeException", "java/lang/Exception"]).filter goodWord ++ (vx_atS RX0 218 "java/lang/IndexOutOfBoundsException" ["java/lang/RuntimeException", "java/lang/Exception"]).filter goodWord ++ (vx_atS RX0 231 "java/lang/IllegalArgumentException" ["java/lang/RuntimeException", "java/lang/Exception"]).filter goodWord)
def wsX0_stateOf : List Cond := .code yX0_stateOf cX0_stateOf 2 (some .int) :: ([.fieldLink RX0 37 "ShardBallots" "ballotStates" "[I", .methodLink RX0 187 yX0_checkBallot, .instanceMethod yX0_checkBallot, .selects RX0 yX0_checkBallot yX0_checkBallot, .initialized RX0, .code yX0_checkBallot cX0_checkBallot 2 none, .classLink RX0 214 "java/lang/IndexOutOfBoundsException", .initialized "java/lang/IndexOutOfBoundsException", .methodLink RX0 177 yX0_isBallot, .instanceMethod yX0_isBallot, .selects RX0 yX0_isBallot yX0_isBallot, .code yX0_isBallot cX0_isBallot 2 (some .boolean), .fieldLink RX0 182 "ShardBallots" "ballotCount" "I"] ++ wsX00 ++ (vx_atS RX0 218 "java/lang/IndexOutOfBoundsException" ["java/lang/RuntimeException", "java/lang/Exception"]).filter goodWord)
def wsX0_counted : List Cond := .code yX0_counted cX0_counted 5 (some .int) :: ([.fieldLink RX0 182 "ShardBallots" "ballotCount" "I", .fieldLink RX0 37 "ShardBallots" "ballotStates" "[I", .fieldLink RX0 34 "ShardBallots" "ballotDistricts" "[I", .fieldLink RX0 40 "ShardBallots" "ballotChoices" "[I", .methodLink RX0 87 yX0_checkDistrict, .static yX0_checkDistrict, .initialized RX0, .code yX0_checkDistrict cX0_checkDistrict 1 none, .classLink RX0 214 "java/lang/IndexOutOfBoundsException", .initialized "java/lang/IndexOutOfBoundsException", .methodLink RX0 190 yX0_checkChoice, .static yX0_checkChoice, .code yX0_checkChoice cX0_checkChoice 1 none, .classLink RX0 227 "java/lang/IllegalArgumentException", .initialized "java/lang/IllegalArgumentException"] ++ wsX00 ++ (vx_atS RX0 218 "java/lang/IndexOutOfBoundsException" ["java/lang/RuntimeException", "java/lang/Exception"]).filter goodWord ++ (vx_atS RX0 231 "java/lang/IllegalArgumentException" ["java/lang/RuntimeException", "java/lang/Exception"]).filter goodWord)
def wsX0_close : List Cond := .code yX0_close cX0_close 3 (some .int) :: ([.classLink RX0 64 "java/lang/IllegalStateException", .initialized "java/lang/IllegalStateException", .fieldLink RX0 163 "ShardBallots" "rollLaid" "Z", .fieldLink RX0 182 "ShardBallots" "ballotCount" "I", .fieldLink RX0 37 "ShardBallots" "ballotStates" "[I", .methodLink RX0 195 yX0_isOfOpenVote, .instanceMethod yX0_isOfOpenVote, .selects RX0 yX0_isOfOpenVote yX0_isOfOpenVote, .initialized RX0, .code yX0_isOfOpenVote cX0_isOfOpenVote 2 (some .boolean), .fieldLink RX0 28 "ShardBallots" "ballotVotes" "[I", .fieldLink RX0 169 "ShardBallots" "voteNumber" "I", .methodLink RX0 177 yX0_isBallot, .instanceMethod yX0_isBallot, .selects RX0 yX0_isBallot yX0_isBallot, .code yX0_isBallot cX0_isBallot 2 (some .boolean)] ++ wsX00 ++ (vx_atS RX0 68 "java/lang/IllegalStateException" ["java/lang/RuntimeException", "java/lang/Exception"]).filter goodWord)
def wsL_cell : List Cond := .code yL_cell cL_cell 2 (some .int) :: ([.constant RL 7 (1205586403)])
def wsL_low : List Cond := .code yL_low cL_low 2 (some .int) :: ([])
def wsL_join_r1 : List Cond := [Cond.classLink RL 14 "java/lang/IndexOutOfBoundsException", Cond.classLink RL 16 "java/lang/IllegalArgumentException", Cond.classLink RL 18 "java/lang/IllegalStateException", Cond.methodLink RL 8 yX0_join, Cond.instanceMethod yX0_join, Cond.selects RX0 yX0_join yX0_join, Cond.initialized RX0, Cond.code yX0_join cX0_join 3 (some .int), Cond.classLink RX0 64 "java/lang/IllegalStateException", Cond.initialized "java/lang/IllegalStateException", Cond.fieldLink RX0 71 "ShardBallots" "memberCount" "I", Cond.methodLink RX0 53 yX0_checkKey, Cond.static yX0_checkKey, Cond.code yX0_checkKey cX0_checkKey 1 none, Cond.classLink RX0 214 "java/lang/IndexOutOfBoundsException", Cond.initialized "java/lang/IndexOutOfBoundsException", Cond.methodLink RX0 205 yX0_isKey, Cond.static yX0_isKey, Cond.code yX0_isKey cX0_isKey 1 (some .boolean), Cond.methodLink RX0 57 yX0_checkAddress, Cond.static yX0_checkAddress, Cond.code yX0_checkAddress cX0_checkAddress 1 none, Cond.classLink RX0 227 "java/lang/IllegalArgumentException", Cond.initialized "java/lang/IllegalArgumentException"]
def wsL_join_r2 : List Cond := [Cond.methodLink RX0 60 yX0_isMember, Cond.instanceMethod yX0_isMember, Cond.selects RX0 yX0_isMember yX0_isMember, Cond.code yX0_isMember cX0_isMember 2 (some .boolean), Cond.methodLink RX0 83 yX0_read, Cond.instanceMethod yX0_read, Cond.selects RX0 yX0_read yX0_read, Cond.code yX0_read cX0_read 2 (some .int), Cond.methodLink RX0 93 yX0_rangeHolding, Cond.instanceMethod yX0_rangeHolding, Cond.selects RX0 yX0_rangeHolding yX0_rangeHolding, Cond.code yX0_rangeHolding cX0_rangeHolding 4 (some .int), Cond.fieldLink RX0 49 "ShardBallots" "rangeCount" "I", Cond.methodLink RX0 96 yX0_lastKeyOf, Cond.instanceMethod yX0_lastKeyOf, Cond.selects RX0 yX0_lastKeyOf yX0_lastKeyOf, Cond.code yX0_lastKeyOf cX0_lastKeyOf 2 (some .int), Cond.fieldLink RX0 13 "ShardBallots" "lastKeys" "[I", Cond.methodLink RX0 117 yX0_isRange, Cond.instanceMethod yX0_isRange, Cond.selects RX0 yX0_isRange yX0_isRange, Cond.code yX0_isRange cX0_isRange 2 (some .boolean), Cond.methodLink RX0 122 yX0_homeOf, Cond.instanceMethod yX0_homeOf]
def wsL_join_r3 : List Cond := [Cond.selects RX0 yX0_homeOf yX0_homeOf, Cond.code yX0_homeOf cX0_homeOf 2 (some .int), Cond.fieldLink RX0 16 "ShardBallots" "homes" "[I", Cond.methodLink RX0 152 yX0_rowOf, Cond.instanceMethod yX0_rowOf, Cond.selects RX0 yX0_rowOf yX0_rowOf, Cond.code yX0_rowOf cX0_rowOf 3 (some .int), Cond.fieldLink RX0 9 "ShardBallots" "rowTable" "[I", Cond.methodLink RX0 202 yX0_isShard, Cond.static yX0_isShard, Cond.code yX0_isShard cX0_isShard 1 (some .boolean), Cond.methodLink RX0 76 yX0_write, Cond.instanceMethod yX0_write, Cond.selects RX0 yX0_write yX0_write, Cond.code yX0_write cX0_write 4 none, Cond.methodLink RX0 156 yX0_putRow, Cond.instanceMethod yX0_putRow, Cond.selects RX0 yX0_putRow yX0_putRow, Cond.code yX0_putRow cX0_putRow 4 none, Cond.methodLink RX0 208 yX0_targetOf, Cond.instanceMethod yX0_targetOf, Cond.selects RX0 yX0_targetOf yX0_targetOf, Cond.code yX0_targetOf cX0_targetOf 2 (some .int), Cond.fieldLink RX0 19 "ShardBallots" "targets" "[I"]
def wsL_join : List Cond := .codeWith yL_join cL_join 5 (some .int) [(0, 7, 10, 14), (0, 7, 16, 16), (0, 7, 22, 18)] :: ((wsL_join_r1 ++ (wsL_join_r2 ++ wsL_join_r3)) ++ wsX00 ++ (vx_atS RX0 68 "java/lang/IllegalStateException" ["java/lang/RuntimeException", "java/lang/Exception"]).filter goodWord ++ (vx_atS RX0 218 "java/lang/IndexOutOfBoundsException" ["java/lang/RuntimeException", "java/lang/Exception"]).filter goodWord ++ (vx_atS RX0 231 "java/lang/IllegalArgumentException" ["java/lang/RuntimeException", "java/lang/Exception"]).filter goodWord)
def wsL_change_r1 : List Cond := [Cond.classLink RL 14 "java/lang/IndexOutOfBoundsException", Cond.classLink RL 16 "java/lang/IllegalArgumentException", Cond.classLink RL 18 "java/lang/IllegalStateException", Cond.methodLink RL 20 yX0_change, Cond.instanceMethod yX0_change, Cond.selects RX0 yX0_change yX0_change, Cond.initialized RX0, Cond.code yX0_change cX0_change 4 (some .int), Cond.methodLink RX0 53 yX0_checkKey, Cond.static yX0_checkKey, Cond.code yX0_checkKey cX0_checkKey 1 none, Cond.classLink RX0 214 "java/lang/IndexOutOfBoundsException", Cond.initialized "java/lang/IndexOutOfBoundsException", Cond.methodLink RX0 205 yX0_isKey, Cond.static yX0_isKey, Cond.code yX0_isKey cX0_isKey 1 (some .boolean), Cond.methodLink RX0 57 yX0_checkAddress, Cond.static yX0_checkAddress, Cond.code yX0_checkAddress cX0_checkAddress 1 none, Cond.classLink RX0 227 "java/lang/IllegalArgumentException", Cond.initialized "java/lang/IllegalArgumentException", Cond.methodLink RX0 80 yX0_checkMember, Cond.instanceMethod yX0_checkMember, Cond.selects RX0 yX0_checkMember yX0_checkMember]
def wsL_change_r2 : List Cond := [Cond.code yX0_checkMember cX0_checkMember 2 none, Cond.classLink RX0 64 "java/lang/IllegalStateException", Cond.initialized "java/lang/IllegalStateException", Cond.methodLink RX0 60 yX0_isMember, Cond.instanceMethod yX0_isMember, Cond.selects RX0 yX0_isMember yX0_isMember, Cond.code yX0_isMember cX0_isMember 2 (some .boolean), Cond.methodLink RX0 83 yX0_read, Cond.instanceMethod yX0_read, Cond.selects RX0 yX0_read yX0_read, Cond.code yX0_read cX0_read 2 (some .int), Cond.methodLink RX0 93 yX0_rangeHolding, Cond.instanceMethod yX0_rangeHolding, Cond.selects RX0 yX0_rangeHolding yX0_rangeHolding, Cond.code yX0_rangeHolding cX0_rangeHolding 4 (some .int), Cond.fieldLink RX0 49 "ShardBallots" "rangeCount" "I", Cond.methodLink RX0 96 yX0_lastKeyOf, Cond.instanceMethod yX0_lastKeyOf, Cond.selects RX0 yX0_lastKeyOf yX0_lastKeyOf, Cond.code yX0_lastKeyOf cX0_lastKeyOf 2 (some .int), Cond.fieldLink RX0 13 "ShardBallots" "lastKeys" "[I", Cond.methodLink RX0 117 yX0_isRange, Cond.instanceMethod yX0_isRange, Cond.selects RX0 yX0_isRange yX0_isRange]
def wsL_change_r3 : List Cond := [Cond.code yX0_isRange cX0_isRange 2 (some .boolean), Cond.methodLink RX0 122 yX0_homeOf, Cond.instanceMethod yX0_homeOf, Cond.selects RX0 yX0_homeOf yX0_homeOf, Cond.code yX0_homeOf cX0_homeOf 2 (some .int), Cond.fieldLink RX0 16 "ShardBallots" "homes" "[I", Cond.methodLink RX0 152 yX0_rowOf, Cond.instanceMethod yX0_rowOf, Cond.selects RX0 yX0_rowOf yX0_rowOf, Cond.code yX0_rowOf cX0_rowOf 3 (some .int), Cond.fieldLink RX0 9 "ShardBallots" "rowTable" "[I", Cond.methodLink RX0 202 yX0_isShard, Cond.static yX0_isShard, Cond.code yX0_isShard cX0_isShard 1 (some .boolean), Cond.methodLink RX0 76 yX0_write, Cond.instanceMethod yX0_write, Cond.selects RX0 yX0_write yX0_write, Cond.code yX0_write cX0_write 4 none, Cond.methodLink RX0 156 yX0_putRow, Cond.instanceMethod yX0_putRow, Cond.selects RX0 yX0_putRow yX0_putRow, Cond.code yX0_putRow cX0_putRow 4 none, Cond.methodLink RX0 208 yX0_targetOf, Cond.instanceMethod yX0_targetOf]
def wsL_change_r4 : List Cond := [Cond.selects RX0 yX0_targetOf yX0_targetOf, Cond.code yX0_targetOf cX0_targetOf 2 (some .int), Cond.fieldLink RX0 19 "ShardBallots" "targets" "[I"]
def wsL_change : List Cond := .codeWith yL_change cL_change 5 (some .int) [(0, 7, 10, 14), (0, 7, 16, 16), (0, 7, 22, 18)] :: ((wsL_change_r1 ++ (wsL_change_r2 ++ (wsL_change_r3 ++ wsL_change_r4))) ++ wsX00 ++ (vx_atS RX0 218 "java/lang/IndexOutOfBoundsException" ["java/lang/RuntimeException", "java/lang/Exception"]).filter goodWord ++ (vx_atS RX0 231 "java/lang/IllegalArgumentException" ["java/lang/RuntimeException", "java/lang/Exception"]).filter goodWord ++ (vx_atS RX0 68 "java/lang/IllegalStateException" ["java/lang/RuntimeException", "java/lang/Exception"]).filter goodWord)
def wsL_leave_r1 : List Cond := [Cond.classLink RL 14 "java/lang/IndexOutOfBoundsException", Cond.classLink RL 18 "java/lang/IllegalStateException", Cond.methodLink RL 23 yX0_leave, Cond.instanceMethod yX0_leave, Cond.selects RX0 yX0_leave yX0_leave, Cond.initialized RX0, Cond.code yX0_leave cX0_leave 3 (some .int), Cond.fieldLink RX0 71 "ShardBallots" "memberCount" "I", Cond.methodLink RX0 53 yX0_checkKey, Cond.static yX0_checkKey, Cond.code yX0_checkKey cX0_checkKey 1 none, Cond.classLink RX0 214 "java/lang/IndexOutOfBoundsException", Cond.initialized "java/lang/IndexOutOfBoundsException", Cond.methodLink RX0 205 yX0_isKey, Cond.static yX0_isKey, Cond.code yX0_isKey cX0_isKey 1 (some .boolean), Cond.methodLink RX0 80 yX0_checkMember, Cond.instanceMethod yX0_checkMember, Cond.selects RX0 yX0_checkMember yX0_checkMember, Cond.code yX0_checkMember cX0_checkMember 2 none, Cond.classLink RX0 64 "java/lang/IllegalStateException", Cond.initialized "java/lang/IllegalStateException", Cond.methodLink RX0 60 yX0_isMember, Cond.instanceMethod yX0_isMember]
def wsL_leave_r2 : List Cond := [Cond.selects RX0 yX0_isMember yX0_isMember, Cond.code yX0_isMember cX0_isMember 2 (some .boolean), Cond.methodLink RX0 83 yX0_read, Cond.instanceMethod yX0_read, Cond.selects RX0 yX0_read yX0_read, Cond.code yX0_read cX0_read 2 (some .int), Cond.methodLink RX0 93 yX0_rangeHolding, Cond.instanceMethod yX0_rangeHolding, Cond.selects RX0 yX0_rangeHolding yX0_rangeHolding, Cond.code yX0_rangeHolding cX0_rangeHolding 4 (some .int), Cond.fieldLink RX0 49 "ShardBallots" "rangeCount" "I", Cond.methodLink RX0 96 yX0_lastKeyOf, Cond.instanceMethod yX0_lastKeyOf, Cond.selects RX0 yX0_lastKeyOf yX0_lastKeyOf, Cond.code yX0_lastKeyOf cX0_lastKeyOf 2 (some .int), Cond.fieldLink RX0 13 "ShardBallots" "lastKeys" "[I", Cond.methodLink RX0 117 yX0_isRange, Cond.instanceMethod yX0_isRange, Cond.selects RX0 yX0_isRange yX0_isRange, Cond.code yX0_isRange cX0_isRange 2 (some .boolean), Cond.methodLink RX0 122 yX0_homeOf, Cond.instanceMethod yX0_homeOf, Cond.selects RX0 yX0_homeOf yX0_homeOf, Cond.code yX0_homeOf cX0_homeOf 2 (some .int)]
def wsL_leave_r3 : List Cond := [Cond.fieldLink RX0 16 "ShardBallots" "homes" "[I", Cond.methodLink RX0 152 yX0_rowOf, Cond.instanceMethod yX0_rowOf, Cond.selects RX0 yX0_rowOf yX0_rowOf, Cond.code yX0_rowOf cX0_rowOf 3 (some .int), Cond.fieldLink RX0 9 "ShardBallots" "rowTable" "[I", Cond.methodLink RX0 202 yX0_isShard, Cond.static yX0_isShard, Cond.code yX0_isShard cX0_isShard 1 (some .boolean), Cond.methodLink RX0 76 yX0_write, Cond.instanceMethod yX0_write, Cond.selects RX0 yX0_write yX0_write, Cond.code yX0_write cX0_write 4 none, Cond.methodLink RX0 156 yX0_putRow, Cond.instanceMethod yX0_putRow, Cond.selects RX0 yX0_putRow yX0_putRow, Cond.code yX0_putRow cX0_putRow 4 none, Cond.methodLink RX0 208 yX0_targetOf, Cond.instanceMethod yX0_targetOf, Cond.selects RX0 yX0_targetOf yX0_targetOf, Cond.code yX0_targetOf cX0_targetOf 2 (some .int), Cond.fieldLink RX0 19 "ShardBallots" "targets" "[I"]
def wsL_leave : List Cond := .codeWith yL_leave cL_leave 4 (some .int) [(0, 6, 9, 14), (0, 6, 14, 18)] :: ((wsL_leave_r1 ++ (wsL_leave_r2 ++ wsL_leave_r3)) ++ wsX00 ++ (vx_atS RX0 218 "java/lang/IndexOutOfBoundsException" ["java/lang/RuntimeException", "java/lang/Exception"]).filter goodWord ++ (vx_atS RX0 68 "java/lang/IllegalStateException" ["java/lang/RuntimeException", "java/lang/Exception"]).filter goodWord)
def wsL_address_r1 : List Cond := [Cond.classLink RL 14 "java/lang/IndexOutOfBoundsException", Cond.methodLink RL 27 yX0_address, Cond.instanceMethod yX0_address, Cond.selects RX0 yX0_address yX0_address, Cond.initialized RX0, Cond.code yX0_address cX0_address 2 (some .int), Cond.methodLink RX0 53 yX0_checkKey, Cond.static yX0_checkKey, Cond.code yX0_checkKey cX0_checkKey 1 none, Cond.classLink RX0 214 "java/lang/IndexOutOfBoundsException", Cond.initialized "java/lang/IndexOutOfBoundsException", Cond.methodLink RX0 205 yX0_isKey, Cond.static yX0_isKey, Cond.code yX0_isKey cX0_isKey 1 (some .boolean), Cond.methodLink RX0 83 yX0_read, Cond.instanceMethod yX0_read, Cond.selects RX0 yX0_read yX0_read, Cond.code yX0_read cX0_read 2 (some .int), Cond.methodLink RX0 93 yX0_rangeHolding, Cond.instanceMethod yX0_rangeHolding, Cond.selects RX0 yX0_rangeHolding yX0_rangeHolding, Cond.code yX0_rangeHolding cX0_rangeHolding 4 (some .int), Cond.fieldLink RX0 49 "ShardBallots" "rangeCount" "I", Cond.methodLink RX0 96 yX0_lastKeyOf]
def wsL_address_r2 : List Cond := [Cond.instanceMethod yX0_lastKeyOf, Cond.selects RX0 yX0_lastKeyOf yX0_lastKeyOf, Cond.code yX0_lastKeyOf cX0_lastKeyOf 2 (some .int), Cond.fieldLink RX0 13 "ShardBallots" "lastKeys" "[I", Cond.methodLink RX0 117 yX0_isRange, Cond.instanceMethod yX0_isRange, Cond.selects RX0 yX0_isRange yX0_isRange, Cond.code yX0_isRange cX0_isRange 2 (some .boolean), Cond.methodLink RX0 122 yX0_homeOf, Cond.instanceMethod yX0_homeOf, Cond.selects RX0 yX0_homeOf yX0_homeOf, Cond.code yX0_homeOf cX0_homeOf 2 (some .int), Cond.fieldLink RX0 16 "ShardBallots" "homes" "[I", Cond.methodLink RX0 152 yX0_rowOf, Cond.instanceMethod yX0_rowOf, Cond.selects RX0 yX0_rowOf yX0_rowOf, Cond.code yX0_rowOf cX0_rowOf 3 (some .int), Cond.fieldLink RX0 9 "ShardBallots" "rowTable" "[I", Cond.methodLink RX0 202 yX0_isShard, Cond.static yX0_isShard, Cond.code yX0_isShard cX0_isShard 1 (some .boolean)]
def wsL_address : List Cond := .codeWith yL_address cL_address 4 (some .int) [(0, 6, 9, 14)] :: ((wsL_address_r1 ++ wsL_address_r2) ++ wsX00 ++ (vx_atS RX0 218 "java/lang/IndexOutOfBoundsException" ["java/lang/RuntimeException", "java/lang/Exception"]).filter goodWord)
def wsL_inDistrict_r1 : List Cond := [Cond.classLink RL 14 "java/lang/IndexOutOfBoundsException", Cond.methodLink RL 30 yX0_inDistrict, Cond.instanceMethod yX0_inDistrict, Cond.selects RX0 yX0_inDistrict yX0_inDistrict, Cond.initialized RX0, Cond.code yX0_inDistrict cX0_inDistrict 4 (some .int), Cond.methodLink RX0 87 yX0_checkDistrict, Cond.static yX0_checkDistrict, Cond.code yX0_checkDistrict cX0_checkDistrict 1 none, Cond.classLink RX0 214 "java/lang/IndexOutOfBoundsException", Cond.initialized "java/lang/IndexOutOfBoundsException", Cond.methodLink RX0 83 yX0_read, Cond.instanceMethod yX0_read, Cond.selects RX0 yX0_read yX0_read, Cond.code yX0_read cX0_read 2 (some .int), Cond.methodLink RX0 93 yX0_rangeHolding, Cond.instanceMethod yX0_rangeHolding, Cond.selects RX0 yX0_rangeHolding yX0_rangeHolding, Cond.code yX0_rangeHolding cX0_rangeHolding 4 (some .int), Cond.fieldLink RX0 49 "ShardBallots" "rangeCount" "I", Cond.methodLink RX0 96 yX0_lastKeyOf, Cond.instanceMethod yX0_lastKeyOf, Cond.selects RX0 yX0_lastKeyOf yX0_lastKeyOf, Cond.code yX0_lastKeyOf cX0_lastKeyOf 2 (some .int)]
def wsL_inDistrict_r2 : List Cond := [Cond.fieldLink RX0 13 "ShardBallots" "lastKeys" "[I", Cond.methodLink RX0 117 yX0_isRange, Cond.instanceMethod yX0_isRange, Cond.selects RX0 yX0_isRange yX0_isRange, Cond.code yX0_isRange cX0_isRange 2 (some .boolean), Cond.methodLink RX0 122 yX0_homeOf, Cond.instanceMethod yX0_homeOf, Cond.selects RX0 yX0_homeOf yX0_homeOf, Cond.code yX0_homeOf cX0_homeOf 2 (some .int), Cond.fieldLink RX0 16 "ShardBallots" "homes" "[I", Cond.methodLink RX0 152 yX0_rowOf, Cond.instanceMethod yX0_rowOf, Cond.selects RX0 yX0_rowOf yX0_rowOf, Cond.code yX0_rowOf cX0_rowOf 3 (some .int), Cond.fieldLink RX0 9 "ShardBallots" "rowTable" "[I", Cond.methodLink RX0 202 yX0_isShard, Cond.static yX0_isShard, Cond.code yX0_isShard cX0_isShard 1 (some .boolean), Cond.methodLink RX0 205 yX0_isKey, Cond.static yX0_isKey, Cond.code yX0_isKey cX0_isKey 1 (some .boolean), Cond.methodLink RX0 90 yX0_districtOf, Cond.static yX0_districtOf, Cond.code yX0_districtOf cX0_districtOf 1 (some .int)]
def wsL_inDistrict : List Cond := .codeWith yL_inDistrict cL_inDistrict 4 (some .int) [(0, 6, 9, 14)] :: ((wsL_inDistrict_r1 ++ wsL_inDistrict_r2) ++ wsX00 ++ (vx_atS RX0 218 "java/lang/IndexOutOfBoundsException" ["java/lang/RuntimeException", "java/lang/Exception"]).filter goodWord)
def wsL_split_r1 : List Cond := [Cond.classLink RL 14 "java/lang/IndexOutOfBoundsException", Cond.classLink RL 18 "java/lang/IllegalStateException", Cond.methodLink RL 33 yX0_split, Cond.instanceMethod yX0_split, Cond.selects RX0 yX0_split yX0_split, Cond.initialized RX0, Cond.code yX0_split cX0_split 3 (some .int), Cond.classLink RX0 64 "java/lang/IllegalStateException", Cond.initialized "java/lang/IllegalStateException", Cond.fieldLink RX0 49 "ShardBallots" "rangeCount" "I", Cond.methodLink RX0 53 yX0_checkKey, Cond.static yX0_checkKey, Cond.code yX0_checkKey cX0_checkKey 1 none, Cond.classLink RX0 214 "java/lang/IndexOutOfBoundsException", Cond.initialized "java/lang/IndexOutOfBoundsException", Cond.methodLink RX0 205 yX0_isKey, Cond.static yX0_isKey, Cond.code yX0_isKey cX0_isKey 1 (some .boolean), Cond.methodLink RX0 93 yX0_rangeHolding, Cond.instanceMethod yX0_rangeHolding, Cond.selects RX0 yX0_rangeHolding yX0_rangeHolding, Cond.code yX0_rangeHolding cX0_rangeHolding 4 (some .int), Cond.methodLink RX0 96 yX0_lastKeyOf, Cond.instanceMethod yX0_lastKeyOf]
def wsL_split_r2 : List Cond := [Cond.selects RX0 yX0_lastKeyOf yX0_lastKeyOf, Cond.code yX0_lastKeyOf cX0_lastKeyOf 2 (some .int), Cond.fieldLink RX0 13 "ShardBallots" "lastKeys" "[I", Cond.methodLink RX0 117 yX0_isRange, Cond.instanceMethod yX0_isRange, Cond.selects RX0 yX0_isRange yX0_isRange, Cond.code yX0_isRange cX0_isRange 2 (some .boolean), Cond.methodLink RX0 101 yX0_isMoved, Cond.instanceMethod yX0_isMoved, Cond.selects RX0 yX0_isMoved yX0_isMoved, Cond.code yX0_isMoved cX0_isMoved 2 (some .boolean), Cond.methodLink RX0 208 yX0_targetOf, Cond.instanceMethod yX0_targetOf, Cond.selects RX0 yX0_targetOf yX0_targetOf, Cond.code yX0_targetOf cX0_targetOf 2 (some .int), Cond.fieldLink RX0 19 "ShardBallots" "targets" "[I", Cond.methodLink RX0 108 yX0_insertCopyBehind, Cond.instanceMethod yX0_insertCopyBehind, Cond.selects RX0 yX0_insertCopyBehind yX0_insertCopyBehind, Cond.code yX0_insertCopyBehind cX0_insertCopyBehind 3 none, Cond.methodLink RX0 211 yX0_copyRange, Cond.instanceMethod yX0_copyRange, Cond.selects RX0 yX0_copyRange yX0_copyRange, Cond.code yX0_copyRange cX0_copyRange 3 none]
def wsL_split_r3 : List Cond := [Cond.fieldLink RX0 16 "ShardBallots" "homes" "[I", Cond.methodLink RX0 111 yX0_putLastKey, Cond.instanceMethod yX0_putLastKey, Cond.selects RX0 yX0_putLastKey yX0_putLastKey, Cond.code yX0_putLastKey cX0_putLastKey 3 none]
def wsL_split : List Cond := .codeWith yL_split cL_split 4 (some .int) [(0, 6, 9, 14), (0, 6, 14, 18)] :: ((wsL_split_r1 ++ (wsL_split_r2 ++ wsL_split_r3)) ++ wsX00 ++ (vx_atS RX0 68 "java/lang/IllegalStateException" ["java/lang/RuntimeException", "java/lang/Exception"]).filter goodWord ++ (vx_atS RX0 218 "java/lang/IndexOutOfBoundsException" ["java/lang/RuntimeException", "java/lang/Exception"]).filter goodWord)
def wsL_merge_r1 : List Cond := [Cond.classLink RL 14 "java/lang/IndexOutOfBoundsException", Cond.classLink RL 18 "java/lang/IllegalStateException", Cond.methodLink RL 36 yX0_merge, Cond.instanceMethod yX0_merge, Cond.selects RX0 yX0_merge yX0_merge, Cond.initialized RX0, Cond.code yX0_merge cX0_merge 3 (some .int), Cond.classLink RX0 64 "java/lang/IllegalStateException", Cond.initialized "java/lang/IllegalStateException", Cond.fieldLink RX0 49 "ShardBallots" "rangeCount" "I", Cond.methodLink RX0 114 yX0_checkRange, Cond.instanceMethod yX0_checkRange, Cond.selects RX0 yX0_checkRange yX0_checkRange, Cond.code yX0_checkRange cX0_checkRange 2 none, Cond.classLink RX0 214 "java/lang/IndexOutOfBoundsException", Cond.initialized "java/lang/IndexOutOfBoundsException", Cond.methodLink RX0 117 yX0_isRange, Cond.instanceMethod yX0_isRange, Cond.selects RX0 yX0_isRange yX0_isRange, Cond.code yX0_isRange cX0_isRange 2 (some .boolean), Cond.methodLink RX0 122 yX0_homeOf, Cond.instanceMethod yX0_homeOf, Cond.selects RX0 yX0_homeOf yX0_homeOf, Cond.code yX0_homeOf cX0_homeOf 2 (some .int)]
def wsL_merge_r2 : List Cond := [Cond.fieldLink RX0 16 "ShardBallots" "homes" "[I", Cond.methodLink RX0 101 yX0_isMoved, Cond.instanceMethod yX0_isMoved, Cond.selects RX0 yX0_isMoved yX0_isMoved, Cond.code yX0_isMoved cX0_isMoved 2 (some .boolean), Cond.methodLink RX0 208 yX0_targetOf, Cond.instanceMethod yX0_targetOf, Cond.selects RX0 yX0_targetOf yX0_targetOf, Cond.code yX0_targetOf cX0_targetOf 2 (some .int), Cond.fieldLink RX0 19 "ShardBallots" "targets" "[I", Cond.methodLink RX0 129 yX0_remove, Cond.instanceMethod yX0_remove, Cond.selects RX0 yX0_remove yX0_remove, Cond.code yX0_remove cX0_remove 3 none, Cond.methodLink RX0 211 yX0_copyRange, Cond.instanceMethod yX0_copyRange, Cond.selects RX0 yX0_copyRange yX0_copyRange, Cond.code yX0_copyRange cX0_copyRange 3 none, Cond.fieldLink RX0 13 "ShardBallots" "lastKeys" "[I"]
def wsL_merge : List Cond := .codeWith yL_merge cL_merge 4 (some .int) [(0, 6, 9, 14), (0, 6, 14, 18)] :: ((wsL_merge_r1 ++ wsL_merge_r2) ++ wsX00 ++ (vx_atS RX0 68 "java/lang/IllegalStateException" ["java/lang/RuntimeException", "java/lang/Exception"]).filter goodWord ++ (vx_atS RX0 218 "java/lang/IndexOutOfBoundsException" ["java/lang/RuntimeException", "java/lang/Exception"]).filter goodWord)
def wsL_move_r1 : List Cond := [Cond.classLink RL 14 "java/lang/IndexOutOfBoundsException", Cond.classLink RL 18 "java/lang/IllegalStateException", Cond.methodLink RL 39 yX0_move, Cond.instanceMethod yX0_move, Cond.selects RX0 yX0_move yX0_move, Cond.initialized RX0, Cond.code yX0_move cX0_move 3 (some .int), Cond.classLink RX0 64 "java/lang/IllegalStateException", Cond.initialized "java/lang/IllegalStateException", Cond.fieldLink RX0 16 "ShardBallots" "homes" "[I", Cond.fieldLink RX0 19 "ShardBallots" "targets" "[I", Cond.methodLink RX0 114 yX0_checkRange, Cond.instanceMethod yX0_checkRange, Cond.selects RX0 yX0_checkRange yX0_checkRange, Cond.code yX0_checkRange cX0_checkRange 2 none, Cond.classLink RX0 214 "java/lang/IndexOutOfBoundsException", Cond.initialized "java/lang/IndexOutOfBoundsException", Cond.methodLink RX0 117 yX0_isRange, Cond.instanceMethod yX0_isRange, Cond.selects RX0 yX0_isRange yX0_isRange, Cond.code yX0_isRange cX0_isRange 2 (some .boolean), Cond.fieldLink RX0 49 "ShardBallots" "rangeCount" "I", Cond.methodLink RX0 132 yX0_checkShard, Cond.static yX0_checkShard]
def wsL_move_r2 : List Cond := [Cond.code yX0_checkShard cX0_checkShard 1 none, Cond.methodLink RX0 202 yX0_isShard, Cond.static yX0_isShard, Cond.code yX0_isShard cX0_isShard 1 (some .boolean), Cond.methodLink RX0 101 yX0_isMoved, Cond.instanceMethod yX0_isMoved, Cond.selects RX0 yX0_isMoved yX0_isMoved, Cond.code yX0_isMoved cX0_isMoved 2 (some .boolean), Cond.methodLink RX0 208 yX0_targetOf, Cond.instanceMethod yX0_targetOf, Cond.selects RX0 yX0_targetOf yX0_targetOf, Cond.code yX0_targetOf cX0_targetOf 2 (some .int), Cond.methodLink RX0 139 yX0_firstKeyOf, Cond.instanceMethod yX0_firstKeyOf, Cond.selects RX0 yX0_firstKeyOf yX0_firstKeyOf, Cond.code yX0_firstKeyOf cX0_firstKeyOf 2 (some .int), Cond.methodLink RX0 96 yX0_lastKeyOf, Cond.instanceMethod yX0_lastKeyOf, Cond.selects RX0 yX0_lastKeyOf yX0_lastKeyOf, Cond.code yX0_lastKeyOf cX0_lastKeyOf 2 (some .int), Cond.fieldLink RX0 13 "ShardBallots" "lastKeys" "[I", Cond.methodLink RX0 142 yX0_countRows, Cond.instanceMethod yX0_countRows, Cond.selects RX0 yX0_countRows yX0_countRows]
def wsL_move_r3 : List Cond := [Cond.code yX0_countRows cX0_countRows 6 (some .int), Cond.methodLink RX0 152 yX0_rowOf, Cond.instanceMethod yX0_rowOf, Cond.selects RX0 yX0_rowOf yX0_rowOf, Cond.code yX0_rowOf cX0_rowOf 3 (some .int), Cond.fieldLink RX0 9 "ShardBallots" "rowTable" "[I", Cond.methodLink RX0 205 yX0_isKey, Cond.static yX0_isKey, Cond.code yX0_isKey cX0_isKey 1 (some .boolean)]
def wsL_move : List Cond := .codeWith yL_move cL_move 5 (some .int) [(0, 7, 10, 14), (0, 7, 16, 18)] :: ((wsL_move_r1 ++ (wsL_move_r2 ++ wsL_move_r3)) ++ wsX00 ++ (vx_atS RX0 68 "java/lang/IllegalStateException" ["java/lang/RuntimeException", "java/lang/Exception"]).filter goodWord ++ (vx_atS RX0 218 "java/lang/IndexOutOfBoundsException" ["java/lang/RuntimeException", "java/lang/Exception"]).filter goodWord)
def wsL_step_r1 : List Cond := [Cond.classLink RL 14 "java/lang/IndexOutOfBoundsException", Cond.classLink RL 18 "java/lang/IllegalStateException", Cond.methodLink RL 42 yX0_step, Cond.instanceMethod yX0_step, Cond.selects RX0 yX0_step yX0_step, Cond.initialized RX0, Cond.code yX0_step cX0_step 5 (some .int), Cond.fieldLink RX0 16 "ShardBallots" "homes" "[I", Cond.fieldLink RX0 19 "ShardBallots" "targets" "[I", Cond.methodLink RX0 114 yX0_checkRange, Cond.instanceMethod yX0_checkRange, Cond.selects RX0 yX0_checkRange yX0_checkRange, Cond.code yX0_checkRange cX0_checkRange 2 none, Cond.classLink RX0 214 "java/lang/IndexOutOfBoundsException", Cond.initialized "java/lang/IndexOutOfBoundsException", Cond.methodLink RX0 117 yX0_isRange, Cond.instanceMethod yX0_isRange, Cond.selects RX0 yX0_isRange yX0_isRange, Cond.code yX0_isRange cX0_isRange 2 (some .boolean), Cond.fieldLink RX0 49 "ShardBallots" "rangeCount" "I", Cond.methodLink RX0 146 yX0_checkMoved, Cond.instanceMethod yX0_checkMoved, Cond.selects RX0 yX0_checkMoved yX0_checkMoved, Cond.code yX0_checkMoved cX0_checkMoved 2 none]
def wsL_step_r2 : List Cond := [Cond.classLink RX0 64 "java/lang/IllegalStateException", Cond.initialized "java/lang/IllegalStateException", Cond.methodLink RX0 101 yX0_isMoved, Cond.instanceMethod yX0_isMoved, Cond.selects RX0 yX0_isMoved yX0_isMoved, Cond.code yX0_isMoved cX0_isMoved 2 (some .boolean), Cond.methodLink RX0 208 yX0_targetOf, Cond.instanceMethod yX0_targetOf, Cond.selects RX0 yX0_targetOf yX0_targetOf, Cond.code yX0_targetOf cX0_targetOf 2 (some .int), Cond.methodLink RX0 149 yX0_lowestKeyNotBrought, Cond.instanceMethod yX0_lowestKeyNotBrought, Cond.selects RX0 yX0_lowestKeyNotBrought yX0_lowestKeyNotBrought, Cond.code yX0_lowestKeyNotBrought cX0_lowestKeyNotBrought 6 (some .int), Cond.methodLink RX0 122 yX0_homeOf, Cond.instanceMethod yX0_homeOf, Cond.selects RX0 yX0_homeOf yX0_homeOf, Cond.code yX0_homeOf cX0_homeOf 2 (some .int), Cond.methodLink RX0 96 yX0_lastKeyOf, Cond.instanceMethod yX0_lastKeyOf, Cond.selects RX0 yX0_lastKeyOf yX0_lastKeyOf, Cond.code yX0_lastKeyOf cX0_lastKeyOf 2 (some .int), Cond.fieldLink RX0 13 "ShardBallots" "lastKeys" "[I", Cond.methodLink RX0 139 yX0_firstKeyOf]
def wsL_step_r3 : List Cond := [Cond.instanceMethod yX0_firstKeyOf, Cond.selects RX0 yX0_firstKeyOf yX0_firstKeyOf, Cond.code yX0_firstKeyOf cX0_firstKeyOf 2 (some .int), Cond.methodLink RX0 152 yX0_rowOf, Cond.instanceMethod yX0_rowOf, Cond.selects RX0 yX0_rowOf yX0_rowOf, Cond.code yX0_rowOf cX0_rowOf 3 (some .int), Cond.fieldLink RX0 9 "ShardBallots" "rowTable" "[I", Cond.methodLink RX0 202 yX0_isShard, Cond.static yX0_isShard, Cond.code yX0_isShard cX0_isShard 1 (some .boolean), Cond.methodLink RX0 205 yX0_isKey, Cond.static yX0_isKey, Cond.code yX0_isKey cX0_isKey 1 (some .boolean), Cond.methodLink RX0 156 yX0_putRow, Cond.instanceMethod yX0_putRow, Cond.selects RX0 yX0_putRow yX0_putRow, Cond.code yX0_putRow cX0_putRow 4 none, Cond.methodLink RX0 160 yX0_dropRows, Cond.instanceMethod yX0_dropRows, Cond.selects RX0 yX0_dropRows yX0_dropRows, Cond.code yX0_dropRows cX0_dropRows 5 none]
def wsL_step : List Cond := .codeWith yL_step cL_step 4 (some .int) [(0, 6, 9, 14), (0, 6, 14, 18)] :: ((wsL_step_r1 ++ (wsL_step_r2 ++ wsL_step_r3)) ++ wsX00 ++ (vx_atS RX0 218 "java/lang/IndexOutOfBoundsException" ["java/lang/RuntimeException", "java/lang/Exception"]).filter goodWord ++ (vx_atS RX0 68 "java/lang/IllegalStateException" ["java/lang/RuntimeException", "java/lang/Exception"]).filter goodWord)
def wsL_giveUp_r1 : List Cond := [Cond.classLink RL 14 "java/lang/IndexOutOfBoundsException", Cond.classLink RL 18 "java/lang/IllegalStateException", Cond.methodLink RL 45 yX0_giveUp, Cond.instanceMethod yX0_giveUp, Cond.selects RX0 yX0_giveUp yX0_giveUp, Cond.initialized RX0, Cond.code yX0_giveUp cX0_giveUp 4 (some .int), Cond.fieldLink RX0 19 "ShardBallots" "targets" "[I", Cond.methodLink RX0 114 yX0_checkRange, Cond.instanceMethod yX0_checkRange, Cond.selects RX0 yX0_checkRange yX0_checkRange, Cond.code yX0_checkRange cX0_checkRange 2 none, Cond.classLink RX0 214 "java/lang/IndexOutOfBoundsException", Cond.initialized "java/lang/IndexOutOfBoundsException", Cond.methodLink RX0 117 yX0_isRange, Cond.instanceMethod yX0_isRange, Cond.selects RX0 yX0_isRange yX0_isRange, Cond.code yX0_isRange cX0_isRange 2 (some .boolean), Cond.fieldLink RX0 49 "ShardBallots" "rangeCount" "I", Cond.methodLink RX0 146 yX0_checkMoved, Cond.instanceMethod yX0_checkMoved, Cond.selects RX0 yX0_checkMoved yX0_checkMoved, Cond.code yX0_checkMoved cX0_checkMoved 2 none, Cond.classLink RX0 64 "java/lang/IllegalStateException"]
def wsL_giveUp_r2 : List Cond := [Cond.initialized "java/lang/IllegalStateException", Cond.methodLink RX0 101 yX0_isMoved, Cond.instanceMethod yX0_isMoved, Cond.selects RX0 yX0_isMoved yX0_isMoved, Cond.code yX0_isMoved cX0_isMoved 2 (some .boolean), Cond.methodLink RX0 208 yX0_targetOf, Cond.instanceMethod yX0_targetOf, Cond.selects RX0 yX0_targetOf yX0_targetOf, Cond.code yX0_targetOf cX0_targetOf 2 (some .int), Cond.methodLink RX0 139 yX0_firstKeyOf, Cond.instanceMethod yX0_firstKeyOf, Cond.selects RX0 yX0_firstKeyOf yX0_firstKeyOf, Cond.code yX0_firstKeyOf cX0_firstKeyOf 2 (some .int), Cond.methodLink RX0 96 yX0_lastKeyOf, Cond.instanceMethod yX0_lastKeyOf, Cond.selects RX0 yX0_lastKeyOf yX0_lastKeyOf, Cond.code yX0_lastKeyOf cX0_lastKeyOf 2 (some .int), Cond.fieldLink RX0 13 "ShardBallots" "lastKeys" "[I", Cond.methodLink RX0 142 yX0_countRows, Cond.instanceMethod yX0_countRows, Cond.selects RX0 yX0_countRows yX0_countRows, Cond.code yX0_countRows cX0_countRows 6 (some .int), Cond.methodLink RX0 152 yX0_rowOf, Cond.instanceMethod yX0_rowOf]
def wsL_giveUp_r3 : List Cond := [Cond.selects RX0 yX0_rowOf yX0_rowOf, Cond.code yX0_rowOf cX0_rowOf 3 (some .int), Cond.fieldLink RX0 9 "ShardBallots" "rowTable" "[I", Cond.methodLink RX0 202 yX0_isShard, Cond.static yX0_isShard, Cond.code yX0_isShard cX0_isShard 1 (some .boolean), Cond.methodLink RX0 205 yX0_isKey, Cond.static yX0_isKey, Cond.code yX0_isKey cX0_isKey 1 (some .boolean), Cond.methodLink RX0 160 yX0_dropRows, Cond.instanceMethod yX0_dropRows, Cond.selects RX0 yX0_dropRows yX0_dropRows, Cond.code yX0_dropRows cX0_dropRows 5 none, Cond.methodLink RX0 156 yX0_putRow, Cond.instanceMethod yX0_putRow, Cond.selects RX0 yX0_putRow yX0_putRow, Cond.code yX0_putRow cX0_putRow 4 none]
def wsL_giveUp : List Cond := .codeWith yL_giveUp cL_giveUp 4 (some .int) [(0, 6, 9, 14), (0, 6, 14, 18)] :: ((wsL_giveUp_r1 ++ (wsL_giveUp_r2 ++ wsL_giveUp_r3)) ++ wsX00 ++ (vx_atS RX0 218 "java/lang/IndexOutOfBoundsException" ["java/lang/RuntimeException", "java/lang/Exception"]).filter goodWord ++ (vx_atS RX0 68 "java/lang/IllegalStateException" ["java/lang/RuntimeException", "java/lang/Exception"]).filter goodWord)
def wsL_rangeOf_r1 : List Cond := [Cond.classLink RL 14 "java/lang/IndexOutOfBoundsException", Cond.methodLink RL 48 yX0_rangeOf, Cond.instanceMethod yX0_rangeOf, Cond.selects RX0 yX0_rangeOf yX0_rangeOf, Cond.initialized RX0, Cond.code yX0_rangeOf cX0_rangeOf 2 (some .int), Cond.methodLink RX0 53 yX0_checkKey, Cond.static yX0_checkKey, Cond.code yX0_checkKey cX0_checkKey 1 none, Cond.classLink RX0 214 "java/lang/IndexOutOfBoundsException", Cond.initialized "java/lang/IndexOutOfBoundsException", Cond.methodLink RX0 205 yX0_isKey, Cond.static yX0_isKey, Cond.code yX0_isKey cX0_isKey 1 (some .boolean), Cond.methodLink RX0 93 yX0_rangeHolding, Cond.instanceMethod yX0_rangeHolding, Cond.selects RX0 yX0_rangeHolding yX0_rangeHolding, Cond.code yX0_rangeHolding cX0_rangeHolding 4 (some .int), Cond.fieldLink RX0 49 "ShardBallots" "rangeCount" "I", Cond.methodLink RX0 96 yX0_lastKeyOf, Cond.instanceMethod yX0_lastKeyOf, Cond.selects RX0 yX0_lastKeyOf yX0_lastKeyOf, Cond.code yX0_lastKeyOf cX0_lastKeyOf 2 (some .int), Cond.fieldLink RX0 13 "ShardBallots" "lastKeys" "[I"]
def wsL_rangeOf_r2 : List Cond := [Cond.methodLink RX0 117 yX0_isRange, Cond.instanceMethod yX0_isRange, Cond.selects RX0 yX0_isRange yX0_isRange, Cond.code yX0_isRange cX0_isRange 2 (some .boolean)]
def wsL_rangeOf : List Cond := .codeWith yL_rangeOf cL_rangeOf 4 (some .int) [(0, 6, 9, 14)] :: ((wsL_rangeOf_r1 ++ wsL_rangeOf_r2) ++ wsX00 ++ (vx_atS RX0 218 "java/lang/IndexOutOfBoundsException" ["java/lang/RuntimeException", "java/lang/Exception"]).filter goodWord)
def wsL_shardOf : List Cond := .codeWith yL_shardOf cL_shardOf 4 (some .int) [(0, 6, 9, 14)] :: ([.classLink RL 14 "java/lang/IndexOutOfBoundsException", .methodLink RL 51 yX0_shardOf, .instanceMethod yX0_shardOf, .selects RX0 yX0_shardOf yX0_shardOf, .initialized RX0, .code yX0_shardOf cX0_shardOf 2 (some .int), .fieldLink RX0 16 "ShardBallots" "homes" "[I", .methodLink RX0 114 yX0_checkRange, .instanceMethod yX0_checkRange, .selects RX0 yX0_checkRange yX0_checkRange, .code yX0_checkRange cX0_checkRange 2 none, .classLink RX0 214 "java/lang/IndexOutOfBoundsException", .initialized "java/lang/IndexOutOfBoundsException", .methodLink RX0 117 yX0_isRange, .instanceMethod yX0_isRange, .selects RX0 yX0_isRange yX0_isRange, .code yX0_isRange cX0_isRange 2 (some .boolean), .fieldLink RX0 49 "ShardBallots" "rangeCount" "I"] ++ wsX00 ++ (vx_atS RX0 218 "java/lang/IndexOutOfBoundsException" ["java/lang/RuntimeException", "java/lang/Exception"]).filter goodWord)
def wsL_rows_r1 : List Cond := [Cond.classLink RL 14 "java/lang/IndexOutOfBoundsException", Cond.methodLink RL 54 yX0_rows, Cond.instanceMethod yX0_rows, Cond.selects RX0 yX0_rows yX0_rows, Cond.initialized RX0, Cond.code yX0_rows cX0_rows 2 (some .int), Cond.methodLink RX0 132 yX0_checkShard, Cond.static yX0_checkShard, Cond.code yX0_checkShard cX0_checkShard 1 none, Cond.classLink RX0 214 "java/lang/IndexOutOfBoundsException", Cond.initialized "java/lang/IndexOutOfBoundsException", Cond.methodLink RX0 202 yX0_isShard, Cond.static yX0_isShard, Cond.code yX0_isShard cX0_isShard 1 (some .boolean), Cond.methodLink RX0 142 yX0_countRows, Cond.instanceMethod yX0_countRows, Cond.selects RX0 yX0_countRows yX0_countRows, Cond.code yX0_countRows cX0_countRows 6 (some .int), Cond.methodLink RX0 152 yX0_rowOf, Cond.instanceMethod yX0_rowOf, Cond.selects RX0 yX0_rowOf yX0_rowOf, Cond.code yX0_rowOf cX0_rowOf 3 (some .int), Cond.fieldLink RX0 9 "ShardBallots" "rowTable" "[I", Cond.methodLink RX0 205 yX0_isKey]
def wsL_rows_r2 : List Cond := [Cond.static yX0_isKey, Cond.code yX0_isKey cX0_isKey 1 (some .boolean)]
def wsL_rows : List Cond := .codeWith yL_rows cL_rows 4 (some .int) [(0, 6, 9, 14)] :: ((wsL_rows_r1 ++ wsL_rows_r2) ++ wsX00 ++ (vx_atS RX0 218 "java/lang/IndexOutOfBoundsException" ["java/lang/RuntimeException", "java/lang/Exception"]).filter goodWord)
def wsL_fix_r1 : List Cond := [Cond.classLink RL 18 "java/lang/IllegalStateException", Cond.methodLink RL 57 yX0_fix, Cond.instanceMethod yX0_fix, Cond.selects RX0 yX0_fix yX0_fix, Cond.initialized RX0, Cond.code yX0_fix cX0_fix 2 (some .int), Cond.classLink RX0 64 "java/lang/IllegalStateException", Cond.initialized "java/lang/IllegalStateException", Cond.fieldLink RX0 163 "ShardBallots" "rollLaid" "Z", Cond.fieldLink RX0 22 "ShardBallots" "roll" "[I", Cond.fieldLink RX0 169 "ShardBallots" "voteNumber" "I", Cond.fieldLink RX0 71 "ShardBallots" "memberCount" "I", Cond.methodLink RX0 83 yX0_read, Cond.instanceMethod yX0_read, Cond.selects RX0 yX0_read yX0_read, Cond.code yX0_read cX0_read 2 (some .int), Cond.methodLink RX0 93 yX0_rangeHolding, Cond.instanceMethod yX0_rangeHolding, Cond.selects RX0 yX0_rangeHolding yX0_rangeHolding, Cond.code yX0_rangeHolding cX0_rangeHolding 4 (some .int), Cond.fieldLink RX0 49 "ShardBallots" "rangeCount" "I", Cond.methodLink RX0 96 yX0_lastKeyOf, Cond.instanceMethod yX0_lastKeyOf, Cond.selects RX0 yX0_lastKeyOf yX0_lastKeyOf]
def wsL_fix_r2 : List Cond := [Cond.code yX0_lastKeyOf cX0_lastKeyOf 2 (some .int), Cond.fieldLink RX0 13 "ShardBallots" "lastKeys" "[I", Cond.methodLink RX0 117 yX0_isRange, Cond.instanceMethod yX0_isRange, Cond.selects RX0 yX0_isRange yX0_isRange, Cond.code yX0_isRange cX0_isRange 2 (some .boolean), Cond.methodLink RX0 122 yX0_homeOf, Cond.instanceMethod yX0_homeOf, Cond.selects RX0 yX0_homeOf yX0_homeOf, Cond.code yX0_homeOf cX0_homeOf 2 (some .int), Cond.fieldLink RX0 16 "ShardBallots" "homes" "[I", Cond.methodLink RX0 152 yX0_rowOf, Cond.instanceMethod yX0_rowOf, Cond.selects RX0 yX0_rowOf yX0_rowOf, Cond.code yX0_rowOf cX0_rowOf 3 (some .int), Cond.fieldLink RX0 9 "ShardBallots" "rowTable" "[I", Cond.methodLink RX0 202 yX0_isShard, Cond.static yX0_isShard, Cond.code yX0_isShard cX0_isShard 1 (some .boolean), Cond.methodLink RX0 205 yX0_isKey, Cond.static yX0_isKey, Cond.code yX0_isKey cX0_isKey 1 (some .boolean), Cond.methodLink RX0 90 yX0_districtOf, Cond.static yX0_districtOf]
def wsL_fix_r3 : List Cond := [Cond.code yX0_districtOf cX0_districtOf 1 (some .int)]
def wsL_fix : List Cond := .codeWith yL_fix cL_fix 3 (some .int) [(0, 5, 8, 18)] :: ((wsL_fix_r1 ++ (wsL_fix_r2 ++ wsL_fix_r3)) ++ wsX00 ++ (vx_atS RX0 68 "java/lang/IllegalStateException" ["java/lang/RuntimeException", "java/lang/Exception"]).filter goodWord)
def wsL_onRoll : List Cond := .codeWith yL_onRoll cL_onRoll 4 (some .int) [(0, 6, 9, 14)] :: ([.classLink RL 14 "java/lang/IndexOutOfBoundsException", .methodLink RL 61 yX0_onRoll, .instanceMethod yX0_onRoll, .selects RX0 yX0_onRoll yX0_onRoll, .initialized RX0, .code yX0_onRoll cX0_onRoll 2 (some .int), .fieldLink RX0 163 "ShardBallots" "rollLaid" "Z", .fieldLink RX0 22 "ShardBallots" "roll" "[I", .methodLink RX0 53 yX0_checkKey, .static yX0_checkKey, .code yX0_checkKey cX0_checkKey 1 none, .classLink RX0 214 "java/lang/IndexOutOfBoundsException", .initialized "java/lang/IndexOutOfBoundsException", .methodLink RX0 205 yX0_isKey, .static yX0_isKey, .code yX0_isKey cX0_isKey 1 (some .boolean)] ++ wsX00 ++ (vx_atS RX0 218 "java/lang/IndexOutOfBoundsException" ["java/lang/RuntimeException", "java/lang/Exception"]).filter goodWord)
def wsL_send_r1 : List Cond := [Cond.classLink RL 14 "java/lang/IndexOutOfBoundsException", Cond.classLink RL 18 "java/lang/IllegalStateException", Cond.methodLink RL 64 yX0_send, Cond.instanceMethod yX0_send, Cond.selects RX0 yX0_send yX0_send, Cond.initialized RX0, Cond.code yX0_send cX0_send 4 (some .int), Cond.classLink RX0 64 "java/lang/IllegalStateException", Cond.initialized "java/lang/IllegalStateException", Cond.fieldLink RX0 163 "ShardBallots" "rollLaid" "Z", Cond.fieldLink RX0 22 "ShardBallots" "roll" "[I", Cond.fieldLink RX0 37 "ShardBallots" "ballotStates" "[I", Cond.fieldLink RX0 182 "ShardBallots" "ballotCount" "I", Cond.fieldLink RX0 25 "ShardBallots" "ballotKeys" "[I", Cond.fieldLink RX0 28 "ShardBallots" "ballotVotes" "[I", Cond.fieldLink RX0 169 "ShardBallots" "voteNumber" "I", Cond.fieldLink RX0 31 "ShardBallots" "ballotAddresses" "[I", Cond.fieldLink RX0 34 "ShardBallots" "ballotDistricts" "[I", Cond.methodLink RX0 53 yX0_checkKey, Cond.static yX0_checkKey, Cond.code yX0_checkKey cX0_checkKey 1 none, Cond.classLink RX0 214 "java/lang/IndexOutOfBoundsException", Cond.initialized "java/lang/IndexOutOfBoundsException", Cond.methodLink RX0 205 yX0_isKey]
def wsL_send_r2 : List Cond := [Cond.static yX0_isKey, Cond.code yX0_isKey cX0_isKey 1 (some .boolean), Cond.methodLink RX0 80 yX0_checkMember, Cond.instanceMethod yX0_checkMember, Cond.selects RX0 yX0_checkMember yX0_checkMember, Cond.code yX0_checkMember cX0_checkMember 2 none, Cond.methodLink RX0 60 yX0_isMember, Cond.instanceMethod yX0_isMember, Cond.selects RX0 yX0_isMember yX0_isMember, Cond.code yX0_isMember cX0_isMember 2 (some .boolean), Cond.methodLink RX0 83 yX0_read, Cond.instanceMethod yX0_read, Cond.selects RX0 yX0_read yX0_read, Cond.code yX0_read cX0_read 2 (some .int), Cond.methodLink RX0 93 yX0_rangeHolding, Cond.instanceMethod yX0_rangeHolding, Cond.selects RX0 yX0_rangeHolding yX0_rangeHolding, Cond.code yX0_rangeHolding cX0_rangeHolding 4 (some .int), Cond.fieldLink RX0 49 "ShardBallots" "rangeCount" "I", Cond.methodLink RX0 96 yX0_lastKeyOf, Cond.instanceMethod yX0_lastKeyOf, Cond.selects RX0 yX0_lastKeyOf yX0_lastKeyOf, Cond.code yX0_lastKeyOf cX0_lastKeyOf 2 (some .int), Cond.fieldLink RX0 13 "ShardBallots" "lastKeys" "[I"]
def wsL_send_r3 : List Cond := [Cond.methodLink RX0 117 yX0_isRange, Cond.instanceMethod yX0_isRange, Cond.selects RX0 yX0_isRange yX0_isRange, Cond.code yX0_isRange cX0_isRange 2 (some .boolean), Cond.methodLink RX0 122 yX0_homeOf, Cond.instanceMethod yX0_homeOf, Cond.selects RX0 yX0_homeOf yX0_homeOf, Cond.code yX0_homeOf cX0_homeOf 2 (some .int), Cond.fieldLink RX0 16 "ShardBallots" "homes" "[I", Cond.methodLink RX0 152 yX0_rowOf, Cond.instanceMethod yX0_rowOf, Cond.selects RX0 yX0_rowOf yX0_rowOf, Cond.code yX0_rowOf cX0_rowOf 3 (some .int), Cond.fieldLink RX0 9 "ShardBallots" "rowTable" "[I", Cond.methodLink RX0 202 yX0_isShard, Cond.static yX0_isShard, Cond.code yX0_isShard cX0_isShard 1 (some .boolean), Cond.methodLink RX0 174 yX0_latestBallotTo, Cond.instanceMethod yX0_latestBallotTo, Cond.selects RX0 yX0_latestBallotTo yX0_latestBallotTo, Cond.code yX0_latestBallotTo cX0_latestBallotTo 3 (some .int), Cond.methodLink RX0 195 yX0_isOfOpenVote, Cond.instanceMethod yX0_isOfOpenVote, Cond.selects RX0 yX0_isOfOpenVote yX0_isOfOpenVote]
def wsL_send_r4 : List Cond := [Cond.code yX0_isOfOpenVote cX0_isOfOpenVote 2 (some .boolean), Cond.methodLink RX0 177 yX0_isBallot, Cond.instanceMethod yX0_isBallot, Cond.selects RX0 yX0_isBallot yX0_isBallot, Cond.code yX0_isBallot cX0_isBallot 2 (some .boolean)]
def wsL_send : List Cond := .codeWith yL_send cL_send 4 (some .int) [(0, 6, 9, 14), (0, 6, 14, 18)] :: ((wsL_send_r1 ++ (wsL_send_r2 ++ (wsL_send_r3 ++ wsL_send_r4))) ++ wsX00 ++ (vx_atS RX0 68 "java/lang/IllegalStateException" ["java/lang/RuntimeException", "java/lang/Exception"]).filter goodWord ++ (vx_atS RX0 218 "java/lang/IndexOutOfBoundsException" ["java/lang/RuntimeException", "java/lang/Exception"]).filter goodWord)
def wsL_sentTo : List Cond := .codeWith yL_sentTo cL_sentTo 4 (some .int) [(0, 6, 9, 14)] :: ([.classLink RL 14 "java/lang/IndexOutOfBoundsException", .methodLink RL 67 yX0_sentTo, .instanceMethod yX0_sentTo, .selects RX0 yX0_sentTo yX0_sentTo, .initialized RX0, .code yX0_sentTo cX0_sentTo 2 (some .int), .fieldLink RX0 31 "ShardBallots" "ballotAddresses" "[I", .methodLink RX0 187 yX0_checkBallot, .instanceMethod yX0_checkBallot, .selects RX0 yX0_checkBallot yX0_checkBallot, .code yX0_checkBallot cX0_checkBallot 2 none, .classLink RX0 214 "java/lang/IndexOutOfBoundsException", .initialized "java/lang/IndexOutOfBoundsException", .methodLink RX0 177 yX0_isBallot, .instanceMethod yX0_isBallot, .selects RX0 yX0_isBallot yX0_isBallot, .code yX0_isBallot cX0_isBallot 2 (some .boolean), .fieldLink RX0 182 "ShardBallots" "ballotCount" "I"] ++ wsX00 ++ (vx_atS RX0 218 "java/lang/IndexOutOfBoundsException" ["java/lang/RuntimeException", "java/lang/Exception"]).filter goodWord)
def wsL_giveBack_r1 : List Cond := [Cond.classLink RL 14 "java/lang/IndexOutOfBoundsException", Cond.classLink RL 16 "java/lang/IllegalArgumentException", Cond.classLink RL 18 "java/lang/IllegalStateException", Cond.methodLink RL 70 yX0_giveBack, Cond.instanceMethod yX0_giveBack, Cond.selects RX0 yX0_giveBack yX0_giveBack, Cond.initialized RX0, Cond.code yX0_giveBack cX0_giveBack 3 (some .int), Cond.classLink RX0 64 "java/lang/IllegalStateException", Cond.initialized "java/lang/IllegalStateException", Cond.fieldLink RX0 37 "ShardBallots" "ballotStates" "[I", Cond.fieldLink RX0 40 "ShardBallots" "ballotChoices" "[I", Cond.fieldLink RX0 34 "ShardBallots" "ballotDistricts" "[I", Cond.methodLink RX0 187 yX0_checkBallot, Cond.instanceMethod yX0_checkBallot, Cond.selects RX0 yX0_checkBallot yX0_checkBallot, Cond.code yX0_checkBallot cX0_checkBallot 2 none, Cond.classLink RX0 214 "java/lang/IndexOutOfBoundsException", Cond.initialized "java/lang/IndexOutOfBoundsException", Cond.methodLink RX0 177 yX0_isBallot, Cond.instanceMethod yX0_isBallot, Cond.selects RX0 yX0_isBallot yX0_isBallot, Cond.code yX0_isBallot cX0_isBallot 2 (some .boolean), Cond.fieldLink RX0 182 "ShardBallots" "ballotCount" "I"]
def wsL_giveBack_r2 : List Cond := [Cond.methodLink RX0 190 yX0_checkChoice, Cond.static yX0_checkChoice, Cond.code yX0_checkChoice cX0_checkChoice 1 none, Cond.classLink RX0 227 "java/lang/IllegalArgumentException", Cond.initialized "java/lang/IllegalArgumentException", Cond.methodLink RX0 195 yX0_isOfOpenVote, Cond.instanceMethod yX0_isOfOpenVote, Cond.selects RX0 yX0_isOfOpenVote yX0_isOfOpenVote, Cond.code yX0_isOfOpenVote cX0_isOfOpenVote 2 (some .boolean), Cond.fieldLink RX0 163 "ShardBallots" "rollLaid" "Z", Cond.fieldLink RX0 28 "ShardBallots" "ballotVotes" "[I", Cond.fieldLink RX0 169 "ShardBallots" "voteNumber" "I"]
def wsL_giveBack : List Cond := .codeWith yL_giveBack cL_giveBack 5 (some .int) [(0, 7, 10, 14), (0, 7, 16, 16), (0, 7, 22, 18)] :: ((wsL_giveBack_r1 ++ wsL_giveBack_r2) ++ wsX00 ++ (vx_atS RX0 68 "java/lang/IllegalStateException" ["java/lang/RuntimeException", "java/lang/Exception"]).filter goodWord ++ (vx_atS RX0 218 "java/lang/IndexOutOfBoundsException" ["java/lang/RuntimeException", "java/lang/Exception"]).filter goodWord ++ (vx_atS RX0 231 "java/lang/IllegalArgumentException" ["java/lang/RuntimeException", "java/lang/Exception"]).filter goodWord)
def wsL_stateOf : List Cond := .codeWith yL_stateOf cL_stateOf 4 (some .int) [(0, 6, 9, 14)] :: ([.classLink RL 14 "java/lang/IndexOutOfBoundsException", .methodLink RL 73 yX0_stateOf, .instanceMethod yX0_stateOf, .selects RX0 yX0_stateOf yX0_stateOf, .initialized RX0, .code yX0_stateOf cX0_stateOf 2 (some .int), .fieldLink RX0 37 "ShardBallots" "ballotStates" "[I", .methodLink RX0 187 yX0_checkBallot, .instanceMethod yX0_checkBallot, .selects RX0 yX0_checkBallot yX0_checkBallot, .code yX0_checkBallot cX0_checkBallot 2 none, .classLink RX0 214 "java/lang/IndexOutOfBoundsException", .initialized "java/lang/IndexOutOfBoundsException", .methodLink RX0 177 yX0_isBallot, .instanceMethod yX0_isBallot, .selects RX0 yX0_isBallot yX0_isBallot, .code yX0_isBallot cX0_isBallot 2 (some .boolean), .fieldLink RX0 182 "ShardBallots" "ballotCount" "I"] ++ wsX00 ++ (vx_atS RX0 218 "java/lang/IndexOutOfBoundsException" ["java/lang/RuntimeException", "java/lang/Exception"]).filter goodWord)
def wsL_counted : List Cond := .codeWith yL_counted cL_counted 5 (some .int) [(0, 7, 10, 14), (0, 7, 16, 16)] :: ([.classLink RL 14 "java/lang/IndexOutOfBoundsException", .classLink RL 16 "java/lang/IllegalArgumentException", .methodLink RL 76 yX0_counted, .instanceMethod yX0_counted, .selects RX0 yX0_counted yX0_counted, .initialized RX0, .code yX0_counted cX0_counted 5 (some .int), .fieldLink RX0 182 "ShardBallots" "ballotCount" "I", .fieldLink RX0 37 "ShardBallots" "ballotStates" "[I", .fieldLink RX0 34 "ShardBallots" "ballotDistricts" "[I", .fieldLink RX0 40 "ShardBallots" "ballotChoices" "[I", .methodLink RX0 87 yX0_checkDistrict, .static yX0_checkDistrict, .code yX0_checkDistrict cX0_checkDistrict 1 none, .classLink RX0 214 "java/lang/IndexOutOfBoundsException", .initialized "java/lang/IndexOutOfBoundsException", .methodLink RX0 190 yX0_checkChoice, .static yX0_checkChoice, .code yX0_checkChoice cX0_checkChoice 1 none, .classLink RX0 227 "java/lang/IllegalArgumentException", .initialized "java/lang/IllegalArgumentException"] ++ wsX00 ++ (vx_atS RX0 218 "java/lang/IndexOutOfBoundsException" ["java/lang/RuntimeException", "java/lang/Exception"]).filter goodWord ++ (vx_atS RX0 231 "java/lang/IllegalArgumentException" ["java/lang/RuntimeException", "java/lang/Exception"]).filter goodWord)
def wsL_close : List Cond := .codeWith yL_close cL_close 3 (some .int) [(0, 5, 8, 18)] :: ([.classLink RL 18 "java/lang/IllegalStateException", .methodLink RL 79 yX0_close, .instanceMethod yX0_close, .selects RX0 yX0_close yX0_close, .initialized RX0, .code yX0_close cX0_close 3 (some .int), .classLink RX0 64 "java/lang/IllegalStateException", .initialized "java/lang/IllegalStateException", .fieldLink RX0 163 "ShardBallots" "rollLaid" "Z", .fieldLink RX0 182 "ShardBallots" "ballotCount" "I", .fieldLink RX0 37 "ShardBallots" "ballotStates" "[I", .methodLink RX0 195 yX0_isOfOpenVote, .instanceMethod yX0_isOfOpenVote, .selects RX0 yX0_isOfOpenVote yX0_isOfOpenVote, .code yX0_isOfOpenVote cX0_isOfOpenVote 2 (some .boolean), .fieldLink RX0 28 "ShardBallots" "ballotVotes" "[I", .fieldLink RX0 169 "ShardBallots" "voteNumber" "I", .methodLink RX0 177 yX0_isBallot, .instanceMethod yX0_isBallot, .selects RX0 yX0_isBallot yX0_isBallot, .code yX0_isBallot cX0_isBallot 2 (some .boolean)] ++ wsX00 ++ (vx_atS RX0 68 "java/lang/IllegalStateException" ["java/lang/RuntimeException", "java/lang/Exception"]).filter goodWord)
def wsL_member : List Cond := .code yL_member cL_member 4 (some .int) :: ([])
def wsL_range : List Cond := .code yL_range cL_range 3 (some .int) :: ([])
def wsL_first : List Cond := .code yL_first cL_first 2 (some .int) :: ([])
def wsL_ofRange : List Cond := .code yL_ofRange cL_ofRange 9 (some .int) :: ([.methodLink RL 82 yL_first, .static yL_first, .initialized RL, .code yL_first cL_first 2 (some .int)])
def wsL_writes_r1 : List Cond := [Cond.constant RL 103 (-2147483648), Cond.methodLink RL 88 yL_low, Cond.static yL_low, Cond.initialized RL, Cond.code yL_low cL_low 2 (some .int), Cond.methodLink RL 91 yL_member, Cond.static yL_member, Cond.code yL_member cL_member 4 (some .int), Cond.methodLink RL 95 yL_join, Cond.static yL_join, Cond.codeWith yL_join cL_join 5 (some .int) [(0, 7, 10, 14), (0, 7, 16, 16), (0, 7, 22, 18)], Cond.classLink RL 14 "java/lang/IndexOutOfBoundsException", Cond.classLink RL 16 "java/lang/IllegalArgumentException", Cond.classLink RL 18 "java/lang/IllegalStateException", Cond.methodLink RL 8 yX0_join, Cond.instanceMethod yX0_join, Cond.selects RX0 yX0_join yX0_join, Cond.initialized RX0, Cond.code yX0_join cX0_join 3 (some .int), Cond.classLink RX0 64 "java/lang/IllegalStateException", Cond.initialized "java/lang/IllegalStateException", Cond.fieldLink RX0 71 "ShardBallots" "memberCount" "I", Cond.methodLink RX0 53 yX0_checkKey, Cond.static yX0_checkKey]
def wsL_writes_r2 : List Cond := [Cond.code yX0_checkKey cX0_checkKey 1 none, Cond.classLink RX0 214 "java/lang/IndexOutOfBoundsException", Cond.initialized "java/lang/IndexOutOfBoundsException", Cond.methodLink RX0 205 yX0_isKey, Cond.static yX0_isKey, Cond.code yX0_isKey cX0_isKey 1 (some .boolean), Cond.methodLink RX0 57 yX0_checkAddress, Cond.static yX0_checkAddress, Cond.code yX0_checkAddress cX0_checkAddress 1 none, Cond.classLink RX0 227 "java/lang/IllegalArgumentException", Cond.initialized "java/lang/IllegalArgumentException", Cond.methodLink RX0 60 yX0_isMember, Cond.instanceMethod yX0_isMember, Cond.selects RX0 yX0_isMember yX0_isMember, Cond.code yX0_isMember cX0_isMember 2 (some .boolean), Cond.methodLink RX0 83 yX0_read, Cond.instanceMethod yX0_read, Cond.selects RX0 yX0_read yX0_read, Cond.code yX0_read cX0_read 2 (some .int), Cond.methodLink RX0 93 yX0_rangeHolding, Cond.instanceMethod yX0_rangeHolding, Cond.selects RX0 yX0_rangeHolding yX0_rangeHolding, Cond.code yX0_rangeHolding cX0_rangeHolding 4 (some .int), Cond.fieldLink RX0 49 "ShardBallots" "rangeCount" "I"]
def wsL_writes_r3 : List Cond := [Cond.methodLink RX0 96 yX0_lastKeyOf, Cond.instanceMethod yX0_lastKeyOf, Cond.selects RX0 yX0_lastKeyOf yX0_lastKeyOf, Cond.code yX0_lastKeyOf cX0_lastKeyOf 2 (some .int), Cond.fieldLink RX0 13 "ShardBallots" "lastKeys" "[I", Cond.methodLink RX0 117 yX0_isRange, Cond.instanceMethod yX0_isRange, Cond.selects RX0 yX0_isRange yX0_isRange, Cond.code yX0_isRange cX0_isRange 2 (some .boolean), Cond.methodLink RX0 122 yX0_homeOf, Cond.instanceMethod yX0_homeOf, Cond.selects RX0 yX0_homeOf yX0_homeOf, Cond.code yX0_homeOf cX0_homeOf 2 (some .int), Cond.fieldLink RX0 16 "ShardBallots" "homes" "[I", Cond.methodLink RX0 152 yX0_rowOf, Cond.instanceMethod yX0_rowOf, Cond.selects RX0 yX0_rowOf yX0_rowOf, Cond.code yX0_rowOf cX0_rowOf 3 (some .int), Cond.fieldLink RX0 9 "ShardBallots" "rowTable" "[I", Cond.methodLink RX0 202 yX0_isShard, Cond.static yX0_isShard, Cond.code yX0_isShard cX0_isShard 1 (some .boolean), Cond.methodLink RX0 76 yX0_write, Cond.instanceMethod yX0_write]
def wsL_writes_r4 : List Cond := [Cond.selects RX0 yX0_write yX0_write, Cond.code yX0_write cX0_write 4 none, Cond.methodLink RX0 156 yX0_putRow, Cond.instanceMethod yX0_putRow, Cond.selects RX0 yX0_putRow yX0_putRow, Cond.code yX0_putRow cX0_putRow 4 none, Cond.methodLink RX0 208 yX0_targetOf, Cond.instanceMethod yX0_targetOf, Cond.selects RX0 yX0_targetOf yX0_targetOf, Cond.code yX0_targetOf cX0_targetOf 2 (some .int), Cond.fieldLink RX0 19 "ShardBallots" "targets" "[I", Cond.methodLink RL 98 yL_change, Cond.static yL_change, Cond.codeWith yL_change cL_change 5 (some .int) [(0, 7, 10, 14), (0, 7, 16, 16), (0, 7, 22, 18)], Cond.methodLink RL 20 yX0_change, Cond.instanceMethod yX0_change, Cond.selects RX0 yX0_change yX0_change, Cond.code yX0_change cX0_change 4 (some .int), Cond.methodLink RX0 80 yX0_checkMember, Cond.instanceMethod yX0_checkMember, Cond.selects RX0 yX0_checkMember yX0_checkMember, Cond.code yX0_checkMember cX0_checkMember 2 none, Cond.methodLink RL 100 yL_leave, Cond.static yL_leave]
def wsL_writes_r5 : List Cond := [Cond.codeWith yL_leave cL_leave 4 (some .int) [(0, 6, 9, 14), (0, 6, 14, 18)], Cond.methodLink RL 23 yX0_leave, Cond.instanceMethod yX0_leave, Cond.selects RX0 yX0_leave yX0_leave, Cond.code yX0_leave cX0_leave 3 (some .int)]
def wsL_writes : List Cond := .code yL_writes cL_writes 11 (some .boolean) :: ((wsL_writes_r1 ++ (wsL_writes_r2 ++ (wsL_writes_r3 ++ (wsL_writes_r4 ++ wsL_writes_r5)))) ++ wsX00 ++ (vx_atS RX0 68 "java/lang/IllegalStateException" ["java/lang/RuntimeException", "java/lang/Exception"]).filter goodWord ++ (vx_atS RX0 218 "java/lang/IndexOutOfBoundsException" ["java/lang/RuntimeException", "java/lang/Exception"]).filter goodWord ++ (vx_atS RX0 231 "java/lang/IllegalArgumentException" ["java/lang/RuntimeException", "java/lang/Exception"]).filter goodWord)
def wsL_shards_r1 : List Cond := [Cond.methodLink RL 88 yL_low, Cond.static yL_low, Cond.initialized RL, Cond.code yL_low cL_low 2 (some .int), Cond.methodLink RL 104 yL_range, Cond.static yL_range, Cond.code yL_range cL_range 3 (some .int), Cond.methodLink RL 107 yL_split, Cond.static yL_split, Cond.codeWith yL_split cL_split 4 (some .int) [(0, 6, 9, 14), (0, 6, 14, 18)], Cond.classLink RL 14 "java/lang/IndexOutOfBoundsException", Cond.classLink RL 18 "java/lang/IllegalStateException", Cond.methodLink RL 33 yX0_split, Cond.instanceMethod yX0_split, Cond.selects RX0 yX0_split yX0_split, Cond.initialized RX0, Cond.code yX0_split cX0_split 3 (some .int), Cond.classLink RX0 64 "java/lang/IllegalStateException", Cond.initialized "java/lang/IllegalStateException", Cond.fieldLink RX0 49 "ShardBallots" "rangeCount" "I", Cond.methodLink RX0 53 yX0_checkKey, Cond.static yX0_checkKey, Cond.code yX0_checkKey cX0_checkKey 1 none, Cond.classLink RX0 214 "java/lang/IndexOutOfBoundsException"]
def wsL_shards_r2 : List Cond := [Cond.initialized "java/lang/IndexOutOfBoundsException", Cond.methodLink RX0 205 yX0_isKey, Cond.static yX0_isKey, Cond.code yX0_isKey cX0_isKey 1 (some .boolean), Cond.methodLink RX0 93 yX0_rangeHolding, Cond.instanceMethod yX0_rangeHolding, Cond.selects RX0 yX0_rangeHolding yX0_rangeHolding, Cond.code yX0_rangeHolding cX0_rangeHolding 4 (some .int), Cond.methodLink RX0 96 yX0_lastKeyOf, Cond.instanceMethod yX0_lastKeyOf, Cond.selects RX0 yX0_lastKeyOf yX0_lastKeyOf, Cond.code yX0_lastKeyOf cX0_lastKeyOf 2 (some .int), Cond.fieldLink RX0 13 "ShardBallots" "lastKeys" "[I", Cond.methodLink RX0 117 yX0_isRange, Cond.instanceMethod yX0_isRange, Cond.selects RX0 yX0_isRange yX0_isRange, Cond.code yX0_isRange cX0_isRange 2 (some .boolean), Cond.methodLink RX0 101 yX0_isMoved, Cond.instanceMethod yX0_isMoved, Cond.selects RX0 yX0_isMoved yX0_isMoved, Cond.code yX0_isMoved cX0_isMoved 2 (some .boolean), Cond.methodLink RX0 208 yX0_targetOf, Cond.instanceMethod yX0_targetOf, Cond.selects RX0 yX0_targetOf yX0_targetOf]
def wsL_shards_r3 : List Cond := [Cond.code yX0_targetOf cX0_targetOf 2 (some .int), Cond.fieldLink RX0 19 "ShardBallots" "targets" "[I", Cond.methodLink RX0 108 yX0_insertCopyBehind, Cond.instanceMethod yX0_insertCopyBehind, Cond.selects RX0 yX0_insertCopyBehind yX0_insertCopyBehind, Cond.code yX0_insertCopyBehind cX0_insertCopyBehind 3 none, Cond.methodLink RX0 211 yX0_copyRange, Cond.instanceMethod yX0_copyRange, Cond.selects RX0 yX0_copyRange yX0_copyRange, Cond.code yX0_copyRange cX0_copyRange 3 none, Cond.fieldLink RX0 16 "ShardBallots" "homes" "[I", Cond.methodLink RX0 111 yX0_putLastKey, Cond.instanceMethod yX0_putLastKey, Cond.selects RX0 yX0_putLastKey yX0_putLastKey, Cond.code yX0_putLastKey cX0_putLastKey 3 none, Cond.methodLink RL 109 yL_merge, Cond.static yL_merge, Cond.codeWith yL_merge cL_merge 4 (some .int) [(0, 6, 9, 14), (0, 6, 14, 18)], Cond.methodLink RL 36 yX0_merge, Cond.instanceMethod yX0_merge, Cond.selects RX0 yX0_merge yX0_merge, Cond.code yX0_merge cX0_merge 3 (some .int), Cond.methodLink RX0 114 yX0_checkRange, Cond.instanceMethod yX0_checkRange]
def wsL_shards_r4 : List Cond := [Cond.selects RX0 yX0_checkRange yX0_checkRange, Cond.code yX0_checkRange cX0_checkRange 2 none, Cond.methodLink RX0 122 yX0_homeOf, Cond.instanceMethod yX0_homeOf, Cond.selects RX0 yX0_homeOf yX0_homeOf, Cond.code yX0_homeOf cX0_homeOf 2 (some .int), Cond.methodLink RX0 129 yX0_remove, Cond.instanceMethod yX0_remove, Cond.selects RX0 yX0_remove yX0_remove, Cond.code yX0_remove cX0_remove 3 none, Cond.methodLink RL 111 yL_move, Cond.static yL_move, Cond.codeWith yL_move cL_move 5 (some .int) [(0, 7, 10, 14), (0, 7, 16, 18)], Cond.methodLink RL 39 yX0_move, Cond.instanceMethod yX0_move, Cond.selects RX0 yX0_move yX0_move, Cond.code yX0_move cX0_move 3 (some .int), Cond.methodLink RX0 132 yX0_checkShard, Cond.static yX0_checkShard, Cond.code yX0_checkShard cX0_checkShard 1 none, Cond.methodLink RX0 202 yX0_isShard, Cond.static yX0_isShard, Cond.code yX0_isShard cX0_isShard 1 (some .boolean), Cond.methodLink RX0 139 yX0_firstKeyOf]
def wsL_shards_r5 : List Cond := [Cond.instanceMethod yX0_firstKeyOf, Cond.selects RX0 yX0_firstKeyOf yX0_firstKeyOf, Cond.code yX0_firstKeyOf cX0_firstKeyOf 2 (some .int), Cond.methodLink RX0 142 yX0_countRows, Cond.instanceMethod yX0_countRows, Cond.selects RX0 yX0_countRows yX0_countRows, Cond.code yX0_countRows cX0_countRows 6 (some .int), Cond.methodLink RX0 152 yX0_rowOf, Cond.instanceMethod yX0_rowOf, Cond.selects RX0 yX0_rowOf yX0_rowOf, Cond.code yX0_rowOf cX0_rowOf 3 (some .int), Cond.fieldLink RX0 9 "ShardBallots" "rowTable" "[I", Cond.methodLink RL 113 yL_step, Cond.static yL_step, Cond.codeWith yL_step cL_step 4 (some .int) [(0, 6, 9, 14), (0, 6, 14, 18)], Cond.methodLink RL 42 yX0_step, Cond.instanceMethod yX0_step, Cond.selects RX0 yX0_step yX0_step, Cond.code yX0_step cX0_step 5 (some .int), Cond.methodLink RX0 146 yX0_checkMoved, Cond.instanceMethod yX0_checkMoved, Cond.selects RX0 yX0_checkMoved yX0_checkMoved, Cond.code yX0_checkMoved cX0_checkMoved 2 none, Cond.methodLink RX0 149 yX0_lowestKeyNotBrought]
def wsL_shards_r6 : List Cond := [Cond.instanceMethod yX0_lowestKeyNotBrought, Cond.selects RX0 yX0_lowestKeyNotBrought yX0_lowestKeyNotBrought, Cond.code yX0_lowestKeyNotBrought cX0_lowestKeyNotBrought 6 (some .int), Cond.methodLink RX0 156 yX0_putRow, Cond.instanceMethod yX0_putRow, Cond.selects RX0 yX0_putRow yX0_putRow, Cond.code yX0_putRow cX0_putRow 4 none, Cond.methodLink RX0 160 yX0_dropRows, Cond.instanceMethod yX0_dropRows, Cond.selects RX0 yX0_dropRows yX0_dropRows, Cond.code yX0_dropRows cX0_dropRows 5 none, Cond.methodLink RL 115 yL_giveUp, Cond.static yL_giveUp, Cond.codeWith yL_giveUp cL_giveUp 4 (some .int) [(0, 6, 9, 14), (0, 6, 14, 18)], Cond.methodLink RL 45 yX0_giveUp, Cond.instanceMethod yX0_giveUp, Cond.selects RX0 yX0_giveUp yX0_giveUp, Cond.code yX0_giveUp cX0_giveUp 4 (some .int), Cond.methodLink RL 117 yL_shardOf, Cond.static yL_shardOf, Cond.codeWith yL_shardOf cL_shardOf 4 (some .int) [(0, 6, 9, 14)], Cond.methodLink RL 51 yX0_shardOf, Cond.instanceMethod yX0_shardOf, Cond.selects RX0 yX0_shardOf yX0_shardOf]
def wsL_shards_r7 : List Cond := [Cond.code yX0_shardOf cX0_shardOf 2 (some .int), Cond.methodLink RL 82 yL_first, Cond.static yL_first, Cond.code yL_first cL_first 2 (some .int), Cond.methodLink RL 119 yL_ofRange, Cond.static yL_ofRange, Cond.code yL_ofRange cL_ofRange 9 (some .int), Cond.methodLink RL 91 yL_member, Cond.static yL_member, Cond.code yL_member cL_member 4 (some .int)]
def wsL_shards : List Cond := .code yL_shards cL_shards 11 (some .boolean) :: ((wsL_shards_r1 ++ (wsL_shards_r2 ++ (wsL_shards_r3 ++ (wsL_shards_r4 ++ (wsL_shards_r5 ++ (wsL_shards_r6 ++ wsL_shards_r7)))))) ++ wsX00 ++ (vx_atS RX0 68 "java/lang/IllegalStateException" ["java/lang/RuntimeException", "java/lang/Exception"]).filter goodWord ++ (vx_atS RX0 218 "java/lang/IndexOutOfBoundsException" ["java/lang/RuntimeException", "java/lang/Exception"]).filter goodWord)
def wsL_rolled : List Cond := .code yL_rolled cL_rolled 4 (some .int) :: ([])
def wsL_votes_r1 : List Cond := [Cond.constant RL 133 (32768), Cond.constant RL 134 (262144), Cond.methodLink RL 123 yL_fix, Cond.static yL_fix, Cond.initialized RL, Cond.codeWith yL_fix cL_fix 3 (some .int) [(0, 5, 8, 18)], Cond.classLink RL 18 "java/lang/IllegalStateException", Cond.methodLink RL 57 yX0_fix, Cond.instanceMethod yX0_fix, Cond.selects RX0 yX0_fix yX0_fix, Cond.initialized RX0, Cond.code yX0_fix cX0_fix 2 (some .int), Cond.classLink RX0 64 "java/lang/IllegalStateException", Cond.initialized "java/lang/IllegalStateException", Cond.fieldLink RX0 163 "ShardBallots" "rollLaid" "Z", Cond.fieldLink RX0 22 "ShardBallots" "roll" "[I", Cond.fieldLink RX0 169 "ShardBallots" "voteNumber" "I", Cond.fieldLink RX0 71 "ShardBallots" "memberCount" "I", Cond.methodLink RX0 83 yX0_read, Cond.instanceMethod yX0_read, Cond.selects RX0 yX0_read yX0_read, Cond.code yX0_read cX0_read 2 (some .int), Cond.methodLink RX0 93 yX0_rangeHolding, Cond.instanceMethod yX0_rangeHolding]
def wsL_votes_r2 : List Cond := [Cond.selects RX0 yX0_rangeHolding yX0_rangeHolding, Cond.code yX0_rangeHolding cX0_rangeHolding 4 (some .int), Cond.fieldLink RX0 49 "ShardBallots" "rangeCount" "I", Cond.methodLink RX0 96 yX0_lastKeyOf, Cond.instanceMethod yX0_lastKeyOf, Cond.selects RX0 yX0_lastKeyOf yX0_lastKeyOf, Cond.code yX0_lastKeyOf cX0_lastKeyOf 2 (some .int), Cond.fieldLink RX0 13 "ShardBallots" "lastKeys" "[I", Cond.methodLink RX0 117 yX0_isRange, Cond.instanceMethod yX0_isRange, Cond.selects RX0 yX0_isRange yX0_isRange, Cond.code yX0_isRange cX0_isRange 2 (some .boolean), Cond.methodLink RX0 122 yX0_homeOf, Cond.instanceMethod yX0_homeOf, Cond.selects RX0 yX0_homeOf yX0_homeOf, Cond.code yX0_homeOf cX0_homeOf 2 (some .int), Cond.fieldLink RX0 16 "ShardBallots" "homes" "[I", Cond.methodLink RX0 152 yX0_rowOf, Cond.instanceMethod yX0_rowOf, Cond.selects RX0 yX0_rowOf yX0_rowOf, Cond.code yX0_rowOf cX0_rowOf 3 (some .int), Cond.fieldLink RX0 9 "ShardBallots" "rowTable" "[I", Cond.methodLink RX0 202 yX0_isShard, Cond.static yX0_isShard]
def wsL_votes_r3 : List Cond := [Cond.code yX0_isShard cX0_isShard 1 (some .boolean), Cond.methodLink RX0 205 yX0_isKey, Cond.static yX0_isKey, Cond.code yX0_isKey cX0_isKey 1 (some .boolean), Cond.methodLink RX0 90 yX0_districtOf, Cond.static yX0_districtOf, Cond.code yX0_districtOf cX0_districtOf 1 (some .int), Cond.methodLink RL 126 yL_close, Cond.static yL_close, Cond.codeWith yL_close cL_close 3 (some .int) [(0, 5, 8, 18)], Cond.methodLink RL 79 yX0_close, Cond.instanceMethod yX0_close, Cond.selects RX0 yX0_close yX0_close, Cond.code yX0_close cX0_close 3 (some .int), Cond.fieldLink RX0 182 "ShardBallots" "ballotCount" "I", Cond.fieldLink RX0 37 "ShardBallots" "ballotStates" "[I", Cond.methodLink RX0 195 yX0_isOfOpenVote, Cond.instanceMethod yX0_isOfOpenVote, Cond.selects RX0 yX0_isOfOpenVote yX0_isOfOpenVote, Cond.code yX0_isOfOpenVote cX0_isOfOpenVote 2 (some .boolean), Cond.fieldLink RX0 28 "ShardBallots" "ballotVotes" "[I", Cond.methodLink RX0 177 yX0_isBallot, Cond.instanceMethod yX0_isBallot, Cond.selects RX0 yX0_isBallot yX0_isBallot]
def wsL_votes_r4 : List Cond := [Cond.code yX0_isBallot cX0_isBallot 2 (some .boolean), Cond.methodLink RL 88 yL_low, Cond.static yL_low, Cond.code yL_low cL_low 2 (some .int), Cond.methodLink RL 91 yL_member, Cond.static yL_member, Cond.code yL_member cL_member 4 (some .int), Cond.methodLink RL 128 yL_rolled, Cond.static yL_rolled, Cond.code yL_rolled cL_rolled 4 (some .int), Cond.methodLink RL 131 yL_send, Cond.static yL_send, Cond.codeWith yL_send cL_send 4 (some .int) [(0, 6, 9, 14), (0, 6, 14, 18)], Cond.classLink RL 14 "java/lang/IndexOutOfBoundsException", Cond.methodLink RL 64 yX0_send, Cond.instanceMethod yX0_send, Cond.selects RX0 yX0_send yX0_send, Cond.code yX0_send cX0_send 4 (some .int), Cond.fieldLink RX0 25 "ShardBallots" "ballotKeys" "[I", Cond.fieldLink RX0 31 "ShardBallots" "ballotAddresses" "[I", Cond.fieldLink RX0 34 "ShardBallots" "ballotDistricts" "[I", Cond.methodLink RX0 53 yX0_checkKey, Cond.static yX0_checkKey, Cond.code yX0_checkKey cX0_checkKey 1 none]
def wsL_votes_r5 : List Cond := [Cond.classLink RX0 214 "java/lang/IndexOutOfBoundsException", Cond.initialized "java/lang/IndexOutOfBoundsException", Cond.methodLink RX0 80 yX0_checkMember, Cond.instanceMethod yX0_checkMember, Cond.selects RX0 yX0_checkMember yX0_checkMember, Cond.code yX0_checkMember cX0_checkMember 2 none, Cond.methodLink RX0 60 yX0_isMember, Cond.instanceMethod yX0_isMember, Cond.selects RX0 yX0_isMember yX0_isMember, Cond.code yX0_isMember cX0_isMember 2 (some .boolean), Cond.methodLink RX0 174 yX0_latestBallotTo, Cond.instanceMethod yX0_latestBallotTo, Cond.selects RX0 yX0_latestBallotTo yX0_latestBallotTo, Cond.code yX0_latestBallotTo cX0_latestBallotTo 3 (some .int), Cond.methodLink RL 135 yL_giveBack, Cond.static yL_giveBack, Cond.codeWith yL_giveBack cL_giveBack 5 (some .int) [(0, 7, 10, 14), (0, 7, 16, 16), (0, 7, 22, 18)], Cond.classLink RL 16 "java/lang/IllegalArgumentException", Cond.methodLink RL 70 yX0_giveBack, Cond.instanceMethod yX0_giveBack, Cond.selects RX0 yX0_giveBack yX0_giveBack, Cond.code yX0_giveBack cX0_giveBack 3 (some .int), Cond.fieldLink RX0 40 "ShardBallots" "ballotChoices" "[I", Cond.methodLink RX0 187 yX0_checkBallot]
def wsL_votes_r6 : List Cond := [Cond.instanceMethod yX0_checkBallot, Cond.selects RX0 yX0_checkBallot yX0_checkBallot, Cond.code yX0_checkBallot cX0_checkBallot 2 none, Cond.methodLink RX0 190 yX0_checkChoice, Cond.static yX0_checkChoice, Cond.code yX0_checkChoice cX0_checkChoice 1 none, Cond.classLink RX0 227 "java/lang/IllegalArgumentException", Cond.initialized "java/lang/IllegalArgumentException", Cond.methodLink RL 137 yL_stateOf, Cond.static yL_stateOf, Cond.codeWith yL_stateOf cL_stateOf 4 (some .int) [(0, 6, 9, 14)], Cond.methodLink RL 73 yX0_stateOf, Cond.instanceMethod yX0_stateOf, Cond.selects RX0 yX0_stateOf yX0_stateOf, Cond.code yX0_stateOf cX0_stateOf 2 (some .int), Cond.methodLink RL 139 yL_sentTo, Cond.static yL_sentTo, Cond.codeWith yL_sentTo cL_sentTo 4 (some .int) [(0, 6, 9, 14)], Cond.methodLink RL 67 yX0_sentTo, Cond.instanceMethod yX0_sentTo, Cond.selects RX0 yX0_sentTo yX0_sentTo, Cond.code yX0_sentTo cX0_sentTo 2 (some .int)]
def wsL_votes : List Cond := .code yL_votes cL_votes 14 (some .boolean) :: ((wsL_votes_r1 ++ (wsL_votes_r2 ++ (wsL_votes_r3 ++ (wsL_votes_r4 ++ (wsL_votes_r5 ++ wsL_votes_r6))))) ++ wsX00 ++ (vx_atS RX0 68 "java/lang/IllegalStateException" ["java/lang/RuntimeException", "java/lang/Exception"]).filter goodWord ++ (vx_atS RX0 218 "java/lang/IndexOutOfBoundsException" ["java/lang/RuntimeException", "java/lang/Exception"]).filter goodWord ++ (vx_atS RX0 231 "java/lang/IllegalArgumentException" ["java/lang/RuntimeException", "java/lang/Exception"]).filter goodWord)
def wsL_isTold_r1 : List Cond := [Cond.constant RL 103 (-2147483648), Cond.constant RL 156 (2147483647), Cond.methodLink RL 119 yL_ofRange, Cond.static yL_ofRange, Cond.initialized RL, Cond.code yL_ofRange cL_ofRange 9 (some .int), Cond.methodLink RL 82 yL_first, Cond.static yL_first, Cond.code yL_first cL_first 2 (some .int), Cond.methodLink RL 141 yL_rows, Cond.static yL_rows, Cond.codeWith yL_rows cL_rows 4 (some .int) [(0, 6, 9, 14)], Cond.classLink RL 14 "java/lang/IndexOutOfBoundsException", Cond.methodLink RL 54 yX0_rows, Cond.instanceMethod yX0_rows, Cond.selects RX0 yX0_rows yX0_rows, Cond.initialized RX0, Cond.code yX0_rows cX0_rows 2 (some .int), Cond.methodLink RX0 132 yX0_checkShard, Cond.static yX0_checkShard, Cond.code yX0_checkShard cX0_checkShard 1 none, Cond.classLink RX0 214 "java/lang/IndexOutOfBoundsException", Cond.initialized "java/lang/IndexOutOfBoundsException", Cond.methodLink RX0 202 yX0_isShard]
def wsL_isTold_r2 : List Cond := [Cond.static yX0_isShard, Cond.code yX0_isShard cX0_isShard 1 (some .boolean), Cond.methodLink RX0 142 yX0_countRows, Cond.instanceMethod yX0_countRows, Cond.selects RX0 yX0_countRows yX0_countRows, Cond.code yX0_countRows cX0_countRows 6 (some .int), Cond.methodLink RX0 152 yX0_rowOf, Cond.instanceMethod yX0_rowOf, Cond.selects RX0 yX0_rowOf yX0_rowOf, Cond.code yX0_rowOf cX0_rowOf 3 (some .int), Cond.fieldLink RX0 9 "ShardBallots" "rowTable" "[I", Cond.methodLink RX0 205 yX0_isKey, Cond.static yX0_isKey, Cond.code yX0_isKey cX0_isKey 1 (some .boolean), Cond.methodLink RL 143 yL_inDistrict, Cond.static yL_inDistrict, Cond.codeWith yL_inDistrict cL_inDistrict 4 (some .int) [(0, 6, 9, 14)], Cond.methodLink RL 30 yX0_inDistrict, Cond.instanceMethod yX0_inDistrict, Cond.selects RX0 yX0_inDistrict yX0_inDistrict, Cond.code yX0_inDistrict cX0_inDistrict 4 (some .int), Cond.methodLink RX0 87 yX0_checkDistrict, Cond.static yX0_checkDistrict, Cond.code yX0_checkDistrict cX0_checkDistrict 1 none]
def wsL_isTold_r3 : List Cond := [Cond.methodLink RX0 83 yX0_read, Cond.instanceMethod yX0_read, Cond.selects RX0 yX0_read yX0_read, Cond.code yX0_read cX0_read 2 (some .int), Cond.methodLink RX0 93 yX0_rangeHolding, Cond.instanceMethod yX0_rangeHolding, Cond.selects RX0 yX0_rangeHolding yX0_rangeHolding, Cond.code yX0_rangeHolding cX0_rangeHolding 4 (some .int), Cond.fieldLink RX0 49 "ShardBallots" "rangeCount" "I", Cond.methodLink RX0 96 yX0_lastKeyOf, Cond.instanceMethod yX0_lastKeyOf, Cond.selects RX0 yX0_lastKeyOf yX0_lastKeyOf, Cond.code yX0_lastKeyOf cX0_lastKeyOf 2 (some .int), Cond.fieldLink RX0 13 "ShardBallots" "lastKeys" "[I", Cond.methodLink RX0 117 yX0_isRange, Cond.instanceMethod yX0_isRange, Cond.selects RX0 yX0_isRange yX0_isRange, Cond.code yX0_isRange cX0_isRange 2 (some .boolean), Cond.methodLink RX0 122 yX0_homeOf, Cond.instanceMethod yX0_homeOf, Cond.selects RX0 yX0_homeOf yX0_homeOf, Cond.code yX0_homeOf cX0_homeOf 2 (some .int), Cond.fieldLink RX0 16 "ShardBallots" "homes" "[I", Cond.methodLink RX0 90 yX0_districtOf]
def wsL_isTold_r4 : List Cond := [Cond.static yX0_districtOf, Cond.code yX0_districtOf cX0_districtOf 1 (some .int), Cond.methodLink RL 145 yL_counted, Cond.static yL_counted, Cond.codeWith yL_counted cL_counted 5 (some .int) [(0, 7, 10, 14), (0, 7, 16, 16)], Cond.classLink RL 16 "java/lang/IllegalArgumentException", Cond.methodLink RL 76 yX0_counted, Cond.instanceMethod yX0_counted, Cond.selects RX0 yX0_counted yX0_counted, Cond.code yX0_counted cX0_counted 5 (some .int), Cond.fieldLink RX0 182 "ShardBallots" "ballotCount" "I", Cond.fieldLink RX0 37 "ShardBallots" "ballotStates" "[I", Cond.fieldLink RX0 34 "ShardBallots" "ballotDistricts" "[I", Cond.fieldLink RX0 40 "ShardBallots" "ballotChoices" "[I", Cond.methodLink RX0 190 yX0_checkChoice, Cond.static yX0_checkChoice, Cond.code yX0_checkChoice cX0_checkChoice 1 none, Cond.classLink RX0 227 "java/lang/IllegalArgumentException", Cond.initialized "java/lang/IllegalArgumentException", Cond.methodLink RL 117 yL_shardOf, Cond.static yL_shardOf, Cond.codeWith yL_shardOf cL_shardOf 4 (some .int) [(0, 6, 9, 14)], Cond.methodLink RL 51 yX0_shardOf, Cond.instanceMethod yX0_shardOf]
def wsL_isTold_r5 : List Cond := [Cond.selects RX0 yX0_shardOf yX0_shardOf, Cond.code yX0_shardOf cX0_shardOf 2 (some .int), Cond.methodLink RX0 114 yX0_checkRange, Cond.instanceMethod yX0_checkRange, Cond.selects RX0 yX0_checkRange yX0_checkRange, Cond.code yX0_checkRange cX0_checkRange 2 none, Cond.methodLink RL 88 yL_low, Cond.static yL_low, Cond.code yL_low cL_low 2 (some .int), Cond.methodLink RL 91 yL_member, Cond.static yL_member, Cond.code yL_member cL_member 4 (some .int), Cond.methodLink RL 147 yL_address, Cond.static yL_address, Cond.codeWith yL_address cL_address 4 (some .int) [(0, 6, 9, 14)], Cond.methodLink RL 27 yX0_address, Cond.instanceMethod yX0_address, Cond.selects RX0 yX0_address yX0_address, Cond.code yX0_address cX0_address 2 (some .int), Cond.methodLink RX0 53 yX0_checkKey, Cond.static yX0_checkKey, Cond.code yX0_checkKey cX0_checkKey 1 none, Cond.methodLink RL 149 yL_onRoll, Cond.static yL_onRoll]
def wsL_isTold_r6 : List Cond := [Cond.codeWith yL_onRoll cL_onRoll 4 (some .int) [(0, 6, 9, 14)], Cond.methodLink RL 61 yX0_onRoll, Cond.instanceMethod yX0_onRoll, Cond.selects RX0 yX0_onRoll yX0_onRoll, Cond.code yX0_onRoll cX0_onRoll 2 (some .int), Cond.fieldLink RX0 163 "ShardBallots" "rollLaid" "Z", Cond.fieldLink RX0 22 "ShardBallots" "roll" "[I", Cond.methodLink RL 128 yL_rolled, Cond.static yL_rolled, Cond.code yL_rolled cL_rolled 4 (some .int), Cond.methodLink RL 151 yL_rangeOf, Cond.static yL_rangeOf, Cond.codeWith yL_rangeOf cL_rangeOf 4 (some .int) [(0, 6, 9, 14)], Cond.methodLink RL 48 yX0_rangeOf, Cond.instanceMethod yX0_rangeOf, Cond.selects RX0 yX0_rangeOf yX0_rangeOf, Cond.code yX0_rangeOf cX0_rangeOf 2 (some .int), Cond.methodLink RL 104 yL_range, Cond.static yL_range, Cond.code yL_range cL_range 3 (some .int), Cond.methodLink RL 137 yL_stateOf, Cond.static yL_stateOf, Cond.codeWith yL_stateOf cL_stateOf 4 (some .int) [(0, 6, 9, 14)], Cond.methodLink RL 73 yX0_stateOf]
def wsL_isTold_r7 : List Cond := [Cond.instanceMethod yX0_stateOf, Cond.selects RX0 yX0_stateOf yX0_stateOf, Cond.code yX0_stateOf cX0_stateOf 2 (some .int), Cond.methodLink RX0 187 yX0_checkBallot, Cond.instanceMethod yX0_checkBallot, Cond.selects RX0 yX0_checkBallot yX0_checkBallot, Cond.code yX0_checkBallot cX0_checkBallot 2 none, Cond.methodLink RX0 177 yX0_isBallot, Cond.instanceMethod yX0_isBallot, Cond.selects RX0 yX0_isBallot yX0_isBallot, Cond.code yX0_isBallot cX0_isBallot 2 (some .boolean), Cond.methodLink RL 139 yL_sentTo, Cond.static yL_sentTo, Cond.codeWith yL_sentTo cL_sentTo 4 (some .int) [(0, 6, 9, 14)], Cond.methodLink RL 67 yX0_sentTo, Cond.instanceMethod yX0_sentTo, Cond.selects RX0 yX0_sentTo yX0_sentTo, Cond.code yX0_sentTo cX0_sentTo 2 (some .int), Cond.fieldLink RX0 31 "ShardBallots" "ballotAddresses" "[I", Cond.methodLink RL 153 yX0_ranges, Cond.instanceMethod yX0_ranges, Cond.selects RX0 yX0_ranges yX0_ranges, Cond.code yX0_ranges cX0_ranges 1 (some .int)]
def wsL_isTold : List Cond := .code yL_isTold cL_isTold 12 (some .boolean) :: ((wsL_isTold_r1 ++ (wsL_isTold_r2 ++ (wsL_isTold_r3 ++ (wsL_isTold_r4 ++ (wsL_isTold_r5 ++ (wsL_isTold_r6 ++ wsL_isTold_r7)))))) ++ wsX00 ++ (vx_atS RX0 218 "java/lang/IndexOutOfBoundsException" ["java/lang/RuntimeException", "java/lang/Exception"]).filter goodWord ++ (vx_atS RX0 231 "java/lang/IllegalArgumentException" ["java/lang/RuntimeException", "java/lang/Exception"]).filter goodWord)
def wsL_law0_r1 : List Cond := [Cond.classLink RL 9 RX0, Cond.instantiable RX0 16, Cond.initialized RX0, Cond.arrayClass .int, Cond.methodLink RL 157 yX0_init, Cond.instanceMethod yX0_init, Cond.code yX0_init cX0_init 1 none, Cond.methodLink RX0 1 objectInit, Cond.instanceMethod objectInit, Cond.code objectInit ⟨#[0xb1]⟩ 1 none, Cond.fieldLink RX0 9 "ShardBallots" "rowTable" "[I", Cond.fieldLink RX0 13 "ShardBallots" "lastKeys" "[I", Cond.fieldLink RX0 16 "ShardBallots" "homes" "[I", Cond.fieldLink RX0 19 "ShardBallots" "targets" "[I", Cond.fieldLink RX0 22 "ShardBallots" "roll" "[I", Cond.fieldLink RX0 25 "ShardBallots" "ballotKeys" "[I", Cond.fieldLink RX0 28 "ShardBallots" "ballotVotes" "[I", Cond.fieldLink RX0 31 "ShardBallots" "ballotAddresses" "[I", Cond.fieldLink RX0 34 "ShardBallots" "ballotDistricts" "[I", Cond.fieldLink RX0 37 "ShardBallots" "ballotStates" "[I", Cond.fieldLink RX0 40 "ShardBallots" "ballotChoices" "[I", Cond.fieldLink RX0 49 "ShardBallots" "rangeCount" "I", Cond.methodLink RX0 43 yJ7_fill_53178, Cond.static yJ7_fill_53178]
def wsL_law0_r2 : List Cond := [Cond.initialized RJ7, Cond.code yJ7_fill_53178 cJ7_fill_53178 4 none, Cond.methodLink RL 158 yL_isTold, Cond.static yL_isTold, Cond.initialized RL, Cond.code yL_isTold cL_isTold 12 (some .boolean), Cond.constant RL 103 (-2147483648), Cond.constant RL 156 (2147483647), Cond.methodLink RL 119 yL_ofRange, Cond.static yL_ofRange, Cond.code yL_ofRange cL_ofRange 9 (some .int), Cond.methodLink RL 82 yL_first, Cond.static yL_first, Cond.code yL_first cL_first 2 (some .int), Cond.methodLink RL 141 yL_rows, Cond.static yL_rows, Cond.codeWith yL_rows cL_rows 4 (some .int) [(0, 6, 9, 14)], Cond.classLink RL 14 "java/lang/IndexOutOfBoundsException", Cond.methodLink RL 54 yX0_rows, Cond.instanceMethod yX0_rows, Cond.selects RX0 yX0_rows yX0_rows, Cond.code yX0_rows cX0_rows 2 (some .int), Cond.methodLink RX0 132 yX0_checkShard, Cond.static yX0_checkShard]
def wsL_law0_r3 : List Cond := [Cond.code yX0_checkShard cX0_checkShard 1 none, Cond.classLink RX0 214 "java/lang/IndexOutOfBoundsException", Cond.initialized "java/lang/IndexOutOfBoundsException", Cond.methodLink RX0 202 yX0_isShard, Cond.static yX0_isShard, Cond.code yX0_isShard cX0_isShard 1 (some .boolean), Cond.methodLink RX0 142 yX0_countRows, Cond.instanceMethod yX0_countRows, Cond.selects RX0 yX0_countRows yX0_countRows, Cond.code yX0_countRows cX0_countRows 6 (some .int), Cond.methodLink RX0 152 yX0_rowOf, Cond.instanceMethod yX0_rowOf, Cond.selects RX0 yX0_rowOf yX0_rowOf, Cond.code yX0_rowOf cX0_rowOf 3 (some .int), Cond.methodLink RX0 205 yX0_isKey, Cond.static yX0_isKey, Cond.code yX0_isKey cX0_isKey 1 (some .boolean), Cond.methodLink RL 143 yL_inDistrict, Cond.static yL_inDistrict, Cond.codeWith yL_inDistrict cL_inDistrict 4 (some .int) [(0, 6, 9, 14)], Cond.methodLink RL 30 yX0_inDistrict, Cond.instanceMethod yX0_inDistrict, Cond.selects RX0 yX0_inDistrict yX0_inDistrict, Cond.code yX0_inDistrict cX0_inDistrict 4 (some .int)]
def wsL_law0_r4 : List Cond := [Cond.methodLink RX0 87 yX0_checkDistrict, Cond.static yX0_checkDistrict, Cond.code yX0_checkDistrict cX0_checkDistrict 1 none, Cond.methodLink RX0 83 yX0_read, Cond.instanceMethod yX0_read, Cond.selects RX0 yX0_read yX0_read, Cond.code yX0_read cX0_read 2 (some .int), Cond.methodLink RX0 93 yX0_rangeHolding, Cond.instanceMethod yX0_rangeHolding, Cond.selects RX0 yX0_rangeHolding yX0_rangeHolding, Cond.code yX0_rangeHolding cX0_rangeHolding 4 (some .int), Cond.methodLink RX0 96 yX0_lastKeyOf, Cond.instanceMethod yX0_lastKeyOf, Cond.selects RX0 yX0_lastKeyOf yX0_lastKeyOf, Cond.code yX0_lastKeyOf cX0_lastKeyOf 2 (some .int), Cond.methodLink RX0 117 yX0_isRange, Cond.instanceMethod yX0_isRange, Cond.selects RX0 yX0_isRange yX0_isRange, Cond.code yX0_isRange cX0_isRange 2 (some .boolean), Cond.methodLink RX0 122 yX0_homeOf, Cond.instanceMethod yX0_homeOf, Cond.selects RX0 yX0_homeOf yX0_homeOf, Cond.code yX0_homeOf cX0_homeOf 2 (some .int), Cond.methodLink RX0 90 yX0_districtOf]
def wsL_law0_r5 : List Cond := [Cond.static yX0_districtOf, Cond.code yX0_districtOf cX0_districtOf 1 (some .int), Cond.methodLink RL 145 yL_counted, Cond.static yL_counted, Cond.codeWith yL_counted cL_counted 5 (some .int) [(0, 7, 10, 14), (0, 7, 16, 16)], Cond.classLink RL 16 "java/lang/IllegalArgumentException", Cond.methodLink RL 76 yX0_counted, Cond.instanceMethod yX0_counted, Cond.selects RX0 yX0_counted yX0_counted, Cond.code yX0_counted cX0_counted 5 (some .int), Cond.fieldLink RX0 182 "ShardBallots" "ballotCount" "I", Cond.methodLink RX0 190 yX0_checkChoice, Cond.static yX0_checkChoice, Cond.code yX0_checkChoice cX0_checkChoice 1 none, Cond.classLink RX0 227 "java/lang/IllegalArgumentException", Cond.initialized "java/lang/IllegalArgumentException", Cond.methodLink RL 117 yL_shardOf, Cond.static yL_shardOf, Cond.codeWith yL_shardOf cL_shardOf 4 (some .int) [(0, 6, 9, 14)], Cond.methodLink RL 51 yX0_shardOf, Cond.instanceMethod yX0_shardOf, Cond.selects RX0 yX0_shardOf yX0_shardOf, Cond.code yX0_shardOf cX0_shardOf 2 (some .int), Cond.methodLink RX0 114 yX0_checkRange]
def wsL_law0_r6 : List Cond := [Cond.instanceMethod yX0_checkRange, Cond.selects RX0 yX0_checkRange yX0_checkRange, Cond.code yX0_checkRange cX0_checkRange 2 none, Cond.methodLink RL 88 yL_low, Cond.static yL_low, Cond.code yL_low cL_low 2 (some .int), Cond.methodLink RL 91 yL_member, Cond.static yL_member, Cond.code yL_member cL_member 4 (some .int), Cond.methodLink RL 147 yL_address, Cond.static yL_address, Cond.codeWith yL_address cL_address 4 (some .int) [(0, 6, 9, 14)], Cond.methodLink RL 27 yX0_address, Cond.instanceMethod yX0_address, Cond.selects RX0 yX0_address yX0_address, Cond.code yX0_address cX0_address 2 (some .int), Cond.methodLink RX0 53 yX0_checkKey, Cond.static yX0_checkKey, Cond.code yX0_checkKey cX0_checkKey 1 none, Cond.methodLink RL 149 yL_onRoll, Cond.static yL_onRoll, Cond.codeWith yL_onRoll cL_onRoll 4 (some .int) [(0, 6, 9, 14)], Cond.methodLink RL 61 yX0_onRoll, Cond.instanceMethod yX0_onRoll]
def wsL_law0_r7 : List Cond := [Cond.selects RX0 yX0_onRoll yX0_onRoll, Cond.code yX0_onRoll cX0_onRoll 2 (some .int), Cond.fieldLink RX0 163 "ShardBallots" "rollLaid" "Z", Cond.methodLink RL 128 yL_rolled, Cond.static yL_rolled, Cond.code yL_rolled cL_rolled 4 (some .int), Cond.methodLink RL 151 yL_rangeOf, Cond.static yL_rangeOf, Cond.codeWith yL_rangeOf cL_rangeOf 4 (some .int) [(0, 6, 9, 14)], Cond.methodLink RL 48 yX0_rangeOf, Cond.instanceMethod yX0_rangeOf, Cond.selects RX0 yX0_rangeOf yX0_rangeOf, Cond.code yX0_rangeOf cX0_rangeOf 2 (some .int), Cond.methodLink RL 104 yL_range, Cond.static yL_range, Cond.code yL_range cL_range 3 (some .int), Cond.methodLink RL 137 yL_stateOf, Cond.static yL_stateOf, Cond.codeWith yL_stateOf cL_stateOf 4 (some .int) [(0, 6, 9, 14)], Cond.methodLink RL 73 yX0_stateOf, Cond.instanceMethod yX0_stateOf, Cond.selects RX0 yX0_stateOf yX0_stateOf, Cond.code yX0_stateOf cX0_stateOf 2 (some .int), Cond.methodLink RX0 187 yX0_checkBallot]
def wsL_law0_r8 : List Cond := [Cond.instanceMethod yX0_checkBallot, Cond.selects RX0 yX0_checkBallot yX0_checkBallot, Cond.code yX0_checkBallot cX0_checkBallot 2 none, Cond.methodLink RX0 177 yX0_isBallot, Cond.instanceMethod yX0_isBallot, Cond.selects RX0 yX0_isBallot yX0_isBallot, Cond.code yX0_isBallot cX0_isBallot 2 (some .boolean), Cond.methodLink RL 139 yL_sentTo, Cond.static yL_sentTo, Cond.codeWith yL_sentTo cL_sentTo 4 (some .int) [(0, 6, 9, 14)], Cond.methodLink RL 67 yX0_sentTo, Cond.instanceMethod yX0_sentTo, Cond.selects RX0 yX0_sentTo yX0_sentTo, Cond.code yX0_sentTo cX0_sentTo 2 (some .int), Cond.methodLink RL 153 yX0_ranges, Cond.instanceMethod yX0_ranges, Cond.selects RX0 yX0_ranges yX0_ranges, Cond.code yX0_ranges cX0_ranges 1 (some .int), Cond.methodLink RL 162 yL_cell, Cond.static yL_cell, Cond.code yL_cell cL_cell 2 (some .int), Cond.constant RL 7 (1205586403), Cond.methodLink RL 165 yL_writes, Cond.static yL_writes]
def wsL_law0_r9 : List Cond := [Cond.code yL_writes cL_writes 11 (some .boolean), Cond.methodLink RL 95 yL_join, Cond.static yL_join, Cond.codeWith yL_join cL_join 5 (some .int) [(0, 7, 10, 14), (0, 7, 16, 16), (0, 7, 22, 18)], Cond.classLink RL 18 "java/lang/IllegalStateException", Cond.methodLink RL 8 yX0_join, Cond.instanceMethod yX0_join, Cond.selects RX0 yX0_join yX0_join, Cond.code yX0_join cX0_join 3 (some .int), Cond.classLink RX0 64 "java/lang/IllegalStateException", Cond.initialized "java/lang/IllegalStateException", Cond.fieldLink RX0 71 "ShardBallots" "memberCount" "I", Cond.methodLink RX0 57 yX0_checkAddress, Cond.static yX0_checkAddress, Cond.code yX0_checkAddress cX0_checkAddress 1 none, Cond.methodLink RX0 60 yX0_isMember, Cond.instanceMethod yX0_isMember, Cond.selects RX0 yX0_isMember yX0_isMember, Cond.code yX0_isMember cX0_isMember 2 (some .boolean), Cond.methodLink RX0 76 yX0_write, Cond.instanceMethod yX0_write, Cond.selects RX0 yX0_write yX0_write, Cond.code yX0_write cX0_write 4 none, Cond.methodLink RX0 156 yX0_putRow]
def wsL_law0_r10 : List Cond := [Cond.instanceMethod yX0_putRow, Cond.selects RX0 yX0_putRow yX0_putRow, Cond.code yX0_putRow cX0_putRow 4 none, Cond.methodLink RX0 208 yX0_targetOf, Cond.instanceMethod yX0_targetOf, Cond.selects RX0 yX0_targetOf yX0_targetOf, Cond.code yX0_targetOf cX0_targetOf 2 (some .int), Cond.methodLink RL 98 yL_change, Cond.static yL_change, Cond.codeWith yL_change cL_change 5 (some .int) [(0, 7, 10, 14), (0, 7, 16, 16), (0, 7, 22, 18)], Cond.methodLink RL 20 yX0_change, Cond.instanceMethod yX0_change, Cond.selects RX0 yX0_change yX0_change, Cond.code yX0_change cX0_change 4 (some .int), Cond.methodLink RX0 80 yX0_checkMember, Cond.instanceMethod yX0_checkMember, Cond.selects RX0 yX0_checkMember yX0_checkMember, Cond.code yX0_checkMember cX0_checkMember 2 none, Cond.methodLink RL 100 yL_leave, Cond.static yL_leave, Cond.codeWith yL_leave cL_leave 4 (some .int) [(0, 6, 9, 14), (0, 6, 14, 18)], Cond.methodLink RL 23 yX0_leave, Cond.instanceMethod yX0_leave, Cond.selects RX0 yX0_leave yX0_leave]
def wsL_law0_r11_0 : List Cond := [Cond.code yX0_leave cX0_leave 3 (some .int), Cond.methodLink RL 169 yL_shards, Cond.static yL_shards]
def wsL_law0_r11_1 : List Cond := [Cond.code yL_shards cL_shards 11 (some .boolean)]
def wsL_law0_r11_2 : List Cond := [Cond.methodLink RL 107 yL_split, Cond.static yL_split, Cond.codeWith yL_split cL_split 4 (some .int) [(0, 6, 9, 14), (0, 6, 14, 18)], Cond.methodLink RL 33 yX0_split, Cond.instanceMethod yX0_split, Cond.selects RX0 yX0_split yX0_split, Cond.code yX0_split cX0_split 3 (some .int), Cond.methodLink RX0 101 yX0_isMoved, Cond.instanceMethod yX0_isMoved, Cond.selects RX0 yX0_isMoved yX0_isMoved, Cond.code yX0_isMoved cX0_isMoved 2 (some .boolean), Cond.methodLink RX0 108 yX0_insertCopyBehind, Cond.instanceMethod yX0_insertCopyBehind, Cond.selects RX0 yX0_insertCopyBehind yX0_insertCopyBehind, Cond.code yX0_insertCopyBehind cX0_insertCopyBehind 3 none, Cond.methodLink RX0 211 yX0_copyRange, Cond.instanceMethod yX0_copyRange, Cond.selects RX0 yX0_copyRange yX0_copyRange, Cond.code yX0_copyRange cX0_copyRange 3 none, Cond.methodLink RX0 111 yX0_putLastKey]
def wsL_law0_r11 : List Cond := (wsL_law0_r11_0 ++ (wsL_law0_r11_1 ++ wsL_law0_r11_2))
def wsL_law0_r12 : List Cond := [Cond.instanceMethod yX0_putLastKey, Cond.selects RX0 yX0_putLastKey yX0_putLastKey, Cond.code yX0_putLastKey cX0_putLastKey 3 none, Cond.methodLink RL 109 yL_merge, Cond.static yL_merge, Cond.codeWith yL_merge cL_merge 4 (some .int) [(0, 6, 9, 14), (0, 6, 14, 18)], Cond.methodLink RL 36 yX0_merge, Cond.instanceMethod yX0_merge, Cond.selects RX0 yX0_merge yX0_merge, Cond.code yX0_merge cX0_merge 3 (some .int), Cond.methodLink RX0 129 yX0_remove, Cond.instanceMethod yX0_remove, Cond.selects RX0 yX0_remove yX0_remove, Cond.code yX0_remove cX0_remove 3 none, Cond.methodLink RL 111 yL_move, Cond.static yL_move, Cond.codeWith yL_move cL_move 5 (some .int) [(0, 7, 10, 14), (0, 7, 16, 18)], Cond.methodLink RL 39 yX0_move, Cond.instanceMethod yX0_move, Cond.selects RX0 yX0_move yX0_move, Cond.code yX0_move cX0_move 3 (some .int), Cond.methodLink RX0 139 yX0_firstKeyOf, Cond.instanceMethod yX0_firstKeyOf, Cond.selects RX0 yX0_firstKeyOf yX0_firstKeyOf]
def wsL_law0_r13 : List Cond := [Cond.code yX0_firstKeyOf cX0_firstKeyOf 2 (some .int), Cond.methodLink RL 113 yL_step, Cond.static yL_step, Cond.codeWith yL_step cL_step 4 (some .int) [(0, 6, 9, 14), (0, 6, 14, 18)], Cond.methodLink RL 42 yX0_step, Cond.instanceMethod yX0_step, Cond.selects RX0 yX0_step yX0_step, Cond.code yX0_step cX0_step 5 (some .int), Cond.methodLink RX0 146 yX0_checkMoved, Cond.instanceMethod yX0_checkMoved, Cond.selects RX0 yX0_checkMoved yX0_checkMoved, Cond.code yX0_checkMoved cX0_checkMoved 2 none, Cond.methodLink RX0 149 yX0_lowestKeyNotBrought, Cond.instanceMethod yX0_lowestKeyNotBrought, Cond.selects RX0 yX0_lowestKeyNotBrought yX0_lowestKeyNotBrought, Cond.code yX0_lowestKeyNotBrought cX0_lowestKeyNotBrought 6 (some .int), Cond.methodLink RX0 160 yX0_dropRows, Cond.instanceMethod yX0_dropRows, Cond.selects RX0 yX0_dropRows yX0_dropRows, Cond.code yX0_dropRows cX0_dropRows 5 none, Cond.methodLink RL 115 yL_giveUp, Cond.static yL_giveUp, Cond.codeWith yL_giveUp cL_giveUp 4 (some .int) [(0, 6, 9, 14), (0, 6, 14, 18)], Cond.methodLink RL 45 yX0_giveUp]
def wsL_law0_r14_0 : List Cond := [Cond.instanceMethod yX0_giveUp, Cond.selects RX0 yX0_giveUp yX0_giveUp, Cond.code yX0_giveUp cX0_giveUp 4 (some .int), Cond.methodLink RL 173 yL_votes, Cond.static yL_votes]
def wsL_law0_r14_1 : List Cond := [Cond.code yL_votes cL_votes 14 (some .boolean)]
def wsL_law0_r14_2 : List Cond := [Cond.constant RL 133 (32768), Cond.constant RL 134 (262144), Cond.methodLink RL 123 yL_fix, Cond.static yL_fix, Cond.codeWith yL_fix cL_fix 3 (some .int) [(0, 5, 8, 18)], Cond.methodLink RL 57 yX0_fix, Cond.instanceMethod yX0_fix, Cond.selects RX0 yX0_fix yX0_fix, Cond.code yX0_fix cX0_fix 2 (some .int), Cond.fieldLink RX0 169 "ShardBallots" "voteNumber" "I", Cond.methodLink RL 126 yL_close, Cond.static yL_close, Cond.codeWith yL_close cL_close 3 (some .int) [(0, 5, 8, 18)], Cond.methodLink RL 79 yX0_close, Cond.instanceMethod yX0_close, Cond.selects RX0 yX0_close yX0_close, Cond.code yX0_close cX0_close 3 (some .int), Cond.methodLink RX0 195 yX0_isOfOpenVote]
def wsL_law0_r14 : List Cond := (wsL_law0_r14_0 ++ (wsL_law0_r14_1 ++ wsL_law0_r14_2))
def wsL_law0_r15 : List Cond := [Cond.instanceMethod yX0_isOfOpenVote, Cond.selects RX0 yX0_isOfOpenVote yX0_isOfOpenVote, Cond.code yX0_isOfOpenVote cX0_isOfOpenVote 2 (some .boolean), Cond.methodLink RL 131 yL_send, Cond.static yL_send, Cond.codeWith yL_send cL_send 4 (some .int) [(0, 6, 9, 14), (0, 6, 14, 18)], Cond.methodLink RL 64 yX0_send, Cond.instanceMethod yX0_send, Cond.selects RX0 yX0_send yX0_send, Cond.code yX0_send cX0_send 4 (some .int), Cond.methodLink RX0 174 yX0_latestBallotTo, Cond.instanceMethod yX0_latestBallotTo, Cond.selects RX0 yX0_latestBallotTo yX0_latestBallotTo, Cond.code yX0_latestBallotTo cX0_latestBallotTo 3 (some .int), Cond.methodLink RL 135 yL_giveBack, Cond.static yL_giveBack, Cond.codeWith yL_giveBack cL_giveBack 5 (some .int) [(0, 7, 10, 14), (0, 7, 16, 16), (0, 7, 22, 18)], Cond.methodLink RL 70 yX0_giveBack, Cond.instanceMethod yX0_giveBack, Cond.selects RX0 yX0_giveBack yX0_giveBack, Cond.code yX0_giveBack cX0_giveBack 3 (some .int)]
def wsL_law0 : List Cond := (wsL_law0_r1 ++ (wsL_law0_r2 ++ (wsL_law0_r3 ++ (wsL_law0_r4 ++ (wsL_law0_r5 ++ (wsL_law0_r6 ++ (wsL_law0_r7 ++ (wsL_law0_r8 ++ (wsL_law0_r9 ++ (wsL_law0_r10 ++ (wsL_law0_r11 ++ (wsL_law0_r12 ++ (wsL_law0_r13 ++ (wsL_law0_r14 ++ wsL_law0_r15)))))))))))))) ++ wsX00 ++ ([] : List Cond)
def wsL_law : List Cond := wsL_law0 ++ (vx_atS RX0 218 "java/lang/IndexOutOfBoundsException" ["java/lang/RuntimeException", "java/lang/Exception"]).filter goodWord ++ (vx_atS RX0 231 "java/lang/IllegalArgumentException" ["java/lang/RuntimeException", "java/lang/Exception"]).filter goodWord ++ (vx_atS RX0 68 "java/lang/IllegalStateException" ["java/lang/RuntimeException", "java/lang/Exception"]).filter goodWord
end
section
set_option maxRecDepth 20000 in
theorem wsL_law_in0_1 : ∀ w ∈ wsL_law0_r1, w ∈ lw_tbl := fun w h => (goodIn_r wsL_law0_r1 [36, 37, 28, 96, 38, 39, 40, 41, 42, 43, 47, 49, 50, 51, 53, 56, 57, 58, 59, 60, 61, 52, 44, 45] (by decide +kernel) (by decide +kernel) w h).1
set_option maxRecDepth 20000 in
theorem wsL_law_in0_2 : ∀ w ∈ wsL_law0_r2, w ∈ lw_tbl := fun w h => (goodIn_r wsL_law0_r2 [29, 46, 486, 487, 27, 488, 292, 539, 402, 403, 404, 399, 400, 401, 489, 490, 491, 113, 492, 493, 494, 495, 351, 352] (by decide +kernel) (by decide +kernel) w h).1
set_option maxRecDepth 20000 in
theorem wsL_law_in0_3 : ∀ w ∈ wsL_law0_r3, w ∈ lw_tbl := fun w h => (goodIn_r wsL_law0_r3 [353, 126, 33, 241, 242, 243, 361, 363, 19, 364, 237, 239, 7, 240, 123, 124, 125, 496, 497, 498, 499, 500, 501, 502] (by decide +kernel) (by decide +kernel) w h).1
set_option maxRecDepth 20000 in
theorem wsL_law_in0_4 : ∀ w ∈ wsL_law0_r4, w ∈ lw_tbl := fun w h => (goodIn_r wsL_law0_r4 [503, 504, 505, 217, 219, 2, 220, 221, 223, 3, 224, 225, 227, 4, 228, 229, 231, 5, 232, 233, 235, 6, 236, 416] (by decide +kernel) (by decide +kernel) w h).1
set_option maxRecDepth 20000 in
theorem wsL_law_in0_5 : ∀ w ∈ wsL_law0_r5, w ∈ lw_tbl := fun w h => (goodIn_r wsL_law0_r5 [417, 418, 507, 508, 509, 114, 510, 511, 512, 513, 62, 466, 467, 468, 197, 34, 392, 393, 394, 395, 396, 397, 398, 332] (by decide +kernel) (by decide +kernel) w h).1
set_option maxRecDepth 20000 in
theorem wsL_law_in0_6 : ∀ w ∈ wsL_law0_r6, w ∈ lw_tbl := fun w h => (goodIn_r wsL_law0_r6 [334, 16, 335, 101, 102, 103, 107, 108, 109, 514, 515, 516, 517, 518, 519, 520, 120, 121, 122, 521, 522, 523, 524, 525] (by decide +kernel) (by decide +kernel) w h).1
set_option maxRecDepth 20000 in
theorem wsL_law_in0_7 : ∀ w ∈ wsL_law0_r7, w ∈ lw_tbl := fun w h => (goodIn_r wsL_law0_r7 [526, 527, 54, 435, 436, 437, 528, 529, 530, 531, 532, 533, 534, 296, 297, 298, 472, 473, 474, 475, 476, 477, 478, 461] (by decide +kernel) (by decide +kernel) w h).1
set_option maxRecDepth 20000 in
theorem wsL_law_in0_8 : ∀ w ∈ wsL_law0_r8, w ∈ lw_tbl := fun w h => (goodIn_r wsL_law0_r8 [463, 26, 464, 431, 433, 24, 434, 479, 480, 481, 482, 483, 484, 485, 535, 536, 537, 538, 97, 98, 99, 100, 104, 105] (by decide +kernel) (by decide +kernel) w h).1
set_option maxRecDepth 20000 in
theorem wsL_law_in0_9 : ∀ w ∈ wsL_law0_r9, w ∈ lw_tbl := fun w h => (goodIn_r wsL_law0_r9 [106, 110, 111, 112, 115, 116, 117, 118, 119, 244, 35, 48, 194, 195, 196, 213, 215, 1, 216, 261, 263, 8, 264, 265] (by decide +kernel) (by decide +kernel) w h).1
set_option maxRecDepth 20000 in
theorem wsL_law_in0_10 : ∀ w ∈ wsL_law0_r10, w ∈ lw_tbl := fun w h => (goodIn_r wsL_law0_r10 [267, 9, 268, 269, 271, 10, 272, 273, 274, 275, 276, 277, 278, 279, 280, 282, 11, 283, 285, 286, 287, 288, 289, 290] (by decide +kernel) (by decide +kernel) w h).1
set_option maxRecDepth 20000 in
theorem wsL_law0_r11_in0 : ∀ w ∈ wsL_law0_r11_0, w ∈ lw_tbl := fun w h => (goodIn_r wsL_law0_r11_0 [291, 293, 294] (by decide +kernel) (by decide +kernel) w h).1
set_option maxRecDepth 20000 in
theorem wsL_law0_r11_in1 : ∀ w ∈ wsL_law0_r11_1, w ∈ lw_tbl := List.forall_mem_cons.mpr ⟨List.mem_of_getElem? (i := 295) rfl, fun _ h => nomatch h⟩
set_option maxRecDepth 20000 in
theorem wsL_law0_r11_in2 : ∀ w ∈ wsL_law0_r11_2, w ∈ lw_tbl := fun w h => (goodIn_r wsL_law0_r11_2 [299, 300, 301, 302, 303, 304, 305, 307, 309, 12, 310, 313, 315, 13, 316, 317, 319, 14, 320, 321] (by decide +kernel) (by decide +kernel) w h).1
theorem wsL_law_in0_11 : ∀ w ∈ wsL_law0_r11, w ∈ lw_tbl := fun w => (fun h => (List.mem_append.mp h).elim (wsL_law0_r11_in0 w) (fun h => (List.mem_append.mp h).elim (wsL_law0_r11_in1 w) (wsL_law0_r11_in2 w)))
set_option maxRecDepth 20000 in
theorem wsL_law_in0_12 : ∀ w ∈ wsL_law0_r12, w ∈ lw_tbl := fun w h => (goodIn_r wsL_law0_r12 [323, 15, 324, 325, 326, 327, 328, 329, 330, 331, 340, 342, 17, 343, 344, 345, 346, 347, 348, 349, 350, 357, 359, 18] (by decide +kernel) (by decide +kernel) w h).1
set_option maxRecDepth 20000 in
theorem wsL_law_in0_13 : ∀ w ∈ wsL_law0_r13, w ∈ lw_tbl := fun w h => (goodIn_r wsL_law0_r13 [360, 365, 366, 367, 368, 369, 370, 371, 372, 374, 20, 375, 377, 379, 21, 380, 381, 383, 22, 384, 385, 386, 387, 388] (by decide +kernel) (by decide +kernel) w h).1
set_option maxRecDepth 20000 in
theorem wsL_law0_r14_in0 : ∀ w ∈ wsL_law0_r14_0, w ∈ lw_tbl := fun w h => (goodIn_r wsL_law0_r14_0 [389, 390, 391, 405, 406] (by decide +kernel) (by decide +kernel) w h).1
set_option maxRecDepth 20000 in
theorem wsL_law0_r14_in1 : ∀ w ∈ wsL_law0_r14_1, w ∈ lw_tbl := List.forall_mem_cons.mpr ⟨List.mem_of_getElem? (i := 407) rfl, fun _ h => nomatch h⟩
set_option maxRecDepth 20000 in
theorem wsL_law0_r14_in2 : ∀ w ∈ wsL_law0_r14_2, w ∈ lw_tbl := fun w h => (goodIn_r wsL_law0_r14_2 [452, 453, 408, 409, 410, 411, 412, 413, 414, 55, 419, 420, 421, 422, 423, 424, 425, 427] (by decide +kernel) (by decide +kernel) w h).1
theorem wsL_law_in0_14 : ∀ w ∈ wsL_law0_r14, w ∈ lw_tbl := fun w => (fun h => (List.mem_append.mp h).elim (wsL_law0_r14_in0 w) (fun h => (List.mem_append.mp h).elim (wsL_law0_r14_in1 w) (wsL_law0_r14_in2 w)))
set_option maxRecDepth 20000 in
theorem wsL_law_in0_15 : ∀ w ∈ wsL_law0_r15, w ∈ lw_tbl := fun w h => (goodIn_r wsL_law0_r15 [429, 23, 430, 438, 439, 440, 441, 442, 443, 444, 446, 448, 25, 449, 454, 455, 456, 457, 458, 459, 460] (by decide +kernel) (by decide +kernel) w h).1
set_option maxRecDepth 20000 in
theorem wsL_law_in0_wsX00 : ∀ w ∈ wsX00, w ∈ lw_tbl := fun w h => (goodIn_r wsX00 [63, 65, 67, 69, 71, 73, 75, 77, 79, 81, 83, 85, 87, 89, 91, 93] (by decide +kernel) (by decide +kernel) w h).1
set_option maxRecDepth 20000 in
theorem wsL_law_in0 : ∀ w ∈ wsL_law0, w ∈ lw_tbl := fun w h => (List.mem_append.mp h).elim (fun h => (List.mem_append.mp h).elim (fun h => (List.mem_append.mp h).elim (wsL_law_in0_1 w) (fun h => (List.mem_append.mp h).elim (wsL_law_in0_2 w) (fun h => (List.mem_append.mp h).elim (wsL_law_in0_3 w) (fun h => (List.mem_append.mp h).elim (wsL_law_in0_4 w) (fun h => (List.mem_append.mp h).elim (wsL_law_in0_5 w) (fun h => (List.mem_append.mp h).elim (wsL_law_in0_6 w) (fun h => (List.mem_append.mp h).elim (wsL_law_in0_7 w) (fun h => (List.mem_append.mp h).elim (wsL_law_in0_8 w) (fun h => (List.mem_append.mp h).elim (wsL_law_in0_9 w) (fun h => (List.mem_append.mp h).elim (wsL_law_in0_10 w) (fun h => (List.mem_append.mp h).elim (wsL_law_in0_11 w) (fun h => (List.mem_append.mp h).elim (wsL_law_in0_12 w) (fun h => (List.mem_append.mp h).elim (wsL_law_in0_13 w) (fun h => (List.mem_append.mp h).elim (wsL_law_in0_14 w) (wsL_law_in0_15 w))))))))))))))) (wsL_law_in0_wsX00 w)) (fun h => absurd h List.not_mem_nil)
theorem wsL_law_x0 : ∀ w ∈ (vx_atS RX0 218 "java/lang/IndexOutOfBoundsException" ["java/lang/RuntimeException", "java/lang/Exception"]).filter goodWord, w ∈ lw_tbl := by decide +kernel
theorem wsL_law_x1 : ∀ w ∈ (vx_atS RX0 231 "java/lang/IllegalArgumentException" ["java/lang/RuntimeException", "java/lang/Exception"]).filter goodWord, w ∈ lw_tbl := by decide +kernel
theorem wsL_law_x2 : ∀ w ∈ (vx_atS RX0 68 "java/lang/IllegalStateException" ["java/lang/RuntimeException", "java/lang/Exception"]).filter goodWord, w ∈ lw_tbl := by decide +kernel
theorem wsL_law_in : ∀ w ∈ wsL_law, w ∈ lw_tbl := fun w h => (List.mem_append.mp h).elim (fun h => (List.mem_append.mp h).elim (fun h => (List.mem_append.mp h).elim (fun h => wsL_law_in0 w h) (fun h => wsL_law_x0 w h)) (fun h => wsL_law_x1 w h)) (fun h => wsL_law_x2 w h)
theorem inlX0 : ∀ w ∈ wsX00, w ∈ wsL_law := fun _ h => List.mem_append_left _ (List.mem_append_left _ (List.mem_append_left _ (List.mem_append_left _ (List.mem_append_right _ h))))
theorem inX0 : ∀ w ∈ wsX00, w ∈ lw_tbl := fun w h => wsL_law_in w (inlX0 w h)
theorem inX1 : ∀ w ∈ wsX10, w ∈ lw_tbl := by decide +kernel
theorem inJx145de : ∀ w ∈ wsJx145de0, w ∈ lw_tbl := by decide +kernel
theorem inJ0 : ∀ w ∈ wsJ00, w ∈ lw_tbl := by decide +kernel
theorem inJ7 : ∀ w ∈ wsJ70, w ∈ lw_tbl := by decide +kernel
end
section
set_option maxRecDepth 20000 in
theorem ggX0_init_J7_fill_53178 : GoodIn wsX0_init wsJ7_fill_53178 := goodIn_r _ [20] (by decide +kernel) (by decide +kernel)
set_option maxRecDepth 20000 in
theorem gX0_init_J7_fill_53178 : GoodIn wsX0_init (va_wsS RX0 43 yJ7_fill_53178 wsJ7_fill_53178) := goodIn_app (goodIn_of _ (by decide +kernel)) ggX0_init_J7_fill_53178
theorem dX0_init_0 : decode cX0_init 0 = .ok (.aload_n 0, 1) := by decide +kernel
theorem dX0_init_1 : decode cX0_init 1 = .ok (.invokespecial 1, 3) := by decide +kernel
theorem dX0_init_4 : decode cX0_init 4 = .ok (.aload_n 0, 1) := by decide +kernel
theorem dX0_init_5 : decode cX0_init 5 = .ok (.sipush 400, 3) := by decide +kernel
theorem dX0_init_8 : decode cX0_init 8 = .ok (.newarray .int, 2) := by decide +kernel
theorem dX0_init_10 : decode cX0_init 10 = .ok (.putfield 9, 3) := by decide +kernel
theorem dX0_init_13 : decode cX0_init 13 = .ok (.aload_n 0, 1) := by decide +kernel
theorem dX0_init_14 : decode cX0_init 14 = .ok (.bipush 8, 2) := by decide +kernel
theorem dX0_init_16 : decode cX0_init 16 = .ok (.newarray .int, 2) := by decide +kernel
theorem dX0_init_18 : decode cX0_init 18 = .ok (.putfield 13, 3) := by decide +kernel
theorem dX0_init_21 : decode cX0_init 21 = .ok (.aload_n 0, 1) := by decide +kernel
theorem dX0_init_22 : decode cX0_init 22 = .ok (.bipush 8, 2) := by decide +kernel
theorem dX0_init_24 : decode cX0_init 24 = .ok (.newarray .int, 2) := by decide +kernel
theorem dX0_init_26 : decode cX0_init 26 = .ok (.putfield 16, 3) := by decide +kernel
theorem dX0_init_29 : decode cX0_init 29 = .ok (.aload_n 0, 1) := by decide +kernel
theorem dX0_init_30 : decode cX0_init 30 = .ok (.bipush 8, 2) := by decide +kernel
theorem dX0_init_32 : decode cX0_init 32 = .ok (.newarray .int, 2) := by decide +kernel
theorem dX0_init_34 : decode cX0_init 34 = .ok (.putfield 19, 3) := by decide +kernel
theorem dX0_init_37 : decode cX0_init 37 = .ok (.aload_n 0, 1) := by decide +kernel
theorem dX0_init_38 : decode cX0_init 38 = .ok (.bipush 100, 2) := by decide +kernel
theorem dX0_init_40 : decode cX0_init 40 = .ok (.newarray .int, 2) := by decide +kernel
theorem dX0_init_42 : decode cX0_init 42 = .ok (.putfield 22, 3) := by decide +kernel
theorem dX0_init_45 : decode cX0_init 45 = .ok (.aload_n 0, 1) := by decide +kernel
theorem dX0_init_46 : decode cX0_init 46 = .ok (.bipush 60, 2) := by decide +kernel
theorem dX0_init_48 : decode cX0_init 48 = .ok (.newarray .int, 2) := by decide +kernel
theorem dX0_init_50 : decode cX0_init 50 = .ok (.putfield 25, 3) := by decide +kernel
theorem dX0_init_53 : decode cX0_init 53 = .ok (.aload_n 0, 1) := by decide +kernel
theorem dX0_init_54 : decode cX0_init 54 = .ok (.bipush 60, 2) := by decide +kernel
theorem dX0_init_56 : decode cX0_init 56 = .ok (.newarray .int, 2) := by decide +kernel
theorem dX0_init_58 : decode cX0_init 58 = .ok (.putfield 28, 3) := by decide +kernel
theorem dX0_init_61 : decode cX0_init 61 = .ok (.aload_n 0, 1) := by decide +kernel
theorem dX0_init_62 : decode cX0_init 62 = .ok (.bipush 60, 2) := by decide +kernel
theorem dX0_init_64 : decode cX0_init 64 = .ok (.newarray .int, 2) := by decide +kernel
theorem dX0_init_66 : decode cX0_init 66 = .ok (.putfield 31, 3) := by decide +kernel
theorem dX0_init_69 : decode cX0_init 69 = .ok (.aload_n 0, 1) := by decide +kernel
theorem dX0_init_70 : decode cX0_init 70 = .ok (.bipush 60, 2) := by decide +kernel
theorem dX0_init_72 : decode cX0_init 72 = .ok (.newarray .int, 2) := by decide +kernel
theorem dX0_init_74 : decode cX0_init 74 = .ok (.putfield 34, 3) := by decide +kernel
theorem dX0_init_77 : decode cX0_init 77 = .ok (.aload_n 0, 1) := by decide +kernel
theorem dX0_init_78 : decode cX0_init 78 = .ok (.bipush 60, 2) := by decide +kernel
theorem dX0_init_80 : decode cX0_init 80 = .ok (.newarray .int, 2) := by decide +kernel
theorem dX0_init_82 : decode cX0_init 82 = .ok (.putfield 37, 3) := by decide +kernel
theorem dX0_init_85 : decode cX0_init 85 = .ok (.aload_n 0, 1) := by decide +kernel
theorem dX0_init_86 : decode cX0_init 86 = .ok (.bipush 60, 2) := by decide +kernel
theorem dX0_init_88 : decode cX0_init 88 = .ok (.newarray .int, 2) := by decide +kernel
theorem dX0_init_90 : decode cX0_init 90 = .ok (.putfield 40, 3) := by decide +kernel
theorem dX0_init_93 : decode cX0_init 93 = .ok (.aload_n 0, 1) := by decide +kernel
theorem dX0_init_94 : decode cX0_init 94 = .ok (.getfield 9, 3) := by decide +kernel
theorem dX0_init_97 : decode cX0_init 97 = .ok (.iconst (-1), 1) := by decide +kernel
theorem dX0_init_98 : decode cX0_init 98 = .ok (.invokestatic 43, 3) := by decide +kernel
theorem dX0_init_101 : decode cX0_init 101 = .ok (.aload_n 0, 1) := by decide +kernel
theorem dX0_init_102 : decode cX0_init 102 = .ok (.getfield 19, 3) := by decide +kernel
theorem dX0_init_105 : decode cX0_init 105 = .ok (.iconst (-1), 1) := by decide +kernel
theorem dX0_init_106 : decode cX0_init 106 = .ok (.invokestatic 43, 3) := by decide +kernel
theorem dX0_init_109 : decode cX0_init 109 = .ok (.aload_n 0, 1) := by decide +kernel
theorem dX0_init_110 : decode cX0_init 110 = .ok (.getfield 13, 3) := by decide +kernel
theorem dX0_init_113 : decode cX0_init 113 = .ok (.iconst 0, 1) := by decide +kernel
theorem dX0_init_114 : decode cX0_init 114 = .ok (.bipush 99, 2) := by decide +kernel
theorem dX0_init_116 : decode cX0_init 116 = .ok (.iastore, 1) := by decide +kernel
theorem dX0_init_117 : decode cX0_init 117 = .ok (.aload_n 0, 1) := by decide +kernel
theorem dX0_init_118 : decode cX0_init 118 = .ok (.iconst 1, 1) := by decide +kernel
theorem dX0_init_119 : decode cX0_init 119 = .ok (.putfield 49, 3) := by decide +kernel
theorem dX0_init_122 : decode cX0_init 122 = .ok (.return_, 1) := by decide +kernel
set_option maxRecDepth 20000 in
theorem ggX0_join_X0_checkKey : GoodIn wsX0_join wsX0_checkKey := goodIn_ca (goodIn_r _ [7, 8, 9, 10, 11, 6, 12] (by decide +kernel) (by decide +kernel)) (goodIn_sub (fun _ h => List.mem_cons_of_mem _ (List.mem_append_left _ (List.mem_append_right _ h))) (by decide +kernel))
set_option maxRecDepth 20000 in
theorem gX0_join_X0_checkKey : GoodIn wsX0_join (va_wsS RX0 53 yX0_checkKey wsX0_checkKey) := goodIn_app (goodIn_of _ (by decide +kernel)) ggX0_join_X0_checkKey
set_option maxRecDepth 20000 in
theorem ggX0_join_X0_checkAddress : GoodIn wsX0_join wsX0_checkAddress := goodIn_ca (goodIn_r _ [15, 16, 17] (by decide +kernel) (by decide +kernel)) (goodIn_sub (fun _ h => List.mem_cons_of_mem _ (List.mem_append_right _ h)) (by decide +kernel))
set_option maxRecDepth 20000 in
theorem gX0_join_X0_checkAddress : GoodIn wsX0_join (va_wsS RX0 57 yX0_checkAddress wsX0_checkAddress) := goodIn_app (goodIn_of _ (by decide +kernel)) ggX0_join_X0_checkAddress
set_option maxRecDepth 20000 in
theorem ggX0_join_X0_isMember : GoodIn wsX0_join wsX0_isMember := goodIn_r _ [21, 22, 23, 24, 6, 25, 26, 27, 28, 29, 30, 31, 32, 33, 34, 35, 36, 37, 38, 39, 40, 41, 42, 43, 44, 45, 46, 47, 48, 49, 50, 51, 52, 10, 11, 12, 66, 67, 68, 69, 70, 71, 72, 73, 74, 75, 76, 77, 78, 79, 80, 81] (by decide +kernel) (by decide +kernel)
set_option maxRecDepth 20000 in
theorem gX0_join_X0_isMember : GoodIn wsX0_join (wsV RX0 60 RX0 yX0_isMember wsX0_isMember) := goodIn_app (goodIn_of _ (by decide +kernel)) ggX0_join_X0_isMember
set_option maxRecDepth 20000 in
theorem ggX0_join_X0_write : GoodIn wsX0_join wsX0_write := goodIn_r _ [56, 26, 27, 28, 6, 29, 30, 31, 32, 33, 34, 35, 36, 37, 38, 39, 40, 41, 42, 43, 44, 57, 58, 59, 60, 49, 50, 51, 52, 10, 11, 12, 61, 62, 63, 64, 65, 66, 67, 68, 69, 70, 71, 72, 73, 74, 75, 76, 77, 78, 79, 80, 81] (by decide +kernel) (by decide +kernel)
set_option maxRecDepth 20000 in
theorem gX0_join_X0_write : GoodIn wsX0_join (wsV RX0 76 RX0 yX0_write wsX0_write) := goodIn_app (goodIn_of _ (by decide +kernel)) ggX0_join_X0_write
theorem dX0_join_0 : decode cX0_join 0 = .ok (.iload_n 1, 1) := by decide +kernel
theorem dX0_join_1 : decode cX0_join 1 = .ok (.invokestatic 53, 3) := by decide +kernel
theorem dX0_join_4 : decode cX0_join 4 = .ok (.iload_n 2, 1) := by decide +kernel
theorem dX0_join_5 : decode cX0_join 5 = .ok (.invokestatic 57, 3) := by decide +kernel
theorem dX0_join_8 : decode cX0_join 8 = .ok (.aload_n 0, 1) := by decide +kernel
theorem dX0_join_9 : decode cX0_join 9 = .ok (.iload_n 1, 1) := by decide +kernel
theorem dX0_join_10 : decode cX0_join 10 = .ok (.invokevirtual 60, 3) := by decide +kernel
theorem dX0_join_13 : decode cX0_join 13 = .ok (.ifCond .eq 13, 3) := by decide +kernel
theorem dX0_join_16 : decode cX0_join 16 = .ok (.new 64, 3) := by decide +kernel
theorem dX0_join_19 : decode cX0_join 19 = .ok (.dup, 1) := by decide +kernel
theorem dX0_join_20 : decode cX0_join 20 = .ok (.ldc 66, 2) := by decide +kernel
theorem dX0_join_22 : decode cX0_join 22 = .ok (.invokespecial 68, 3) := by decide +kernel
theorem dX0_join_25 : decode cX0_join 25 = .ok (.athrow, 1) := by decide +kernel
theorem dX0_join_26 : decode cX0_join 26 = .ok (.aload_n 0, 1) := by decide +kernel
theorem dX0_join_27 : decode cX0_join 27 = .ok (.getfield 71, 3) := by decide +kernel
theorem dX0_join_30 : decode cX0_join 30 = .ok (.bipush 40, 2) := by decide +kernel
theorem dX0_join_32 : decode cX0_join 32 = .ok (.if_icmp .lt 13, 3) := by decide +kernel
theorem dX0_join_35 : decode cX0_join 35 = .ok (.new 64, 3) := by decide +kernel
theorem dX0_join_38 : decode cX0_join 38 = .ok (.dup, 1) := by decide +kernel
theorem dX0_join_39 : decode cX0_join 39 = .ok (.ldc 74, 2) := by decide +kernel
theorem dX0_join_41 : decode cX0_join 41 = .ok (.invokespecial 68, 3) := by decide +kernel
theorem dX0_join_44 : decode cX0_join 44 = .ok (.athrow, 1) := by decide +kernel
theorem dX0_join_45 : decode cX0_join 45 = .ok (.aload_n 0, 1) := by decide +kernel
theorem dX0_join_46 : decode cX0_join 46 = .ok (.iload_n 1, 1) := by decide +kernel
theorem dX0_join_47 : decode cX0_join 47 = .ok (.iload_n 2, 1) := by decide +kernel
theorem dX0_join_48 : decode cX0_join 48 = .ok (.invokevirtual 76, 3) := by decide +kernel
theorem dX0_join_51 : decode cX0_join 51 = .ok (.aload_n 0, 1) := by decide +kernel
theorem dX0_join_52 : decode cX0_join 52 = .ok (.dup, 1) := by decide +kernel
theorem dX0_join_53 : decode cX0_join 53 = .ok (.getfield 71, 3) := by decide +kernel
theorem dX0_join_56 : decode cX0_join 56 = .ok (.iconst 1, 1) := by decide +kernel
theorem dX0_join_57 : decode cX0_join 57 = .ok (.iadd, 1) := by decide +kernel
theorem dX0_join_58 : decode cX0_join 58 = .ok (.putfield 71, 3) := by decide +kernel
theorem dX0_join_61 : decode cX0_join 61 = .ok (.aload_n 0, 1) := by decide +kernel
theorem dX0_join_62 : decode cX0_join 62 = .ok (.getfield 71, 3) := by decide +kernel
theorem dX0_join_65 : decode cX0_join 65 = .ok (.ireturn, 1) := by decide +kernel
set_option maxRecDepth 20000 in
theorem ggX0_address_X0_checkKey : GoodIn wsX0_address wsX0_checkKey := goodIn_ca (goodIn_r _ [4, 5, 6, 7, 8, 3, 9] (by decide +kernel) (by decide +kernel)) (goodIn_sub (fun _ h => List.mem_cons_of_mem _ (List.mem_append_right _ h)) (by decide +kernel))
set_option maxRecDepth 20000 in
theorem gX0_address_X0_checkKey : GoodIn wsX0_address (va_wsS RX0 53 yX0_checkKey wsX0_checkKey) := goodIn_app (goodIn_of _ (by decide +kernel)) ggX0_address_X0_checkKey
set_option maxRecDepth 20000 in
theorem ggX0_address_X0_read : GoodIn wsX0_address wsX0_read := goodIn_r _ [13, 14, 15, 16, 3, 17, 18, 19, 20, 21, 22, 23, 24, 25, 26, 27, 28, 29, 30, 31, 32, 33, 34, 35, 36, 37, 38, 39, 40, 7, 8, 9, 41, 42, 43, 44, 45, 46, 47, 48, 49, 50, 51, 52, 53, 54, 55, 56] (by decide +kernel) (by decide +kernel)
set_option maxRecDepth 20000 in
theorem gX0_address_X0_read : GoodIn wsX0_address (wsV RX0 83 RX0 yX0_read wsX0_read) := goodIn_app (goodIn_of _ (by decide +kernel)) ggX0_address_X0_read
theorem dX0_address_0 : decode cX0_address 0 = .ok (.iload_n 1, 1) := by decide +kernel
theorem dX0_address_1 : decode cX0_address 1 = .ok (.invokestatic 53, 3) := by decide +kernel
theorem dX0_address_4 : decode cX0_address 4 = .ok (.aload_n 0, 1) := by decide +kernel
theorem dX0_address_5 : decode cX0_address 5 = .ok (.iload_n 1, 1) := by decide +kernel
theorem dX0_address_6 : decode cX0_address 6 = .ok (.invokevirtual 83, 3) := by decide +kernel
theorem dX0_address_9 : decode cX0_address 9 = .ok (.ireturn, 1) := by decide +kernel
set_option maxRecDepth 20000 in
theorem ggX0_inDistrict_X0_checkDistrict : GoodIn wsX0_inDistrict wsX0_checkDistrict := goodIn_ca (goodIn_r _ [4, 5, 6] (by decide +kernel) (by decide +kernel)) (goodIn_sub (fun _ h => List.mem_cons_of_mem _ (List.mem_append_right _ h)) (by decide +kernel))
set_option maxRecDepth 20000 in
theorem gX0_inDistrict_X0_checkDistrict : GoodIn wsX0_inDistrict (va_wsS RX0 87 yX0_checkDistrict wsX0_checkDistrict) := goodIn_app (goodIn_of _ (by decide +kernel)) ggX0_inDistrict_X0_checkDistrict
set_option maxRecDepth 20000 in
theorem ggX0_inDistrict_X0_read : GoodIn wsX0_inDistrict wsX0_read := goodIn_r _ [10, 11, 12, 13, 3, 14, 15, 16, 17, 18, 19, 20, 21, 22, 23, 24, 25, 26, 27, 28, 29, 30, 31, 32, 33, 34, 35, 36, 37, 38, 39, 40, 44, 45, 46, 47, 48, 49, 50, 51, 52, 53, 54, 55, 56, 57, 58, 59] (by decide +kernel) (by decide +kernel)
set_option maxRecDepth 20000 in
theorem gX0_inDistrict_X0_read : GoodIn wsX0_inDistrict (wsV RX0 83 RX0 yX0_read wsX0_read) := goodIn_app (goodIn_of _ (by decide +kernel)) ggX0_inDistrict_X0_read
set_option maxRecDepth 20000 in
theorem ggX0_inDistrict_X0_districtOf : GoodIn wsX0_inDistrict wsX0_districtOf := goodIn_r _ [43] (by decide +kernel) (by decide +kernel)
set_option maxRecDepth 20000 in
theorem gX0_inDistrict_X0_districtOf : GoodIn wsX0_inDistrict (va_wsS RX0 90 yX0_districtOf wsX0_districtOf) := goodIn_app (goodIn_of _ (by decide +kernel)) ggX0_inDistrict_X0_districtOf
theorem dX0_inDistrict_0 : decode cX0_inDistrict 0 = .ok (.iload_n 1, 1) := by decide +kernel
theorem dX0_inDistrict_1 : decode cX0_inDistrict 1 = .ok (.invokestatic 87, 3) := by decide +kernel
theorem dX0_inDistrict_4 : decode cX0_inDistrict 4 = .ok (.iconst 0, 1) := by decide +kernel
theorem dX0_inDistrict_5 : decode cX0_inDistrict 5 = .ok (.istore_n 2, 1) := by decide +kernel
theorem dX0_inDistrict_6 : decode cX0_inDistrict 6 = .ok (.iconst 0, 1) := by decide +kernel
theorem dX0_inDistrict_7 : decode cX0_inDistrict 7 = .ok (.istore_n 3, 1) := by decide +kernel
theorem dX0_inDistrict_8 : decode cX0_inDistrict 8 = .ok (.iload_n 3, 1) := by decide +kernel
theorem dX0_inDistrict_9 : decode cX0_inDistrict 9 = .ok (.bipush 100, 2) := by decide +kernel
theorem dX0_inDistrict_11 : decode cX0_inDistrict 11 = .ok (.if_icmp .ge 24, 3) := by decide +kernel
theorem dX0_inDistrict_14 : decode cX0_inDistrict 14 = .ok (.aload_n 0, 1) := by decide +kernel
theorem dX0_inDistrict_15 : decode cX0_inDistrict 15 = .ok (.iload_n 3, 1) := by decide +kernel
theorem dX0_inDistrict_16 : decode cX0_inDistrict 16 = .ok (.invokevirtual 83, 3) := by decide +kernel
theorem dX0_inDistrict_19 : decode cX0_inDistrict 19 = .ok (.invokestatic 90, 3) := by decide +kernel
theorem dX0_inDistrict_22 : decode cX0_inDistrict 22 = .ok (.iload_n 1, 1) := by decide +kernel
theorem dX0_inDistrict_23 : decode cX0_inDistrict 23 = .ok (.if_icmp .ne 6, 3) := by decide +kernel
theorem dX0_inDistrict_26 : decode cX0_inDistrict 26 = .ok (.iinc 2 1, 3) := by decide +kernel
theorem dX0_inDistrict_29 : decode cX0_inDistrict 29 = .ok (.iinc 3 1, 3) := by decide +kernel
theorem dX0_inDistrict_32 : decode cX0_inDistrict 32 = .ok (.goto (-24), 3) := by decide +kernel
theorem dX0_inDistrict_35 : decode cX0_inDistrict 35 = .ok (.iload_n 2, 1) := by decide +kernel
theorem dX0_inDistrict_36 : decode cX0_inDistrict 36 = .ok (.ireturn, 1) := by decide +kernel
theorem dX0_ranges_0 : decode cX0_ranges 0 = .ok (.aload_n 0, 1) := by decide +kernel
theorem dX0_ranges_1 : decode cX0_ranges 1 = .ok (.getfield 49, 3) := by decide +kernel
theorem dX0_ranges_4 : decode cX0_ranges 4 = .ok (.ireturn, 1) := by decide +kernel
set_option maxRecDepth 20000 in
theorem ggX0_rangeOf_X0_checkKey : GoodIn wsX0_rangeOf wsX0_checkKey := goodIn_ca (goodIn_r _ [4, 5, 6, 7, 8, 3, 9] (by decide +kernel) (by decide +kernel)) (goodIn_sub (fun _ h => List.mem_cons_of_mem _ (List.mem_append_right _ h)) (by decide +kernel))
set_option maxRecDepth 20000 in
theorem gX0_rangeOf_X0_checkKey : GoodIn wsX0_rangeOf (va_wsS RX0 53 yX0_checkKey wsX0_checkKey) := goodIn_app (goodIn_of _ (by decide +kernel)) ggX0_rangeOf_X0_checkKey
set_option maxRecDepth 20000 in
theorem ggX0_rangeOf_X0_rangeHolding : GoodIn wsX0_rangeOf wsX0_rangeHolding := goodIn_r _ [13, 14, 15, 16, 17, 3, 18, 19, 20, 21, 22, 23, 24, 25, 26, 27, 28, 29, 30, 31, 32, 33, 34, 35, 36, 37, 38, 39] (by decide +kernel) (by decide +kernel)
set_option maxRecDepth 20000 in
theorem gX0_rangeOf_X0_rangeHolding : GoodIn wsX0_rangeOf (wsV RX0 93 RX0 yX0_rangeHolding wsX0_rangeHolding) := goodIn_app (goodIn_of _ (by decide +kernel)) ggX0_rangeOf_X0_rangeHolding
theorem dX0_rangeOf_0 : decode cX0_rangeOf 0 = .ok (.iload_n 1, 1) := by decide +kernel
theorem dX0_rangeOf_1 : decode cX0_rangeOf 1 = .ok (.invokestatic 53, 3) := by decide +kernel
theorem dX0_rangeOf_4 : decode cX0_rangeOf 4 = .ok (.aload_n 0, 1) := by decide +kernel
theorem dX0_rangeOf_5 : decode cX0_rangeOf 5 = .ok (.iload_n 1, 1) := by decide +kernel
theorem dX0_rangeOf_6 : decode cX0_rangeOf 6 = .ok (.invokevirtual 93, 3) := by decide +kernel
theorem dX0_rangeOf_9 : decode cX0_rangeOf 9 = .ok (.ireturn, 1) := by decide +kernel
set_option maxRecDepth 20000 in
theorem ggX0_shardOf_X0_checkRange : GoodIn wsX0_shardOf wsX0_checkRange := goodIn_ca (goodIn_r _ [6, 7, 8, 9, 10, 11, 5, 12, 13, 14, 15, 16, 17, 18, 19, 20, 21, 22, 23, 24, 25, 26, 27, 28, 29] (by decide +kernel) (by decide +kernel)) (goodIn_sub (fun _ h => List.mem_cons_of_mem _ (List.mem_append_right _ h)) (by decide +kernel))
set_option maxRecDepth 20000 in
theorem gX0_shardOf_X0_checkRange : GoodIn wsX0_shardOf (wsV RX0 114 RX0 yX0_checkRange wsX0_checkRange) := goodIn_app (goodIn_of _ (by decide +kernel)) ggX0_shardOf_X0_checkRange
theorem dX0_shardOf_0 : decode cX0_shardOf 0 = .ok (.aload_n 0, 1) := by decide +kernel
theorem dX0_shardOf_1 : decode cX0_shardOf 1 = .ok (.iload_n 1, 1) := by decide +kernel
theorem dX0_shardOf_2 : decode cX0_shardOf 2 = .ok (.invokevirtual 114, 3) := by decide +kernel
theorem dX0_shardOf_5 : decode cX0_shardOf 5 = .ok (.aload_n 0, 1) := by decide +kernel
theorem dX0_shardOf_6 : decode cX0_shardOf 6 = .ok (.getfield 16, 3) := by decide +kernel
theorem dX0_shardOf_9 : decode cX0_shardOf 9 = .ok (.iload_n 1, 1) := by decide +kernel
theorem dX0_shardOf_10 : decode cX0_shardOf 10 = .ok (.iaload, 1) := by decide +kernel
theorem dX0_shardOf_11 : decode cX0_shardOf 11 = .ok (.ireturn, 1) := by decide +kernel
set_option maxRecDepth 20000 in
theorem ggX0_rows_X0_checkShard : GoodIn wsX0_rows wsX0_checkShard := goodIn_ca (goodIn_r _ [4, 5, 6, 7, 8, 3, 9] (by decide +kernel) (by decide +kernel)) (goodIn_sub (fun _ h => List.mem_cons_of_mem _ (List.mem_append_right _ h)) (by decide +kernel))
set_option maxRecDepth 20000 in
theorem gX0_rows_X0_checkShard : GoodIn wsX0_rows (va_wsS RX0 132 yX0_checkShard wsX0_checkShard) := goodIn_app (goodIn_of _ (by decide +kernel)) ggX0_rows_X0_checkShard
set_option maxRecDepth 20000 in
theorem ggX0_rows_X0_countRows : GoodIn wsX0_rows wsX0_countRows := goodIn_r _ [13, 14, 15, 16, 3, 17, 18, 7, 8, 9, 19, 20, 21, 22, 23, 24, 25, 26, 27, 28, 29, 30, 31, 32, 33, 34, 35, 36, 37] (by decide +kernel) (by decide +kernel)
set_option maxRecDepth 20000 in
theorem gX0_rows_X0_countRows : GoodIn wsX0_rows (wsV RX0 142 RX0 yX0_countRows wsX0_countRows) := goodIn_app (goodIn_of _ (by decide +kernel)) ggX0_rows_X0_countRows
theorem dX0_rows_0 : decode cX0_rows 0 = .ok (.iload_n 1, 1) := by decide +kernel
theorem dX0_rows_1 : decode cX0_rows 1 = .ok (.invokestatic 132, 3) := by decide +kernel
theorem dX0_rows_4 : decode cX0_rows 4 = .ok (.aload_n 0, 1) := by decide +kernel
theorem dX0_rows_5 : decode cX0_rows 5 = .ok (.iload_n 1, 1) := by decide +kernel
theorem dX0_rows_6 : decode cX0_rows 6 = .ok (.iconst 0, 1) := by decide +kernel
theorem dX0_rows_7 : decode cX0_rows 7 = .ok (.bipush 99, 2) := by decide +kernel
theorem dX0_rows_9 : decode cX0_rows 9 = .ok (.invokevirtual 142, 3) := by decide +kernel
theorem dX0_rows_12 : decode cX0_rows 12 = .ok (.ireturn, 1) := by decide +kernel
set_option maxRecDepth 20000 in
theorem ggX0_onRoll_X0_checkKey : GoodIn wsX0_onRoll wsX0_checkKey := goodIn_ca (goodIn_r _ [6, 7, 8, 9, 10, 5, 11] (by decide +kernel) (by decide +kernel)) (goodIn_sub (fun _ h => List.mem_cons_of_mem _ (List.mem_append_right _ h)) (by decide +kernel))
set_option maxRecDepth 20000 in
theorem gX0_onRoll_X0_checkKey : GoodIn wsX0_onRoll (va_wsS RX0 53 yX0_checkKey wsX0_checkKey) := goodIn_app (goodIn_of _ (by decide +kernel)) ggX0_onRoll_X0_checkKey
theorem dX0_onRoll_0 : decode cX0_onRoll 0 = .ok (.iload_n 1, 1) := by decide +kernel
theorem dX0_onRoll_1 : decode cX0_onRoll 1 = .ok (.invokestatic 53, 3) := by decide +kernel
theorem dX0_onRoll_4 : decode cX0_onRoll 4 = .ok (.aload_n 0, 1) := by decide +kernel
theorem dX0_onRoll_5 : decode cX0_onRoll 5 = .ok (.getfield 163, 3) := by decide +kernel
theorem dX0_onRoll_8 : decode cX0_onRoll 8 = .ok (.ifCond .eq 12, 3) := by decide +kernel
theorem dX0_onRoll_11 : decode cX0_onRoll 11 = .ok (.aload_n 0, 1) := by decide +kernel
theorem dX0_onRoll_12 : decode cX0_onRoll 12 = .ok (.getfield 22, 3) := by decide +kernel
theorem dX0_onRoll_15 : decode cX0_onRoll 15 = .ok (.iload_n 1, 1) := by decide +kernel
theorem dX0_onRoll_16 : decode cX0_onRoll 16 = .ok (.iaload, 1) := by decide +kernel
theorem dX0_onRoll_17 : decode cX0_onRoll 17 = .ok (.goto 4, 3) := by decide +kernel
theorem dX0_onRoll_20 : decode cX0_onRoll 20 = .ok (.iconst (-1), 1) := by decide +kernel
theorem dX0_onRoll_21 : decode cX0_onRoll 21 = .ok (.ireturn, 1) := by decide +kernel
set_option maxRecDepth 20000 in
theorem ggX0_sentTo_X0_checkBallot : GoodIn wsX0_sentTo wsX0_checkBallot := goodIn_ca (goodIn_r _ [6, 7, 8, 9, 10, 11, 5, 12, 13, 14, 15, 16, 17, 18, 19, 20, 21, 22, 23, 24, 25, 26, 27, 28, 29] (by decide +kernel) (by decide +kernel)) (goodIn_sub (fun _ h => List.mem_cons_of_mem _ (List.mem_append_right _ h)) (by decide +kernel))
set_option maxRecDepth 20000 in
theorem gX0_sentTo_X0_checkBallot : GoodIn wsX0_sentTo (wsV RX0 187 RX0 yX0_checkBallot wsX0_checkBallot) := goodIn_app (goodIn_of _ (by decide +kernel)) ggX0_sentTo_X0_checkBallot
theorem dX0_sentTo_0 : decode cX0_sentTo 0 = .ok (.aload_n 0, 1) := by decide +kernel
theorem dX0_sentTo_1 : decode cX0_sentTo 1 = .ok (.iload_n 1, 1) := by decide +kernel
theorem dX0_sentTo_2 : decode cX0_sentTo 2 = .ok (.invokevirtual 187, 3) := by decide +kernel
theorem dX0_sentTo_5 : decode cX0_sentTo 5 = .ok (.aload_n 0, 1) := by decide +kernel
theorem dX0_sentTo_6 : decode cX0_sentTo 6 = .ok (.getfield 31, 3) := by decide +kernel
theorem dX0_sentTo_9 : decode cX0_sentTo 9 = .ok (.iload_n 1, 1) := by decide +kernel
theorem dX0_sentTo_10 : decode cX0_sentTo 10 = .ok (.iaload, 1) := by decide +kernel
theorem dX0_sentTo_11 : decode cX0_sentTo 11 = .ok (.ireturn, 1) := by decide +kernel
set_option maxRecDepth 20000 in
theorem ggX0_stateOf_X0_checkBallot : GoodIn wsX0_stateOf wsX0_checkBallot := goodIn_ca (goodIn_r _ [6, 7, 8, 9, 10, 11, 5, 12, 13, 14, 15, 16, 17, 18, 19, 20, 21, 22, 23, 24, 25, 26, 27, 28, 29] (by decide +kernel) (by decide +kernel)) (goodIn_sub (fun _ h => List.mem_cons_of_mem _ (List.mem_append_right _ h)) (by decide +kernel))
set_option maxRecDepth 20000 in
theorem gX0_stateOf_X0_checkBallot : GoodIn wsX0_stateOf (wsV RX0 187 RX0 yX0_checkBallot wsX0_checkBallot) := goodIn_app (goodIn_of _ (by decide +kernel)) ggX0_stateOf_X0_checkBallot
theorem dX0_stateOf_0 : decode cX0_stateOf 0 = .ok (.aload_n 0, 1) := by decide +kernel
theorem dX0_stateOf_1 : decode cX0_stateOf 1 = .ok (.iload_n 1, 1) := by decide +kernel
theorem dX0_stateOf_2 : decode cX0_stateOf 2 = .ok (.invokevirtual 187, 3) := by decide +kernel
theorem dX0_stateOf_5 : decode cX0_stateOf 5 = .ok (.aload_n 0, 1) := by decide +kernel
theorem dX0_stateOf_6 : decode cX0_stateOf 6 = .ok (.getfield 37, 3) := by decide +kernel
theorem dX0_stateOf_9 : decode cX0_stateOf 9 = .ok (.iload_n 1, 1) := by decide +kernel
theorem dX0_stateOf_10 : decode cX0_stateOf 10 = .ok (.iaload, 1) := by decide +kernel
theorem dX0_stateOf_11 : decode cX0_stateOf 11 = .ok (.ireturn, 1) := by decide +kernel
set_option maxRecDepth 20000 in
theorem ggX0_counted_X0_checkDistrict : GoodIn wsX0_counted wsX0_checkDistrict := goodIn_ca (goodIn_r _ [8, 9, 10] (by decide +kernel) (by decide +kernel)) (goodIn_sub (fun _ h => List.mem_cons_of_mem _ (List.mem_append_left _ (List.mem_append_right _ h))) (by decide +kernel))
set_option maxRecDepth 20000 in
theorem gX0_counted_X0_checkDistrict : GoodIn wsX0_counted (va_wsS RX0 87 yX0_checkDistrict wsX0_checkDistrict) := goodIn_app (goodIn_of _ (by decide +kernel)) ggX0_counted_X0_checkDistrict
set_option maxRecDepth 20000 in
theorem ggX0_counted_X0_checkChoice : GoodIn wsX0_counted wsX0_checkChoice := goodIn_ca (goodIn_r _ [13, 14, 15] (by decide +kernel) (by decide +kernel)) (goodIn_sub (fun _ h => List.mem_cons_of_mem _ (List.mem_append_right _ h)) (by decide +kernel))
set_option maxRecDepth 20000 in
theorem gX0_counted_X0_checkChoice : GoodIn wsX0_counted (va_wsS RX0 190 yX0_checkChoice wsX0_checkChoice) := goodIn_app (goodIn_of _ (by decide +kernel)) ggX0_counted_X0_checkChoice
theorem dX0_counted_0 : decode cX0_counted 0 = .ok (.iload_n 1, 1) := by decide +kernel
theorem dX0_counted_1 : decode cX0_counted 1 = .ok (.invokestatic 87, 3) := by decide +kernel
theorem dX0_counted_4 : decode cX0_counted 4 = .ok (.iload_n 2, 1) := by decide +kernel
theorem dX0_counted_5 : decode cX0_counted 5 = .ok (.invokestatic 190, 3) := by decide +kernel
theorem dX0_counted_8 : decode cX0_counted 8 = .ok (.iconst 0, 1) := by decide +kernel
theorem dX0_counted_9 : decode cX0_counted 9 = .ok (.istore_n 3, 1) := by decide +kernel
theorem dX0_counted_10 : decode cX0_counted 10 = .ok (.iconst 0, 1) := by decide +kernel
theorem dX0_counted_11 : decode cX0_counted 11 = .ok (.istore 4, 2) := by decide +kernel
theorem dX0_counted_13 : decode cX0_counted 13 = .ok (.iload 4, 2) := by decide +kernel
theorem dX0_counted_15 : decode cX0_counted 15 = .ok (.aload_n 0, 1) := by decide +kernel
theorem dX0_counted_16 : decode cX0_counted 16 = .ok (.getfield 182, 3) := by decide +kernel
theorem dX0_counted_19 : decode cX0_counted 19 = .ok (.if_icmp .ge 45, 3) := by decide +kernel
theorem dX0_counted_22 : decode cX0_counted 22 = .ok (.aload_n 0, 1) := by decide +kernel
theorem dX0_counted_23 : decode cX0_counted 23 = .ok (.getfield 37, 3) := by decide +kernel
theorem dX0_counted_26 : decode cX0_counted 26 = .ok (.iload 4, 2) := by decide +kernel
theorem dX0_counted_28 : decode cX0_counted 28 = .ok (.iaload, 1) := by decide +kernel
theorem dX0_counted_29 : decode cX0_counted 29 = .ok (.iconst 2, 1) := by decide +kernel
theorem dX0_counted_30 : decode cX0_counted 30 = .ok (.if_icmp .ne 28, 3) := by decide +kernel
theorem dX0_counted_33 : decode cX0_counted 33 = .ok (.aload_n 0, 1) := by decide +kernel
theorem dX0_counted_34 : decode cX0_counted 34 = .ok (.getfield 34, 3) := by decide +kernel
theorem dX0_counted_37 : decode cX0_counted 37 = .ok (.iload 4, 2) := by decide +kernel
theorem dX0_counted_39 : decode cX0_counted 39 = .ok (.iaload, 1) := by decide +kernel
theorem dX0_counted_40 : decode cX0_counted 40 = .ok (.iload_n 1, 1) := by decide +kernel
theorem dX0_counted_41 : decode cX0_counted 41 = .ok (.if_icmp .ne 17, 3) := by decide +kernel
theorem dX0_counted_44 : decode cX0_counted 44 = .ok (.aload_n 0, 1) := by decide +kernel
theorem dX0_counted_45 : decode cX0_counted 45 = .ok (.getfield 40, 3) := by decide +kernel
theorem dX0_counted_48 : decode cX0_counted 48 = .ok (.iload 4, 2) := by decide +kernel
theorem dX0_counted_50 : decode cX0_counted 50 = .ok (.iaload, 1) := by decide +kernel
theorem dX0_counted_51 : decode cX0_counted 51 = .ok (.iload_n 2, 1) := by decide +kernel
theorem dX0_counted_52 : decode cX0_counted 52 = .ok (.if_icmp .ne 6, 3) := by decide +kernel
theorem dX0_counted_55 : decode cX0_counted 55 = .ok (.iinc 3 1, 3) := by decide +kernel
theorem dX0_counted_58 : decode cX0_counted 58 = .ok (.iinc 4 1, 3) := by decide +kernel
theorem dX0_counted_61 : decode cX0_counted 61 = .ok (.goto (-48), 3) := by decide +kernel
theorem dX0_counted_64 : decode cX0_counted 64 = .ok (.iload_n 3, 1) := by decide +kernel
theorem dX0_counted_65 : decode cX0_counted 65 = .ok (.ireturn, 1) := by decide +kernel
set_option maxRecDepth 20000 in
theorem ggX0_rowOf_X0_isShard : GoodIn wsX0_rowOf wsX0_isShard := goodIn_r _ [5] (by decide +kernel) (by decide +kernel)
set_option maxRecDepth 20000 in
theorem gX0_rowOf_X0_isShard : GoodIn wsX0_rowOf (va_wsS RX0 202 yX0_isShard wsX0_isShard) := goodIn_app (goodIn_of _ (by decide +kernel)) ggX0_rowOf_X0_isShard
set_option maxRecDepth 20000 in
theorem ggX0_rowOf_X0_isKey : GoodIn wsX0_rowOf wsX0_isKey := goodIn_r _ [8] (by decide +kernel) (by decide +kernel)
set_option maxRecDepth 20000 in
theorem gX0_rowOf_X0_isKey : GoodIn wsX0_rowOf (va_wsS RX0 205 yX0_isKey wsX0_isKey) := goodIn_app (goodIn_of _ (by decide +kernel)) ggX0_rowOf_X0_isKey
theorem dX0_rowOf_0 : decode cX0_rowOf 0 = .ok (.iload_n 1, 1) := by decide +kernel
theorem dX0_rowOf_1 : decode cX0_rowOf 1 = .ok (.invokestatic 202, 3) := by decide +kernel
theorem dX0_rowOf_4 : decode cX0_rowOf 4 = .ok (.ifCond .eq 24, 3) := by decide +kernel
theorem dX0_rowOf_7 : decode cX0_rowOf 7 = .ok (.iload_n 2, 1) := by decide +kernel
theorem dX0_rowOf_8 : decode cX0_rowOf 8 = .ok (.invokestatic 205, 3) := by decide +kernel
theorem dX0_rowOf_11 : decode cX0_rowOf 11 = .ok (.ifCond .eq 17, 3) := by decide +kernel
theorem dX0_rowOf_14 : decode cX0_rowOf 14 = .ok (.aload_n 0, 1) := by decide +kernel
theorem dX0_rowOf_15 : decode cX0_rowOf 15 = .ok (.getfield 9, 3) := by decide +kernel
theorem dX0_rowOf_18 : decode cX0_rowOf 18 = .ok (.iload_n 1, 1) := by decide +kernel
theorem dX0_rowOf_19 : decode cX0_rowOf 19 = .ok (.bipush 100, 2) := by decide +kernel
theorem dX0_rowOf_21 : decode cX0_rowOf 21 = .ok (.imul, 1) := by decide +kernel
theorem dX0_rowOf_22 : decode cX0_rowOf 22 = .ok (.iload_n 2, 1) := by decide +kernel
theorem dX0_rowOf_23 : decode cX0_rowOf 23 = .ok (.iadd, 1) := by decide +kernel
theorem dX0_rowOf_24 : decode cX0_rowOf 24 = .ok (.iaload, 1) := by decide +kernel
theorem dX0_rowOf_25 : decode cX0_rowOf 25 = .ok (.goto 4, 3) := by decide +kernel
theorem dX0_rowOf_28 : decode cX0_rowOf 28 = .ok (.iconst (-1), 1) := by decide +kernel
theorem dX0_rowOf_29 : decode cX0_rowOf 29 = .ok (.ireturn, 1) := by decide +kernel
set_option maxRecDepth 20000 in
theorem ggX0_putRow_X0_isShard : GoodIn wsX0_putRow wsX0_isShard := goodIn_r _ [5] (by decide +kernel) (by decide +kernel)
set_option maxRecDepth 20000 in
theorem gX0_putRow_X0_isShard : GoodIn wsX0_putRow (va_wsS RX0 202 yX0_isShard wsX0_isShard) := goodIn_app (goodIn_of _ (by decide +kernel)) ggX0_putRow_X0_isShard
set_option maxRecDepth 20000 in
theorem ggX0_putRow_X0_isKey : GoodIn wsX0_putRow wsX0_isKey := goodIn_r _ [8] (by decide +kernel) (by decide +kernel)
set_option maxRecDepth 20000 in
theorem gX0_putRow_X0_isKey : GoodIn wsX0_putRow (va_wsS RX0 205 yX0_isKey wsX0_isKey) := goodIn_app (goodIn_of _ (by decide +kernel)) ggX0_putRow_X0_isKey
theorem dX0_putRow_0 : decode cX0_putRow 0 = .ok (.iload_n 1, 1) := by decide +kernel
theorem dX0_putRow_1 : decode cX0_putRow 1 = .ok (.invokestatic 202, 3) := by decide +kernel
theorem dX0_putRow_4 : decode cX0_putRow 4 = .ok (.ifCond .eq 22, 3) := by decide +kernel
theorem dX0_putRow_7 : decode cX0_putRow 7 = .ok (.iload_n 2, 1) := by decide +kernel
theorem dX0_putRow_8 : decode cX0_putRow 8 = .ok (.invokestatic 205, 3) := by decide +kernel
theorem dX0_putRow_11 : decode cX0_putRow 11 = .ok (.ifCond .eq 15, 3) := by decide +kernel
theorem dX0_putRow_14 : decode cX0_putRow 14 = .ok (.aload_n 0, 1) := by decide +kernel
theorem dX0_putRow_15 : decode cX0_putRow 15 = .ok (.getfield 9, 3) := by decide +kernel
theorem dX0_putRow_18 : decode cX0_putRow 18 = .ok (.iload_n 1, 1) := by decide +kernel
theorem dX0_putRow_19 : decode cX0_putRow 19 = .ok (.bipush 100, 2) := by decide +kernel
theorem dX0_putRow_21 : decode cX0_putRow 21 = .ok (.imul, 1) := by decide +kernel
theorem dX0_putRow_22 : decode cX0_putRow 22 = .ok (.iload_n 2, 1) := by decide +kernel
theorem dX0_putRow_23 : decode cX0_putRow 23 = .ok (.iadd, 1) := by decide +kernel
theorem dX0_putRow_24 : decode cX0_putRow 24 = .ok (.iload_n 3, 1) := by decide +kernel
theorem dX0_putRow_25 : decode cX0_putRow 25 = .ok (.iastore, 1) := by decide +kernel
theorem dX0_putRow_26 : decode cX0_putRow 26 = .ok (.return_, 1) := by decide +kernel
set_option maxRecDepth 20000 in
theorem ggX0_read_X0_rangeHolding : GoodIn wsX0_read wsX0_rangeHolding := goodIn_r _ [5, 6, 7, 8, 9, 4, 10, 11, 12, 13, 14, 15, 32, 33, 34, 35, 36, 37, 38, 39, 40, 41, 42, 43, 44, 45, 46, 47] (by decide +kernel) (by decide +kernel)
set_option maxRecDepth 20000 in
theorem gX0_read_X0_rangeHolding : GoodIn wsX0_read (wsV RX0 93 RX0 yX0_rangeHolding wsX0_rangeHolding) := goodIn_app (goodIn_of _ (by decide +kernel)) ggX0_read_X0_rangeHolding
set_option maxRecDepth 20000 in
theorem ggX0_read_X0_homeOf : GoodIn wsX0_read wsX0_homeOf := goodIn_r _ [19, 20, 12, 13, 14, 4, 15, 6, 32, 33, 34, 35, 36, 37, 38, 39, 40, 41, 42, 43, 44, 45, 46, 47] (by decide +kernel) (by decide +kernel)
set_option maxRecDepth 20000 in
theorem gX0_read_X0_homeOf : GoodIn wsX0_read (wsV RX0 122 RX0 yX0_homeOf wsX0_homeOf) := goodIn_app (goodIn_of _ (by decide +kernel)) ggX0_read_X0_homeOf
set_option maxRecDepth 20000 in
theorem ggX0_read_X0_rowOf : GoodIn wsX0_read wsX0_rowOf := goodIn_r _ [24, 25, 26, 27, 4, 28, 29, 30, 31, 32, 33, 34, 35, 36, 37, 38, 39, 40, 41, 42, 43, 44, 45, 46, 47] (by decide +kernel) (by decide +kernel)
set_option maxRecDepth 20000 in
theorem gX0_read_X0_rowOf : GoodIn wsX0_read (wsV RX0 152 RX0 yX0_rowOf wsX0_rowOf) := goodIn_app (goodIn_of _ (by decide +kernel)) ggX0_read_X0_rowOf
theorem dX0_read_0 : decode cX0_read 0 = .ok (.aload_n 0, 1) := by decide +kernel
theorem dX0_read_1 : decode cX0_read 1 = .ok (.aload_n 0, 1) := by decide +kernel
theorem dX0_read_2 : decode cX0_read 2 = .ok (.aload_n 0, 1) := by decide +kernel
theorem dX0_read_3 : decode cX0_read 3 = .ok (.iload_n 1, 1) := by decide +kernel
theorem dX0_read_4 : decode cX0_read 4 = .ok (.invokevirtual 93, 3) := by decide +kernel
theorem dX0_read_7 : decode cX0_read 7 = .ok (.invokevirtual 122, 3) := by decide +kernel
theorem dX0_read_10 : decode cX0_read 10 = .ok (.iload_n 1, 1) := by decide +kernel
theorem dX0_read_11 : decode cX0_read 11 = .ok (.invokevirtual 152, 3) := by decide +kernel
theorem dX0_read_14 : decode cX0_read 14 = .ok (.ireturn, 1) := by decide +kernel
set_option maxRecDepth 20000 in
theorem ggX0_write_X0_rangeHolding : GoodIn wsX0_write wsX0_rangeHolding := goodIn_r _ [5, 6, 7, 8, 9, 4, 10, 11, 12, 13, 14, 15, 37, 38, 39, 40, 41, 42, 43, 44, 45, 46, 47, 48, 49, 50, 51, 52] (by decide +kernel) (by decide +kernel)
set_option maxRecDepth 20000 in
theorem gX0_write_X0_rangeHolding : GoodIn wsX0_write (wsV RX0 93 RX0 yX0_rangeHolding wsX0_rangeHolding) := goodIn_app (goodIn_of _ (by decide +kernel)) ggX0_write_X0_rangeHolding
set_option maxRecDepth 20000 in
theorem ggX0_write_X0_homeOf : GoodIn wsX0_write wsX0_homeOf := goodIn_r _ [19, 20, 12, 13, 14, 4, 15, 6, 37, 38, 39, 40, 41, 42, 43, 44, 45, 46, 47, 48, 49, 50, 51, 52] (by decide +kernel) (by decide +kernel)
set_option maxRecDepth 20000 in
theorem gX0_write_X0_homeOf : GoodIn wsX0_write (wsV RX0 122 RX0 yX0_homeOf wsX0_homeOf) := goodIn_app (goodIn_of _ (by decide +kernel)) ggX0_write_X0_homeOf
set_option maxRecDepth 20000 in
theorem ggX0_write_X0_putRow : GoodIn wsX0_write wsX0_putRow := goodIn_r _ [24, 25, 26, 27, 4, 28, 29, 30, 31, 37, 38, 39, 40, 41, 42, 43, 44, 45, 46, 47, 48, 49, 50, 51, 52] (by decide +kernel) (by decide +kernel)
set_option maxRecDepth 20000 in
theorem gX0_write_X0_putRow : GoodIn wsX0_write (wsV RX0 156 RX0 yX0_putRow wsX0_putRow) := goodIn_app (goodIn_of _ (by decide +kernel)) ggX0_write_X0_putRow
set_option maxRecDepth 20000 in
theorem ggX0_write_X0_targetOf : GoodIn wsX0_write wsX0_targetOf := goodIn_r _ [35, 36, 12, 13, 14, 4, 15, 6, 37, 38, 39, 40, 41, 42, 43, 44, 45, 46, 47, 48, 49, 50, 51, 52] (by decide +kernel) (by decide +kernel)
set_option maxRecDepth 20000 in
theorem gX0_write_X0_targetOf : GoodIn wsX0_write (wsV RX0 208 RX0 yX0_targetOf wsX0_targetOf) := goodIn_app (goodIn_of _ (by decide +kernel)) ggX0_write_X0_targetOf
theorem dX0_write_0 : decode cX0_write 0 = .ok (.aload_n 0, 1) := by decide +kernel
theorem dX0_write_1 : decode cX0_write 1 = .ok (.iload_n 1, 1) := by decide +kernel
theorem dX0_write_2 : decode cX0_write 2 = .ok (.invokevirtual 93, 3) := by decide +kernel
theorem dX0_write_5 : decode cX0_write 5 = .ok (.istore_n 3, 1) := by decide +kernel
theorem dX0_write_6 : decode cX0_write 6 = .ok (.aload_n 0, 1) := by decide +kernel
theorem dX0_write_7 : decode cX0_write 7 = .ok (.aload_n 0, 1) := by decide +kernel
theorem dX0_write_8 : decode cX0_write 8 = .ok (.iload_n 3, 1) := by decide +kernel
theorem dX0_write_9 : decode cX0_write 9 = .ok (.invokevirtual 122, 3) := by decide +kernel
theorem dX0_write_12 : decode cX0_write 12 = .ok (.iload_n 1, 1) := by decide +kernel
theorem dX0_write_13 : decode cX0_write 13 = .ok (.iload_n 2, 1) := by decide +kernel
theorem dX0_write_14 : decode cX0_write 14 = .ok (.invokevirtual 156, 3) := by decide +kernel
theorem dX0_write_17 : decode cX0_write 17 = .ok (.aload_n 0, 1) := by decide +kernel
theorem dX0_write_18 : decode cX0_write 18 = .ok (.aload_n 0, 1) := by decide +kernel
theorem dX0_write_19 : decode cX0_write 19 = .ok (.iload_n 3, 1) := by decide +kernel
theorem dX0_write_20 : decode cX0_write 20 = .ok (.invokevirtual 208, 3) := by decide +kernel
theorem dX0_write_23 : decode cX0_write 23 = .ok (.iload_n 1, 1) := by decide +kernel
theorem dX0_write_24 : decode cX0_write 24 = .ok (.iload_n 2, 1) := by decide +kernel
theorem dX0_write_25 : decode cX0_write 25 = .ok (.invokevirtual 156, 3) := by decide +kernel
theorem dX0_write_28 : decode cX0_write 28 = .ok (.return_, 1) := by decide +kernel
set_option maxRecDepth 20000 in
theorem ggX0_countRows_X0_rowOf : GoodIn wsX0_countRows wsX0_rowOf := goodIn_r _ [5, 6, 7, 8, 4, 9, 10, 11, 12, 13, 14, 15, 16, 17, 18, 19, 20, 21, 22, 23, 24, 25, 26, 27, 28] (by decide +kernel) (by decide +kernel)
set_option maxRecDepth 20000 in
theorem gX0_countRows_X0_rowOf : GoodIn wsX0_countRows (wsV RX0 152 RX0 yX0_rowOf wsX0_rowOf) := goodIn_app (goodIn_of _ (by decide +kernel)) ggX0_countRows_X0_rowOf
theorem dX0_countRows_0 : decode cX0_countRows 0 = .ok (.iconst 0, 1) := by decide +kernel
theorem dX0_countRows_1 : decode cX0_countRows 1 = .ok (.istore 4, 2) := by decide +kernel
theorem dX0_countRows_3 : decode cX0_countRows 3 = .ok (.iload_n 2, 1) := by decide +kernel
theorem dX0_countRows_4 : decode cX0_countRows 4 = .ok (.istore 5, 2) := by decide +kernel
theorem dX0_countRows_6 : decode cX0_countRows 6 = .ok (.iload 5, 2) := by decide +kernel
theorem dX0_countRows_8 : decode cX0_countRows 8 = .ok (.iload_n 3, 1) := by decide +kernel
theorem dX0_countRows_9 : decode cX0_countRows 9 = .ok (.if_icmp .gt 30, 3) := by decide +kernel
theorem dX0_countRows_12 : decode cX0_countRows 12 = .ok (.iload 5, 2) := by decide +kernel
theorem dX0_countRows_14 : decode cX0_countRows 14 = .ok (.bipush 100, 2) := by decide +kernel
theorem dX0_countRows_16 : decode cX0_countRows 16 = .ok (.if_icmp .ge 23, 3) := by decide +kernel
theorem dX0_countRows_19 : decode cX0_countRows 19 = .ok (.aload_n 0, 1) := by decide +kernel
theorem dX0_countRows_20 : decode cX0_countRows 20 = .ok (.iload_n 1, 1) := by decide +kernel
theorem dX0_countRows_21 : decode cX0_countRows 21 = .ok (.iload 5, 2) := by decide +kernel
theorem dX0_countRows_23 : decode cX0_countRows 23 = .ok (.invokevirtual 152, 3) := by decide +kernel
theorem dX0_countRows_26 : decode cX0_countRows 26 = .ok (.iconst (-1), 1) := by decide +kernel
theorem dX0_countRows_27 : decode cX0_countRows 27 = .ok (.if_icmp .eq 6, 3) := by decide +kernel
theorem dX0_countRows_30 : decode cX0_countRows 30 = .ok (.iinc 4 1, 3) := by decide +kernel
theorem dX0_countRows_33 : decode cX0_countRows 33 = .ok (.iinc 5 1, 3) := by decide +kernel
theorem dX0_countRows_36 : decode cX0_countRows 36 = .ok (.goto (-30), 3) := by decide +kernel
theorem dX0_countRows_39 : decode cX0_countRows 39 = .ok (.iload 4, 2) := by decide +kernel
theorem dX0_countRows_41 : decode cX0_countRows 41 = .ok (.ireturn, 1) := by decide +kernel
theorem dX0_districtOf_0 : decode cX0_districtOf 0 = .ok (.iload_n 0, 1) := by decide +kernel
theorem dX0_districtOf_1 : decode cX0_districtOf 1 = .ok (.iconst (-1), 1) := by decide +kernel
theorem dX0_districtOf_2 : decode cX0_districtOf 2 = .ok (.if_icmp .ne 7, 3) := by decide +kernel
theorem dX0_districtOf_5 : decode cX0_districtOf 5 = .ok (.iconst (-1), 1) := by decide +kernel
theorem dX0_districtOf_6 : decode cX0_districtOf 6 = .ok (.goto 7, 3) := by decide +kernel
theorem dX0_districtOf_9 : decode cX0_districtOf 9 = .ok (.iload_n 0, 1) := by decide +kernel
theorem dX0_districtOf_10 : decode cX0_districtOf 10 = .ok (.bipush 10, 2) := by decide +kernel
theorem dX0_districtOf_12 : decode cX0_districtOf 12 = .ok (.idiv, 1) := by decide +kernel
theorem dX0_districtOf_13 : decode cX0_districtOf 13 = .ok (.ireturn, 1) := by decide +kernel
set_option maxRecDepth 20000 in
theorem ggX0_rangeHolding_X0_lastKeyOf : GoodIn wsX0_rangeHolding wsX0_lastKeyOf := goodIn_r _ [6, 7, 8, 9, 10, 5, 11, 1, 12, 13, 14, 15, 16, 17, 18, 19, 20, 21, 22, 23, 24, 25, 26, 27] (by decide +kernel) (by decide +kernel)
set_option maxRecDepth 20000 in
theorem gX0_rangeHolding_X0_lastKeyOf : GoodIn wsX0_rangeHolding (wsV RX0 96 RX0 yX0_lastKeyOf wsX0_lastKeyOf) := goodIn_app (goodIn_of _ (by decide +kernel)) ggX0_rangeHolding_X0_lastKeyOf
theorem dX0_rangeHolding_0 : decode cX0_rangeHolding 0 = .ok (.aload_n 0, 1) := by decide +kernel
theorem dX0_rangeHolding_1 : decode cX0_rangeHolding 1 = .ok (.getfield 49, 3) := by decide +kernel
theorem dX0_rangeHolding_4 : decode cX0_rangeHolding 4 = .ok (.iconst 1, 1) := by decide +kernel
theorem dX0_rangeHolding_5 : decode cX0_rangeHolding 5 = .ok (.isub, 1) := by decide +kernel
theorem dX0_rangeHolding_6 : decode cX0_rangeHolding 6 = .ok (.istore_n 2, 1) := by decide +kernel
theorem dX0_rangeHolding_7 : decode cX0_rangeHolding 7 = .ok (.iconst 0, 1) := by decide +kernel
theorem dX0_rangeHolding_8 : decode cX0_rangeHolding 8 = .ok (.istore_n 3, 1) := by decide +kernel
theorem dX0_rangeHolding_9 : decode cX0_rangeHolding 9 = .ok (.iload_n 3, 1) := by decide +kernel
theorem dX0_rangeHolding_10 : decode cX0_rangeHolding 10 = .ok (.iload_n 2, 1) := by decide +kernel
theorem dX0_rangeHolding_11 : decode cX0_rangeHolding 11 = .ok (.if_icmp .ge 20, 3) := by decide +kernel
theorem dX0_rangeHolding_14 : decode cX0_rangeHolding 14 = .ok (.iload_n 1, 1) := by decide +kernel
theorem dX0_rangeHolding_15 : decode cX0_rangeHolding 15 = .ok (.aload_n 0, 1) := by decide +kernel
theorem dX0_rangeHolding_16 : decode cX0_rangeHolding 16 = .ok (.iload_n 3, 1) := by decide +kernel
theorem dX0_rangeHolding_17 : decode cX0_rangeHolding 17 = .ok (.invokevirtual 96, 3) := by decide +kernel
theorem dX0_rangeHolding_20 : decode cX0_rangeHolding 20 = .ok (.if_icmp .gt 5, 3) := by decide +kernel
theorem dX0_rangeHolding_23 : decode cX0_rangeHolding 23 = .ok (.iload_n 3, 1) := by decide +kernel
theorem dX0_rangeHolding_24 : decode cX0_rangeHolding 24 = .ok (.ireturn, 1) := by decide +kernel
theorem dX0_rangeHolding_25 : decode cX0_rangeHolding 25 = .ok (.iinc 3 1, 3) := by decide +kernel
theorem dX0_rangeHolding_28 : decode cX0_rangeHolding 28 = .ok (.goto (-19), 3) := by decide +kernel
theorem dX0_rangeHolding_31 : decode cX0_rangeHolding 31 = .ok (.iload_n 2, 1) := by decide +kernel
theorem dX0_rangeHolding_32 : decode cX0_rangeHolding 32 = .ok (.ireturn, 1) := by decide +kernel
set_option maxRecDepth 20000 in
theorem ggX0_homeOf_X0_isRange : GoodIn wsX0_homeOf wsX0_isRange := goodIn_r _ [6, 7, 8, 9, 10, 11, 12, 13, 14, 15, 16, 17, 18, 19, 20, 21, 22, 23] (by decide +kernel) (by decide +kernel)
set_option maxRecDepth 20000 in
theorem gX0_homeOf_X0_isRange : GoodIn wsX0_homeOf (wsV RX0 117 RX0 yX0_isRange wsX0_isRange) := goodIn_app (goodIn_of _ (by decide +kernel)) ggX0_homeOf_X0_isRange
theorem dX0_homeOf_0 : decode cX0_homeOf 0 = .ok (.aload_n 0, 1) := by decide +kernel
theorem dX0_homeOf_1 : decode cX0_homeOf 1 = .ok (.iload_n 1, 1) := by decide +kernel
theorem dX0_homeOf_2 : decode cX0_homeOf 2 = .ok (.invokevirtual 117, 3) := by decide +kernel
theorem dX0_homeOf_5 : decode cX0_homeOf 5 = .ok (.ifCond .eq 12, 3) := by decide +kernel
theorem dX0_homeOf_8 : decode cX0_homeOf 8 = .ok (.aload_n 0, 1) := by decide +kernel
theorem dX0_homeOf_9 : decode cX0_homeOf 9 = .ok (.getfield 16, 3) := by decide +kernel
theorem dX0_homeOf_12 : decode cX0_homeOf 12 = .ok (.iload_n 1, 1) := by decide +kernel
theorem dX0_homeOf_13 : decode cX0_homeOf 13 = .ok (.iaload, 1) := by decide +kernel
theorem dX0_homeOf_14 : decode cX0_homeOf 14 = .ok (.goto 4, 3) := by decide +kernel
theorem dX0_homeOf_17 : decode cX0_homeOf 17 = .ok (.iconst (-1), 1) := by decide +kernel
theorem dX0_homeOf_18 : decode cX0_homeOf 18 = .ok (.ireturn, 1) := by decide +kernel
set_option maxRecDepth 20000 in
theorem ggX0_targetOf_X0_isRange : GoodIn wsX0_targetOf wsX0_isRange := goodIn_r _ [6, 7, 8, 9, 10, 11, 12, 13, 14, 15, 16, 17, 18, 19, 20, 21, 22, 23] (by decide +kernel) (by decide +kernel)
set_option maxRecDepth 20000 in
theorem gX0_targetOf_X0_isRange : GoodIn wsX0_targetOf (wsV RX0 117 RX0 yX0_isRange wsX0_isRange) := goodIn_app (goodIn_of _ (by decide +kernel)) ggX0_targetOf_X0_isRange
theorem dX0_targetOf_0 : decode cX0_targetOf 0 = .ok (.aload_n 0, 1) := by decide +kernel
theorem dX0_targetOf_1 : decode cX0_targetOf 1 = .ok (.iload_n 1, 1) := by decide +kernel
theorem dX0_targetOf_2 : decode cX0_targetOf 2 = .ok (.invokevirtual 117, 3) := by decide +kernel
theorem dX0_targetOf_5 : decode cX0_targetOf 5 = .ok (.ifCond .eq 12, 3) := by decide +kernel
theorem dX0_targetOf_8 : decode cX0_targetOf 8 = .ok (.aload_n 0, 1) := by decide +kernel
theorem dX0_targetOf_9 : decode cX0_targetOf 9 = .ok (.getfield 19, 3) := by decide +kernel
theorem dX0_targetOf_12 : decode cX0_targetOf 12 = .ok (.iload_n 1, 1) := by decide +kernel
theorem dX0_targetOf_13 : decode cX0_targetOf 13 = .ok (.iaload, 1) := by decide +kernel
theorem dX0_targetOf_14 : decode cX0_targetOf 14 = .ok (.goto 4, 3) := by decide +kernel
theorem dX0_targetOf_17 : decode cX0_targetOf 17 = .ok (.iconst (-1), 1) := by decide +kernel
theorem dX0_targetOf_18 : decode cX0_targetOf 18 = .ok (.ireturn, 1) := by decide +kernel
set_option maxRecDepth 20000 in
theorem ggX0_lastKeyOf_X0_isRange : GoodIn wsX0_lastKeyOf wsX0_isRange := goodIn_r _ [6, 7, 8, 9, 10, 11, 12, 13, 14, 15, 16, 17, 18, 19, 20, 21, 22, 23] (by decide +kernel) (by decide +kernel)
set_option maxRecDepth 20000 in
theorem gX0_lastKeyOf_X0_isRange : GoodIn wsX0_lastKeyOf (wsV RX0 117 RX0 yX0_isRange wsX0_isRange) := goodIn_app (goodIn_of _ (by decide +kernel)) ggX0_lastKeyOf_X0_isRange
theorem dX0_lastKeyOf_0 : decode cX0_lastKeyOf 0 = .ok (.aload_n 0, 1) := by decide +kernel
theorem dX0_lastKeyOf_1 : decode cX0_lastKeyOf 1 = .ok (.iload_n 1, 1) := by decide +kernel
theorem dX0_lastKeyOf_2 : decode cX0_lastKeyOf 2 = .ok (.invokevirtual 117, 3) := by decide +kernel
theorem dX0_lastKeyOf_5 : decode cX0_lastKeyOf 5 = .ok (.ifCond .eq 12, 3) := by decide +kernel
theorem dX0_lastKeyOf_8 : decode cX0_lastKeyOf 8 = .ok (.aload_n 0, 1) := by decide +kernel
theorem dX0_lastKeyOf_9 : decode cX0_lastKeyOf 9 = .ok (.getfield 13, 3) := by decide +kernel
theorem dX0_lastKeyOf_12 : decode cX0_lastKeyOf 12 = .ok (.iload_n 1, 1) := by decide +kernel
theorem dX0_lastKeyOf_13 : decode cX0_lastKeyOf 13 = .ok (.iaload, 1) := by decide +kernel
theorem dX0_lastKeyOf_14 : decode cX0_lastKeyOf 14 = .ok (.goto 4, 3) := by decide +kernel
theorem dX0_lastKeyOf_17 : decode cX0_lastKeyOf 17 = .ok (.iconst (-1), 1) := by decide +kernel
theorem dX0_lastKeyOf_18 : decode cX0_lastKeyOf 18 = .ok (.ireturn, 1) := by decide +kernel
theorem dX0_isKey_0 : decode cX0_isKey 0 = .ok (.iload_n 0, 1) := by decide +kernel
theorem dX0_isKey_1 : decode cX0_isKey 1 = .ok (.ifCond .lt 13, 3) := by decide +kernel
theorem dX0_isKey_4 : decode cX0_isKey 4 = .ok (.iload_n 0, 1) := by decide +kernel
theorem dX0_isKey_5 : decode cX0_isKey 5 = .ok (.bipush 100, 2) := by decide +kernel
theorem dX0_isKey_7 : decode cX0_isKey 7 = .ok (.if_icmp .ge 7, 3) := by decide +kernel
theorem dX0_isKey_10 : decode cX0_isKey 10 = .ok (.iconst 1, 1) := by decide +kernel
theorem dX0_isKey_11 : decode cX0_isKey 11 = .ok (.goto 4, 3) := by decide +kernel
theorem dX0_isKey_14 : decode cX0_isKey 14 = .ok (.iconst 0, 1) := by decide +kernel
theorem dX0_isKey_15 : decode cX0_isKey 15 = .ok (.ireturn, 1) := by decide +kernel
theorem dX0_isShard_0 : decode cX0_isShard 0 = .ok (.iload_n 0, 1) := by decide +kernel
theorem dX0_isShard_1 : decode cX0_isShard 1 = .ok (.ifCond .lt 12, 3) := by decide +kernel
theorem dX0_isShard_4 : decode cX0_isShard 4 = .ok (.iload_n 0, 1) := by decide +kernel
theorem dX0_isShard_5 : decode cX0_isShard 5 = .ok (.iconst 4, 1) := by decide +kernel
theorem dX0_isShard_6 : decode cX0_isShard 6 = .ok (.if_icmp .ge 7, 3) := by decide +kernel
theorem dX0_isShard_9 : decode cX0_isShard 9 = .ok (.iconst 1, 1) := by decide +kernel
theorem dX0_isShard_10 : decode cX0_isShard 10 = .ok (.goto 4, 3) := by decide +kernel
theorem dX0_isShard_13 : decode cX0_isShard 13 = .ok (.iconst 0, 1) := by decide +kernel
theorem dX0_isShard_14 : decode cX0_isShard 14 = .ok (.ireturn, 1) := by decide +kernel
theorem dX0_isRange_0 : decode cX0_isRange 0 = .ok (.iload_n 1, 1) := by decide +kernel
theorem dX0_isRange_1 : decode cX0_isRange 1 = .ok (.ifCond .lt 15, 3) := by decide +kernel
theorem dX0_isRange_4 : decode cX0_isRange 4 = .ok (.iload_n 1, 1) := by decide +kernel
theorem dX0_isRange_5 : decode cX0_isRange 5 = .ok (.aload_n 0, 1) := by decide +kernel
theorem dX0_isRange_6 : decode cX0_isRange 6 = .ok (.getfield 49, 3) := by decide +kernel
theorem dX0_isRange_9 : decode cX0_isRange 9 = .ok (.if_icmp .ge 7, 3) := by decide +kernel
theorem dX0_isRange_12 : decode cX0_isRange 12 = .ok (.iconst 1, 1) := by decide +kernel
theorem dX0_isRange_13 : decode cX0_isRange 13 = .ok (.goto 4, 3) := by decide +kernel
theorem dX0_isRange_16 : decode cX0_isRange 16 = .ok (.iconst 0, 1) := by decide +kernel
theorem dX0_isRange_17 : decode cX0_isRange 17 = .ok (.ireturn, 1) := by decide +kernel
theorem dX0_isBallot_0 : decode cX0_isBallot 0 = .ok (.iload_n 1, 1) := by decide +kernel
theorem dX0_isBallot_1 : decode cX0_isBallot 1 = .ok (.ifCond .lt 15, 3) := by decide +kernel
theorem dX0_isBallot_4 : decode cX0_isBallot 4 = .ok (.iload_n 1, 1) := by decide +kernel
theorem dX0_isBallot_5 : decode cX0_isBallot 5 = .ok (.aload_n 0, 1) := by decide +kernel
theorem dX0_isBallot_6 : decode cX0_isBallot 6 = .ok (.getfield 182, 3) := by decide +kernel
theorem dX0_isBallot_9 : decode cX0_isBallot 9 = .ok (.if_icmp .ge 7, 3) := by decide +kernel
theorem dX0_isBallot_12 : decode cX0_isBallot 12 = .ok (.iconst 1, 1) := by decide +kernel
theorem dX0_isBallot_13 : decode cX0_isBallot 13 = .ok (.goto 4, 3) := by decide +kernel
theorem dX0_isBallot_16 : decode cX0_isBallot 16 = .ok (.iconst 0, 1) := by decide +kernel
theorem dX0_isBallot_17 : decode cX0_isBallot 17 = .ok (.ireturn, 1) := by decide +kernel
set_option maxRecDepth 20000 in
theorem ggX0_isMember_X0_read : GoodIn wsX0_isMember wsX0_read := goodIn_r _ [5, 6, 7, 8, 4, 9, 10, 11, 12, 13, 14, 15, 16, 17, 18, 19, 20, 21, 22, 23, 24, 25, 26, 27, 28, 29, 30, 31, 32, 33, 34, 35, 36, 37, 38, 39, 40, 41, 42, 43, 44, 45, 46, 47, 48, 49, 50, 51] (by decide +kernel) (by decide +kernel)
set_option maxRecDepth 20000 in
theorem gX0_isMember_X0_read : GoodIn wsX0_isMember (wsV RX0 83 RX0 yX0_read wsX0_read) := goodIn_app (goodIn_of _ (by decide +kernel)) ggX0_isMember_X0_read
theorem dX0_isMember_0 : decode cX0_isMember 0 = .ok (.aload_n 0, 1) := by decide +kernel
theorem dX0_isMember_1 : decode cX0_isMember 1 = .ok (.iload_n 1, 1) := by decide +kernel
theorem dX0_isMember_2 : decode cX0_isMember 2 = .ok (.invokevirtual 83, 3) := by decide +kernel
theorem dX0_isMember_5 : decode cX0_isMember 5 = .ok (.iconst (-1), 1) := by decide +kernel
theorem dX0_isMember_6 : decode cX0_isMember 6 = .ok (.if_icmp .eq 7, 3) := by decide +kernel
theorem dX0_isMember_9 : decode cX0_isMember 9 = .ok (.iconst 1, 1) := by decide +kernel
theorem dX0_isMember_10 : decode cX0_isMember 10 = .ok (.goto 4, 3) := by decide +kernel
theorem dX0_isMember_13 : decode cX0_isMember 13 = .ok (.iconst 0, 1) := by decide +kernel
theorem dX0_isMember_14 : decode cX0_isMember 14 = .ok (.ireturn, 1) := by decide +kernel
set_option maxRecDepth 20000 in
theorem ggX0_checkKey_X0_isKey : GoodIn wsX0_checkKey wsX0_isKey := goodIn_r _ [6] (by decide +kernel) (by decide +kernel)
set_option maxRecDepth 20000 in
theorem gX0_checkKey_X0_isKey : GoodIn wsX0_checkKey (va_wsS RX0 205 yX0_isKey wsX0_isKey) := goodIn_app (goodIn_of _ (by decide +kernel)) ggX0_checkKey_X0_isKey
theorem dX0_checkKey_0 : decode cX0_checkKey 0 = .ok (.iload_n 0, 1) := by decide +kernel
theorem dX0_checkKey_1 : decode cX0_checkKey 1 = .ok (.invokestatic 205, 3) := by decide +kernel
theorem dX0_checkKey_4 : decode cX0_checkKey 4 = .ok (.ifCond .ne 13, 3) := by decide +kernel
theorem dX0_checkKey_7 : decode cX0_checkKey 7 = .ok (.new 214, 3) := by decide +kernel
theorem dX0_checkKey_10 : decode cX0_checkKey 10 = .ok (.dup, 1) := by decide +kernel
theorem dX0_checkKey_11 : decode cX0_checkKey 11 = .ok (.ldc 216, 2) := by decide +kernel
theorem dX0_checkKey_13 : decode cX0_checkKey 13 = .ok (.invokespecial 218, 3) := by decide +kernel
theorem dX0_checkKey_16 : decode cX0_checkKey 16 = .ok (.athrow, 1) := by decide +kernel
theorem dX0_checkKey_17 : decode cX0_checkKey 17 = .ok (.return_, 1) := by decide +kernel
set_option maxRecDepth 20000 in
theorem ggX0_checkShard_X0_isShard : GoodIn wsX0_checkShard wsX0_isShard := goodIn_r _ [6] (by decide +kernel) (by decide +kernel)
set_option maxRecDepth 20000 in
theorem gX0_checkShard_X0_isShard : GoodIn wsX0_checkShard (va_wsS RX0 202 yX0_isShard wsX0_isShard) := goodIn_app (goodIn_of _ (by decide +kernel)) ggX0_checkShard_X0_isShard
theorem dX0_checkShard_0 : decode cX0_checkShard 0 = .ok (.iload_n 0, 1) := by decide +kernel
theorem dX0_checkShard_1 : decode cX0_checkShard 1 = .ok (.invokestatic 202, 3) := by decide +kernel
theorem dX0_checkShard_4 : decode cX0_checkShard 4 = .ok (.ifCond .ne 13, 3) := by decide +kernel
theorem dX0_checkShard_7 : decode cX0_checkShard 7 = .ok (.new 214, 3) := by decide +kernel
theorem dX0_checkShard_10 : decode cX0_checkShard 10 = .ok (.dup, 1) := by decide +kernel
theorem dX0_checkShard_11 : decode cX0_checkShard 11 = .ok (.ldc 219, 2) := by decide +kernel
theorem dX0_checkShard_13 : decode cX0_checkShard 13 = .ok (.invokespecial 218, 3) := by decide +kernel
theorem dX0_checkShard_16 : decode cX0_checkShard 16 = .ok (.athrow, 1) := by decide +kernel
theorem dX0_checkShard_17 : decode cX0_checkShard 17 = .ok (.return_, 1) := by decide +kernel
theorem dX0_checkDistrict_0 : decode cX0_checkDistrict 0 = .ok (.iload_n 0, 1) := by decide +kernel
theorem dX0_checkDistrict_1 : decode cX0_checkDistrict 1 = .ok (.ifCond .lt 8, 3) := by decide +kernel
theorem dX0_checkDistrict_4 : decode cX0_checkDistrict 4 = .ok (.iload_n 0, 1) := by decide +kernel
theorem dX0_checkDistrict_5 : decode cX0_checkDistrict 5 = .ok (.iconst 4, 1) := by decide +kernel
theorem dX0_checkDistrict_6 : decode cX0_checkDistrict 6 = .ok (.if_icmp .lt 13, 3) := by decide +kernel
theorem dX0_checkDistrict_9 : decode cX0_checkDistrict 9 = .ok (.new 214, 3) := by decide +kernel
theorem dX0_checkDistrict_12 : decode cX0_checkDistrict 12 = .ok (.dup, 1) := by decide +kernel
theorem dX0_checkDistrict_13 : decode cX0_checkDistrict 13 = .ok (.ldc 221, 2) := by decide +kernel
theorem dX0_checkDistrict_15 : decode cX0_checkDistrict 15 = .ok (.invokespecial 218, 3) := by decide +kernel
theorem dX0_checkDistrict_18 : decode cX0_checkDistrict 18 = .ok (.athrow, 1) := by decide +kernel
theorem dX0_checkDistrict_19 : decode cX0_checkDistrict 19 = .ok (.return_, 1) := by decide +kernel
set_option maxRecDepth 20000 in
theorem ggX0_checkRange_X0_isRange : GoodIn wsX0_checkRange wsX0_isRange := goodIn_r _ [7, 8, 9, 10, 11, 12, 13, 14, 15, 16, 17, 18, 19, 20, 21, 22, 23, 24] (by decide +kernel) (by decide +kernel)
set_option maxRecDepth 20000 in
theorem gX0_checkRange_X0_isRange : GoodIn wsX0_checkRange (wsV RX0 117 RX0 yX0_isRange wsX0_isRange) := goodIn_app (goodIn_of _ (by decide +kernel)) ggX0_checkRange_X0_isRange
theorem dX0_checkRange_0 : decode cX0_checkRange 0 = .ok (.aload_n 0, 1) := by decide +kernel
theorem dX0_checkRange_1 : decode cX0_checkRange 1 = .ok (.iload_n 1, 1) := by decide +kernel
theorem dX0_checkRange_2 : decode cX0_checkRange 2 = .ok (.invokevirtual 117, 3) := by decide +kernel
theorem dX0_checkRange_5 : decode cX0_checkRange 5 = .ok (.ifCond .ne 13, 3) := by decide +kernel
theorem dX0_checkRange_8 : decode cX0_checkRange 8 = .ok (.new 214, 3) := by decide +kernel
theorem dX0_checkRange_11 : decode cX0_checkRange 11 = .ok (.dup, 1) := by decide +kernel
theorem dX0_checkRange_12 : decode cX0_checkRange 12 = .ok (.ldc 223, 2) := by decide +kernel
theorem dX0_checkRange_14 : decode cX0_checkRange 14 = .ok (.invokespecial 218, 3) := by decide +kernel
theorem dX0_checkRange_17 : decode cX0_checkRange 17 = .ok (.athrow, 1) := by decide +kernel
theorem dX0_checkRange_18 : decode cX0_checkRange 18 = .ok (.return_, 1) := by decide +kernel
set_option maxRecDepth 20000 in
theorem ggX0_checkBallot_X0_isBallot : GoodIn wsX0_checkBallot wsX0_isBallot := goodIn_r _ [7, 8, 9, 10, 11, 12, 13, 14, 15, 16, 17, 18, 19, 20, 21, 22, 23, 24] (by decide +kernel) (by decide +kernel)
set_option maxRecDepth 20000 in
theorem gX0_checkBallot_X0_isBallot : GoodIn wsX0_checkBallot (wsV RX0 177 RX0 yX0_isBallot wsX0_isBallot) := goodIn_app (goodIn_of _ (by decide +kernel)) ggX0_checkBallot_X0_isBallot
theorem dX0_checkBallot_0 : decode cX0_checkBallot 0 = .ok (.aload_n 0, 1) := by decide +kernel
theorem dX0_checkBallot_1 : decode cX0_checkBallot 1 = .ok (.iload_n 1, 1) := by decide +kernel
theorem dX0_checkBallot_2 : decode cX0_checkBallot 2 = .ok (.invokevirtual 177, 3) := by decide +kernel
theorem dX0_checkBallot_5 : decode cX0_checkBallot 5 = .ok (.ifCond .ne 13, 3) := by decide +kernel
theorem dX0_checkBallot_8 : decode cX0_checkBallot 8 = .ok (.new 214, 3) := by decide +kernel
theorem dX0_checkBallot_11 : decode cX0_checkBallot 11 = .ok (.dup, 1) := by decide +kernel
theorem dX0_checkBallot_12 : decode cX0_checkBallot 12 = .ok (.ldc 225, 2) := by decide +kernel
theorem dX0_checkBallot_14 : decode cX0_checkBallot 14 = .ok (.invokespecial 218, 3) := by decide +kernel
theorem dX0_checkBallot_17 : decode cX0_checkBallot 17 = .ok (.athrow, 1) := by decide +kernel
theorem dX0_checkBallot_18 : decode cX0_checkBallot 18 = .ok (.return_, 1) := by decide +kernel
theorem dX0_checkAddress_0 : decode cX0_checkAddress 0 = .ok (.iload_n 0, 1) := by decide +kernel
theorem dX0_checkAddress_1 : decode cX0_checkAddress 1 = .ok (.ifCond .lt 9, 3) := by decide +kernel
theorem dX0_checkAddress_4 : decode cX0_checkAddress 4 = .ok (.iload_n 0, 1) := by decide +kernel
theorem dX0_checkAddress_5 : decode cX0_checkAddress 5 = .ok (.bipush 40, 2) := by decide +kernel
theorem dX0_checkAddress_7 : decode cX0_checkAddress 7 = .ok (.if_icmp .lt 13, 3) := by decide +kernel
theorem dX0_checkAddress_10 : decode cX0_checkAddress 10 = .ok (.new 227, 3) := by decide +kernel
theorem dX0_checkAddress_13 : decode cX0_checkAddress 13 = .ok (.dup, 1) := by decide +kernel
theorem dX0_checkAddress_14 : decode cX0_checkAddress 14 = .ok (.ldc 229, 2) := by decide +kernel
theorem dX0_checkAddress_16 : decode cX0_checkAddress 16 = .ok (.invokespecial 231, 3) := by decide +kernel
theorem dX0_checkAddress_19 : decode cX0_checkAddress 19 = .ok (.athrow, 1) := by decide +kernel
theorem dX0_checkAddress_20 : decode cX0_checkAddress 20 = .ok (.return_, 1) := by decide +kernel
theorem dX0_checkChoice_0 : decode cX0_checkChoice 0 = .ok (.iload_n 0, 1) := by decide +kernel
theorem dX0_checkChoice_1 : decode cX0_checkChoice 1 = .ok (.ifCond .lt 8, 3) := by decide +kernel
theorem dX0_checkChoice_4 : decode cX0_checkChoice 4 = .ok (.iload_n 0, 1) := by decide +kernel
theorem dX0_checkChoice_5 : decode cX0_checkChoice 5 = .ok (.iconst 3, 1) := by decide +kernel
theorem dX0_checkChoice_6 : decode cX0_checkChoice 6 = .ok (.if_icmp .lt 13, 3) := by decide +kernel
theorem dX0_checkChoice_9 : decode cX0_checkChoice 9 = .ok (.new 227, 3) := by decide +kernel
theorem dX0_checkChoice_12 : decode cX0_checkChoice 12 = .ok (.dup, 1) := by decide +kernel
theorem dX0_checkChoice_13 : decode cX0_checkChoice 13 = .ok (.ldc 232, 2) := by decide +kernel
theorem dX0_checkChoice_15 : decode cX0_checkChoice 15 = .ok (.invokespecial 231, 3) := by decide +kernel
theorem dX0_checkChoice_18 : decode cX0_checkChoice 18 = .ok (.athrow, 1) := by decide +kernel
theorem dX0_checkChoice_19 : decode cX0_checkChoice 19 = .ok (.return_, 1) := by decide +kernel
theorem dJ7_fill_53178_0 : decode cJ7_fill_53178 0 = .ok (.iconst 0, 1) := by decide +kernel
theorem dJ7_fill_53178_1 : decode cJ7_fill_53178 1 = .ok (.istore_n 2, 1) := by decide +kernel
theorem dJ7_fill_53178_2 : decode cJ7_fill_53178 2 = .ok (.aload_n 0, 1) := by decide +kernel
theorem dJ7_fill_53178_3 : decode cJ7_fill_53178 3 = .ok (.arraylength, 1) := by decide +kernel
theorem dJ7_fill_53178_4 : decode cJ7_fill_53178 4 = .ok (.istore_n 3, 1) := by decide +kernel
theorem dJ7_fill_53178_5 : decode cJ7_fill_53178 5 = .ok (.iload_n 2, 1) := by decide +kernel
theorem dJ7_fill_53178_6 : decode cJ7_fill_53178 6 = .ok (.iload_n 3, 1) := by decide +kernel
theorem dJ7_fill_53178_7 : decode cJ7_fill_53178 7 = .ok (.if_icmp .ge 13, 3) := by decide +kernel
theorem dJ7_fill_53178_10 : decode cJ7_fill_53178 10 = .ok (.aload_n 0, 1) := by decide +kernel
theorem dJ7_fill_53178_11 : decode cJ7_fill_53178 11 = .ok (.iload_n 2, 1) := by decide +kernel
theorem dJ7_fill_53178_12 : decode cJ7_fill_53178 12 = .ok (.iload_n 1, 1) := by decide +kernel
theorem dJ7_fill_53178_13 : decode cJ7_fill_53178 13 = .ok (.iastore, 1) := by decide +kernel
theorem dJ7_fill_53178_14 : decode cJ7_fill_53178 14 = .ok (.iinc 2 1, 3) := by decide +kernel
theorem dJ7_fill_53178_17 : decode cJ7_fill_53178 17 = .ok (.goto (-12), 3) := by decide +kernel
theorem dJ7_fill_53178_20 : decode cJ7_fill_53178 20 = .ok (.return_, 1) := by decide +kernel
end
section
theorem dL_cell_0 : decode cL_cell 0 = .ok (.iload_n 1, 1) := by decide +kernel
theorem dL_cell_1 : decode cL_cell 1 = .ok (.aload_n 0, 1) := by decide +kernel
theorem dL_cell_2 : decode cL_cell 2 = .ok (.arraylength, 1) := by decide +kernel
theorem dL_cell_3 : decode cL_cell 3 = .ok (.if_icmp .ge 9, 3) := by decide +kernel
theorem dL_cell_6 : decode cL_cell 6 = .ok (.aload_n 0, 1) := by decide +kernel
theorem dL_cell_7 : decode cL_cell 7 = .ok (.iload_n 1, 1) := by decide +kernel
theorem dL_cell_8 : decode cL_cell 8 = .ok (.iaload, 1) := by decide +kernel
theorem dL_cell_9 : decode cL_cell 9 = .ok (.goto 10, 3) := by decide +kernel
theorem dL_cell_12 : decode cL_cell 12 = .ok (.ldc 7, 2) := by decide +kernel
theorem dL_cell_14 : decode cL_cell 14 = .ok (.iload_n 1, 1) := by decide +kernel
theorem dL_cell_15 : decode cL_cell 15 = .ok (.bipush 6, 2) := by decide +kernel
theorem dL_cell_17 : decode cL_cell 17 = .ok (.iadd, 1) := by decide +kernel
theorem dL_cell_18 : decode cL_cell 18 = .ok (.imul, 1) := by decide +kernel
theorem dL_cell_19 : decode cL_cell 19 = .ok (.ireturn, 1) := by decide +kernel
theorem dL_low_0 : decode cL_low 0 = .ok (.iload_n 0, 1) := by decide +kernel
theorem dL_low_1 : decode cL_low 1 = .ok (.iconst 1, 1) := by decide +kernel
theorem dL_low_2 : decode cL_low 2 = .ok (.iushr, 1) := by decide +kernel
theorem dL_low_3 : decode cL_low 3 = .ok (.iload_n 1, 1) := by decide +kernel
theorem dL_low_4 : decode cL_low 4 = .ok (.irem, 1) := by decide +kernel
theorem dL_low_5 : decode cL_low 5 = .ok (.ireturn, 1) := by decide +kernel
set_option maxRecDepth 20000 in
theorem ggL_join_X0_join : GoodIn wsL_join wsX0_join := goodIn_ca (goodIn_ca (goodIn_ca (goodIn_r _ [8, 9, 10, 11, 12, 13, 7, 14, 15, 16, 17, 18, 19, 20, 21, 22, 23, 24, 25, 26, 27, 28, 29, 30, 31, 32, 33, 34, 35, 36, 37, 38, 39, 40, 41, 42, 43, 44, 45, 46, 47, 48, 49, 50, 51, 52, 53, 54, 55, 56, 57, 58, 59, 60, 61, 62, 63, 64, 65, 66, 67, 68, 69, 70, 71, 72, 73, 74, 75, 76, 77, 78, 79, 80, 81, 82, 83, 84, 85, 86, 87, 88] (by decide +kernel) (by decide +kernel)) (goodIn_sub (fun _ h => List.mem_cons_of_mem _ (List.mem_append_left _ (List.mem_append_left _ (List.mem_append_right _ h)))) (by decide +kernel))) (goodIn_sub (fun _ h => List.mem_cons_of_mem _ (List.mem_append_left _ (List.mem_append_right _ h))) (by decide +kernel))) (goodIn_sub (fun _ h => List.mem_cons_of_mem _ (List.mem_append_right _ h)) (by decide +kernel))
set_option maxRecDepth 20000 in
theorem gL_join_X0_join : GoodIn wsL_join (wsV RL 8 RX0 yX0_join wsX0_join) := goodIn_app (goodIn_of _ (by decide +kernel)) ggL_join_X0_join
theorem dL_join_0 : decode cL_join 0 = .ok (.aload_n 0, 1) := by decide +kernel
theorem dL_join_1 : decode cL_join 1 = .ok (.iload_n 1, 1) := by decide +kernel
theorem dL_join_2 : decode cL_join 2 = .ok (.iload_n 2, 1) := by decide +kernel
theorem dL_join_3 : decode cL_join 3 = .ok (.invokevirtual 8, 3) := by decide +kernel
theorem dL_join_6 : decode cL_join 6 = .ok (.istore_n 3, 1) := by decide +kernel
theorem dL_join_7 : decode cL_join 7 = .ok (.goto 21, 3) := by decide +kernel
theorem dL_join_10 : decode cL_join 10 = .ok (.astore 4, 2) := by decide +kernel
theorem dL_join_12 : decode cL_join 12 = .ok (.sipush (-7100), 3) := by decide +kernel
theorem dL_join_15 : decode cL_join 15 = .ok (.ireturn, 1) := by decide +kernel
theorem dL_join_16 : decode cL_join 16 = .ok (.astore 4, 2) := by decide +kernel
theorem dL_join_18 : decode cL_join 18 = .ok (.sipush (-7200), 3) := by decide +kernel
theorem dL_join_21 : decode cL_join 21 = .ok (.ireturn, 1) := by decide +kernel
theorem dL_join_22 : decode cL_join 22 = .ok (.astore 4, 2) := by decide +kernel
theorem dL_join_24 : decode cL_join 24 = .ok (.sipush (-7300), 3) := by decide +kernel
theorem dL_join_27 : decode cL_join 27 = .ok (.ireturn, 1) := by decide +kernel
theorem dL_join_28 : decode cL_join 28 = .ok (.iload_n 3, 1) := by decide +kernel
theorem dL_join_29 : decode cL_join 29 = .ok (.ireturn, 1) := by decide +kernel
set_option maxRecDepth 20000 in
theorem ggL_address_X0_address : GoodIn wsL_address wsX0_address := goodIn_ca (goodIn_r _ [6, 7, 8, 5, 9, 10, 11, 12, 13, 14, 15, 16, 17, 18, 19, 20, 21, 22, 23, 24, 25, 26, 27, 28, 29, 30, 31, 32, 33, 34, 35, 36, 37, 38, 39, 40, 41, 42, 43, 44, 45, 46, 47, 48, 49, 50, 51, 52, 53, 54, 55, 56, 57, 58, 59, 60, 61] (by decide +kernel) (by decide +kernel)) (goodIn_sub (fun _ h => List.mem_cons_of_mem _ (List.mem_append_right _ h)) (by decide +kernel))
set_option maxRecDepth 20000 in
theorem gL_address_X0_address : GoodIn wsL_address (wsV RL 27 RX0 yX0_address wsX0_address) := goodIn_app (goodIn_of _ (by decide +kernel)) ggL_address_X0_address
theorem dL_address_0 : decode cL_address 0 = .ok (.aload_n 0, 1) := by decide +kernel
theorem dL_address_1 : decode cL_address 1 = .ok (.iload_n 1, 1) := by decide +kernel
theorem dL_address_2 : decode cL_address 2 = .ok (.invokevirtual 27, 3) := by decide +kernel
theorem dL_address_5 : decode cL_address 5 = .ok (.istore_n 2, 1) := by decide +kernel
theorem dL_address_6 : decode cL_address 6 = .ok (.goto 8, 3) := by decide +kernel
theorem dL_address_9 : decode cL_address 9 = .ok (.astore_n 3, 1) := by decide +kernel
theorem dL_address_10 : decode cL_address 10 = .ok (.sipush (-7100), 3) := by decide +kernel
theorem dL_address_13 : decode cL_address 13 = .ok (.ireturn, 1) := by decide +kernel
theorem dL_address_14 : decode cL_address 14 = .ok (.iload_n 2, 1) := by decide +kernel
theorem dL_address_15 : decode cL_address 15 = .ok (.ireturn, 1) := by decide +kernel
set_option maxRecDepth 20000 in
theorem ggL_inDistrict_X0_inDistrict : GoodIn wsL_inDistrict wsX0_inDistrict := goodIn_ca (goodIn_r _ [6, 7, 8, 5, 9, 10, 11, 12, 13, 14, 15, 16, 17, 18, 19, 20, 21, 22, 23, 24, 25, 26, 27, 28, 29, 30, 31, 32, 33, 34, 35, 36, 37, 38, 39, 40, 41, 42, 43, 44, 45, 46, 47, 48, 49, 50, 51, 52, 53, 54, 55, 56, 57, 58, 59, 60, 61, 62, 63, 64] (by decide +kernel) (by decide +kernel)) (goodIn_sub (fun _ h => List.mem_cons_of_mem _ (List.mem_append_right _ h)) (by decide +kernel))
set_option maxRecDepth 20000 in
theorem gL_inDistrict_X0_inDistrict : GoodIn wsL_inDistrict (wsV RL 30 RX0 yX0_inDistrict wsX0_inDistrict) := goodIn_app (goodIn_of _ (by decide +kernel)) ggL_inDistrict_X0_inDistrict
theorem dL_inDistrict_0 : decode cL_inDistrict 0 = .ok (.aload_n 0, 1) := by decide +kernel
theorem dL_inDistrict_1 : decode cL_inDistrict 1 = .ok (.iload_n 1, 1) := by decide +kernel
theorem dL_inDistrict_2 : decode cL_inDistrict 2 = .ok (.invokevirtual 30, 3) := by decide +kernel
theorem dL_inDistrict_5 : decode cL_inDistrict 5 = .ok (.istore_n 2, 1) := by decide +kernel
theorem dL_inDistrict_6 : decode cL_inDistrict 6 = .ok (.goto 8, 3) := by decide +kernel
theorem dL_inDistrict_9 : decode cL_inDistrict 9 = .ok (.astore_n 3, 1) := by decide +kernel
theorem dL_inDistrict_10 : decode cL_inDistrict 10 = .ok (.sipush (-7100), 3) := by decide +kernel
theorem dL_inDistrict_13 : decode cL_inDistrict 13 = .ok (.ireturn, 1) := by decide +kernel
theorem dL_inDistrict_14 : decode cL_inDistrict 14 = .ok (.iload_n 2, 1) := by decide +kernel
theorem dL_inDistrict_15 : decode cL_inDistrict 15 = .ok (.ireturn, 1) := by decide +kernel
set_option maxRecDepth 20000 in
theorem ggL_rangeOf_X0_rangeOf : GoodIn wsL_rangeOf wsX0_rangeOf := goodIn_ca (goodIn_r _ [6, 7, 8, 5, 9, 10, 11, 12, 13, 14, 15, 16, 17, 18, 19, 20, 21, 22, 23, 24, 25, 26, 27, 28, 29, 30, 31, 32, 33, 34, 35, 36, 37, 38, 39, 40, 41, 42, 43, 44] (by decide +kernel) (by decide +kernel)) (goodIn_sub (fun _ h => List.mem_cons_of_mem _ (List.mem_append_right _ h)) (by decide +kernel))
set_option maxRecDepth 20000 in
theorem gL_rangeOf_X0_rangeOf : GoodIn wsL_rangeOf (wsV RL 48 RX0 yX0_rangeOf wsX0_rangeOf) := goodIn_app (goodIn_of _ (by decide +kernel)) ggL_rangeOf_X0_rangeOf
theorem dL_rangeOf_0 : decode cL_rangeOf 0 = .ok (.aload_n 0, 1) := by decide +kernel
theorem dL_rangeOf_1 : decode cL_rangeOf 1 = .ok (.iload_n 1, 1) := by decide +kernel
theorem dL_rangeOf_2 : decode cL_rangeOf 2 = .ok (.invokevirtual 48, 3) := by decide +kernel
theorem dL_rangeOf_5 : decode cL_rangeOf 5 = .ok (.istore_n 2, 1) := by decide +kernel
theorem dL_rangeOf_6 : decode cL_rangeOf 6 = .ok (.goto 8, 3) := by decide +kernel
theorem dL_rangeOf_9 : decode cL_rangeOf 9 = .ok (.astore_n 3, 1) := by decide +kernel
theorem dL_rangeOf_10 : decode cL_rangeOf 10 = .ok (.sipush (-7100), 3) := by decide +kernel
theorem dL_rangeOf_13 : decode cL_rangeOf 13 = .ok (.ireturn, 1) := by decide +kernel
theorem dL_rangeOf_14 : decode cL_rangeOf 14 = .ok (.iload_n 2, 1) := by decide +kernel
theorem dL_rangeOf_15 : decode cL_rangeOf 15 = .ok (.ireturn, 1) := by decide +kernel
set_option maxRecDepth 20000 in
theorem ggL_shardOf_X0_shardOf : GoodIn wsL_shardOf wsX0_shardOf := goodIn_ca (goodIn_r _ [6, 7, 8, 9, 10, 5, 11, 12, 13, 14, 15, 16, 17, 18, 19, 20, 21, 22, 23, 24, 25, 26, 27, 28, 29, 30, 31, 32, 33, 34] (by decide +kernel) (by decide +kernel)) (goodIn_sub (fun _ h => List.mem_cons_of_mem _ (List.mem_append_right _ h)) (by decide +kernel))
set_option maxRecDepth 20000 in
theorem gL_shardOf_X0_shardOf : GoodIn wsL_shardOf (wsV RL 51 RX0 yX0_shardOf wsX0_shardOf) := goodIn_app (goodIn_of _ (by decide +kernel)) ggL_shardOf_X0_shardOf
theorem dL_shardOf_0 : decode cL_shardOf 0 = .ok (.aload_n 0, 1) := by decide +kernel
theorem dL_shardOf_1 : decode cL_shardOf 1 = .ok (.iload_n 1, 1) := by decide +kernel
theorem dL_shardOf_2 : decode cL_shardOf 2 = .ok (.invokevirtual 51, 3) := by decide +kernel
theorem dL_shardOf_5 : decode cL_shardOf 5 = .ok (.istore_n 2, 1) := by decide +kernel
theorem dL_shardOf_6 : decode cL_shardOf 6 = .ok (.goto 8, 3) := by decide +kernel
theorem dL_shardOf_9 : decode cL_shardOf 9 = .ok (.astore_n 3, 1) := by decide +kernel
theorem dL_shardOf_10 : decode cL_shardOf 10 = .ok (.sipush (-7100), 3) := by decide +kernel
theorem dL_shardOf_13 : decode cL_shardOf 13 = .ok (.ireturn, 1) := by decide +kernel
theorem dL_shardOf_14 : decode cL_shardOf 14 = .ok (.iload_n 2, 1) := by decide +kernel
theorem dL_shardOf_15 : decode cL_shardOf 15 = .ok (.ireturn, 1) := by decide +kernel
set_option maxRecDepth 20000 in
theorem ggL_rows_X0_rows : GoodIn wsL_rows wsX0_rows := goodIn_ca (goodIn_r _ [6, 7, 8, 5, 9, 10, 11, 12, 13, 14, 15, 16, 17, 18, 19, 20, 21, 22, 23, 24, 25, 26, 27, 28, 29, 30, 31, 32, 33, 34, 35, 36, 37, 38, 39, 40, 41, 42] (by decide +kernel) (by decide +kernel)) (goodIn_sub (fun _ h => List.mem_cons_of_mem _ (List.mem_append_right _ h)) (by decide +kernel))
set_option maxRecDepth 20000 in
theorem gL_rows_X0_rows : GoodIn wsL_rows (wsV RL 54 RX0 yX0_rows wsX0_rows) := goodIn_app (goodIn_of _ (by decide +kernel)) ggL_rows_X0_rows
theorem dL_rows_0 : decode cL_rows 0 = .ok (.aload_n 0, 1) := by decide +kernel
theorem dL_rows_1 : decode cL_rows 1 = .ok (.iload_n 1, 1) := by decide +kernel
theorem dL_rows_2 : decode cL_rows 2 = .ok (.invokevirtual 54, 3) := by decide +kernel
theorem dL_rows_5 : decode cL_rows 5 = .ok (.istore_n 2, 1) := by decide +kernel
theorem dL_rows_6 : decode cL_rows 6 = .ok (.goto 8, 3) := by decide +kernel
theorem dL_rows_9 : decode cL_rows 9 = .ok (.astore_n 3, 1) := by decide +kernel
theorem dL_rows_10 : decode cL_rows 10 = .ok (.sipush (-7100), 3) := by decide +kernel
theorem dL_rows_13 : decode cL_rows 13 = .ok (.ireturn, 1) := by decide +kernel
theorem dL_rows_14 : decode cL_rows 14 = .ok (.iload_n 2, 1) := by decide +kernel
theorem dL_rows_15 : decode cL_rows 15 = .ok (.ireturn, 1) := by decide +kernel
set_option maxRecDepth 20000 in
theorem ggL_onRoll_X0_onRoll : GoodIn wsL_onRoll wsX0_onRoll := goodIn_ca (goodIn_r _ [6, 7, 8, 9, 10, 5, 11, 12, 13, 14, 15, 16, 17, 18, 19, 20, 21, 22, 23, 24, 25, 26, 27, 28, 29, 30, 31, 32] (by decide +kernel) (by decide +kernel)) (goodIn_sub (fun _ h => List.mem_cons_of_mem _ (List.mem_append_right _ h)) (by decide +kernel))
set_option maxRecDepth 20000 in
theorem gL_onRoll_X0_onRoll : GoodIn wsL_onRoll (wsV RL 61 RX0 yX0_onRoll wsX0_onRoll) := goodIn_app (goodIn_of _ (by decide +kernel)) ggL_onRoll_X0_onRoll
theorem dL_onRoll_0 : decode cL_onRoll 0 = .ok (.aload_n 0, 1) := by decide +kernel
theorem dL_onRoll_1 : decode cL_onRoll 1 = .ok (.iload_n 1, 1) := by decide +kernel
theorem dL_onRoll_2 : decode cL_onRoll 2 = .ok (.invokevirtual 61, 3) := by decide +kernel
theorem dL_onRoll_5 : decode cL_onRoll 5 = .ok (.istore_n 2, 1) := by decide +kernel
theorem dL_onRoll_6 : decode cL_onRoll 6 = .ok (.goto 8, 3) := by decide +kernel
theorem dL_onRoll_9 : decode cL_onRoll 9 = .ok (.astore_n 3, 1) := by decide +kernel
theorem dL_onRoll_10 : decode cL_onRoll 10 = .ok (.sipush (-7100), 3) := by decide +kernel
theorem dL_onRoll_13 : decode cL_onRoll 13 = .ok (.ireturn, 1) := by decide +kernel
theorem dL_onRoll_14 : decode cL_onRoll 14 = .ok (.iload_n 2, 1) := by decide +kernel
theorem dL_onRoll_15 : decode cL_onRoll 15 = .ok (.ireturn, 1) := by decide +kernel
set_option maxRecDepth 20000 in
theorem ggL_sentTo_X0_sentTo : GoodIn wsL_sentTo wsX0_sentTo := goodIn_ca (goodIn_r _ [6, 7, 8, 9, 10, 5, 11, 12, 13, 14, 15, 16, 17, 18, 19, 20, 21, 22, 23, 24, 25, 26, 27, 28, 29, 30, 31, 32, 33, 34] (by decide +kernel) (by decide +kernel)) (goodIn_sub (fun _ h => List.mem_cons_of_mem _ (List.mem_append_right _ h)) (by decide +kernel))
set_option maxRecDepth 20000 in
theorem gL_sentTo_X0_sentTo : GoodIn wsL_sentTo (wsV RL 67 RX0 yX0_sentTo wsX0_sentTo) := goodIn_app (goodIn_of _ (by decide +kernel)) ggL_sentTo_X0_sentTo
theorem dL_sentTo_0 : decode cL_sentTo 0 = .ok (.aload_n 0, 1) := by decide +kernel
theorem dL_sentTo_1 : decode cL_sentTo 1 = .ok (.iload_n 1, 1) := by decide +kernel
theorem dL_sentTo_2 : decode cL_sentTo 2 = .ok (.invokevirtual 67, 3) := by decide +kernel
theorem dL_sentTo_5 : decode cL_sentTo 5 = .ok (.istore_n 2, 1) := by decide +kernel
theorem dL_sentTo_6 : decode cL_sentTo 6 = .ok (.goto 8, 3) := by decide +kernel
theorem dL_sentTo_9 : decode cL_sentTo 9 = .ok (.astore_n 3, 1) := by decide +kernel
theorem dL_sentTo_10 : decode cL_sentTo 10 = .ok (.sipush (-7100), 3) := by decide +kernel
theorem dL_sentTo_13 : decode cL_sentTo 13 = .ok (.ireturn, 1) := by decide +kernel
theorem dL_sentTo_14 : decode cL_sentTo 14 = .ok (.iload_n 2, 1) := by decide +kernel
theorem dL_sentTo_15 : decode cL_sentTo 15 = .ok (.ireturn, 1) := by decide +kernel
set_option maxRecDepth 20000 in
theorem ggL_stateOf_X0_stateOf : GoodIn wsL_stateOf wsX0_stateOf := goodIn_ca (goodIn_r _ [6, 7, 8, 9, 10, 5, 11, 12, 13, 14, 15, 16, 17, 18, 19, 20, 21, 22, 23, 24, 25, 26, 27, 28, 29, 30, 31, 32, 33, 34] (by decide +kernel) (by decide +kernel)) (goodIn_sub (fun _ h => List.mem_cons_of_mem _ (List.mem_append_right _ h)) (by decide +kernel))
set_option maxRecDepth 20000 in
theorem gL_stateOf_X0_stateOf : GoodIn wsL_stateOf (wsV RL 73 RX0 yX0_stateOf wsX0_stateOf) := goodIn_app (goodIn_of _ (by decide +kernel)) ggL_stateOf_X0_stateOf
theorem dL_stateOf_0 : decode cL_stateOf 0 = .ok (.aload_n 0, 1) := by decide +kernel
theorem dL_stateOf_1 : decode cL_stateOf 1 = .ok (.iload_n 1, 1) := by decide +kernel
theorem dL_stateOf_2 : decode cL_stateOf 2 = .ok (.invokevirtual 73, 3) := by decide +kernel
theorem dL_stateOf_5 : decode cL_stateOf 5 = .ok (.istore_n 2, 1) := by decide +kernel
theorem dL_stateOf_6 : decode cL_stateOf 6 = .ok (.goto 8, 3) := by decide +kernel
theorem dL_stateOf_9 : decode cL_stateOf 9 = .ok (.astore_n 3, 1) := by decide +kernel
theorem dL_stateOf_10 : decode cL_stateOf 10 = .ok (.sipush (-7100), 3) := by decide +kernel
theorem dL_stateOf_13 : decode cL_stateOf 13 = .ok (.ireturn, 1) := by decide +kernel
theorem dL_stateOf_14 : decode cL_stateOf 14 = .ok (.iload_n 2, 1) := by decide +kernel
theorem dL_stateOf_15 : decode cL_stateOf 15 = .ok (.ireturn, 1) := by decide +kernel
set_option maxRecDepth 20000 in
theorem ggL_counted_X0_counted : GoodIn wsL_counted wsX0_counted := goodIn_ca (goodIn_ca (goodIn_r _ [7, 8, 9, 10, 11, 12, 13, 6, 14, 15, 16, 17, 18, 19, 20, 21, 22, 23, 24, 25, 26, 27, 28, 29, 30, 31, 32, 33, 34, 35, 36, 37] (by decide +kernel) (by decide +kernel)) (goodIn_sub (fun _ h => List.mem_cons_of_mem _ (List.mem_append_left _ (List.mem_append_right _ h))) (by decide +kernel))) (goodIn_sub (fun _ h => List.mem_cons_of_mem _ (List.mem_append_right _ h)) (by decide +kernel))
set_option maxRecDepth 20000 in
theorem gL_counted_X0_counted : GoodIn wsL_counted (wsV RL 76 RX0 yX0_counted wsX0_counted) := goodIn_app (goodIn_of _ (by decide +kernel)) ggL_counted_X0_counted
theorem dL_counted_0 : decode cL_counted 0 = .ok (.aload_n 0, 1) := by decide +kernel
theorem dL_counted_1 : decode cL_counted 1 = .ok (.iload_n 1, 1) := by decide +kernel
theorem dL_counted_2 : decode cL_counted 2 = .ok (.iload_n 2, 1) := by decide +kernel
theorem dL_counted_3 : decode cL_counted 3 = .ok (.invokevirtual 76, 3) := by decide +kernel
theorem dL_counted_6 : decode cL_counted 6 = .ok (.istore_n 3, 1) := by decide +kernel
theorem dL_counted_7 : decode cL_counted 7 = .ok (.goto 15, 3) := by decide +kernel
theorem dL_counted_10 : decode cL_counted 10 = .ok (.astore 4, 2) := by decide +kernel
theorem dL_counted_12 : decode cL_counted 12 = .ok (.sipush (-7100), 3) := by decide +kernel
theorem dL_counted_15 : decode cL_counted 15 = .ok (.ireturn, 1) := by decide +kernel
theorem dL_counted_16 : decode cL_counted 16 = .ok (.astore 4, 2) := by decide +kernel
theorem dL_counted_18 : decode cL_counted 18 = .ok (.sipush (-7200), 3) := by decide +kernel
theorem dL_counted_21 : decode cL_counted 21 = .ok (.ireturn, 1) := by decide +kernel
theorem dL_counted_22 : decode cL_counted 22 = .ok (.iload_n 3, 1) := by decide +kernel
theorem dL_counted_23 : decode cL_counted 23 = .ok (.ireturn, 1) := by decide +kernel
theorem dL_member_0 : decode cL_member 0 = .ok (.iconst 0, 1) := by decide +kernel
theorem dL_member_1 : decode cL_member 1 = .ok (.istore_n 3, 1) := by decide +kernel
theorem dL_member_2 : decode cL_member 2 = .ok (.iload_n 3, 1) := by decide +kernel
theorem dL_member_3 : decode cL_member 3 = .ok (.aload_n 1, 1) := by decide +kernel
theorem dL_member_4 : decode cL_member 4 = .ok (.iconst 0, 1) := by decide +kernel
theorem dL_member_5 : decode cL_member 5 = .ok (.iaload, 1) := by decide +kernel
theorem dL_member_6 : decode cL_member 6 = .ok (.if_icmp .ge 21, 3) := by decide +kernel
theorem dL_member_9 : decode cL_member 9 = .ok (.aload_n 0, 1) := by decide +kernel
theorem dL_member_10 : decode cL_member 10 = .ok (.iload_n 3, 1) := by decide +kernel
theorem dL_member_11 : decode cL_member 11 = .ok (.iaload, 1) := by decide +kernel
theorem dL_member_12 : decode cL_member 12 = .ok (.bipush 127, 2) := by decide +kernel
theorem dL_member_14 : decode cL_member 14 = .ok (.iand, 1) := by decide +kernel
theorem dL_member_15 : decode cL_member 15 = .ok (.iload_n 2, 1) := by decide +kernel
theorem dL_member_16 : decode cL_member 16 = .ok (.if_icmp .ne 5, 3) := by decide +kernel
theorem dL_member_19 : decode cL_member 19 = .ok (.iload_n 3, 1) := by decide +kernel
theorem dL_member_20 : decode cL_member 20 = .ok (.ireturn, 1) := by decide +kernel
theorem dL_member_21 : decode cL_member 21 = .ok (.iinc 3 1, 3) := by decide +kernel
theorem dL_member_24 : decode cL_member 24 = .ok (.goto (-22), 3) := by decide +kernel
theorem dL_member_27 : decode cL_member 27 = .ok (.iconst (-1), 1) := by decide +kernel
theorem dL_member_28 : decode cL_member 28 = .ok (.ireturn, 1) := by decide +kernel
theorem dL_range_0 : decode cL_range 0 = .ok (.iconst 0, 1) := by decide +kernel
theorem dL_range_1 : decode cL_range 1 = .ok (.istore_n 2, 1) := by decide +kernel
theorem dL_range_2 : decode cL_range 2 = .ok (.aload_n 0, 1) := by decide +kernel
theorem dL_range_3 : decode cL_range 3 = .ok (.iload_n 2, 1) := by decide +kernel
theorem dL_range_4 : decode cL_range 4 = .ok (.iaload, 1) := by decide +kernel
theorem dL_range_5 : decode cL_range 5 = .ok (.bipush 127, 2) := by decide +kernel
theorem dL_range_7 : decode cL_range 7 = .ok (.iand, 1) := by decide +kernel
theorem dL_range_8 : decode cL_range 8 = .ok (.iload_n 1, 1) := by decide +kernel
theorem dL_range_9 : decode cL_range 9 = .ok (.if_icmp .ge 9, 3) := by decide +kernel
theorem dL_range_12 : decode cL_range 12 = .ok (.iinc 2 1, 3) := by decide +kernel
theorem dL_range_15 : decode cL_range 15 = .ok (.goto (-13), 3) := by decide +kernel
theorem dL_range_18 : decode cL_range 18 = .ok (.iload_n 2, 1) := by decide +kernel
theorem dL_range_19 : decode cL_range 19 = .ok (.ireturn, 1) := by decide +kernel
theorem dL_first_0 : decode cL_first 0 = .ok (.iload_n 1, 1) := by decide +kernel
theorem dL_first_1 : decode cL_first 1 = .ok (.ifCond .ne 7, 3) := by decide +kernel
theorem dL_first_4 : decode cL_first 4 = .ok (.iconst 0, 1) := by decide +kernel
theorem dL_first_5 : decode cL_first 5 = .ok (.goto 13, 3) := by decide +kernel
theorem dL_first_8 : decode cL_first 8 = .ok (.aload_n 0, 1) := by decide +kernel
theorem dL_first_9 : decode cL_first 9 = .ok (.iload_n 1, 1) := by decide +kernel
theorem dL_first_10 : decode cL_first 10 = .ok (.iconst 1, 1) := by decide +kernel
theorem dL_first_11 : decode cL_first 11 = .ok (.isub, 1) := by decide +kernel
theorem dL_first_12 : decode cL_first 12 = .ok (.iaload, 1) := by decide +kernel
theorem dL_first_13 : decode cL_first 13 = .ok (.bipush 127, 2) := by decide +kernel
theorem dL_first_15 : decode cL_first 15 = .ok (.iand, 1) := by decide +kernel
theorem dL_first_16 : decode cL_first 16 = .ok (.iconst 1, 1) := by decide +kernel
theorem dL_first_17 : decode cL_first 17 = .ok (.iadd, 1) := by decide +kernel
theorem dL_first_18 : decode cL_first 18 = .ok (.ireturn, 1) := by decide +kernel
set_option maxRecDepth 20000 in
theorem ggL_ofRange_L_first : GoodIn wsL_ofRange wsL_first := goodIn_r _ [4] (by decide +kernel) (by decide +kernel)
set_option maxRecDepth 20000 in
theorem gL_ofRange_L_first : GoodIn wsL_ofRange (va_wsS RL 82 yL_first wsL_first) := goodIn_app (goodIn_of _ (by decide +kernel)) ggL_ofRange_L_first
theorem dL_ofRange_0 : decode cL_ofRange 0 = .ok (.iload 4, 2) := by decide +kernel
theorem dL_ofRange_2 : decode cL_ofRange 2 = .ok (.iconst 2, 1) := by decide +kernel
theorem dL_ofRange_3 : decode cL_ofRange 3 = .ok (.if_icmp .ne 9, 3) := by decide +kernel
theorem dL_ofRange_6 : decode cL_ofRange 6 = .ok (.sipush 1000, 3) := by decide +kernel
theorem dL_ofRange_9 : decode cL_ofRange 9 = .ok (.goto 4, 3) := by decide +kernel
theorem dL_ofRange_12 : decode cL_ofRange 12 = .ok (.iconst 0, 1) := by decide +kernel
theorem dL_ofRange_13 : decode cL_ofRange 13 = .ok (.istore 5, 2) := by decide +kernel
theorem dL_ofRange_15 : decode cL_ofRange 15 = .ok (.iconst 0, 1) := by decide +kernel
theorem dL_ofRange_16 : decode cL_ofRange 16 = .ok (.istore 6, 2) := by decide +kernel
theorem dL_ofRange_18 : decode cL_ofRange 18 = .ok (.iload 6, 2) := by decide +kernel
theorem dL_ofRange_20 : decode cL_ofRange 20 = .ok (.aload_n 2, 1) := by decide +kernel
theorem dL_ofRange_21 : decode cL_ofRange 21 = .ok (.iconst 0, 1) := by decide +kernel
theorem dL_ofRange_22 : decode cL_ofRange 22 = .ok (.iaload, 1) := by decide +kernel
theorem dL_ofRange_23 : decode cL_ofRange 23 = .ok (.if_icmp .ge 112, 3) := by decide +kernel
theorem dL_ofRange_26 : decode cL_ofRange 26 = .ok (.aload_n 0, 1) := by decide +kernel
theorem dL_ofRange_27 : decode cL_ofRange 27 = .ok (.iload 6, 2) := by decide +kernel
theorem dL_ofRange_29 : decode cL_ofRange 29 = .ok (.iaload, 1) := by decide +kernel
theorem dL_ofRange_30 : decode cL_ofRange 30 = .ok (.bipush 127, 2) := by decide +kernel
theorem dL_ofRange_32 : decode cL_ofRange 32 = .ok (.iand, 1) := by decide +kernel
theorem dL_ofRange_33 : decode cL_ofRange 33 = .ok (.istore 7, 2) := by decide +kernel
theorem dL_ofRange_35 : decode cL_ofRange 35 = .ok (.iload 7, 2) := by decide +kernel
theorem dL_ofRange_37 : decode cL_ofRange 37 = .ok (.aload_n 1, 1) := by decide +kernel
theorem dL_ofRange_38 : decode cL_ofRange 38 = .ok (.iload_n 3, 1) := by decide +kernel
theorem dL_ofRange_39 : decode cL_ofRange 39 = .ok (.invokestatic 82, 3) := by decide +kernel
theorem dL_ofRange_42 : decode cL_ofRange 42 = .ok (.if_icmp .lt 87, 3) := by decide +kernel
theorem dL_ofRange_45 : decode cL_ofRange 45 = .ok (.iload 7, 2) := by decide +kernel
theorem dL_ofRange_47 : decode cL_ofRange 47 = .ok (.aload_n 1, 1) := by decide +kernel
theorem dL_ofRange_48 : decode cL_ofRange 48 = .ok (.iload_n 3, 1) := by decide +kernel
theorem dL_ofRange_49 : decode cL_ofRange 49 = .ok (.iaload, 1) := by decide +kernel
theorem dL_ofRange_50 : decode cL_ofRange 50 = .ok (.bipush 127, 2) := by decide +kernel
theorem dL_ofRange_52 : decode cL_ofRange 52 = .ok (.iand, 1) := by decide +kernel
theorem dL_ofRange_53 : decode cL_ofRange 53 = .ok (.if_icmp .le 6, 3) := by decide +kernel
theorem dL_ofRange_56 : decode cL_ofRange 56 = .ok (.goto 73, 3) := by decide +kernel
theorem dL_ofRange_59 : decode cL_ofRange 59 = .ok (.aload_n 0, 1) := by decide +kernel
theorem dL_ofRange_60 : decode cL_ofRange 60 = .ok (.iload 6, 2) := by decide +kernel
theorem dL_ofRange_62 : decode cL_ofRange 62 = .ok (.iaload, 1) := by decide +kernel
theorem dL_ofRange_63 : decode cL_ofRange 63 = .ok (.bipush 13, 2) := by decide +kernel
theorem dL_ofRange_65 : decode cL_ofRange 65 = .ok (.ishr, 1) := by decide +kernel
theorem dL_ofRange_66 : decode cL_ofRange 66 = .ok (.iconst 1, 1) := by decide +kernel
theorem dL_ofRange_67 : decode cL_ofRange 67 = .ok (.iand, 1) := by decide +kernel
theorem dL_ofRange_68 : decode cL_ofRange 68 = .ok (.iconst 1, 1) := by decide +kernel
theorem dL_ofRange_69 : decode cL_ofRange 69 = .ok (.if_icmp .ne 7, 3) := by decide +kernel
theorem dL_ofRange_72 : decode cL_ofRange 72 = .ok (.iconst 1, 1) := by decide +kernel
theorem dL_ofRange_73 : decode cL_ofRange 73 = .ok (.goto 4, 3) := by decide +kernel
theorem dL_ofRange_76 : decode cL_ofRange 76 = .ok (.iconst 0, 1) := by decide +kernel
theorem dL_ofRange_77 : decode cL_ofRange 77 = .ok (.istore 8, 2) := by decide +kernel
theorem dL_ofRange_79 : decode cL_ofRange 79 = .ok (.iload 4, 2) := by decide +kernel
theorem dL_ofRange_81 : decode cL_ofRange 81 = .ok (.iconst 2, 1) := by decide +kernel
theorem dL_ofRange_82 : decode cL_ofRange 82 = .ok (.if_icmp .ne 27, 3) := by decide +kernel
theorem dL_ofRange_85 : decode cL_ofRange 85 = .ok (.iload 8, 2) := by decide +kernel
theorem dL_ofRange_87 : decode cL_ofRange 87 = .ok (.ifCond .ne 15, 3) := by decide +kernel
theorem dL_ofRange_90 : decode cL_ofRange 90 = .ok (.iload 7, 2) := by decide +kernel
theorem dL_ofRange_92 : decode cL_ofRange 92 = .ok (.iload 5, 2) := by decide +kernel
theorem dL_ofRange_94 : decode cL_ofRange 94 = .ok (.if_icmp .ge 8, 3) := by decide +kernel
theorem dL_ofRange_97 : decode cL_ofRange 97 = .ok (.iload 7, 2) := by decide +kernel
theorem dL_ofRange_99 : decode cL_ofRange 99 = .ok (.goto 5, 3) := by decide +kernel
theorem dL_ofRange_102 : decode cL_ofRange 102 = .ok (.iload 5, 2) := by decide +kernel
theorem dL_ofRange_104 : decode cL_ofRange 104 = .ok (.istore 5, 2) := by decide +kernel
theorem dL_ofRange_106 : decode cL_ofRange 106 = .ok (.goto 23, 3) := by decide +kernel
theorem dL_ofRange_109 : decode cL_ofRange 109 = .ok (.iload 5, 2) := by decide +kernel
theorem dL_ofRange_111 : decode cL_ofRange 111 = .ok (.iload 4, 2) := by decide +kernel
theorem dL_ofRange_113 : decode cL_ofRange 113 = .ok (.ifCond .eq 8, 3) := by decide +kernel
theorem dL_ofRange_116 : decode cL_ofRange 116 = .ok (.iload 8, 2) := by decide +kernel
theorem dL_ofRange_118 : decode cL_ofRange 118 = .ok (.ifCond .eq 7, 3) := by decide +kernel
theorem dL_ofRange_121 : decode cL_ofRange 121 = .ok (.iconst 1, 1) := by decide +kernel
theorem dL_ofRange_122 : decode cL_ofRange 122 = .ok (.goto 4, 3) := by decide +kernel
theorem dL_ofRange_125 : decode cL_ofRange 125 = .ok (.iconst 0, 1) := by decide +kernel
theorem dL_ofRange_126 : decode cL_ofRange 126 = .ok (.iadd, 1) := by decide +kernel
theorem dL_ofRange_127 : decode cL_ofRange 127 = .ok (.istore 5, 2) := by decide +kernel
theorem dL_ofRange_129 : decode cL_ofRange 129 = .ok (.iinc 6 1, 3) := by decide +kernel
theorem dL_ofRange_132 : decode cL_ofRange 132 = .ok (.goto (-114), 3) := by decide +kernel
theorem dL_ofRange_135 : decode cL_ofRange 135 = .ok (.iload 5, 2) := by decide +kernel
theorem dL_ofRange_137 : decode cL_ofRange 137 = .ok (.sipush 1000, 3) := by decide +kernel
theorem dL_ofRange_140 : decode cL_ofRange 140 = .ok (.if_icmp .ne 7, 3) := by decide +kernel
theorem dL_ofRange_143 : decode cL_ofRange 143 = .ok (.iconst (-1), 1) := by decide +kernel
theorem dL_ofRange_144 : decode cL_ofRange 144 = .ok (.goto 5, 3) := by decide +kernel
theorem dL_ofRange_147 : decode cL_ofRange 147 = .ok (.iload 5, 2) := by decide +kernel
theorem dL_ofRange_149 : decode cL_ofRange 149 = .ok (.ireturn, 1) := by decide +kernel
set_option maxRecDepth 20000 in
theorem ggL_writes_L_low : GoodIn wsL_writes wsL_low := goodIn_r _ [5] (by decide +kernel) (by decide +kernel)
set_option maxRecDepth 20000 in
theorem gL_writes_L_low : GoodIn wsL_writes (va_wsS RL 88 yL_low wsL_low) := goodIn_app (goodIn_of _ (by decide +kernel)) ggL_writes_L_low
set_option maxRecDepth 20000 in
theorem ggL_writes_L_member : GoodIn wsL_writes wsL_member := goodIn_r _ [8] (by decide +kernel) (by decide +kernel)
set_option maxRecDepth 20000 in
theorem gL_writes_L_member : GoodIn wsL_writes (va_wsS RL 91 yL_member wsL_member) := goodIn_app (goodIn_of _ (by decide +kernel)) ggL_writes_L_member
set_option maxRecDepth 20000 in
theorem ggL_writes_L_join : GoodIn wsL_writes wsL_join := goodIn_ca (goodIn_ca (goodIn_ca (goodIn_r _ [11, 12, 13, 14, 15, 16, 17, 18, 19, 20, 21, 22, 23, 24, 25, 26, 27, 28, 29, 30, 31, 32, 33, 34, 35, 36, 37, 38, 39, 40, 41, 42, 43, 44, 45, 46, 47, 48, 49, 50, 51, 52, 53, 54, 55, 56, 57, 58, 59, 60, 61, 62, 63, 64, 65, 66, 67, 68, 69, 70, 71, 72, 73, 74, 75, 76, 77, 78, 79, 80, 81, 82, 83, 102, 103, 104, 105, 106, 107, 108, 109, 110, 111, 112, 113, 114, 115, 116, 117] (by decide +kernel) (by decide +kernel)) (goodIn_sub (fun _ h => List.mem_cons_of_mem _ (List.mem_append_left _ (List.mem_append_left _ (List.mem_append_right _ h)))) (by decide +kernel))) (goodIn_sub (fun _ h => List.mem_cons_of_mem _ (List.mem_append_left _ (List.mem_append_right _ h))) (by decide +kernel))) (goodIn_sub (fun _ h => List.mem_cons_of_mem _ (List.mem_append_right _ h)) (by decide +kernel))
set_option maxRecDepth 20000 in
theorem gL_writes_L_join : GoodIn wsL_writes (va_wsS RL 95 yL_join wsL_join) := goodIn_app (goodIn_of _ (by decide +kernel)) ggL_writes_L_join
set_option maxRecDepth 20000 in
theorem ggL_writes_L_change : GoodIn wsL_writes wsL_change := goodIn_ca (goodIn_ca (goodIn_ca (goodIn_r _ [86, 12, 13, 14, 87, 88, 89, 18, 90, 23, 24, 25, 26, 27, 28, 29, 30, 31, 32, 33, 34, 35, 91, 92, 93, 94, 20, 21, 36, 37, 38, 39, 40, 41, 42, 43, 44, 45, 46, 47, 48, 49, 50, 51, 52, 53, 54, 55, 56, 57, 58, 59, 60, 61, 62, 63, 64, 65, 66, 67, 68, 69, 70, 71, 72, 73, 74, 75, 76, 77, 78, 79, 80, 81, 82, 83, 102, 103, 104, 105, 106, 107, 108, 109, 110, 111, 112, 113, 114, 115, 116, 117] (by decide +kernel) (by decide +kernel)) (goodIn_sub (fun _ h => List.mem_cons_of_mem _ (List.mem_append_left _ (List.mem_append_right _ h))) (by decide +kernel))) (goodIn_sub (fun _ h => List.mem_cons_of_mem _ (List.mem_append_right _ h)) (by decide +kernel))) (goodIn_sub (fun _ h => List.mem_cons_of_mem _ (List.mem_append_left _ (List.mem_append_left _ (List.mem_append_right _ h)))) (by decide +kernel))
set_option maxRecDepth 20000 in
theorem gL_writes_L_change : GoodIn wsL_writes (va_wsS RL 98 yL_change wsL_change) := goodIn_app (goodIn_of _ (by decide +kernel)) ggL_writes_L_change
set_option maxRecDepth 20000 in
theorem ggL_writes_L_leave : GoodIn wsL_writes wsL_leave := goodIn_ca (goodIn_ca (goodIn_r _ [97, 12, 14, 98, 99, 100, 18, 101, 22, 23, 24, 25, 26, 27, 28, 29, 30, 91, 92, 93, 94, 20, 21, 36, 37, 38, 39, 40, 41, 42, 43, 44, 45, 46, 47, 48, 49, 50, 51, 52, 53, 54, 55, 56, 57, 58, 59, 60, 61, 62, 63, 64, 65, 66, 67, 68, 69, 70, 71, 72, 73, 74, 75, 76, 77, 78, 79, 80, 81, 82, 83, 102, 103, 104, 105, 106, 107, 108, 109, 110, 111, 112, 113, 114, 115, 116, 117] (by decide +kernel) (by decide +kernel)) (goodIn_sub (fun _ h => List.mem_cons_of_mem _ (List.mem_append_left _ (List.mem_append_right _ h))) (by decide +kernel))) (goodIn_sub (fun _ h => List.mem_cons_of_mem _ (List.mem_append_left _ (List.mem_append_left _ (List.mem_append_right _ h)))) (by decide +kernel))
set_option maxRecDepth 20000 in
theorem gL_writes_L_leave : GoodIn wsL_writes (va_wsS RL 100 yL_leave wsL_leave) := goodIn_app (goodIn_of _ (by decide +kernel)) ggL_writes_L_leave
theorem dL_writes_0 : decode cL_writes 0 = .ok (.iload_n 2, 1) := by decide +kernel
theorem dL_writes_1 : decode cL_writes 1 = .ok (.bipush 96, 2) := by decide +kernel
theorem dL_writes_3 : decode cL_writes 3 = .ok (.iand, 1) := by decide +kernel
theorem dL_writes_4 : decode cL_writes 4 = .ok (.ifCond .eq 10, 3) := by decide +kernel
theorem dL_writes_7 : decode cL_writes 7 = .ok (.aload 5, 2) := by decide +kernel
theorem dL_writes_9 : decode cL_writes 9 = .ok (.iconst 0, 1) := by decide +kernel
theorem dL_writes_10 : decode cL_writes 10 = .ok (.iaload, 1) := by decide +kernel
theorem dL_writes_11 : decode cL_writes 11 = .ok (.ifCond .ne 15, 3) := by decide +kernel
theorem dL_writes_14 : decode cL_writes 14 = .ok (.iload_n 2, 1) := by decide +kernel
theorem dL_writes_15 : decode cL_writes 15 = .ok (.bipush 7, 2) := by decide +kernel
theorem dL_writes_17 : decode cL_writes 17 = .ok (.ishr, 1) := by decide +kernel
theorem dL_writes_18 : decode cL_writes 18 = .ok (.bipush 100, 2) := by decide +kernel
theorem dL_writes_20 : decode cL_writes 20 = .ok (.invokestatic 88, 3) := by decide +kernel
theorem dL_writes_23 : decode cL_writes 23 = .ok (.goto 27, 3) := by decide +kernel
theorem dL_writes_26 : decode cL_writes 26 = .ok (.aload 4, 2) := by decide +kernel
theorem dL_writes_28 : decode cL_writes 28 = .ok (.iload_n 2, 1) := by decide +kernel
theorem dL_writes_29 : decode cL_writes 29 = .ok (.bipush 7, 2) := by decide +kernel
theorem dL_writes_31 : decode cL_writes 31 = .ok (.ishr, 1) := by decide +kernel
theorem dL_writes_32 : decode cL_writes 32 = .ok (.aload 5, 2) := by decide +kernel
theorem dL_writes_34 : decode cL_writes 34 = .ok (.iconst 0, 1) := by decide +kernel
theorem dL_writes_35 : decode cL_writes 35 = .ok (.iaload, 1) := by decide +kernel
theorem dL_writes_36 : decode cL_writes 36 = .ok (.invokestatic 88, 3) := by decide +kernel
theorem dL_writes_39 : decode cL_writes 39 = .ok (.iaload, 1) := by decide +kernel
theorem dL_writes_40 : decode cL_writes 40 = .ok (.bipush 127, 2) := by decide +kernel
theorem dL_writes_42 : decode cL_writes 42 = .ok (.iand, 1) := by decide +kernel
theorem dL_writes_43 : decode cL_writes 43 = .ok (.iload_n 2, 1) := by decide +kernel
theorem dL_writes_44 : decode cL_writes 44 = .ok (.bipush 20, 2) := by decide +kernel
theorem dL_writes_46 : decode cL_writes 46 = .ok (.ishr, 1) := by decide +kernel
theorem dL_writes_47 : decode cL_writes 47 = .ok (.iconst 1, 1) := by decide +kernel
theorem dL_writes_48 : decode cL_writes 48 = .ok (.iand, 1) := by decide +kernel
theorem dL_writes_49 : decode cL_writes 49 = .ok (.iadd, 1) := by decide +kernel
theorem dL_writes_50 : decode cL_writes 50 = .ok (.istore 6, 2) := by decide +kernel
theorem dL_writes_52 : decode cL_writes 52 = .ok (.iload 6, 2) := by decide +kernel
theorem dL_writes_54 : decode cL_writes 54 = .ok (.bipush 99, 2) := by decide +kernel
theorem dL_writes_56 : decode cL_writes 56 = .ok (.if_icmp .le 8, 3) := by decide +kernel
theorem dL_writes_59 : decode cL_writes 59 = .ok (.bipush 99, 2) := by decide +kernel
theorem dL_writes_61 : decode cL_writes 61 = .ok (.goto 5, 3) := by decide +kernel
theorem dL_writes_64 : decode cL_writes 64 = .ok (.iload 6, 2) := by decide +kernel
theorem dL_writes_66 : decode cL_writes 66 = .ok (.istore 6, 2) := by decide +kernel
theorem dL_writes_68 : decode cL_writes 68 = .ok (.iload_n 3, 1) := by decide +kernel
theorem dL_writes_69 : decode cL_writes 69 = .ok (.bipush 40, 2) := by decide +kernel
theorem dL_writes_71 : decode cL_writes 71 = .ok (.invokestatic 88, 3) := by decide +kernel
theorem dL_writes_74 : decode cL_writes 74 = .ok (.istore 7, 2) := by decide +kernel
theorem dL_writes_76 : decode cL_writes 76 = .ok (.aload 4, 2) := by decide +kernel
theorem dL_writes_78 : decode cL_writes 78 = .ok (.aload 5, 2) := by decide +kernel
theorem dL_writes_80 : decode cL_writes 80 = .ok (.iload 6, 2) := by decide +kernel
theorem dL_writes_82 : decode cL_writes 82 = .ok (.invokestatic 91, 3) := by decide +kernel
theorem dL_writes_85 : decode cL_writes 85 = .ok (.istore 8, 2) := by decide +kernel
theorem dL_writes_87 : decode cL_writes 87 = .ok (.iload_n 1, 1) := by decide +kernel
theorem dL_writes_88 : decode cL_writes 88 = .ok (.iconst 4, 1) := by decide +kernel
theorem dL_writes_89 : decode cL_writes 89 = .ok (.if_icmp .ge 141, 3) := by decide +kernel
theorem dL_writes_92 : decode cL_writes 92 = .ok (.aload_n 0, 1) := by decide +kernel
theorem dL_writes_93 : decode cL_writes 93 = .ok (.bipush 100, 2) := by decide +kernel
theorem dL_writes_95 : decode cL_writes 95 = .ok (.bipush 40, 2) := by decide +kernel
theorem dL_writes_97 : decode cL_writes 97 = .ok (.invokestatic 95, 3) := by decide +kernel
theorem dL_writes_100 : decode cL_writes 100 = .ok (.sipush (-7100), 3) := by decide +kernel
theorem dL_writes_103 : decode cL_writes 103 = .ok (.if_icmp .ne 42, 3) := by decide +kernel
theorem dL_writes_106 : decode cL_writes 106 = .ok (.aload_n 0, 1) := by decide +kernel
theorem dL_writes_107 : decode cL_writes 107 = .ok (.iconst (-1), 1) := by decide +kernel
theorem dL_writes_108 : decode cL_writes 108 = .ok (.iconst 0, 1) := by decide +kernel
theorem dL_writes_109 : decode cL_writes 109 = .ok (.invokestatic 95, 3) := by decide +kernel
theorem dL_writes_112 : decode cL_writes 112 = .ok (.sipush (-7100), 3) := by decide +kernel
theorem dL_writes_115 : decode cL_writes 115 = .ok (.if_icmp .ne 30, 3) := by decide +kernel
theorem dL_writes_118 : decode cL_writes 118 = .ok (.aload_n 0, 1) := by decide +kernel
theorem dL_writes_119 : decode cL_writes 119 = .ok (.iload 6, 2) := by decide +kernel
theorem dL_writes_121 : decode cL_writes 121 = .ok (.bipush 40, 2) := by decide +kernel
theorem dL_writes_123 : decode cL_writes 123 = .ok (.invokestatic 95, 3) := by decide +kernel
theorem dL_writes_126 : decode cL_writes 126 = .ok (.sipush (-7200), 3) := by decide +kernel
theorem dL_writes_129 : decode cL_writes 129 = .ok (.if_icmp .ne 16, 3) := by decide +kernel
theorem dL_writes_132 : decode cL_writes 132 = .ok (.aload_n 0, 1) := by decide +kernel
theorem dL_writes_133 : decode cL_writes 133 = .ok (.iload 6, 2) := by decide +kernel
theorem dL_writes_135 : decode cL_writes 135 = .ok (.iconst (-1), 1) := by decide +kernel
theorem dL_writes_136 : decode cL_writes 136 = .ok (.invokestatic 95, 3) := by decide +kernel
theorem dL_writes_139 : decode cL_writes 139 = .ok (.sipush (-7200), 3) := by decide +kernel
theorem dL_writes_142 : decode cL_writes 142 = .ok (.if_icmp .eq 5, 3) := by decide +kernel
theorem dL_writes_145 : decode cL_writes 145 = .ok (.iconst 0, 1) := by decide +kernel
theorem dL_writes_146 : decode cL_writes 146 = .ok (.ireturn, 1) := by decide +kernel
theorem dL_writes_147 : decode cL_writes 147 = .ok (.iload 8, 2) := by decide +kernel
theorem dL_writes_149 : decode cL_writes 149 = .ok (.ifCond .ge 12, 3) := by decide +kernel
theorem dL_writes_152 : decode cL_writes 152 = .ok (.aload 5, 2) := by decide +kernel
theorem dL_writes_154 : decode cL_writes 154 = .ok (.iconst 0, 1) := by decide +kernel
theorem dL_writes_155 : decode cL_writes 155 = .ok (.iaload, 1) := by decide +kernel
theorem dL_writes_156 : decode cL_writes 156 = .ok (.bipush 40, 2) := by decide +kernel
theorem dL_writes_158 : decode cL_writes 158 = .ok (.if_icmp .ne 23, 3) := by decide +kernel
theorem dL_writes_161 : decode cL_writes 161 = .ok (.aload_n 0, 1) := by decide +kernel
theorem dL_writes_162 : decode cL_writes 162 = .ok (.iload 6, 2) := by decide +kernel
theorem dL_writes_164 : decode cL_writes 164 = .ok (.iload 7, 2) := by decide +kernel
theorem dL_writes_166 : decode cL_writes 166 = .ok (.invokestatic 95, 3) := by decide +kernel
theorem dL_writes_169 : decode cL_writes 169 = .ok (.sipush (-7300), 3) := by decide +kernel
theorem dL_writes_172 : decode cL_writes 172 = .ok (.if_icmp .ne 7, 3) := by decide +kernel
theorem dL_writes_175 : decode cL_writes 175 = .ok (.iconst 1, 1) := by decide +kernel
theorem dL_writes_176 : decode cL_writes 176 = .ok (.goto 4, 3) := by decide +kernel
theorem dL_writes_179 : decode cL_writes 179 = .ok (.iconst 0, 1) := by decide +kernel
theorem dL_writes_180 : decode cL_writes 180 = .ok (.ireturn, 1) := by decide +kernel
theorem dL_writes_181 : decode cL_writes 181 = .ok (.aload 4, 2) := by decide +kernel
theorem dL_writes_183 : decode cL_writes 183 = .ok (.aload 5, 2) := by decide +kernel
theorem dL_writes_185 : decode cL_writes 185 = .ok (.iconst 0, 1) := by decide +kernel
theorem dL_writes_186 : decode cL_writes 186 = .ok (.iaload, 1) := by decide +kernel
theorem dL_writes_187 : decode cL_writes 187 = .ok (.iload 6, 2) := by decide +kernel
theorem dL_writes_189 : decode cL_writes 189 = .ok (.sipush 128, 3) := by decide +kernel
theorem dL_writes_192 : decode cL_writes 192 = .ok (.iload 7, 2) := by decide +kernel
theorem dL_writes_194 : decode cL_writes 194 = .ok (.imul, 1) := by decide +kernel
theorem dL_writes_195 : decode cL_writes 195 = .ok (.iadd, 1) := by decide +kernel
theorem dL_writes_196 : decode cL_writes 196 = .ok (.sipush 8192, 3) := by decide +kernel
theorem dL_writes_199 : decode cL_writes 199 = .ok (.iadd, 1) := by decide +kernel
theorem dL_writes_200 : decode cL_writes 200 = .ok (.iastore, 1) := by decide +kernel
theorem dL_writes_201 : decode cL_writes 201 = .ok (.aload 5, 2) := by decide +kernel
theorem dL_writes_203 : decode cL_writes 203 = .ok (.iconst 0, 1) := by decide +kernel
theorem dL_writes_204 : decode cL_writes 204 = .ok (.dup2, 1) := by decide +kernel
theorem dL_writes_205 : decode cL_writes 205 = .ok (.iaload, 1) := by decide +kernel
theorem dL_writes_206 : decode cL_writes 206 = .ok (.iconst 1, 1) := by decide +kernel
theorem dL_writes_207 : decode cL_writes 207 = .ok (.iadd, 1) := by decide +kernel
theorem dL_writes_208 : decode cL_writes 208 = .ok (.iastore, 1) := by decide +kernel
theorem dL_writes_209 : decode cL_writes 209 = .ok (.aload_n 0, 1) := by decide +kernel
theorem dL_writes_210 : decode cL_writes 210 = .ok (.iload 6, 2) := by decide +kernel
theorem dL_writes_212 : decode cL_writes 212 = .ok (.iload 7, 2) := by decide +kernel
theorem dL_writes_214 : decode cL_writes 214 = .ok (.invokestatic 95, 3) := by decide +kernel
theorem dL_writes_217 : decode cL_writes 217 = .ok (.aload 5, 2) := by decide +kernel
theorem dL_writes_219 : decode cL_writes 219 = .ok (.iconst 0, 1) := by decide +kernel
theorem dL_writes_220 : decode cL_writes 220 = .ok (.iaload, 1) := by decide +kernel
theorem dL_writes_221 : decode cL_writes 221 = .ok (.if_icmp .ne 7, 3) := by decide +kernel
theorem dL_writes_224 : decode cL_writes 224 = .ok (.iconst 1, 1) := by decide +kernel
theorem dL_writes_225 : decode cL_writes 225 = .ok (.goto 4, 3) := by decide +kernel
theorem dL_writes_228 : decode cL_writes 228 = .ok (.iconst 0, 1) := by decide +kernel
theorem dL_writes_229 : decode cL_writes 229 = .ok (.ireturn, 1) := by decide +kernel
theorem dL_writes_230 : decode cL_writes 230 = .ok (.iload_n 1, 1) := by decide +kernel
theorem dL_writes_231 : decode cL_writes 231 = .ok (.bipush 6, 2) := by decide +kernel
theorem dL_writes_233 : decode cL_writes 233 = .ok (.if_icmp .ge 121, 3) := by decide +kernel
theorem dL_writes_236 : decode cL_writes 236 = .ok (.aload_n 0, 1) := by decide +kernel
theorem dL_writes_237 : decode cL_writes 237 = .ok (.bipush 100, 2) := by decide +kernel
theorem dL_writes_239 : decode cL_writes 239 = .ok (.bipush 40, 2) := by decide +kernel
theorem dL_writes_241 : decode cL_writes 241 = .ok (.invokestatic 98, 3) := by decide +kernel
theorem dL_writes_244 : decode cL_writes 244 = .ok (.sipush (-7100), 3) := by decide +kernel
theorem dL_writes_247 : decode cL_writes 247 = .ok (.if_icmp .ne 30, 3) := by decide +kernel
theorem dL_writes_250 : decode cL_writes 250 = .ok (.aload_n 0, 1) := by decide +kernel
theorem dL_writes_251 : decode cL_writes 251 = .ok (.iload 6, 2) := by decide +kernel
theorem dL_writes_253 : decode cL_writes 253 = .ok (.bipush 40, 2) := by decide +kernel
theorem dL_writes_255 : decode cL_writes 255 = .ok (.invokestatic 98, 3) := by decide +kernel
theorem dL_writes_258 : decode cL_writes 258 = .ok (.sipush (-7200), 3) := by decide +kernel
theorem dL_writes_261 : decode cL_writes 261 = .ok (.if_icmp .ne 16, 3) := by decide +kernel
theorem dL_writes_264 : decode cL_writes 264 = .ok (.aload_n 0, 1) := by decide +kernel
theorem dL_writes_265 : decode cL_writes 265 = .ok (.iload 6, 2) := by decide +kernel
theorem dL_writes_267 : decode cL_writes 267 = .ok (.iconst (-1), 1) := by decide +kernel
theorem dL_writes_268 : decode cL_writes 268 = .ok (.invokestatic 98, 3) := by decide +kernel
theorem dL_writes_271 : decode cL_writes 271 = .ok (.sipush (-7200), 3) := by decide +kernel
theorem dL_writes_274 : decode cL_writes 274 = .ok (.if_icmp .eq 5, 3) := by decide +kernel
theorem dL_writes_277 : decode cL_writes 277 = .ok (.iconst 0, 1) := by decide +kernel
theorem dL_writes_278 : decode cL_writes 278 = .ok (.ireturn, 1) := by decide +kernel
theorem dL_writes_279 : decode cL_writes 279 = .ok (.iload 8, 2) := by decide +kernel
theorem dL_writes_281 : decode cL_writes 281 = .ok (.ifCond .ge 23, 3) := by decide +kernel
theorem dL_writes_284 : decode cL_writes 284 = .ok (.aload_n 0, 1) := by decide +kernel
theorem dL_writes_285 : decode cL_writes 285 = .ok (.iload 6, 2) := by decide +kernel
theorem dL_writes_287 : decode cL_writes 287 = .ok (.iload 7, 2) := by decide +kernel
theorem dL_writes_289 : decode cL_writes 289 = .ok (.invokestatic 98, 3) := by decide +kernel
theorem dL_writes_292 : decode cL_writes 292 = .ok (.sipush (-7300), 3) := by decide +kernel
theorem dL_writes_295 : decode cL_writes 295 = .ok (.if_icmp .ne 7, 3) := by decide +kernel
theorem dL_writes_298 : decode cL_writes 298 = .ok (.iconst 1, 1) := by decide +kernel
theorem dL_writes_299 : decode cL_writes 299 = .ok (.goto 4, 3) := by decide +kernel
theorem dL_writes_302 : decode cL_writes 302 = .ok (.iconst 0, 1) := by decide +kernel
theorem dL_writes_303 : decode cL_writes 303 = .ok (.ireturn, 1) := by decide +kernel
theorem dL_writes_304 : decode cL_writes 304 = .ok (.aload 4, 2) := by decide +kernel
theorem dL_writes_306 : decode cL_writes 306 = .ok (.iload 8, 2) := by decide +kernel
theorem dL_writes_308 : decode cL_writes 308 = .ok (.iaload, 1) := by decide +kernel
theorem dL_writes_309 : decode cL_writes 309 = .ok (.bipush 7, 2) := by decide +kernel
theorem dL_writes_311 : decode cL_writes 311 = .ok (.ishr, 1) := by decide +kernel
theorem dL_writes_312 : decode cL_writes 312 = .ok (.bipush 63, 2) := by decide +kernel
theorem dL_writes_314 : decode cL_writes 314 = .ok (.iand, 1) := by decide +kernel
theorem dL_writes_315 : decode cL_writes 315 = .ok (.istore 9, 2) := by decide +kernel
theorem dL_writes_317 : decode cL_writes 317 = .ok (.aload 4, 2) := by decide +kernel
theorem dL_writes_319 : decode cL_writes 319 = .ok (.iload 8, 2) := by decide +kernel
theorem dL_writes_321 : decode cL_writes 321 = .ok (.iload 6, 2) := by decide +kernel
theorem dL_writes_323 : decode cL_writes 323 = .ok (.sipush 128, 3) := by decide +kernel
theorem dL_writes_326 : decode cL_writes 326 = .ok (.iload 7, 2) := by decide +kernel
theorem dL_writes_328 : decode cL_writes 328 = .ok (.imul, 1) := by decide +kernel
theorem dL_writes_329 : decode cL_writes 329 = .ok (.iadd, 1) := by decide +kernel
theorem dL_writes_330 : decode cL_writes 330 = .ok (.sipush 8192, 3) := by decide +kernel
theorem dL_writes_333 : decode cL_writes 333 = .ok (.iadd, 1) := by decide +kernel
theorem dL_writes_334 : decode cL_writes 334 = .ok (.iastore, 1) := by decide +kernel
theorem dL_writes_335 : decode cL_writes 335 = .ok (.aload_n 0, 1) := by decide +kernel
theorem dL_writes_336 : decode cL_writes 336 = .ok (.iload 6, 2) := by decide +kernel
theorem dL_writes_338 : decode cL_writes 338 = .ok (.iload 7, 2) := by decide +kernel
theorem dL_writes_340 : decode cL_writes 340 = .ok (.invokestatic 98, 3) := by decide +kernel
theorem dL_writes_343 : decode cL_writes 343 = .ok (.iload 9, 2) := by decide +kernel
theorem dL_writes_345 : decode cL_writes 345 = .ok (.if_icmp .ne 7, 3) := by decide +kernel
theorem dL_writes_348 : decode cL_writes 348 = .ok (.iconst 1, 1) := by decide +kernel
theorem dL_writes_349 : decode cL_writes 349 = .ok (.goto 4, 3) := by decide +kernel
theorem dL_writes_352 : decode cL_writes 352 = .ok (.iconst 0, 1) := by decide +kernel
theorem dL_writes_353 : decode cL_writes 353 = .ok (.ireturn, 1) := by decide +kernel
theorem dL_writes_354 : decode cL_writes 354 = .ok (.aload_n 0, 1) := by decide +kernel
theorem dL_writes_355 : decode cL_writes 355 = .ok (.bipush 100, 2) := by decide +kernel
theorem dL_writes_357 : decode cL_writes 357 = .ok (.invokestatic 100, 3) := by decide +kernel
theorem dL_writes_360 : decode cL_writes 360 = .ok (.sipush (-7100), 3) := by decide +kernel
theorem dL_writes_363 : decode cL_writes 363 = .ok (.if_icmp .ne 15, 3) := by decide +kernel
theorem dL_writes_366 : decode cL_writes 366 = .ok (.aload_n 0, 1) := by decide +kernel
theorem dL_writes_367 : decode cL_writes 367 = .ok (.ldc 103, 2) := by decide +kernel
theorem dL_writes_369 : decode cL_writes 369 = .ok (.invokestatic 100, 3) := by decide +kernel
theorem dL_writes_372 : decode cL_writes 372 = .ok (.sipush (-7100), 3) := by decide +kernel
theorem dL_writes_375 : decode cL_writes 375 = .ok (.if_icmp .eq 5, 3) := by decide +kernel
theorem dL_writes_378 : decode cL_writes 378 = .ok (.iconst 0, 1) := by decide +kernel
theorem dL_writes_379 : decode cL_writes 379 = .ok (.ireturn, 1) := by decide +kernel
theorem dL_writes_380 : decode cL_writes 380 = .ok (.iload 8, 2) := by decide +kernel
theorem dL_writes_382 : decode cL_writes 382 = .ok (.ifCond .ge 21, 3) := by decide +kernel
theorem dL_writes_385 : decode cL_writes 385 = .ok (.aload_n 0, 1) := by decide +kernel
theorem dL_writes_386 : decode cL_writes 386 = .ok (.iload 6, 2) := by decide +kernel
theorem dL_writes_388 : decode cL_writes 388 = .ok (.invokestatic 100, 3) := by decide +kernel
theorem dL_writes_391 : decode cL_writes 391 = .ok (.sipush (-7300), 3) := by decide +kernel
theorem dL_writes_394 : decode cL_writes 394 = .ok (.if_icmp .ne 7, 3) := by decide +kernel
theorem dL_writes_397 : decode cL_writes 397 = .ok (.iconst 1, 1) := by decide +kernel
theorem dL_writes_398 : decode cL_writes 398 = .ok (.goto 4, 3) := by decide +kernel
theorem dL_writes_401 : decode cL_writes 401 = .ok (.iconst 0, 1) := by decide +kernel
theorem dL_writes_402 : decode cL_writes 402 = .ok (.ireturn, 1) := by decide +kernel
theorem dL_writes_403 : decode cL_writes 403 = .ok (.aload 4, 2) := by decide +kernel
theorem dL_writes_405 : decode cL_writes 405 = .ok (.iload 8, 2) := by decide +kernel
theorem dL_writes_407 : decode cL_writes 407 = .ok (.iaload, 1) := by decide +kernel
theorem dL_writes_408 : decode cL_writes 408 = .ok (.bipush 7, 2) := by decide +kernel
theorem dL_writes_410 : decode cL_writes 410 = .ok (.ishr, 1) := by decide +kernel
theorem dL_writes_411 : decode cL_writes 411 = .ok (.bipush 63, 2) := by decide +kernel
theorem dL_writes_413 : decode cL_writes 413 = .ok (.iand, 1) := by decide +kernel
theorem dL_writes_414 : decode cL_writes 414 = .ok (.istore 9, 2) := by decide +kernel
theorem dL_writes_416 : decode cL_writes 416 = .ok (.aload 5, 2) := by decide +kernel
theorem dL_writes_418 : decode cL_writes 418 = .ok (.iconst 0, 1) := by decide +kernel
theorem dL_writes_419 : decode cL_writes 419 = .ok (.dup2, 1) := by decide +kernel
theorem dL_writes_420 : decode cL_writes 420 = .ok (.iaload, 1) := by decide +kernel
theorem dL_writes_421 : decode cL_writes 421 = .ok (.iconst 1, 1) := by decide +kernel
theorem dL_writes_422 : decode cL_writes 422 = .ok (.isub, 1) := by decide +kernel
theorem dL_writes_423 : decode cL_writes 423 = .ok (.iastore, 1) := by decide +kernel
theorem dL_writes_424 : decode cL_writes 424 = .ok (.iload 8, 2) := by decide +kernel
theorem dL_writes_426 : decode cL_writes 426 = .ok (.istore 10, 2) := by decide +kernel
theorem dL_writes_428 : decode cL_writes 428 = .ok (.iload 10, 2) := by decide +kernel
theorem dL_writes_430 : decode cL_writes 430 = .ok (.aload 5, 2) := by decide +kernel
theorem dL_writes_432 : decode cL_writes 432 = .ok (.iconst 0, 1) := by decide +kernel
theorem dL_writes_433 : decode cL_writes 433 = .ok (.iaload, 1) := by decide +kernel
theorem dL_writes_434 : decode cL_writes 434 = .ok (.if_icmp .ge 21, 3) := by decide +kernel
theorem dL_writes_437 : decode cL_writes 437 = .ok (.aload 4, 2) := by decide +kernel
theorem dL_writes_439 : decode cL_writes 439 = .ok (.iload 10, 2) := by decide +kernel
theorem dL_writes_441 : decode cL_writes 441 = .ok (.aload 4, 2) := by decide +kernel
theorem dL_writes_443 : decode cL_writes 443 = .ok (.iload 10, 2) := by decide +kernel
theorem dL_writes_445 : decode cL_writes 445 = .ok (.iconst 1, 1) := by decide +kernel
theorem dL_writes_446 : decode cL_writes 446 = .ok (.iadd, 1) := by decide +kernel
theorem dL_writes_447 : decode cL_writes 447 = .ok (.iaload, 1) := by decide +kernel
theorem dL_writes_448 : decode cL_writes 448 = .ok (.iastore, 1) := by decide +kernel
theorem dL_writes_449 : decode cL_writes 449 = .ok (.iinc 10 1, 3) := by decide +kernel
theorem dL_writes_452 : decode cL_writes 452 = .ok (.goto (-24), 3) := by decide +kernel
theorem dL_writes_455 : decode cL_writes 455 = .ok (.aload_n 0, 1) := by decide +kernel
theorem dL_writes_456 : decode cL_writes 456 = .ok (.iload 6, 2) := by decide +kernel
theorem dL_writes_458 : decode cL_writes 458 = .ok (.invokestatic 100, 3) := by decide +kernel
theorem dL_writes_461 : decode cL_writes 461 = .ok (.iload 9, 2) := by decide +kernel
theorem dL_writes_463 : decode cL_writes 463 = .ok (.if_icmp .ne 7, 3) := by decide +kernel
theorem dL_writes_466 : decode cL_writes 466 = .ok (.iconst 1, 1) := by decide +kernel
theorem dL_writes_467 : decode cL_writes 467 = .ok (.goto 4, 3) := by decide +kernel
theorem dL_writes_470 : decode cL_writes 470 = .ok (.iconst 0, 1) := by decide +kernel
theorem dL_writes_471 : decode cL_writes 471 = .ok (.ireturn, 1) := by decide +kernel
theorem dL_rolled_0 : decode cL_rolled 0 = .ok (.iconst 0, 1) := by decide +kernel
theorem dL_rolled_1 : decode cL_rolled 1 = .ok (.istore_n 3, 1) := by decide +kernel
theorem dL_rolled_2 : decode cL_rolled 2 = .ok (.iload_n 3, 1) := by decide +kernel
theorem dL_rolled_3 : decode cL_rolled 3 = .ok (.aload_n 1, 1) := by decide +kernel
theorem dL_rolled_4 : decode cL_rolled 4 = .ok (.iconst 4, 1) := by decide +kernel
theorem dL_rolled_5 : decode cL_rolled 5 = .ok (.iaload, 1) := by decide +kernel
theorem dL_rolled_6 : decode cL_rolled 6 = .ok (.if_icmp .ge 33, 3) := by decide +kernel
theorem dL_rolled_9 : decode cL_rolled 9 = .ok (.aload_n 1, 1) := by decide +kernel
theorem dL_rolled_10 : decode cL_rolled 10 = .ok (.iconst 3, 1) := by decide +kernel
theorem dL_rolled_11 : decode cL_rolled 11 = .ok (.iaload, 1) := by decide +kernel
theorem dL_rolled_12 : decode cL_rolled 12 = .ok (.iconst 1, 1) := by decide +kernel
theorem dL_rolled_13 : decode cL_rolled 13 = .ok (.if_icmp .ne 26, 3) := by decide +kernel
theorem dL_rolled_16 : decode cL_rolled 16 = .ok (.aload_n 0, 1) := by decide +kernel
theorem dL_rolled_17 : decode cL_rolled 17 = .ok (.iload_n 3, 1) := by decide +kernel
theorem dL_rolled_18 : decode cL_rolled 18 = .ok (.iaload, 1) := by decide +kernel
theorem dL_rolled_19 : decode cL_rolled 19 = .ok (.bipush 127, 2) := by decide +kernel
theorem dL_rolled_21 : decode cL_rolled 21 = .ok (.iand, 1) := by decide +kernel
theorem dL_rolled_22 : decode cL_rolled 22 = .ok (.iload_n 2, 1) := by decide +kernel
theorem dL_rolled_23 : decode cL_rolled 23 = .ok (.if_icmp .ne 10, 3) := by decide +kernel
theorem dL_rolled_26 : decode cL_rolled 26 = .ok (.aload_n 0, 1) := by decide +kernel
theorem dL_rolled_27 : decode cL_rolled 27 = .ok (.iload_n 3, 1) := by decide +kernel
theorem dL_rolled_28 : decode cL_rolled 28 = .ok (.iaload, 1) := by decide +kernel
theorem dL_rolled_29 : decode cL_rolled 29 = .ok (.bipush 7, 2) := by decide +kernel
theorem dL_rolled_31 : decode cL_rolled 31 = .ok (.ishr, 1) := by decide +kernel
theorem dL_rolled_32 : decode cL_rolled 32 = .ok (.ireturn, 1) := by decide +kernel
theorem dL_rolled_33 : decode cL_rolled 33 = .ok (.iinc 3 1, 3) := by decide +kernel
theorem dL_rolled_36 : decode cL_rolled 36 = .ok (.goto (-34), 3) := by decide +kernel
theorem dL_rolled_39 : decode cL_rolled 39 = .ok (.iconst (-1), 1) := by decide +kernel
theorem dL_rolled_40 : decode cL_rolled 40 = .ok (.ireturn, 1) := by decide +kernel
set_option maxRecDepth 20000 in
theorem ggL_isTold_L_ofRange : GoodIn wsL_isTold wsL_ofRange := goodIn_r _ [6, 7, 8, 5, 9] (by decide +kernel) (by decide +kernel)
set_option maxRecDepth 20000 in
theorem gL_isTold_L_ofRange : GoodIn wsL_isTold (va_wsS RL 119 yL_ofRange wsL_ofRange) := goodIn_app (goodIn_of _ (by decide +kernel)) ggL_isTold_L_ofRange
set_option maxRecDepth 20000 in
theorem ggL_isTold_L_rows : GoodIn wsL_isTold wsL_rows := goodIn_ca (goodIn_r _ [12, 13, 14, 15, 16, 17, 18, 19, 20, 21, 22, 23, 24, 25, 26, 27, 28, 29, 30, 31, 32, 33, 34, 35, 36, 37, 38, 168, 169, 170, 171, 172, 173, 174, 175, 176, 177, 178, 179, 180, 181, 182, 183] (by decide +kernel) (by decide +kernel)) (goodIn_sub (fun _ h => List.mem_cons_of_mem _ (List.mem_append_left _ (List.mem_append_right _ h))) (by decide +kernel))
set_option maxRecDepth 20000 in
theorem gL_isTold_L_rows : GoodIn wsL_isTold (va_wsS RL 141 yL_rows wsL_rows) := goodIn_app (goodIn_of _ (by decide +kernel)) ggL_isTold_L_rows
set_option maxRecDepth 20000 in
theorem ggL_isTold_L_inDistrict : GoodIn wsL_isTold wsL_inDistrict := goodIn_ca (goodIn_r _ [41, 13, 42, 43, 44, 17, 45, 46, 47, 48, 22, 23, 49, 50, 51, 52, 53, 54, 55, 56, 57, 58, 59, 60, 61, 62, 63, 64, 65, 66, 67, 68, 69, 70, 71, 31, 32, 33, 34, 35, 24, 25, 26, 36, 37, 38, 72, 73, 74, 168, 169, 170, 171, 172, 173, 174, 175, 176, 177, 178, 179, 180, 181, 182, 183] (by decide +kernel) (by decide +kernel)) (goodIn_sub (fun _ h => List.mem_cons_of_mem _ (List.mem_append_left _ (List.mem_append_right _ h))) (by decide +kernel))
set_option maxRecDepth 20000 in
theorem gL_isTold_L_inDistrict : GoodIn wsL_isTold (va_wsS RL 143 yL_inDistrict wsL_inDistrict) := goodIn_app (goodIn_of _ (by decide +kernel)) ggL_isTold_L_inDistrict
set_option maxRecDepth 20000 in
theorem ggL_isTold_L_counted : GoodIn wsL_isTold wsL_counted := goodIn_ca (goodIn_ca (goodIn_r _ [77, 13, 78, 79, 80, 81, 17, 82, 83, 84, 85, 86, 46, 47, 48, 22, 23, 87, 88, 89, 90, 91, 168, 169, 170, 171, 172, 173, 174, 175, 176, 177, 178, 179, 180, 181, 182, 183] (by decide +kernel) (by decide +kernel)) (goodIn_sub (fun _ h => List.mem_cons_of_mem _ (List.mem_append_left _ (List.mem_append_right _ h))) (by decide +kernel))) (goodIn_sub (fun _ h => List.mem_cons_of_mem _ (List.mem_append_right _ h)) (by decide +kernel))
set_option maxRecDepth 20000 in
theorem gL_isTold_L_counted : GoodIn wsL_isTold (va_wsS RL 145 yL_counted wsL_counted) := goodIn_app (goodIn_of _ (by decide +kernel)) ggL_isTold_L_counted
set_option maxRecDepth 20000 in
theorem ggL_isTold_L_shardOf : GoodIn wsL_isTold wsL_shardOf := goodIn_ca (goodIn_r _ [94, 13, 95, 96, 97, 17, 98, 71, 99, 100, 101, 102, 22, 23, 63, 64, 65, 66, 57, 168, 169, 170, 171, 172, 173, 174, 175, 176, 177, 178, 179, 180, 181, 182, 183] (by decide +kernel) (by decide +kernel)) (goodIn_sub (fun _ h => List.mem_cons_of_mem _ (List.mem_append_left _ (List.mem_append_right _ h))) (by decide +kernel))
set_option maxRecDepth 20000 in
theorem gL_isTold_L_shardOf : GoodIn wsL_isTold (va_wsS RL 117 yL_shardOf wsL_shardOf) := goodIn_app (goodIn_of _ (by decide +kernel)) ggL_isTold_L_shardOf
set_option maxRecDepth 20000 in
theorem ggL_isTold_L_low : GoodIn wsL_isTold wsL_low := goodIn_r _ [105] (by decide +kernel) (by decide +kernel)
set_option maxRecDepth 20000 in
theorem gL_isTold_L_low : GoodIn wsL_isTold (va_wsS RL 88 yL_low wsL_low) := goodIn_app (goodIn_of _ (by decide +kernel)) ggL_isTold_L_low
set_option maxRecDepth 20000 in
theorem ggL_isTold_L_member : GoodIn wsL_isTold wsL_member := goodIn_r _ [108] (by decide +kernel) (by decide +kernel)
set_option maxRecDepth 20000 in
theorem gL_isTold_L_member : GoodIn wsL_isTold (va_wsS RL 91 yL_member wsL_member) := goodIn_app (goodIn_of _ (by decide +kernel)) ggL_isTold_L_member
set_option maxRecDepth 20000 in
theorem ggL_isTold_L_address : GoodIn wsL_isTold wsL_address := goodIn_ca (goodIn_r _ [111, 13, 112, 113, 114, 17, 115, 116, 117, 118, 22, 23, 36, 37, 38, 49, 50, 51, 52, 53, 54, 55, 56, 57, 58, 59, 60, 61, 62, 63, 64, 65, 66, 67, 68, 69, 70, 71, 31, 32, 33, 34, 35, 24, 25, 26, 168, 169, 170, 171, 172, 173, 174, 175, 176, 177, 178, 179, 180, 181, 182, 183] (by decide +kernel) (by decide +kernel)) (goodIn_sub (fun _ h => List.mem_cons_of_mem _ (List.mem_append_left _ (List.mem_append_right _ h))) (by decide +kernel))
set_option maxRecDepth 20000 in
theorem gL_isTold_L_address : GoodIn wsL_isTold (va_wsS RL 147 yL_address wsL_address) := goodIn_app (goodIn_of _ (by decide +kernel)) ggL_isTold_L_address
set_option maxRecDepth 20000 in
theorem ggL_isTold_L_onRoll : GoodIn wsL_isTold wsL_onRoll := goodIn_ca (goodIn_r _ [121, 13, 122, 123, 124, 17, 125, 126, 127, 116, 117, 118, 22, 23, 36, 37, 38, 168, 169, 170, 171, 172, 173, 174, 175, 176, 177, 178, 179, 180, 181, 182, 183] (by decide +kernel) (by decide +kernel)) (goodIn_sub (fun _ h => List.mem_cons_of_mem _ (List.mem_append_left _ (List.mem_append_right _ h))) (by decide +kernel))
set_option maxRecDepth 20000 in
theorem gL_isTold_L_onRoll : GoodIn wsL_isTold (va_wsS RL 149 yL_onRoll wsL_onRoll) := goodIn_app (goodIn_of _ (by decide +kernel)) ggL_isTold_L_onRoll
set_option maxRecDepth 20000 in
theorem ggL_isTold_L_rolled : GoodIn wsL_isTold wsL_rolled := goodIn_r _ [130] (by decide +kernel) (by decide +kernel)
set_option maxRecDepth 20000 in
theorem gL_isTold_L_rolled : GoodIn wsL_isTold (va_wsS RL 128 yL_rolled wsL_rolled) := goodIn_app (goodIn_of _ (by decide +kernel)) ggL_isTold_L_rolled
set_option maxRecDepth 20000 in
theorem ggL_isTold_L_rangeOf : GoodIn wsL_isTold wsL_rangeOf := goodIn_ca (goodIn_r _ [133, 13, 134, 135, 136, 17, 137, 116, 117, 118, 22, 23, 36, 37, 38, 53, 54, 55, 56, 57, 58, 59, 60, 61, 62, 63, 64, 65, 66, 168, 169, 170, 171, 172, 173, 174, 175, 176, 177, 178, 179, 180, 181, 182, 183] (by decide +kernel) (by decide +kernel)) (goodIn_sub (fun _ h => List.mem_cons_of_mem _ (List.mem_append_left _ (List.mem_append_right _ h))) (by decide +kernel))
set_option maxRecDepth 20000 in
theorem gL_isTold_L_rangeOf : GoodIn wsL_isTold (va_wsS RL 151 yL_rangeOf wsL_rangeOf) := goodIn_app (goodIn_of _ (by decide +kernel)) ggL_isTold_L_rangeOf
set_option maxRecDepth 20000 in
theorem ggL_isTold_L_range : GoodIn wsL_isTold wsL_range := goodIn_r _ [140] (by decide +kernel) (by decide +kernel)
set_option maxRecDepth 20000 in
theorem gL_isTold_L_range : GoodIn wsL_isTold (va_wsS RL 104 yL_range wsL_range) := goodIn_app (goodIn_of _ (by decide +kernel)) ggL_isTold_L_range
set_option maxRecDepth 20000 in
theorem ggL_isTold_L_stateOf : GoodIn wsL_isTold wsL_stateOf := goodIn_ca (goodIn_r _ [143, 13, 144, 145, 146, 17, 147, 84, 148, 149, 150, 151, 22, 23, 152, 153, 154, 155, 83, 168, 169, 170, 171, 172, 173, 174, 175, 176, 177, 178, 179, 180, 181, 182, 183] (by decide +kernel) (by decide +kernel)) (goodIn_sub (fun _ h => List.mem_cons_of_mem _ (List.mem_append_left _ (List.mem_append_right _ h))) (by decide +kernel))
set_option maxRecDepth 20000 in
theorem gL_isTold_L_stateOf : GoodIn wsL_isTold (va_wsS RL 137 yL_stateOf wsL_stateOf) := goodIn_app (goodIn_of _ (by decide +kernel)) ggL_isTold_L_stateOf
set_option maxRecDepth 20000 in
theorem ggL_isTold_L_sentTo : GoodIn wsL_isTold wsL_sentTo := goodIn_ca (goodIn_r _ [158, 13, 159, 160, 161, 17, 162, 163, 148, 149, 150, 151, 22, 23, 152, 153, 154, 155, 83, 168, 169, 170, 171, 172, 173, 174, 175, 176, 177, 178, 179, 180, 181, 182, 183] (by decide +kernel) (by decide +kernel)) (goodIn_sub (fun _ h => List.mem_cons_of_mem _ (List.mem_append_left _ (List.mem_append_right _ h))) (by decide +kernel))
set_option maxRecDepth 20000 in
theorem gL_isTold_L_sentTo : GoodIn wsL_isTold (va_wsS RL 139 yL_sentTo wsL_sentTo) := goodIn_app (goodIn_of _ (by decide +kernel)) ggL_isTold_L_sentTo
set_option maxRecDepth 20000 in
theorem ggL_isTold_X0_ranges : GoodIn wsL_isTold wsX0_ranges := goodIn_r _ [167, 57, 168, 169, 170, 171, 172, 173, 174, 175, 176, 177, 178, 179, 180, 181, 182, 183] (by decide +kernel) (by decide +kernel)
set_option maxRecDepth 20000 in
theorem gL_isTold_X0_ranges : GoodIn wsL_isTold (wsV RL 153 RX0 yX0_ranges wsX0_ranges) := goodIn_app (goodIn_of _ (by decide +kernel)) ggL_isTold_X0_ranges
theorem dL_isTold_0 : decode cL_isTold 0 = .ok (.iconst 0, 1) := by decide +kernel
theorem dL_isTold_1 : decode cL_isTold 1 = .ok (.istore 8, 2) := by decide +kernel
theorem dL_isTold_3 : decode cL_isTold 3 = .ok (.iload 8, 2) := by decide +kernel
theorem dL_isTold_5 : decode cL_isTold 5 = .ok (.iconst 4, 1) := by decide +kernel
theorem dL_isTold_6 : decode cL_isTold 6 = .ok (.if_icmp .ge 212, 3) := by decide +kernel
theorem dL_isTold_9 : decode cL_isTold 9 = .ok (.iconst 0, 1) := by decide +kernel
theorem dL_isTold_10 : decode cL_isTold 10 = .ok (.istore 9, 2) := by decide +kernel
theorem dL_isTold_12 : decode cL_isTold 12 = .ok (.iconst 0, 1) := by decide +kernel
theorem dL_isTold_13 : decode cL_isTold 13 = .ok (.istore 10, 2) := by decide +kernel
theorem dL_isTold_15 : decode cL_isTold 15 = .ok (.iconst 0, 1) := by decide +kernel
theorem dL_isTold_16 : decode cL_isTold 16 = .ok (.istore 11, 2) := by decide +kernel
theorem dL_isTold_18 : decode cL_isTold 18 = .ok (.iload 11, 2) := by decide +kernel
theorem dL_isTold_20 : decode cL_isTold 20 = .ok (.aload 7, 2) := by decide +kernel
theorem dL_isTold_22 : decode cL_isTold 22 = .ok (.iconst 1, 1) := by decide +kernel
theorem dL_isTold_23 : decode cL_isTold 23 = .ok (.iaload, 1) := by decide +kernel
theorem dL_isTold_24 : decode cL_isTold 24 = .ok (.if_icmp .ge 80, 3) := by decide +kernel
theorem dL_isTold_27 : decode cL_isTold 27 = .ok (.iload 9, 2) := by decide +kernel
theorem dL_isTold_29 : decode cL_isTold 29 = .ok (.aload 4, 2) := by decide +kernel
theorem dL_isTold_31 : decode cL_isTold 31 = .ok (.iload 11, 2) := by decide +kernel
theorem dL_isTold_33 : decode cL_isTold 33 = .ok (.iaload, 1) := by decide +kernel
theorem dL_isTold_34 : decode cL_isTold 34 = .ok (.bipush 7, 2) := by decide +kernel
theorem dL_isTold_36 : decode cL_isTold 36 = .ok (.ishr, 1) := by decide +kernel
theorem dL_isTold_37 : decode cL_isTold 37 = .ok (.bipush 7, 2) := by decide +kernel
theorem dL_isTold_39 : decode cL_isTold 39 = .ok (.iand, 1) := by decide +kernel
theorem dL_isTold_40 : decode cL_isTold 40 = .ok (.iload 8, 2) := by decide +kernel
theorem dL_isTold_42 : decode cL_isTold 42 = .ok (.if_icmp .ne 17, 3) := by decide +kernel
theorem dL_isTold_45 : decode cL_isTold 45 = .ok (.aload_n 2, 1) := by decide +kernel
theorem dL_isTold_46 : decode cL_isTold 46 = .ok (.aload 4, 2) := by decide +kernel
theorem dL_isTold_48 : decode cL_isTold 48 = .ok (.aload 7, 2) := by decide +kernel
theorem dL_isTold_50 : decode cL_isTold 50 = .ok (.iload 11, 2) := by decide +kernel
theorem dL_isTold_52 : decode cL_isTold 52 = .ok (.iconst 0, 1) := by decide +kernel
theorem dL_isTold_53 : decode cL_isTold 53 = .ok (.invokestatic 119, 3) := by decide +kernel
theorem dL_isTold_56 : decode cL_isTold 56 = .ok (.goto 4, 3) := by decide +kernel
theorem dL_isTold_59 : decode cL_isTold 59 = .ok (.iconst 0, 1) := by decide +kernel
theorem dL_isTold_60 : decode cL_isTold 60 = .ok (.iadd, 1) := by decide +kernel
theorem dL_isTold_61 : decode cL_isTold 61 = .ok (.istore 9, 2) := by decide +kernel
theorem dL_isTold_63 : decode cL_isTold 63 = .ok (.iload 9, 2) := by decide +kernel
theorem dL_isTold_65 : decode cL_isTold 65 = .ok (.aload 4, 2) := by decide +kernel
theorem dL_isTold_67 : decode cL_isTold 67 = .ok (.iload 11, 2) := by decide +kernel
theorem dL_isTold_69 : decode cL_isTold 69 = .ok (.iaload, 1) := by decide +kernel
theorem dL_isTold_70 : decode cL_isTold 70 = .ok (.bipush 10, 2) := by decide +kernel
theorem dL_isTold_72 : decode cL_isTold 72 = .ok (.ishr, 1) := by decide +kernel
theorem dL_isTold_73 : decode cL_isTold 73 = .ok (.iload 8, 2) := by decide +kernel
theorem dL_isTold_75 : decode cL_isTold 75 = .ok (.iconst 1, 1) := by decide +kernel
theorem dL_isTold_76 : decode cL_isTold 76 = .ok (.iadd, 1) := by decide +kernel
theorem dL_isTold_77 : decode cL_isTold 77 = .ok (.if_icmp .ne 17, 3) := by decide +kernel
theorem dL_isTold_80 : decode cL_isTold 80 = .ok (.aload_n 2, 1) := by decide +kernel
theorem dL_isTold_81 : decode cL_isTold 81 = .ok (.aload 4, 2) := by decide +kernel
theorem dL_isTold_83 : decode cL_isTold 83 = .ok (.aload 7, 2) := by decide +kernel
theorem dL_isTold_85 : decode cL_isTold 85 = .ok (.iload 11, 2) := by decide +kernel
theorem dL_isTold_87 : decode cL_isTold 87 = .ok (.iconst 1, 1) := by decide +kernel
theorem dL_isTold_88 : decode cL_isTold 88 = .ok (.invokestatic 119, 3) := by decide +kernel
theorem dL_isTold_91 : decode cL_isTold 91 = .ok (.goto 4, 3) := by decide +kernel
theorem dL_isTold_94 : decode cL_isTold 94 = .ok (.iconst 0, 1) := by decide +kernel
theorem dL_isTold_95 : decode cL_isTold 95 = .ok (.iadd, 1) := by decide +kernel
theorem dL_isTold_96 : decode cL_isTold 96 = .ok (.istore 9, 2) := by decide +kernel
theorem dL_isTold_98 : decode cL_isTold 98 = .ok (.iinc 11 1, 3) := by decide +kernel
theorem dL_isTold_101 : decode cL_isTold 101 = .ok (.goto (-83), 3) := by decide +kernel
theorem dL_isTold_104 : decode cL_isTold 104 = .ok (.iconst 0, 1) := by decide +kernel
theorem dL_isTold_105 : decode cL_isTold 105 = .ok (.istore 11, 2) := by decide +kernel
theorem dL_isTold_107 : decode cL_isTold 107 = .ok (.iload 11, 2) := by decide +kernel
theorem dL_isTold_109 : decode cL_isTold 109 = .ok (.aload 7, 2) := by decide +kernel
theorem dL_isTold_111 : decode cL_isTold 111 = .ok (.iconst 0, 1) := by decide +kernel
theorem dL_isTold_112 : decode cL_isTold 112 = .ok (.iaload, 1) := by decide +kernel
theorem dL_isTold_113 : decode cL_isTold 113 = .ok (.if_icmp .ge 37, 3) := by decide +kernel
theorem dL_isTold_116 : decode cL_isTold 116 = .ok (.iload 10, 2) := by decide +kernel
theorem dL_isTold_118 : decode cL_isTold 118 = .ok (.aload_n 2, 1) := by decide +kernel
theorem dL_isTold_119 : decode cL_isTold 119 = .ok (.iload 11, 2) := by decide +kernel
theorem dL_isTold_121 : decode cL_isTold 121 = .ok (.iaload, 1) := by decide +kernel
theorem dL_isTold_122 : decode cL_isTold 122 = .ok (.bipush 7, 2) := by decide +kernel
theorem dL_isTold_124 : decode cL_isTold 124 = .ok (.ishr, 1) := by decide +kernel
theorem dL_isTold_125 : decode cL_isTold 125 = .ok (.bipush 63, 2) := by decide +kernel
theorem dL_isTold_127 : decode cL_isTold 127 = .ok (.iand, 1) := by decide +kernel
theorem dL_isTold_128 : decode cL_isTold 128 = .ok (.bipush 10, 2) := by decide +kernel
theorem dL_isTold_130 : decode cL_isTold 130 = .ok (.idiv, 1) := by decide +kernel
theorem dL_isTold_131 : decode cL_isTold 131 = .ok (.iload 8, 2) := by decide +kernel
theorem dL_isTold_133 : decode cL_isTold 133 = .ok (.if_icmp .ne 7, 3) := by decide +kernel
theorem dL_isTold_136 : decode cL_isTold 136 = .ok (.iconst 1, 1) := by decide +kernel
theorem dL_isTold_137 : decode cL_isTold 137 = .ok (.goto 4, 3) := by decide +kernel
theorem dL_isTold_140 : decode cL_isTold 140 = .ok (.iconst 0, 1) := by decide +kernel
theorem dL_isTold_141 : decode cL_isTold 141 = .ok (.iadd, 1) := by decide +kernel
theorem dL_isTold_142 : decode cL_isTold 142 = .ok (.istore 10, 2) := by decide +kernel
theorem dL_isTold_144 : decode cL_isTold 144 = .ok (.iinc 11 1, 3) := by decide +kernel
theorem dL_isTold_147 : decode cL_isTold 147 = .ok (.goto (-40), 3) := by decide +kernel
theorem dL_isTold_150 : decode cL_isTold 150 = .ok (.aload_n 0, 1) := by decide +kernel
theorem dL_isTold_151 : decode cL_isTold 151 = .ok (.iload 8, 2) := by decide +kernel
theorem dL_isTold_153 : decode cL_isTold 153 = .ok (.invokestatic 141, 3) := by decide +kernel
theorem dL_isTold_156 : decode cL_isTold 156 = .ok (.iload 9, 2) := by decide +kernel
theorem dL_isTold_158 : decode cL_isTold 158 = .ok (.if_icmp .ne 14, 3) := by decide +kernel
theorem dL_isTold_161 : decode cL_isTold 161 = .ok (.aload_n 0, 1) := by decide +kernel
theorem dL_isTold_162 : decode cL_isTold 162 = .ok (.iload 8, 2) := by decide +kernel
theorem dL_isTold_164 : decode cL_isTold 164 = .ok (.invokestatic 143, 3) := by decide +kernel
theorem dL_isTold_167 : decode cL_isTold 167 = .ok (.iload 10, 2) := by decide +kernel
theorem dL_isTold_169 : decode cL_isTold 169 = .ok (.if_icmp .eq 5, 3) := by decide +kernel
theorem dL_isTold_172 : decode cL_isTold 172 = .ok (.iconst 0, 1) := by decide +kernel
theorem dL_isTold_173 : decode cL_isTold 173 = .ok (.ireturn, 1) := by decide +kernel
theorem dL_isTold_174 : decode cL_isTold 174 = .ok (.iconst 0, 1) := by decide +kernel
theorem dL_isTold_175 : decode cL_isTold 175 = .ok (.istore 11, 2) := by decide +kernel
theorem dL_isTold_177 : decode cL_isTold 177 = .ok (.iload 11, 2) := by decide +kernel
theorem dL_isTold_179 : decode cL_isTold 179 = .ok (.iconst 3, 1) := by decide +kernel
theorem dL_isTold_180 : decode cL_isTold 180 = .ok (.if_icmp .ge 32, 3) := by decide +kernel
theorem dL_isTold_183 : decode cL_isTold 183 = .ok (.aload_n 0, 1) := by decide +kernel
theorem dL_isTold_184 : decode cL_isTold 184 = .ok (.iload 8, 2) := by decide +kernel
theorem dL_isTold_186 : decode cL_isTold 186 = .ok (.iload 11, 2) := by decide +kernel
theorem dL_isTold_188 : decode cL_isTold 188 = .ok (.invokestatic 145, 3) := by decide +kernel
theorem dL_isTold_191 : decode cL_isTold 191 = .ok (.aload 6, 2) := by decide +kernel
theorem dL_isTold_193 : decode cL_isTold 193 = .ok (.iconst 4, 1) := by decide +kernel
theorem dL_isTold_194 : decode cL_isTold 194 = .ok (.iload 11, 2) := by decide +kernel
theorem dL_isTold_196 : decode cL_isTold 196 = .ok (.imul, 1) := by decide +kernel
theorem dL_isTold_197 : decode cL_isTold 197 = .ok (.iload 8, 2) := by decide +kernel
theorem dL_isTold_199 : decode cL_isTold 199 = .ok (.iadd, 1) := by decide +kernel
theorem dL_isTold_200 : decode cL_isTold 200 = .ok (.iaload, 1) := by decide +kernel
theorem dL_isTold_201 : decode cL_isTold 201 = .ok (.if_icmp .eq 5, 3) := by decide +kernel
theorem dL_isTold_204 : decode cL_isTold 204 = .ok (.iconst 0, 1) := by decide +kernel
theorem dL_isTold_205 : decode cL_isTold 205 = .ok (.ireturn, 1) := by decide +kernel
theorem dL_isTold_206 : decode cL_isTold 206 = .ok (.iinc 11 1, 3) := by decide +kernel
theorem dL_isTold_209 : decode cL_isTold 209 = .ok (.goto (-32), 3) := by decide +kernel
theorem dL_isTold_212 : decode cL_isTold 212 = .ok (.iinc 8 1, 3) := by decide +kernel
theorem dL_isTold_215 : decode cL_isTold 215 = .ok (.goto (-212), 3) := by decide +kernel
theorem dL_isTold_218 : decode cL_isTold 218 = .ok (.iconst 0, 1) := by decide +kernel
theorem dL_isTold_219 : decode cL_isTold 219 = .ok (.istore 8, 2) := by decide +kernel
theorem dL_isTold_221 : decode cL_isTold 221 = .ok (.iload 8, 2) := by decide +kernel
theorem dL_isTold_223 : decode cL_isTold 223 = .ok (.aload 7, 2) := by decide +kernel
theorem dL_isTold_225 : decode cL_isTold 225 = .ok (.iconst 1, 1) := by decide +kernel
theorem dL_isTold_226 : decode cL_isTold 226 = .ok (.iaload, 1) := by decide +kernel
theorem dL_isTold_227 : decode cL_isTold 227 = .ok (.if_icmp .ge 31, 3) := by decide +kernel
theorem dL_isTold_230 : decode cL_isTold 230 = .ok (.aload_n 0, 1) := by decide +kernel
theorem dL_isTold_231 : decode cL_isTold 231 = .ok (.iload 8, 2) := by decide +kernel
theorem dL_isTold_233 : decode cL_isTold 233 = .ok (.invokestatic 117, 3) := by decide +kernel
theorem dL_isTold_236 : decode cL_isTold 236 = .ok (.aload 4, 2) := by decide +kernel
theorem dL_isTold_238 : decode cL_isTold 238 = .ok (.iload 8, 2) := by decide +kernel
theorem dL_isTold_240 : decode cL_isTold 240 = .ok (.iaload, 1) := by decide +kernel
theorem dL_isTold_241 : decode cL_isTold 241 = .ok (.bipush 7, 2) := by decide +kernel
theorem dL_isTold_243 : decode cL_isTold 243 = .ok (.ishr, 1) := by decide +kernel
theorem dL_isTold_244 : decode cL_isTold 244 = .ok (.bipush 7, 2) := by decide +kernel
theorem dL_isTold_246 : decode cL_isTold 246 = .ok (.iand, 1) := by decide +kernel
theorem dL_isTold_247 : decode cL_isTold 247 = .ok (.if_icmp .eq 5, 3) := by decide +kernel
theorem dL_isTold_250 : decode cL_isTold 250 = .ok (.iconst 0, 1) := by decide +kernel
theorem dL_isTold_251 : decode cL_isTold 251 = .ok (.ireturn, 1) := by decide +kernel
theorem dL_isTold_252 : decode cL_isTold 252 = .ok (.iinc 8 1, 3) := by decide +kernel
theorem dL_isTold_255 : decode cL_isTold 255 = .ok (.goto (-34), 3) := by decide +kernel
theorem dL_isTold_258 : decode cL_isTold 258 = .ok (.iconst 0, 1) := by decide +kernel
theorem dL_isTold_259 : decode cL_isTold 259 = .ok (.istore 8, 2) := by decide +kernel
theorem dL_isTold_261 : decode cL_isTold 261 = .ok (.iload 8, 2) := by decide +kernel
theorem dL_isTold_263 : decode cL_isTold 263 = .ok (.iconst 4, 1) := by decide +kernel
theorem dL_isTold_264 : decode cL_isTold 264 = .ok (.if_icmp .ge 95, 3) := by decide +kernel
theorem dL_isTold_267 : decode cL_isTold 267 = .ok (.iload_n 1, 1) := by decide +kernel
theorem dL_isTold_268 : decode cL_isTold 268 = .ok (.iconst 3, 1) := by decide +kernel
theorem dL_isTold_269 : decode cL_isTold 269 = .ok (.iload 8, 2) := by decide +kernel
theorem dL_isTold_271 : decode cL_isTold 271 = .ok (.imul, 1) := by decide +kernel
theorem dL_isTold_272 : decode cL_isTold 272 = .ok (.ishr, 1) := by decide +kernel
theorem dL_isTold_273 : decode cL_isTold 273 = .ok (.bipush 100, 2) := by decide +kernel
theorem dL_isTold_275 : decode cL_isTold 275 = .ok (.invokestatic 88, 3) := by decide +kernel
theorem dL_isTold_278 : decode cL_isTold 278 = .ok (.istore 9, 2) := by decide +kernel
theorem dL_isTold_280 : decode cL_isTold 280 = .ok (.aload_n 2, 1) := by decide +kernel
theorem dL_isTold_281 : decode cL_isTold 281 = .ok (.aload 7, 2) := by decide +kernel
theorem dL_isTold_283 : decode cL_isTold 283 = .ok (.iload 9, 2) := by decide +kernel
theorem dL_isTold_285 : decode cL_isTold 285 = .ok (.invokestatic 91, 3) := by decide +kernel
theorem dL_isTold_288 : decode cL_isTold 288 = .ok (.istore 10, 2) := by decide +kernel
theorem dL_isTold_290 : decode cL_isTold 290 = .ok (.aload_n 0, 1) := by decide +kernel
theorem dL_isTold_291 : decode cL_isTold 291 = .ok (.iload 9, 2) := by decide +kernel
theorem dL_isTold_293 : decode cL_isTold 293 = .ok (.invokestatic 147, 3) := by decide +kernel
theorem dL_isTold_296 : decode cL_isTold 296 = .ok (.iload 10, 2) := by decide +kernel
theorem dL_isTold_298 : decode cL_isTold 298 = .ok (.ifCond .ge 7, 3) := by decide +kernel
theorem dL_isTold_301 : decode cL_isTold 301 = .ok (.iconst (-1), 1) := by decide +kernel
theorem dL_isTold_302 : decode cL_isTold 302 = .ok (.goto 13, 3) := by decide +kernel
theorem dL_isTold_305 : decode cL_isTold 305 = .ok (.aload_n 2, 1) := by decide +kernel
theorem dL_isTold_306 : decode cL_isTold 306 = .ok (.iload 10, 2) := by decide +kernel
theorem dL_isTold_308 : decode cL_isTold 308 = .ok (.iaload, 1) := by decide +kernel
theorem dL_isTold_309 : decode cL_isTold 309 = .ok (.bipush 7, 2) := by decide +kernel
theorem dL_isTold_311 : decode cL_isTold 311 = .ok (.ishr, 1) := by decide +kernel
theorem dL_isTold_312 : decode cL_isTold 312 = .ok (.bipush 63, 2) := by decide +kernel
theorem dL_isTold_314 : decode cL_isTold 314 = .ok (.iand, 1) := by decide +kernel
theorem dL_isTold_315 : decode cL_isTold 315 = .ok (.if_icmp .ne 36, 3) := by decide +kernel
theorem dL_isTold_318 : decode cL_isTold 318 = .ok (.aload_n 0, 1) := by decide +kernel
theorem dL_isTold_319 : decode cL_isTold 319 = .ok (.iload 9, 2) := by decide +kernel
theorem dL_isTold_321 : decode cL_isTold 321 = .ok (.invokestatic 149, 3) := by decide +kernel
theorem dL_isTold_324 : decode cL_isTold 324 = .ok (.aload_n 3, 1) := by decide +kernel
theorem dL_isTold_325 : decode cL_isTold 325 = .ok (.aload 7, 2) := by decide +kernel
theorem dL_isTold_327 : decode cL_isTold 327 = .ok (.iload 9, 2) := by decide +kernel
theorem dL_isTold_329 : decode cL_isTold 329 = .ok (.invokestatic 128, 3) := by decide +kernel
theorem dL_isTold_332 : decode cL_isTold 332 = .ok (.if_icmp .ne 19, 3) := by decide +kernel
theorem dL_isTold_335 : decode cL_isTold 335 = .ok (.aload_n 0, 1) := by decide +kernel
theorem dL_isTold_336 : decode cL_isTold 336 = .ok (.iload 9, 2) := by decide +kernel
theorem dL_isTold_338 : decode cL_isTold 338 = .ok (.invokestatic 151, 3) := by decide +kernel
theorem dL_isTold_341 : decode cL_isTold 341 = .ok (.aload 4, 2) := by decide +kernel
theorem dL_isTold_343 : decode cL_isTold 343 = .ok (.iload 9, 2) := by decide +kernel
theorem dL_isTold_345 : decode cL_isTold 345 = .ok (.invokestatic 104, 3) := by decide +kernel
theorem dL_isTold_348 : decode cL_isTold 348 = .ok (.if_icmp .eq 5, 3) := by decide +kernel
theorem dL_isTold_351 : decode cL_isTold 351 = .ok (.iconst 0, 1) := by decide +kernel
theorem dL_isTold_352 : decode cL_isTold 352 = .ok (.ireturn, 1) := by decide +kernel
theorem dL_isTold_353 : decode cL_isTold 353 = .ok (.iinc 8 1, 3) := by decide +kernel
theorem dL_isTold_356 : decode cL_isTold 356 = .ok (.goto (-95), 3) := by decide +kernel
theorem dL_isTold_359 : decode cL_isTold 359 = .ok (.iconst 0, 1) := by decide +kernel
theorem dL_isTold_360 : decode cL_isTold 360 = .ok (.istore 8, 2) := by decide +kernel
theorem dL_isTold_362 : decode cL_isTold 362 = .ok (.iload 8, 2) := by decide +kernel
theorem dL_isTold_364 : decode cL_isTold 364 = .ok (.aload 7, 2) := by decide +kernel
theorem dL_isTold_366 : decode cL_isTold 366 = .ok (.iconst 5, 1) := by decide +kernel
theorem dL_isTold_367 : decode cL_isTold 367 = .ok (.iaload, 1) := by decide +kernel
theorem dL_isTold_368 : decode cL_isTold 368 = .ok (.if_icmp .ge 50, 3) := by decide +kernel
theorem dL_isTold_371 : decode cL_isTold 371 = .ok (.aload_n 0, 1) := by decide +kernel
theorem dL_isTold_372 : decode cL_isTold 372 = .ok (.iload 8, 2) := by decide +kernel
theorem dL_isTold_374 : decode cL_isTold 374 = .ok (.invokestatic 137, 3) := by decide +kernel
theorem dL_isTold_377 : decode cL_isTold 377 = .ok (.aload 5, 2) := by decide +kernel
theorem dL_isTold_379 : decode cL_isTold 379 = .ok (.iload 8, 2) := by decide +kernel
theorem dL_isTold_381 : decode cL_isTold 381 = .ok (.iaload, 1) := by decide +kernel
theorem dL_isTold_382 : decode cL_isTold 382 = .ok (.bipush 13, 2) := by decide +kernel
theorem dL_isTold_384 : decode cL_isTold 384 = .ok (.ishr, 1) := by decide +kernel
theorem dL_isTold_385 : decode cL_isTold 385 = .ok (.iconst 3, 1) := by decide +kernel
theorem dL_isTold_386 : decode cL_isTold 386 = .ok (.iand, 1) := by decide +kernel
theorem dL_isTold_387 : decode cL_isTold 387 = .ok (.if_icmp .ne 23, 3) := by decide +kernel
theorem dL_isTold_390 : decode cL_isTold 390 = .ok (.aload_n 0, 1) := by decide +kernel
theorem dL_isTold_391 : decode cL_isTold 391 = .ok (.iload 8, 2) := by decide +kernel
theorem dL_isTold_393 : decode cL_isTold 393 = .ok (.invokestatic 139, 3) := by decide +kernel
theorem dL_isTold_396 : decode cL_isTold 396 = .ok (.aload 5, 2) := by decide +kernel
theorem dL_isTold_398 : decode cL_isTold 398 = .ok (.iload 8, 2) := by decide +kernel
theorem dL_isTold_400 : decode cL_isTold 400 = .ok (.iaload, 1) := by decide +kernel
theorem dL_isTold_401 : decode cL_isTold 401 = .ok (.bipush 7, 2) := by decide +kernel
theorem dL_isTold_403 : decode cL_isTold 403 = .ok (.ishr, 1) := by decide +kernel
theorem dL_isTold_404 : decode cL_isTold 404 = .ok (.bipush 63, 2) := by decide +kernel
theorem dL_isTold_406 : decode cL_isTold 406 = .ok (.iand, 1) := by decide +kernel
theorem dL_isTold_407 : decode cL_isTold 407 = .ok (.if_icmp .eq 5, 3) := by decide +kernel
theorem dL_isTold_410 : decode cL_isTold 410 = .ok (.iconst 0, 1) := by decide +kernel
theorem dL_isTold_411 : decode cL_isTold 411 = .ok (.ireturn, 1) := by decide +kernel
theorem dL_isTold_412 : decode cL_isTold 412 = .ok (.iinc 8 1, 3) := by decide +kernel
theorem dL_isTold_415 : decode cL_isTold 415 = .ok (.goto (-53), 3) := by decide +kernel
theorem dL_isTold_418 : decode cL_isTold 418 = .ok (.aload_n 0, 1) := by decide +kernel
theorem dL_isTold_419 : decode cL_isTold 419 = .ok (.invokevirtual 153, 3) := by decide +kernel
theorem dL_isTold_422 : decode cL_isTold 422 = .ok (.aload 7, 2) := by decide +kernel
theorem dL_isTold_424 : decode cL_isTold 424 = .ok (.iconst 1, 1) := by decide +kernel
theorem dL_isTold_425 : decode cL_isTold 425 = .ok (.iaload, 1) := by decide +kernel
theorem dL_isTold_426 : decode cL_isTold 426 = .ok (.if_icmp .ne 160, 3) := by decide +kernel
theorem dL_isTold_429 : decode cL_isTold 429 = .ok (.aload_n 0, 1) := by decide +kernel
theorem dL_isTold_430 : decode cL_isTold 430 = .ok (.iconst 4, 1) := by decide +kernel
theorem dL_isTold_431 : decode cL_isTold 431 = .ok (.invokestatic 141, 3) := by decide +kernel
theorem dL_isTold_434 : decode cL_isTold 434 = .ok (.sipush (-7100), 3) := by decide +kernel
theorem dL_isTold_437 : decode cL_isTold 437 = .ok (.if_icmp .ne 149, 3) := by decide +kernel
theorem dL_isTold_440 : decode cL_isTold 440 = .ok (.aload_n 0, 1) := by decide +kernel
theorem dL_isTold_441 : decode cL_isTold 441 = .ok (.iconst (-1), 1) := by decide +kernel
theorem dL_isTold_442 : decode cL_isTold 442 = .ok (.invokestatic 141, 3) := by decide +kernel
theorem dL_isTold_445 : decode cL_isTold 445 = .ok (.sipush (-7100), 3) := by decide +kernel
theorem dL_isTold_448 : decode cL_isTold 448 = .ok (.if_icmp .ne 138, 3) := by decide +kernel
theorem dL_isTold_451 : decode cL_isTold 451 = .ok (.aload_n 0, 1) := by decide +kernel
theorem dL_isTold_452 : decode cL_isTold 452 = .ok (.iconst 4, 1) := by decide +kernel
theorem dL_isTold_453 : decode cL_isTold 453 = .ok (.invokestatic 143, 3) := by decide +kernel
theorem dL_isTold_456 : decode cL_isTold 456 = .ok (.sipush (-7100), 3) := by decide +kernel
theorem dL_isTold_459 : decode cL_isTold 459 = .ok (.if_icmp .ne 127, 3) := by decide +kernel
theorem dL_isTold_462 : decode cL_isTold 462 = .ok (.aload_n 0, 1) := by decide +kernel
theorem dL_isTold_463 : decode cL_isTold 463 = .ok (.iconst 4, 1) := by decide +kernel
theorem dL_isTold_464 : decode cL_isTold 464 = .ok (.iconst 3, 1) := by decide +kernel
theorem dL_isTold_465 : decode cL_isTold 465 = .ok (.invokestatic 145, 3) := by decide +kernel
theorem dL_isTold_468 : decode cL_isTold 468 = .ok (.sipush (-7100), 3) := by decide +kernel
theorem dL_isTold_471 : decode cL_isTold 471 = .ok (.if_icmp .ne 115, 3) := by decide +kernel
theorem dL_isTold_474 : decode cL_isTold 474 = .ok (.aload_n 0, 1) := by decide +kernel
theorem dL_isTold_475 : decode cL_isTold 475 = .ok (.iconst 0, 1) := by decide +kernel
theorem dL_isTold_476 : decode cL_isTold 476 = .ok (.iconst 3, 1) := by decide +kernel
theorem dL_isTold_477 : decode cL_isTold 477 = .ok (.invokestatic 145, 3) := by decide +kernel
theorem dL_isTold_480 : decode cL_isTold 480 = .ok (.sipush (-7200), 3) := by decide +kernel
theorem dL_isTold_483 : decode cL_isTold 483 = .ok (.if_icmp .ne 103, 3) := by decide +kernel
theorem dL_isTold_486 : decode cL_isTold 486 = .ok (.aload_n 0, 1) := by decide +kernel
theorem dL_isTold_487 : decode cL_isTold 487 = .ok (.iconst 0, 1) := by decide +kernel
theorem dL_isTold_488 : decode cL_isTold 488 = .ok (.iconst (-1), 1) := by decide +kernel
theorem dL_isTold_489 : decode cL_isTold 489 = .ok (.invokestatic 145, 3) := by decide +kernel
theorem dL_isTold_492 : decode cL_isTold 492 = .ok (.sipush (-7200), 3) := by decide +kernel
theorem dL_isTold_495 : decode cL_isTold 495 = .ok (.if_icmp .ne 91, 3) := by decide +kernel
theorem dL_isTold_498 : decode cL_isTold 498 = .ok (.aload_n 0, 1) := by decide +kernel
theorem dL_isTold_499 : decode cL_isTold 499 = .ok (.bipush 100, 2) := by decide +kernel
theorem dL_isTold_501 : decode cL_isTold 501 = .ok (.invokestatic 147, 3) := by decide +kernel
theorem dL_isTold_504 : decode cL_isTold 504 = .ok (.sipush (-7100), 3) := by decide +kernel
theorem dL_isTold_507 : decode cL_isTold 507 = .ok (.if_icmp .ne 79, 3) := by decide +kernel
theorem dL_isTold_510 : decode cL_isTold 510 = .ok (.aload_n 0, 1) := by decide +kernel
theorem dL_isTold_511 : decode cL_isTold 511 = .ok (.iconst (-1), 1) := by decide +kernel
theorem dL_isTold_512 : decode cL_isTold 512 = .ok (.invokestatic 147, 3) := by decide +kernel
theorem dL_isTold_515 : decode cL_isTold 515 = .ok (.sipush (-7100), 3) := by decide +kernel
theorem dL_isTold_518 : decode cL_isTold 518 = .ok (.if_icmp .ne 68, 3) := by decide +kernel
theorem dL_isTold_521 : decode cL_isTold 521 = .ok (.aload_n 0, 1) := by decide +kernel
theorem dL_isTold_522 : decode cL_isTold 522 = .ok (.bipush 100, 2) := by decide +kernel
theorem dL_isTold_524 : decode cL_isTold 524 = .ok (.invokestatic 149, 3) := by decide +kernel
theorem dL_isTold_527 : decode cL_isTold 527 = .ok (.sipush (-7100), 3) := by decide +kernel
theorem dL_isTold_530 : decode cL_isTold 530 = .ok (.if_icmp .ne 56, 3) := by decide +kernel
theorem dL_isTold_533 : decode cL_isTold 533 = .ok (.aload_n 0, 1) := by decide +kernel
theorem dL_isTold_534 : decode cL_isTold 534 = .ok (.ldc 103, 2) := by decide +kernel
theorem dL_isTold_536 : decode cL_isTold 536 = .ok (.invokestatic 151, 3) := by decide +kernel
theorem dL_isTold_539 : decode cL_isTold 539 = .ok (.sipush (-7100), 3) := by decide +kernel
theorem dL_isTold_542 : decode cL_isTold 542 = .ok (.if_icmp .ne 44, 3) := by decide +kernel
theorem dL_isTold_545 : decode cL_isTold 545 = .ok (.aload_n 0, 1) := by decide +kernel
theorem dL_isTold_546 : decode cL_isTold 546 = .ok (.ldc 156, 2) := by decide +kernel
theorem dL_isTold_548 : decode cL_isTold 548 = .ok (.invokestatic 117, 3) := by decide +kernel
theorem dL_isTold_551 : decode cL_isTold 551 = .ok (.sipush (-7100), 3) := by decide +kernel
theorem dL_isTold_554 : decode cL_isTold 554 = .ok (.if_icmp .ne 32, 3) := by decide +kernel
theorem dL_isTold_557 : decode cL_isTold 557 = .ok (.aload_n 0, 1) := by decide +kernel
theorem dL_isTold_558 : decode cL_isTold 558 = .ok (.aload 7, 2) := by decide +kernel
theorem dL_isTold_560 : decode cL_isTold 560 = .ok (.iconst 5, 1) := by decide +kernel
theorem dL_isTold_561 : decode cL_isTold 561 = .ok (.iaload, 1) := by decide +kernel
theorem dL_isTold_562 : decode cL_isTold 562 = .ok (.invokestatic 137, 3) := by decide +kernel
theorem dL_isTold_565 : decode cL_isTold 565 = .ok (.sipush (-7100), 3) := by decide +kernel
theorem dL_isTold_568 : decode cL_isTold 568 = .ok (.if_icmp .ne 18, 3) := by decide +kernel
theorem dL_isTold_571 : decode cL_isTold 571 = .ok (.aload_n 0, 1) := by decide +kernel
theorem dL_isTold_572 : decode cL_isTold 572 = .ok (.iconst (-1), 1) := by decide +kernel
theorem dL_isTold_573 : decode cL_isTold 573 = .ok (.invokestatic 139, 3) := by decide +kernel
theorem dL_isTold_576 : decode cL_isTold 576 = .ok (.sipush (-7100), 3) := by decide +kernel
theorem dL_isTold_579 : decode cL_isTold 579 = .ok (.if_icmp .ne 7, 3) := by decide +kernel
theorem dL_isTold_582 : decode cL_isTold 582 = .ok (.iconst 1, 1) := by decide +kernel
theorem dL_isTold_583 : decode cL_isTold 583 = .ok (.goto 4, 3) := by decide +kernel
theorem dL_isTold_586 : decode cL_isTold 586 = .ok (.iconst 0, 1) := by decide +kernel
theorem dL_isTold_587 : decode cL_isTold 587 = .ok (.ireturn, 1) := by decide +kernel
end
section
set_option maxRecDepth 20000 in
theorem ggL_law_X0_init : GoodIn wsL_law wsX0_init := goodIn_r _ [6, 7, 8, 9, 3, 10, 11, 12, 13, 14, 15, 16, 17, 18, 19, 20, 21, 22, 23, 24, 25, 357, 358, 359, 360, 361, 362, 363, 364, 365, 366, 367, 368, 369, 370, 371, 372] (by decide +kernel) (by decide +kernel)
set_option maxRecDepth 20000 in
theorem gL_law_X0_init : GoodIn wsL_law (wsX0_init) := ggL_law_X0_init
theorem gtold_c : GoodIn wsL_law [.code yL_isTold cL_isTold 12 (some .boolean)] := goodIn_sub (List.forall_mem_cons.mpr ⟨List.mem_of_getElem? (i := 29) rfl, fun _ h => nomatch h⟩) rfl
set_option maxRecDepth 20000 in
theorem gtold_1 : GoodIn wsL_law wsL_isTold_r1 := goodIn_r _ [30, 31, 32, 33, 28, 34, 35, 36, 37, 38, 39, 40, 41, 42, 43, 44, 2, 45, 46, 47, 48, 49, 50, 51] (by decide +kernel) (by decide +kernel)
set_option maxRecDepth 20000 in
theorem gtold_2 : GoodIn wsL_law wsL_isTold_r2 := goodIn_r _ [52, 53, 54, 55, 56, 57, 58, 59, 60, 61, 10, 62, 63, 64, 65, 66, 67, 68, 69, 70, 71, 72, 73, 74] (by decide +kernel) (by decide +kernel)
set_option maxRecDepth 20000 in
theorem gtold_3 : GoodIn wsL_law wsL_isTold_r3 := goodIn_r _ [75, 76, 77, 78, 79, 80, 81, 82, 21, 83, 84, 85, 86, 11, 87, 88, 89, 90, 91, 92, 93, 94, 12, 95] (by decide +kernel) (by decide +kernel)
set_option maxRecDepth 20000 in
theorem gtold_4 : GoodIn wsL_law wsL_isTold_r4 := goodIn_r _ [96, 97, 98, 99, 100, 101, 102, 103, 104, 105, 106, 19, 18, 20, 107, 108, 109, 110, 111, 112, 113, 114, 115, 116] (by decide +kernel) (by decide +kernel)
set_option maxRecDepth 20000 in
theorem gtold_5 : GoodIn wsL_law wsL_isTold_r5 := goodIn_r _ [117, 118, 119, 120, 121, 122, 123, 124, 125, 126, 127, 128, 129, 130, 131, 132, 133, 134, 135, 136, 137, 138, 139, 140] (by decide +kernel) (by decide +kernel)
set_option maxRecDepth 20000 in
theorem gtold_6 : GoodIn wsL_law wsL_isTold_r6 := goodIn_r _ [141, 142, 143, 144, 145, 146, 14, 147, 148, 149, 150, 151, 152, 153, 154, 155, 156, 157, 158, 159, 160, 161, 162, 163] (by decide +kernel) (by decide +kernel)
set_option maxRecDepth 20000 in
theorem gtold_7 : GoodIn wsL_law wsL_isTold_r7 := goodIn_r _ [164, 165, 166, 167, 168, 169, 170, 171, 172, 173, 174, 175, 176, 177, 178, 179, 180, 181, 17, 182, 183, 184, 185] (by decide +kernel) (by decide +kernel)
theorem gtold_c1 : GoodIn wsL_law (.code yL_isTold cL_isTold 12 (some .boolean) :: wsL_isTold_r1) := fun w h => (List.mem_cons.mp h).elim (fun e => gtold_c w (List.mem_cons.mpr (Or.inl e))) (gtold_1 w)
set_option maxRecDepth 20000 in
theorem ggL_law_L_isTold : GoodIn wsL_law wsL_isTold := goodIn_ca (goodIn_ca (goodIn_ca (goodIn_ca gtold_c1 (goodIn_app gtold_2 (goodIn_app gtold_3 (goodIn_app gtold_4 (goodIn_app gtold_5 (goodIn_app gtold_6 gtold_7)))))) (goodIn_sub inlX0 (by decide +kernel))) (goodIn_sub (fun _ h => List.mem_append_left _ (List.mem_append_left _ (List.mem_append_right _ h))) (by decide +kernel))) (goodIn_sub (fun _ h => List.mem_append_left _ (List.mem_append_right _ h)) (by decide +kernel))
set_option maxRecDepth 20000 in
theorem gL_law_L_isTold : GoodIn wsL_law (va_wsS RL 158 yL_isTold wsL_isTold) := goodIn_app (goodIn_of _ (by decide +kernel)) ggL_law_L_isTold
set_option maxRecDepth 20000 in
theorem ggL_law_L_cell : GoodIn wsL_law wsL_cell := goodIn_r _ [188, 189] (by decide +kernel) (by decide +kernel)
set_option maxRecDepth 20000 in
theorem gL_law_L_cell : GoodIn wsL_law (va_wsS RL 162 yL_cell wsL_cell) := goodIn_app (goodIn_of _ (by decide +kernel)) ggL_law_L_cell
set_option maxRecDepth 20000 in
theorem ggL_law_L_low : GoodIn wsL_law wsL_low := goodIn_r _ [125] (by decide +kernel) (by decide +kernel)
set_option maxRecDepth 20000 in
theorem gL_law_L_low : GoodIn wsL_law (va_wsS RL 88 yL_low wsL_low) := goodIn_app (goodIn_of _ (by decide +kernel)) ggL_law_L_low
set_option maxRecDepth 20000 in
theorem ggL_law_L_writes : GoodIn wsL_law wsL_writes := goodIn_ca (goodIn_ca (goodIn_ca (goodIn_r _ [192, 30, 123, 124, 28, 125, 126, 127, 128, 193, 194, 195, 41, 101, 196, 197, 198, 199, 2, 200, 201, 202, 203, 136, 137, 138, 49, 50, 62, 63, 64, 204, 205, 206, 110, 111, 207, 208, 209, 210, 75, 76, 77, 78, 79, 80, 81, 82, 21, 83, 84, 85, 86, 11, 87, 88, 89, 90, 91, 92, 93, 94, 12, 58, 59, 60, 61, 10, 51, 52, 53, 211, 212, 213, 214, 215, 216, 217, 218, 219, 220, 221, 222, 13, 223, 224, 225, 226, 227, 228, 229, 230, 231, 232, 233, 234, 235, 236, 237, 238, 239, 240, 357, 358, 359, 360, 361, 362, 363, 364, 365, 366, 367, 368, 369, 370, 371, 372] (by decide +kernel) (by decide +kernel)) (goodIn_sub (fun _ h => List.mem_append_right _ h) (by decide +kernel))) (goodIn_sub (fun _ h => List.mem_append_left _ (List.mem_append_left _ (List.mem_append_right _ h))) (by decide +kernel))) (goodIn_sub (fun _ h => List.mem_append_left _ (List.mem_append_right _ h)) (by decide +kernel))
set_option maxRecDepth 20000 in
theorem gL_law_L_writes : GoodIn wsL_law (va_wsS RL 165 yL_writes wsL_writes) := goodIn_app (goodIn_of _ (by decide +kernel)) ggL_law_L_writes
theorem dL_law_0 : decode cL_law 0 = .ok (.new 9, 3) := by decide +kernel
theorem dL_law_3 : decode cL_law 3 = .ok (.dup, 1) := by decide +kernel
theorem dL_law_4 : decode cL_law 4 = .ok (.invokespecial 157, 3) := by decide +kernel
theorem dL_law_7 : decode cL_law 7 = .ok (.astore_n 1, 1) := by decide +kernel
theorem dL_law_8 : decode cL_law 8 = .ok (.bipush 40, 2) := by decide +kernel
theorem dL_law_10 : decode cL_law 10 = .ok (.newarray .int, 2) := by decide +kernel
theorem dL_law_12 : decode cL_law 12 = .ok (.astore_n 2, 1) := by decide +kernel
theorem dL_law_13 : decode cL_law 13 = .ok (.bipush 40, 2) := by decide +kernel
theorem dL_law_15 : decode cL_law 15 = .ok (.newarray .int, 2) := by decide +kernel
theorem dL_law_17 : decode cL_law 17 = .ok (.astore_n 3, 1) := by decide +kernel
theorem dL_law_18 : decode cL_law 18 = .ok (.bipush 9, 2) := by decide +kernel
theorem dL_law_20 : decode cL_law 20 = .ok (.newarray .int, 2) := by decide +kernel
theorem dL_law_22 : decode cL_law 22 = .ok (.astore 4, 2) := by decide +kernel
theorem dL_law_24 : decode cL_law 24 = .ok (.bipush 60, 2) := by decide +kernel
theorem dL_law_26 : decode cL_law 26 = .ok (.newarray .int, 2) := by decide +kernel
theorem dL_law_28 : decode cL_law 28 = .ok (.astore 5, 2) := by decide +kernel
theorem dL_law_30 : decode cL_law 30 = .ok (.bipush 12, 2) := by decide +kernel
theorem dL_law_32 : decode cL_law 32 = .ok (.newarray .int, 2) := by decide +kernel
theorem dL_law_34 : decode cL_law 34 = .ok (.astore 6, 2) := by decide +kernel
theorem dL_law_36 : decode cL_law 36 = .ok (.bipush 6, 2) := by decide +kernel
theorem dL_law_38 : decode cL_law 38 = .ok (.newarray .int, 2) := by decide +kernel
theorem dL_law_40 : decode cL_law 40 = .ok (.astore 7, 2) := by decide +kernel
theorem dL_law_42 : decode cL_law 42 = .ok (.aload 4, 2) := by decide +kernel
theorem dL_law_44 : decode cL_law 44 = .ok (.iconst 0, 1) := by decide +kernel
theorem dL_law_45 : decode cL_law 45 = .ok (.bipush 99, 2) := by decide +kernel
theorem dL_law_47 : decode cL_law 47 = .ok (.iastore, 1) := by decide +kernel
theorem dL_law_48 : decode cL_law 48 = .ok (.aload 7, 2) := by decide +kernel
theorem dL_law_50 : decode cL_law 50 = .ok (.iconst 1, 1) := by decide +kernel
theorem dL_law_51 : decode cL_law 51 = .ok (.iconst 1, 1) := by decide +kernel
theorem dL_law_52 : decode cL_law 52 = .ok (.iastore, 1) := by decide +kernel
theorem dL_law_53 : decode cL_law 53 = .ok (.aload_n 1, 1) := by decide +kernel
theorem dL_law_54 : decode cL_law 54 = .ok (.iconst 0, 1) := by decide +kernel
theorem dL_law_55 : decode cL_law 55 = .ok (.aload_n 2, 1) := by decide +kernel
theorem dL_law_56 : decode cL_law 56 = .ok (.aload_n 3, 1) := by decide +kernel
theorem dL_law_57 : decode cL_law 57 = .ok (.aload 4, 2) := by decide +kernel
theorem dL_law_59 : decode cL_law 59 = .ok (.aload 5, 2) := by decide +kernel
theorem dL_law_61 : decode cL_law 61 = .ok (.aload 6, 2) := by decide +kernel
theorem dL_law_63 : decode cL_law 63 = .ok (.aload 7, 2) := by decide +kernel
theorem dL_law_65 : decode cL_law 65 = .ok (.invokestatic 158, 3) := by decide +kernel
theorem dL_law_68 : decode cL_law 68 = .ok (.ifCond .ne 5, 3) := by decide +kernel
theorem dL_law_71 : decode cL_law 71 = .ok (.iconst 0, 1) := by decide +kernel
theorem dL_law_72 : decode cL_law 72 = .ok (.ireturn, 1) := by decide +kernel
theorem dL_law_73 : decode cL_law 73 = .ok (.iconst 0, 1) := by decide +kernel
theorem dL_law_74 : decode cL_law 74 = .ok (.istore 8, 2) := by decide +kernel
theorem dL_law_76 : decode cL_law 76 = .ok (.iload 8, 2) := by decide +kernel
theorem dL_law_78 : decode cL_law 78 = .ok (.sipush 150, 3) := by decide +kernel
theorem dL_law_81 : decode cL_law 81 = .ok (.if_icmp .ge 170, 3) := by decide +kernel
theorem dL_law_84 : decode cL_law 84 = .ok (.aload_n 0, 1) := by decide +kernel
theorem dL_law_85 : decode cL_law 85 = .ok (.iconst 3, 1) := by decide +kernel
theorem dL_law_86 : decode cL_law 86 = .ok (.iload 8, 2) := by decide +kernel
theorem dL_law_88 : decode cL_law 88 = .ok (.imul, 1) := by decide +kernel
theorem dL_law_89 : decode cL_law 89 = .ok (.invokestatic 162, 3) := by decide +kernel
theorem dL_law_92 : decode cL_law 92 = .ok (.istore 9, 2) := by decide +kernel
theorem dL_law_94 : decode cL_law 94 = .ok (.aload_n 0, 1) := by decide +kernel
theorem dL_law_95 : decode cL_law 95 = .ok (.iconst 3, 1) := by decide +kernel
theorem dL_law_96 : decode cL_law 96 = .ok (.iload 8, 2) := by decide +kernel
theorem dL_law_98 : decode cL_law 98 = .ok (.imul, 1) := by decide +kernel
theorem dL_law_99 : decode cL_law 99 = .ok (.iconst 1, 1) := by decide +kernel
theorem dL_law_100 : decode cL_law 100 = .ok (.iadd, 1) := by decide +kernel
theorem dL_law_101 : decode cL_law 101 = .ok (.invokestatic 162, 3) := by decide +kernel
theorem dL_law_104 : decode cL_law 104 = .ok (.istore 10, 2) := by decide +kernel
theorem dL_law_106 : decode cL_law 106 = .ok (.aload_n 0, 1) := by decide +kernel
theorem dL_law_107 : decode cL_law 107 = .ok (.iconst 3, 1) := by decide +kernel
theorem dL_law_108 : decode cL_law 108 = .ok (.iload 8, 2) := by decide +kernel
theorem dL_law_110 : decode cL_law 110 = .ok (.imul, 1) := by decide +kernel
theorem dL_law_111 : decode cL_law 111 = .ok (.iconst 2, 1) := by decide +kernel
theorem dL_law_112 : decode cL_law 112 = .ok (.iadd, 1) := by decide +kernel
theorem dL_law_113 : decode cL_law 113 = .ok (.invokestatic 162, 3) := by decide +kernel
theorem dL_law_116 : decode cL_law 116 = .ok (.istore 11, 2) := by decide +kernel
theorem dL_law_118 : decode cL_law 118 = .ok (.iload 8, 2) := by decide +kernel
theorem dL_law_120 : decode cL_law 120 = .ok (.bipush 8, 2) := by decide +kernel
theorem dL_law_122 : decode cL_law 122 = .ok (.if_icmp .ge 7, 3) := by decide +kernel
theorem dL_law_125 : decode cL_law 125 = .ok (.iconst 0, 1) := by decide +kernel
theorem dL_law_126 : decode cL_law 126 = .ok (.goto 10, 3) := by decide +kernel
theorem dL_law_129 : decode cL_law 129 = .ok (.iload 9, 2) := by decide +kernel
theorem dL_law_131 : decode cL_law 131 = .ok (.bipush 30, 2) := by decide +kernel
theorem dL_law_133 : decode cL_law 133 = .ok (.invokestatic 88, 3) := by decide +kernel
theorem dL_law_136 : decode cL_law 136 = .ok (.istore 12, 2) := by decide +kernel
theorem dL_law_138 : decode cL_law 138 = .ok (.iload 12, 2) := by decide +kernel
theorem dL_law_140 : decode cL_law 140 = .ok (.bipush 8, 2) := by decide +kernel
theorem dL_law_142 : decode cL_law 142 = .ok (.if_icmp .ge 22, 3) := by decide +kernel
theorem dL_law_145 : decode cL_law 145 = .ok (.aload_n 1, 1) := by decide +kernel
theorem dL_law_146 : decode cL_law 146 = .ok (.iload 12, 2) := by decide +kernel
theorem dL_law_148 : decode cL_law 148 = .ok (.iload 10, 2) := by decide +kernel
theorem dL_law_150 : decode cL_law 150 = .ok (.iload 11, 2) := by decide +kernel
theorem dL_law_152 : decode cL_law 152 = .ok (.aload_n 2, 1) := by decide +kernel
theorem dL_law_153 : decode cL_law 153 = .ok (.aload 7, 2) := by decide +kernel
theorem dL_law_155 : decode cL_law 155 = .ok (.invokestatic 165, 3) := by decide +kernel
theorem dL_law_158 : decode cL_law 158 = .ok (.ifCond .eq 85, 3) := by decide +kernel
theorem dL_law_161 : decode cL_law 161 = .ok (.goto 58, 3) := by decide +kernel
theorem dL_law_164 : decode cL_law 164 = .ok (.iload 12, 2) := by decide +kernel
theorem dL_law_166 : decode cL_law 166 = .ok (.bipush 20, 2) := by decide +kernel
theorem dL_law_168 : decode cL_law 168 = .ok (.if_icmp .ge 27, 3) := by decide +kernel
theorem dL_law_171 : decode cL_law 171 = .ok (.aload_n 1, 1) := by decide +kernel
theorem dL_law_172 : decode cL_law 172 = .ok (.iload 12, 2) := by decide +kernel
theorem dL_law_174 : decode cL_law 174 = .ok (.bipush 8, 2) := by decide +kernel
theorem dL_law_176 : decode cL_law 176 = .ok (.isub, 1) := by decide +kernel
theorem dL_law_177 : decode cL_law 177 = .ok (.iload 10, 2) := by decide +kernel
theorem dL_law_179 : decode cL_law 179 = .ok (.iload 11, 2) := by decide +kernel
theorem dL_law_181 : decode cL_law 181 = .ok (.aload_n 2, 1) := by decide +kernel
theorem dL_law_182 : decode cL_law 182 = .ok (.aload 4, 2) := by decide +kernel
theorem dL_law_184 : decode cL_law 184 = .ok (.aload 7, 2) := by decide +kernel
theorem dL_law_186 : decode cL_law 186 = .ok (.invokestatic 169, 3) := by decide +kernel
theorem dL_law_189 : decode cL_law 189 = .ok (.ifCond .eq 54, 3) := by decide +kernel
theorem dL_law_192 : decode cL_law 192 = .ok (.goto 27, 3) := by decide +kernel
theorem dL_law_195 : decode cL_law 195 = .ok (.aload_n 1, 1) := by decide +kernel
theorem dL_law_196 : decode cL_law 196 = .ok (.iload 12, 2) := by decide +kernel
theorem dL_law_198 : decode cL_law 198 = .ok (.bipush 20, 2) := by decide +kernel
theorem dL_law_200 : decode cL_law 200 = .ok (.isub, 1) := by decide +kernel
theorem dL_law_201 : decode cL_law 201 = .ok (.iload 10, 2) := by decide +kernel
theorem dL_law_203 : decode cL_law 203 = .ok (.iload 11, 2) := by decide +kernel
theorem dL_law_205 : decode cL_law 205 = .ok (.aload_n 2, 1) := by decide +kernel
theorem dL_law_206 : decode cL_law 206 = .ok (.aload_n 3, 1) := by decide +kernel
theorem dL_law_207 : decode cL_law 207 = .ok (.aload 5, 2) := by decide +kernel
theorem dL_law_209 : decode cL_law 209 = .ok (.aload 6, 2) := by decide +kernel
theorem dL_law_211 : decode cL_law 211 = .ok (.aload 7, 2) := by decide +kernel
theorem dL_law_213 : decode cL_law 213 = .ok (.invokestatic 173, 3) := by decide +kernel
theorem dL_law_216 : decode cL_law 216 = .ok (.ifCond .eq 27, 3) := by decide +kernel
theorem dL_law_219 : decode cL_law 219 = .ok (.aload_n 1, 1) := by decide +kernel
theorem dL_law_220 : decode cL_law 220 = .ok (.iload 9, 2) := by decide +kernel
theorem dL_law_222 : decode cL_law 222 = .ok (.iconst 5, 1) := by decide +kernel
theorem dL_law_223 : decode cL_law 223 = .ok (.ishr, 1) := by decide +kernel
theorem dL_law_224 : decode cL_law 224 = .ok (.iload 10, 2) := by decide +kernel
theorem dL_law_226 : decode cL_law 226 = .ok (.ixor, 1) := by decide +kernel
theorem dL_law_227 : decode cL_law 227 = .ok (.aload_n 2, 1) := by decide +kernel
theorem dL_law_228 : decode cL_law 228 = .ok (.aload_n 3, 1) := by decide +kernel
theorem dL_law_229 : decode cL_law 229 = .ok (.aload 4, 2) := by decide +kernel
theorem dL_law_231 : decode cL_law 231 = .ok (.aload 5, 2) := by decide +kernel
theorem dL_law_233 : decode cL_law 233 = .ok (.aload 6, 2) := by decide +kernel
theorem dL_law_235 : decode cL_law 235 = .ok (.aload 7, 2) := by decide +kernel
theorem dL_law_237 : decode cL_law 237 = .ok (.invokestatic 158, 3) := by decide +kernel
theorem dL_law_240 : decode cL_law 240 = .ok (.ifCond .ne 5, 3) := by decide +kernel
theorem dL_law_243 : decode cL_law 243 = .ok (.iconst 0, 1) := by decide +kernel
theorem dL_law_244 : decode cL_law 244 = .ok (.ireturn, 1) := by decide +kernel
theorem dL_law_245 : decode cL_law 245 = .ok (.iinc 8 1, 3) := by decide +kernel
theorem dL_law_248 : decode cL_law 248 = .ok (.goto (-172), 3) := by decide +kernel
theorem dL_law_251 : decode cL_law 251 = .ok (.iconst 1, 1) := by decide +kernel
theorem dL_law_252 : decode cL_law 252 = .ok (.ireturn, 1) := by decide +kernel
abbrev vwCl : List vw_C := [(RX0, TX0, 16)]
end
section
/-! plain facts on numbers and arrays, to paste: each family by itself; over the kit's rows on nI and upd -/
/-! ===== order of ints, in all its forms, and through longs ===== -/
theorem fa_lt (a b : Int32) : a < b ↔ a.toInt < b.toInt := Int32.lt_iff_toInt_lt
theorem fa_le (a b : Int32) : a ≤ b ↔ a.toInt ≤ b.toInt := Int32.le_iff_toInt_le
theorem fa_eq (a b : Int32) : a = b ↔ a.toInt = b.toInt := Int32.toInt_inj.symm
theorem fa_lt64 (a b : Int64) : a < b ↔ a.toInt < b.toInt := Int64.lt_iff_toInt_lt
theorem fa_le64 (a b : Int64) : a ≤ b ↔ a.toInt ≤ b.toInt := Int64.le_iff_toInt_le
theorem fa_eq64 (a b : Int64) : a = b ↔ a.toInt = b.toInt := Int64.toInt_inj.symm
/-- a comparison of two ints taken as longs -/
theorem fa_wide_lt (a b : Int32) : a.toInt64 < b.toInt64 ↔ a < b := by rw [fa_lt64, fa_lt, Int32.toInt_toInt64, Int32.toInt_toInt64]
theorem fa_wide_le (a b : Int32) : a.toInt64 ≤ b.toInt64 ↔ a ≤ b := by rw [fa_le64, fa_le, Int32.toInt_toInt64, Int32.toInt_toInt64]
theorem fa_wide_eq (a b : Int32) : a.toInt64 = b.toInt64 ↔ a = b := by rw [fa_eq64, fa_eq, Int32.toInt_toInt64, Int32.toInt_toInt64]
/-- one strict comparison gives all the others -/
theorem fa_of_lt {a b : Int32} (h : a < b) : a ≤ b ∧ ¬ b ≤ a ∧ ¬ b < a ∧ a ≠ b ∧ b ≠ a := by
  rw [fa_lt] at h
  refine ⟨?_, ?_, ?_, ?_, ?_⟩
  · rw [fa_le]; omega
  · rw [fa_le]; omega
  · rw [fa_lt]; omega
  · intro e; rw [fa_eq] at e; omega
  · intro e; rw [fa_eq] at e; omega
theorem fa_of_nlt {a b : Int32} (h : ¬ a < b) : b ≤ a := by
  rw [fa_lt] at h
  rw [fa_le]
  omega
theorem fa_of_nle {a b : Int32} (h : ¬ a ≤ b) : b < a := by
  rw [fa_le] at h
  rw [fa_lt]
  omega
theorem fa_le_ne {a b : Int32} (h : a ≤ b) (h2 : a ≠ b) : a < b := by
  rw [fa_le] at h
  rw [fa_lt]
  have h3 : a.toInt ≠ b.toInt := fun e => h2 ((fa_eq a b).mpr e)
  omega
theorem fa_three (a b : Int32) : a < b ∨ a = b ∨ b < a := by
  rw [fa_lt, fa_lt, fa_eq]
  omega
theorem fa_trans {a b c : Int32} (h : a < b) (h2 : b ≤ c) : a < c := by
  rw [fa_lt] at *
  rw [fa_le] at h2
  omega
/-! ===== small literals as numbers ===== -/
theorem fa_lit (n : Nat) : (OfNat.ofNat n : Int32) = nI n := rfl
theorem fa_litL (n : Nat) : (OfNat.ofNat n : Int64) = lN n := rfl
/-! ===== bits of a number: 'or', masks, one bit ===== -/
theorem fa_and (a b : Nat) : nI a &&& nI b = nI (a &&& b) := by
  apply Int32.toBitVec_inj.1
  show BitVec.ofNat 32 a &&& BitVec.ofNat 32 b = BitVec.ofNat 32 (a &&& b)
  apply BitVec.eq_of_getLsbD_eq
  intro i hi
  simp [hi]
theorem fa_or (a b : Nat) : nI a ||| nI b = nI (a ||| b) := by
  apply Int32.toBitVec_inj.1
  show BitVec.ofNat 32 a ||| BitVec.ofNat 32 b = BitVec.ofNat 32 (a ||| b)
  apply BitVec.eq_of_getLsbD_eq
  intro i hi
  simp [hi]
/-- a remainder by a power of two, as a mask -/
theorem fa_mask (n k : Nat) : nI n &&& nI (2 ^ k - 1) = nI (n % 2 ^ k) := by rw [fa_and, Nat.and_two_pow_sub_one_eq_mod]
/-- 'or' of a high part and a low one that don't meet is their sum -/
theorem fa_or_sum {a k : Nat} (b : Nat) (h : a < 2 ^ k) : nI (2 ^ k * b) ||| nI a = nI (2 ^ k * b + a) := by rw [fa_or, Nat.two_pow_add_eq_or_of_lt h]
/-- one bit, by 'and' with a power of two -/
theorem fa_bit {n j : Nat} (hj : j < 31) : nI n &&& nI (2 ^ j) = 0 ↔ n.testBit j = false := by
  have h2 : (2 : Nat) ^ j < 2 ^ 31 := Nat.pow_lt_pow_right (by decide) hj
  have hle : n &&& 2 ^ j ≤ 2 ^ j := Nat.and_le_right
  have e : n &&& 2 ^ j = 0 ↔ n.testBit j = false := by
    constructor
    · intro h
      have h1 : (n &&& 2 ^ j).testBit j = false := by rw [h]; simp
      rw [Nat.testBit_and] at h1
      first | simpa using h1 | simpa [Nat.testBit_two_pow_self] using h1 | simpa [Nat.testBit_two_pow] using h1
    · intro h
      apply Nat.eq_of_testBit_eq
      intro i
      rw [Nat.testBit_and]
      by_cases hi : j = i
      · subst hi; simp [h]
      · first | (simp [Nat.testBit_two_pow, hi]; done) | (simp [Nat.testBit_two_pow_of_ne hi]; done)
  rw [fa_and]
  constructor
  · intro h
    apply e.mp
    rcases Nat.eq_zero_or_pos (n &&& 2 ^ j) with z | z
    · exact z
    · exact absurd h (nI_ne0 z (Nat.lt_of_le_of_lt hle h2))
  · intro h
    rw [e.mpr h]; exact nI_0
/-- a remainder by a power of two of a number that isn't negative, as Java divides -/
theorem fa_rem {a k : Nat} (ha : a < 2 ^ 31) (hk : k < 31) : nI a - nI a / nI (2 ^ k) * nI (2 ^ k) = nI (a % 2 ^ k) := pk_rem ha (Nat.two_pow_pos k) (Nat.pow_lt_pow_right (by decide) hk)
/-! ===== cuts to a byte, a short ===== -/
theorem fa_byte_xor (x y : Int32) : (x ^^^ y).toInt8 = x.toInt8 ^^^ y.toInt8 := by
  apply Int8.toBitVec_inj.1
  apply BitVec.eq_of_getLsbD_eq
  intro i hi
  first | (simp [hi]; done) | (simp [hi, BitVec.getLsbD_setWidth, BitVec.getLsbD_signExtend]; done)
theorem fa_short_xor (x y : Int32) : (x ^^^ y).toInt16 = x.toInt16 ^^^ y.toInt16 := by
  apply Int16.toBitVec_inj.1
  apply BitVec.eq_of_getLsbD_eq
  intro i hi
  first | (simp [hi]; done) | (simp [hi, BitVec.getLsbD_setWidth, BitVec.getLsbD_signExtend]; done)
/-- the cut to a byte sees the low byte alone -/
theorem fa_byte_low (x : Int32) : (x &&& 255).toInt8 = x.toInt8 := by
  apply Int8.toBitVec_inj.1
  apply BitVec.eq_of_getLsbD_eq
  intro i hi
  have h2 : (255 : Int32).toBitVec.getLsbD i = true := by
    have : ∀ j : Fin 8, (255 : Int32).toBitVec.getLsbD j.val = true := by decide +kernel
    exact this ⟨i, hi⟩
  have h4 : (x &&& 255).toBitVec.getLsbD i = x.toBitVec.getLsbD i := by
    show (x.toBitVec &&& (255 : Int32).toBitVec).getLsbD i = _
    rw [BitVec.getLsbD_and, h2, Bool.and_true]
  have h3 : i < 32 := by omega
  first
    | (show (((x &&& 255).toBitVec).signExtend 8).getLsbD i = (x.toBitVec.signExtend 8).getLsbD i; rw [BitVec.getLsbD_signExtend, BitVec.getLsbD_signExtend, if_pos h3, if_pos h3, h4])
    | (show (((x &&& 255).toBitVec).setWidth 8).getLsbD i = (x.toBitVec.setWidth 8).getLsbD i; rw [BitVec.getLsbD_setWidth, BitVec.getLsbD_setWidth, h4])
    | (simp [hi, h3, h4]; done)
theorem fa_short_low (x : Int32) : (x &&& 65535).toInt16 = x.toInt16 := by
  apply Int16.toBitVec_inj.1
  apply BitVec.eq_of_getLsbD_eq
  intro i hi
  have h2 : (65535 : Int32).toBitVec.getLsbD i = true := by
    have : ∀ j : Fin 16, (65535 : Int32).toBitVec.getLsbD j.val = true := by decide +kernel
    exact this ⟨i, hi⟩
  have h4 : (x &&& 65535).toBitVec.getLsbD i = x.toBitVec.getLsbD i := by
    show (x.toBitVec &&& (65535 : Int32).toBitVec).getLsbD i = _
    rw [BitVec.getLsbD_and, h2, Bool.and_true]
  have h3 : i < 32 := by omega
  first
    | (show (((x &&& 65535).toBitVec).signExtend 16).getLsbD i = (x.toBitVec.signExtend 16).getLsbD i; rw [BitVec.getLsbD_signExtend, BitVec.getLsbD_signExtend, if_pos h3, if_pos h3, h4])
    | (show (((x &&& 65535).toBitVec).setWidth 16).getLsbD i = (x.toBitVec.setWidth 16).getLsbD i; rw [BitVec.getLsbD_setWidth, BitVec.getLsbD_setWidth, h4])
    | (simp [hi, h3, h4]; done)
/-- a small number is its own byte, its own short -/
theorem fa_byte_small {n : Nat} (h : n < 128) : (nI n).toInt8.toInt32 = nI n := by
  have : ∀ j : Fin 128, (nI j.val).toInt8.toInt32 = nI j.val := by decide +kernel
  exact this ⟨n, h⟩
/-! ===== absolute difference ===== -/
theorem fa_absdiff {a b : Nat} (ha : a < 2 ^ 31) (hb : b < 2 ^ 31) : (if nI a < nI b then nI b - nI a else nI a - nI b) = nI (if a < b then b - a else a - b) := by
  by_cases h : a < b
  · rw [if_pos (nI_lt h hb), if_pos h]
    exact pk_sub (Nat.le_of_lt h)
  · rw [if_neg (nI_nlt (Nat.le_of_not_lt h) ha), if_neg h]
    exact pk_sub (Nat.le_of_not_lt h)
/-! ===== an array behind i stores, a conditional store, a row copied ===== -/
/-- f where k < i, what stood there else -/
def fa_fill {α : Type} (f g : Nat → α) (i : Nat) : Nat → α := fun k => if k < i then f k else g k
theorem fa_fill_0 {α : Type} (f g : Nat → α) : fa_fill f g 0 = g := funext fun k => if_neg (Nat.not_lt_zero k)
theorem fa_fill_in {α : Type} {f g : Nat → α} {i k : Nat} (h : k < i) : fa_fill f g i k = f k := if_pos h
theorem fa_fill_out {α : Type} {f g : Nat → α} {i k : Nat} (h : i ≤ k) : fa_fill f g i k = g k := if_neg (Nat.not_lt.mpr h)
theorem fa_fill_succ (f g : Nat → Int32) (i : Nat) : upd (fa_fill f g i) i (f i) = fa_fill f g (i + 1) := by
  funext k
  by_cases e : k = i
  · subst e
    rw [pk_us]
    exact (if_pos (Nat.lt_succ_self k)).symm
  · rw [pk_un e]
    by_cases h : k < i
    · rw [fa_fill_in h, fa_fill_in (Nat.lt_succ_of_lt h)]
    · rw [fa_fill_out (Nat.le_of_not_lt h), fa_fill_out (by omega)]
/-- a store that changes nothing -/
theorem fa_upd_same {f : Nat → Int32} {i : Nat} {x : Int32} (h : f i = x) : upd f i x = f := by
  funext k
  by_cases e : k = i
  · subst e
    rw [pk_us, h]
  · rw [pk_un e]
/-- a store under a condition, told as one -/
theorem fa_upd_if (c : Prop) [Decidable c] (f : Nat → Int32) (i : Nat) (x : Int32) : (if c then upd f i x else f) = upd f i (if c then x else f i) := by
  by_cases h : c
  · rw [if_pos h, if_pos h]
  · rw [if_neg h, if_neg h, fa_upd_same rfl]
/-- two stores at one place, at two -/
theorem fa_upd_twice (f : Nat → Int32) (i : Nat) (x y : Int32) : upd (upd f i x) i y = upd f i y := by
  funext k
  by_cases e : k = i
  · subst e
    rw [pk_us, pk_us]
  · rw [pk_un e, pk_un e, pk_un e]
theorem fa_upd_swap (f : Nat → Int32) {i j : Nat} (h : i ≠ j) (x y : Int32) : upd (upd f i x) j y = upd (upd f j y) i x := by
  funext k
  by_cases e : k = i
  · subst e
    rw [pk_un h, pk_us, pk_us]
  · by_cases e2 : k = j
    · subst e2
      rw [pk_us, pk_un e, pk_us]
    · rw [pk_un e2, pk_un e, pk_un e, pk_un e2]
/-! ===== the first index with a property; a count ===== -/
/-- the first k < n with p k, n if there is none -/
def fa_first (p : Nat → Bool) : Nat → Nat
  | 0 => 0
  | n + 1 => if fa_first p n < n then fa_first p n else if p n then n else n + 1
theorem fa_first_le (p : Nat → Bool) : ∀ n, fa_first p n ≤ n
  | 0 => Nat.le_refl 0
  | n + 1 => by
    have ih := fa_first_le p n
    unfold fa_first
    split
    · omega
    · split
      · omega
      · omega
theorem fa_first_no (p : Nat → Bool) : ∀ n k, k < fa_first p n → p k = false
  | 0, k, h => absurd h (Nat.not_lt_zero k)
  | n + 1, k, h => by
    have ih := fa_first_no p n
    have hl := fa_first_le p n
    unfold fa_first at h
    split at h
    · exact ih k h
    · rename_i h1
      split at h
      · exact ih k (by omega)
      · rename_i h2
        by_cases e : k = n
        · subst e
          exact Bool.eq_false_iff.mpr h2
        · exact ih k (by omega)
theorem fa_first_yes (p : Nat → Bool) : ∀ n, fa_first p n < n → p (fa_first p n) = true
  | 0, h => absurd h (Nat.not_lt_zero _)
  | n + 1, h => by
    have ih := fa_first_yes p n
    have hl := fa_first_le p n
    unfold fa_first at h ⊢
    split at h
    · rename_i h1
      rw [if_pos h1]
      exact ih h1
    · rename_i h1
      rw [if_neg h1]
      split at h
      · rename_i h2
        rw [if_pos h2]
        exact h2
      · omega
/-- how many k < n have p k -/
def fa_cnt (p : Nat → Bool) : Nat → Nat
  | 0 => 0
  | n + 1 => fa_cnt p n + if p n then 1 else 0
theorem fa_cnt_le (p : Nat → Bool) : ∀ n, fa_cnt p n ≤ n
  | 0 => Nat.le_refl 0
  | n + 1 => by
    have ih := fa_cnt_le p n
    unfold fa_cnt
    split
    · omega
    · omega
theorem fa_cnt_yes {p : Nat → Bool} {n : Nat} (h : p n = true) : fa_cnt p (n + 1) = fa_cnt p n + 1 := by rw [fa_cnt, if_pos h]
theorem fa_cnt_no {p : Nat → Bool} {n : Nat} (h : p n = false) : fa_cnt p (n + 1) = fa_cnt p n := by rw [fa_cnt, if_neg (by rw [h]; decide)]; rfl
theorem fa_cnt_cong {p q : Nat → Bool} : ∀ {n : Nat}, (∀ k, k < n → p k = q k) → fa_cnt p n = fa_cnt q n
  | 0, _ => rfl
  | n + 1, h => by rw [fa_cnt, fa_cnt, fa_cnt_cong (fun k hk => h k (Nat.lt_succ_of_lt hk)), h n (Nat.lt_succ_self n)]
/-! ===== an answer carried into a post; a branch on a boolean answer ===== -/
theorem fa_post {α : Type} {P : α → Prop} {x y : α} (h : x = y) (hp : P y) : P x := h ▸ hp
theorem fa_post2 {α β : Type} {P : α → β → Prop} {x y : α} {u v : β} (h : x = y) (h2 : u = v) (hp : P y v) : P x u := h ▸ h2 ▸ hp
theorem fa_bool {r : Int32} {b : Bool} (h : r = if b then 1 else 0) : (r = 0 ↔ b = false) ∧ (¬ r = 0 ↔ b = true) := by
  subst h
  cases b
  · exact ⟨⟨fun _ => rfl, fun _ => rfl⟩, ⟨fun h => absurd rfl h, fun h => absurd h (by decide)⟩⟩
  · exact ⟨⟨fun h => absurd h (by decide), fun h => absurd h (by decide)⟩, ⟨fun _ => rfl, fun _ => by decide⟩⟩
/-- a boolean's narrowing changes nothing -/
theorem fa_bool_and {r : Int32} (h : r = 0 ∨ r = 1) : r &&& 1 = r := by
  rcases h with rfl | rfl
  · decide
  · decide
theorem fa_bool_prop {c : Prop} [Decidable c] {r : Int32} (h : r = if c then 1 else 0) : (r = 0 ↔ ¬ c) ∧ (¬ r = 0 ↔ c) := by
  subst h
  by_cases hc : c
  · rw [if_pos hc]
    exact ⟨⟨fun h => absurd h (by decide), fun h => absurd hc h⟩, ⟨fun _ => hc, fun _ => by decide⟩⟩
  · rw [if_neg hc]
    exact ⟨⟨fun _ => hc, fun _ => rfl⟩, ⟨fun h => absurd rfl h, fun h => absurd h hc⟩⟩
end
section
/-! base: calls of methods that only read or throw; tight rooms; what throwing needs; the two worlds -/
section QB
variable {p : Program} {l : Launch} {e : Env} {R : Room} {s : State} {m : MethodId} {args : Array Value} {below : List Frame} {meth : Method} {c : Code} {H : Heap} {locs : List Loc} {cells slots mc ms : Nat} {Q : State → Prop} {pc : Nat} {ls : Array Slot} {st0 rest : List Value} {a : Array Value} {XC : String → State → State → Prop}
theorem qb_tight {T T' : State} (X : Stand p l e R s m args below meth c T locs cells slots) (X' : Stand p l e R s m args below meth c T' locs (cells + mc) (slots + ms)) (h : T'.heap = T.heap) : Stand p l e R s m args below meth c T' locs cells slots := by
  obtain ⟨-, -, h3, -, h5, -⟩ := X.same
  obtain ⟨g1, g2, g3, g4, g5, g6⟩ := X'.same
  refine { X' with same := ⟨g1, g2, ?_, g4, ?_, g6⟩ }
  · show T'.heap.size ≤ _
    rw [h]; exact h3
  · show ((T'.heap.toList.drop s.heap.size).map (·.slots.size)).sum ≤ slots
    rw [h]; exact h5
/-- a method that may throw, and else only reads and returns nothing: behind it nothing has changed -/
theorem qb_callSv {post : Unit → Prop} (hr : vx_Run p l e R s m args below meth c H locs cells slots mc ms (F0 m pc ls st0) rest (va_Sv post a) XC (fun _ => False))
    (kx : ∀ (E : String) (ce : Cell) (q9 : Addr) (st t : State) (H1 : Heap), st.heap = H → t.heap = H1 → s.vm.Alike t.vm → XC E st t → H1[q9]? = some ce → ce.vm = .none → s.vm.findClass E = some ce.cls → vx_W p l e R s m args below meth c H1 locs (cells + mc) (slots + ms) Q (F0 m pc ls rest) q9)
    (kk : post () → W p l e R s m args below meth c H locs cells slots Q (F0 m (pc + 3) ls rest)) : W p l e R s m args below meth c H locs cells slots Q (F0 m pc ls st0) := by
  intro T hT X
  rcases hr T hT X with ⟨v, st₀, t, T', L, h0, X', hL, e1, e2, ⟨hv, hp, hh⟩, st⟩ | ⟨q, st₀, t, T', L, E, ce, h0, X', hL, e1, e2, hx, hce, hcv, hcl, st⟩
  · cases hv
    have hT' : T'.heap = H := by rw [e1, hh, h0]
    obtain ⟨t2, a1, b1⟩ := kk hp T' hT' (qb_tight X (Stand.forget X' (fun q h => (hL q h).elim)) (by rw [hT', hT]))
    exact ⟨t2, st t2 a1, b1⟩
  · obtain ⟨t2, a1, b1⟩ := kx E ce q st₀ t T'.heap h0 e1.symm (by rw [← e2]; exact X'.warmed.alike) hx (by rw [e1]; exact hce) hcv hcl T' rfl (Stand.forget X' (fun q h => (hL q h).elim))
    exact ⟨t2, st.trans a1, b1⟩
/-- .. and returns an int -/
theorem qb_callSi {post : Int32 → Prop} (hr : vx_Run p l e R s m args below meth c H locs cells slots mc ms (F0 m pc ls st0) rest (vp_Si post a) XC (fun _ => False))
    (kx : ∀ (E : String) (ce : Cell) (q9 : Addr) (st t : State) (H1 : Heap), st.heap = H → t.heap = H1 → s.vm.Alike t.vm → XC E st t → H1[q9]? = some ce → ce.vm = .none → s.vm.findClass E = some ce.cls → vx_W p l e R s m args below meth c H1 locs (cells + mc) (slots + ms) Q (F0 m pc ls rest) q9)
    (kk : ∀ r : Int32, post r → W p l e R s m args below meth c H locs cells slots Q (F0 m (pc + 3) ls (.int r :: rest))) : W p l e R s m args below meth c H locs cells slots Q (F0 m pc ls st0) := by
  intro T hT X
  rcases hr T hT X with ⟨v, st₀, t, T', L, h0, X', hL, e1, e2, ⟨r, hv, hp, hh⟩, st⟩ | ⟨q, st₀, t, T', L, E, ce, h0, X', hL, e1, e2, hx, hce, hcv, hcl, st⟩
  · cases hv
    have hT' : T'.heap = H := by rw [e1, hh, h0]
    obtain ⟨t2, a1, b1⟩ := kk r hp T' hT' (qb_tight X (Stand.forget X' (fun q h => (hL q h).elim)) (by rw [hT', hT]))
    exact ⟨t2, st t2 a1, b1⟩
  · obtain ⟨t2, a1, b1⟩ := kx E ce q st₀ t T'.heap h0 e1.symm (by rw [← e2]; exact X'.warmed.alike) hx (by rw [e1]; exact hce) hcv hcl T' rfl (Stand.forget X' (fun q h => (hL q h).elim))
    exact ⟨t2, st.trans a1, b1⟩
end QB
/-- the text constants of the class, by their places -/
def qStr : List (Nat × String) := [(66, "there is a member with this key"), (74, "there are 40 members"), (99, "it is the last key of its range"), (104, "the range is moved"), (106, "there are 8 ranges"), (120, "there is no next range"), (125, "the ranges are in different shards"), (127, "one of the ranges is moved"), (135, "the range is moved already"), (137, "the range is in this shard"), (167, "a roll is laid"), (172, "the key is not on a roll that is laid"), (180, "the latest ballot was returned"), (185, "there are 60 ballots"), (193, "the ballot is replaced or returned"), (198, "the vote of the ballot is closed"), (200, "no roll is laid"), (216, "no such key"), (219, "no such shard"), (221, "no such district"), (223, "no such range"), (225, "no such ballot"), (229, "the address is out of range"), (232, "the choice is out of range"), (234, "there is no member with this key"), (236, "the range is not moved")]
def qEx : List String := ["java/lang/IndexOutOfBoundsException", "java/lang/IllegalArgumentException", "java/lang/IllegalStateException"]
def qDe : List String := ["java/lang/RuntimeException", "java/lang/Exception", "java/lang/Throwable"]
theorem qNw_warmD {x : MethodName} {s U : State} (hW : s.WarmedH U.vm) (hZ : va_Nw (.declares x) s) : va_Nw (.declares x) U := va_tabs rfl (rfl : (s.setVm U.vm).vm = U.vm) (by rw [Cond.declares_setVm hW.alike]; exact hZ)
/-- what a throw needs of the start -/
def qTH (U : State) : Prop := vx_Zq Bundle.tN "UNASSIGNED_STACK" Bundle.steD (fun _ => False) U U.heap ∧ vx_Zq Bundle.tN "SUPPRESSED_SENTINEL" Bundle.listD (fun _ => False) U U.heap ∧ (∀ q ∈ qStr, ∃ sa : Nat, vk_R RX0 q.1 q.2 sa U) ∧ (∀ E ∈ qEx, va_Nw (.castable E E) U) ∧ ∀ Y ∈ qDe, va_Nw (.declares (Bundle.initS Y)) U
theorem qTH_at {s U : State} (h : qTH s) (hU : U.heap = s.heap) (hW : s.WarmedH U.vm) : qTH U := ⟨by rw [hU]; exact vx_Zq.moved hW.alike h.1, by rw [hU]; exact vx_Zq.moved hW.alike h.2.1, fun q hq => by obtain ⟨sa, h1⟩ := h.2.2.1 q hq; exact ⟨sa, vk_R.warm hW h1⟩, fun E hE => va_Nw.warmC hW (h.2.2.2.1 E hE), fun Y hY => qNw_warmD hW (h.2.2.2.2 Y hY)⟩
theorem qTH_call {U : State} {g : JFrame} {mk : MethodId} {a : Array Value} (h : qTH U) : qTH (U.calling g mk a) := ⟨vx_Zq.moved (u := U) (U := U.calling g mk a) (Vm.Alike.refl U.vm) h.1, vx_Zq.moved (u := U) (U := U.calling g mk a) (Vm.Alike.refl U.vm) h.2.1, fun q hq => by obtain ⟨sa, h1⟩ := h.2.2.1 q hq; exact ⟨sa, vk_R.same (u := U) (U := U.calling g mk a) rfl h1⟩, fun E hE => va_tabs (u := U) (U := U.calling g mk a) rfl rfl (h.2.2.2.1 E hE), fun Y hY => va_tabs (u := U) (U := U.calling g mk a) rfl rfl (h.2.2.2.2 Y hY)⟩
abbrev qTy (cA cZ cL : ClassId) : List (ClassId × FieldType) := [(cA, .int)]
def qPre (D : va_G) (tys : List (ClassId × FieldType)) (ws : va_W) : State → Prop := fun U => va_P D vwCl ws U.heap ∧ va_K D vwCl tys U
def qPreT (D : va_G) (tys : List (ClassId × FieldType)) (ws : va_W) : State → Prop := fun U => va_P D vwCl ws U.heap ∧ va_K D vwCl tys U ∧ qTH U
def qPreW (D : va_G) (tys : List (ClassId × FieldType)) (ws : va_W) (sz : Nat) : State → Prop := fun U => U.heap.size = sz ∧ va_P D vwCl ws U.heap ∧ va_K D vwCl tys U ∧ va_D (fun _ => True) ws
def qPreX (D : va_G) (tys : List (ClassId × FieldType)) (ws : va_W) (sz : Nat) : State → Prop := fun U => U.heap.size = sz ∧ va_P D vwCl ws U.heap ∧ va_K D vwCl tys U ∧ va_D (fun _ => True) ws ∧ qTH U
section QP
variable {D : va_G} {tys : List (ClassId × FieldType)} {ws : va_W} {av : List Value} {s : State} {H : Heap} {A : Nat → Prop}
theorem qN_blind : FrameBlind (va_Pc av (fun _ => True)) := fun a U g mk q => ⟨q.1, trivial⟩
theorem qN_at : ∀ U : State, U.heap = H → s.WarmedH U.vm → va_Pc av (fun _ => True) av.toArray U := fun U hU hW => ⟨rfl, trivial⟩
theorem qTH_blind : FrameBlind (va_Pc av qTH) := fun a U g mk q => ⟨q.1, qTH_call q.2⟩
theorem qTH_pc (hT : qTH s) (hH : H = s.heap) : ∀ U : State, U.heap = H → s.WarmedH U.vm → va_Pc av qTH av.toArray U := fun U hU hW => ⟨rfl, qTH_at hT (hU.trans hH) hW⟩
theorem qPre_blind : FrameBlind (va_Pc av (qPre D tys ws)) := fun a U g mk q => ⟨q.1, q.2.1, va_K.moved (u := U) (U := U.calling g mk a) (Vm.Alike.refl U.vm) q.2.2⟩
theorem qPre_at (hP : va_P D vwCl ws H) (hK : va_K D vwCl tys s) : ∀ U : State, U.heap = H → s.WarmedH U.vm → va_Pc av (qPre D tys ws) av.toArray U := fun U hU hW => ⟨rfl, by rw [hU]; exact hP, va_K.moved hW.alike hK⟩
theorem qPreT_blind : FrameBlind (va_Pc av (qPreT D tys ws)) := fun a U g mk q => ⟨q.1, q.2.1, va_K.moved (u := U) (U := U.calling g mk a) (Vm.Alike.refl U.vm) q.2.2.1, qTH_call q.2.2.2⟩
theorem qPreT_at (hP : va_P D vwCl ws H) (hK : va_K D vwCl tys s) (hT : qTH s) (hH : H = s.heap) : ∀ U : State, U.heap = H → s.WarmedH U.vm → va_Pc av (qPreT D tys ws) av.toArray U := fun U hU hW => ⟨rfl, by rw [hU]; exact hP, va_K.moved hW.alike hK, qTH_at hT (hU.trans hH) hW⟩
theorem qPreW_blind {sz : Nat} : FrameBlind (va_Pc av (qPreW D tys ws sz)) := fun a U g mk q => ⟨q.1, q.2.1, q.2.2.1, va_K.moved (u := U) (U := U.calling g mk a) (Vm.Alike.refl U.vm) q.2.2.2.1, q.2.2.2.2⟩
theorem qPreW_at (hP : va_P D vwCl ws H) (hK : va_K D vwCl tys s) (hD : va_D A ws) : ∀ U : State, U.heap = H → s.WarmedH U.vm → va_Pc av (qPreW D tys ws H.size) av.toArray U := fun U hU hW => ⟨rfl, by rw [hU], by rw [hU]; exact hP, va_K.moved hW.alike hK, hD.weaken (fun _ _ _ _ => trivial)⟩
theorem qPreX_blind {sz : Nat} : FrameBlind (va_Pc av (qPreX D tys ws sz)) := fun a U g mk q => ⟨q.1, q.2.1, q.2.2.1, va_K.moved (u := U) (U := U.calling g mk a) (Vm.Alike.refl U.vm) q.2.2.2.1, q.2.2.2.2.1, qTH_call q.2.2.2.2.2⟩
theorem qPreX_at (hP : va_P D vwCl ws H) (hK : va_K D vwCl tys s) (hD : va_D A ws) (hT : ∀ U : State, U.heap = H → s.WarmedH U.vm → qTH U) : ∀ U : State, U.heap = H → s.WarmedH U.vm → va_Pc av (qPreX D tys ws H.size) av.toArray U := fun U hU hW => ⟨rfl, by rw [hU], by rw [hU]; exact hP, va_K.moved hW.alike hK, hD.weaken (fun _ _ _ _ => trivial), hT U hU hW⟩
theorem qF_of {A0 : Nat → Prop} {H0 : Heap} {locs : List Loc} (hD : va_D A0 ws) (hS : va_S A0 H0 H locs) (hA : ∀ q, H0.size ≤ q → A0 q) : ∀ q, va_A ws H.size q → A0 q := by
  intro q h
  rcases h with ⟨k, e, h⟩ | h
  · exact hD.2 k _ h
  · exact hA q (Nat.le_trans hS.1 h)
end QP
/-- what a throw leaves: the class's name by P; the old heap is as it was -/
def qX (P : String → Prop) : String → State → State → Prop := fun E st t => P E ∧ st.heap.size + 1 ≤ t.heap.size ∧ ∀ q : Nat, q < st.heap.size → t.heap[q]? = st.heap[q]?
section QC
variable {p : Program} {l : Launch} {e : Env} {R : Room} {s : State} {m : MethodId} {args : Array Value} {below : List Frame} {meth : Method} {c : Code} {H : Heap} {locs : List Loc} {cells slots mc ms : Nat} {Q : State → Prop} {pc : Nat} {ls : Array Slot} {st0 rest : List Value} {a : Array Value}
variable {D : va_G} {ws : va_W} {A0 : Nat → Prop} {H0 : Heap}
abbrev qAt {S : Type} (D : va_G) (A : Nat → Prop) (wf : S → va_W) : S → State → Prop := fun u t => va_P D vwCl (wf u) t.heap ∧ va_D A (wf u)
/-- a call that may write the whole world -/
theorem qb_calli {S : Type} {post : Int32 → S → Prop} {wf : S → va_W} (hr : va_Run p l e R s m args below meth c H locs cells slots mc ms (F0 m pc ls st0) rest (va_Qi post (qAt D (va_A ws H.size) wf) (va_A ws H.size) a) (va_A ws H.size)) (hD : va_D A0 ws) (hS : va_S A0 H0 H locs) (hA : ∀ q, H0.size ≤ q → A0 q)
    (kk : ∀ (r : Int32) (u : S) (H1 : Heap) (locs1 : List Loc), post r u → va_P D vwCl (wf u) H1 → va_D A0 (wf u) → va_S A0 H0 H1 locs1 → W p l e R s m args below meth c H1 locs1 (cells + mc) (slots + ms) Q (F0 m (pc + 3) ls (.int r :: rest))) : W p l e R s m args below meth c H locs cells slots Q (F0 m pc ls st0) :=
  va_calli hr hS (fun q _ h => qF_of hD hS hA q h) (qF_of hD hS hA) (fun r u t H1 locs1 ht hvm hw hB hz hk hS1 => by
    obtain ⟨h1, h2⟩ := hB
    rw [ht] at h1
    exact kk r u H1 locs1 hw h1 (h2.weaken (fun _ _ _ h => qF_of hD hS hA _ h)) hS1)
theorem qb_callv {S : Type} {post : S → Prop} {wf : S → va_W} (hr : va_Run p l e R s m args below meth c H locs cells slots mc ms (F0 m pc ls st0) rest (va_Qv post (qAt D (va_A ws H.size) wf) (va_A ws H.size) a) (va_A ws H.size)) (hD : va_D A0 ws) (hS : va_S A0 H0 H locs) (hA : ∀ q, H0.size ≤ q → A0 q)
    (kk : ∀ (u : S) (H1 : Heap) (locs1 : List Loc), post u → va_P D vwCl (wf u) H1 → va_D A0 (wf u) → va_S A0 H0 H1 locs1 → W p l e R s m args below meth c H1 locs1 (cells + mc) (slots + ms) Q (F0 m (pc + 3) ls rest)) : W p l e R s m args below meth c H locs cells slots Q (F0 m pc ls st0) :=
  va_callv hr hS (fun q _ h => qF_of hD hS hA q h) (qF_of hD hS hA) (fun u t H1 locs1 ht hvm hw hB hz hk hS1 => by
    obtain ⟨h1, h2⟩ := hB
    rw [ht] at h1
    exact kk u H1 locs1 hw h1 (h2.weaken (fun _ _ _ h => qF_of hD hS hA _ h)) hS1)
/-- a call that may write a part of the world: the rest stays -/
theorem qb_calliP {S : Type} {post : Int32 → S → Prop} {wf : S → va_W} {wc wr : va_W} (isC isR : List Nat) (hC : isC.map (fun i => ws[i]?) = wc.map some) (hR : isR.map (fun i => ws[i]?) = wr.map some) (hn : va_nd isR = true) (hdis : ∀ i ∈ isR, i ∉ isC) (hP : va_P D vwCl ws H)
    (hr : va_Run p l e R s m args below meth c H locs cells slots mc ms (F0 m pc ls st0) rest (va_Qi post (qAt D (va_A wc H.size) wf) (va_A wc H.size) a) (va_A wc H.size)) (hD : va_D A0 ws) (hS : va_S A0 H0 H locs) (hA : ∀ q, H0.size ≤ q → A0 q)
    (kk : ∀ (r : Int32) (u : S) (H1 : Heap) (locs1 : List Loc), post r u → va_P D vwCl (wr ++ wf u) H1 → va_D A0 (wr ++ wf u) → va_S A0 H0 H1 locs1 → W p l e R s m args below meth c H1 locs1 (cells + mc) (slots + ms) Q (F0 m (pc + 3) ls (.int r :: rest))) : W p l e R s m args below meth c H locs cells slots Q (F0 m pc ls st0) :=
  have hF : ∀ q, va_A wc H.size q → A0 q := va_free hD hS hA isC hC
  va_calli hr hS (fun q _ h => hF q h) hF (fun r u t H1 locs1 ht hvm hw hB hz hk hS1 => by
    obtain ⟨h1, h2⟩ := hB
    rw [ht] at h1
    obtain ⟨g1, g2⟩ := va_join hP hD isC isR hC hR hn hdis hk hF h1 h2
    exact kk r u H1 locs1 hw g1 g2 hS1)
theorem qb_callvP {S : Type} {post : S → Prop} {wf : S → va_W} {wc wr : va_W} (isC isR : List Nat) (hC : isC.map (fun i => ws[i]?) = wc.map some) (hR : isR.map (fun i => ws[i]?) = wr.map some) (hn : va_nd isR = true) (hdis : ∀ i ∈ isR, i ∉ isC) (hP : va_P D vwCl ws H)
    (hr : va_Run p l e R s m args below meth c H locs cells slots mc ms (F0 m pc ls st0) rest (va_Qv post (qAt D (va_A wc H.size) wf) (va_A wc H.size) a) (va_A wc H.size)) (hD : va_D A0 ws) (hS : va_S A0 H0 H locs) (hA : ∀ q, H0.size ≤ q → A0 q)
    (kk : ∀ (u : S) (H1 : Heap) (locs1 : List Loc), post u → va_P D vwCl (wr ++ wf u) H1 → va_D A0 (wr ++ wf u) → va_S A0 H0 H1 locs1 → W p l e R s m args below meth c H1 locs1 (cells + mc) (slots + ms) Q (F0 m (pc + 3) ls rest)) : W p l e R s m args below meth c H locs cells slots Q (F0 m pc ls st0) :=
  have hF : ∀ q, va_A wc H.size q → A0 q := va_free hD hS hA isC hC
  va_callv hr hS (fun q _ h => hF q h) hF (fun u t H1 locs1 ht hvm hw hB hz hk hS1 => by
    obtain ⟨h1, h2⟩ := hB
    rw [ht] at h1
    obtain ⟨g1, g2⟩ := va_join hP hD isC isR hC hR hn hdis hk hF h1 h2
    exact kk u H1 locs1 hw g1 g2 hS1)
end QC
/-! the two worlds: numbers by the field's place (f), rows by the field's place (g), addresses of rows by the same, the object itself behind -/
abbrev qFs : Type := Nat → Int32
abbrev qGs : Type := Nat → Nat → Int32
def xFs (ad : Nat → Nat) (f : qFs) : List Value := [.ref (ad 0), .int (f 1), .ref (ad 2), .ref (ad 3), .ref (ad 4), .int (f 5), .ref (ad 6), .int (f 7), .int (f 8), .ref (ad 9), .ref (ad 10), .ref (ad 11), .ref (ad 12), .ref (ad 13), .ref (ad 14), .int (f 15)]
def xW (cA : ClassId) (ad : Nat → Nat) (f : qFs) (g : qGs) : va_W := [(ad 16, .inr (0, xFs ad f)), (ad 0, .inl (cA, 400, .inl (g 0))), (ad 2, .inl (cA, 8, .inl (g 2))), (ad 3, .inl (cA, 8, .inl (g 3))), (ad 4, .inl (cA, 8, .inl (g 4))), (ad 6, .inl (cA, 100, .inl (g 6))), (ad 9, .inl (cA, 60, .inl (g 9))), (ad 10, .inl (cA, 60, .inl (g 10))), (ad 11, .inl (cA, 60, .inl (g 11))), (ad 12, .inl (cA, 60, .inl (g 12))), (ad 13, .inl (cA, 60, .inl (g 13))), (ad 14, .inl (cA, 60, .inl (g 14)))]
/-- a truth as the machine holds it -/
def bI (P : Prop) [Decidable P] : Int32 := if P then 1 else 0
theorem bI_0 {P : Prop} [Decidable P] : bI P = 0 ↔ ¬ P := by unfold bI; by_cases h : P <;> simp [h]
theorem bI_n {P : Prop} [Decidable P] : ¬ bI P = 0 ↔ P := by unfold bI; by_cases h : P <;> simp [h]
theorem bI_t {P : Prop} [Decidable P] (h : P) : bI P = 1 := by simp [bI, h]
theorem bI_f {P : Prop} [Decidable P] (h : ¬ P) : bI P = 0 := by simp [bI, h]
theorem bI_nar {P : Prop} [Decidable P] : narrow .boolean (.int (bI P)) = .int (bI P) := by unfold bI; by_cases h : P <;> simp [h] <;> rfl
theorem ar_noT {P : String → Prop} {st t : State} {E : String} (h1 : P E) (h2 : st.heap.size + 1 ≤ t.heap.size) (h3 : ∀ q : Nat, q < st.heap.size → t.heap[q]? = st.heap[q]?) : qX P E st t := ⟨h1, h2, h3⟩
def qBad (E : String) : List Cond := [Cond.castable E E, Cond.declares (Bundle.initS "java/lang/RuntimeException"), Cond.declares (Bundle.initS "java/lang/Exception"), Cond.declares (Bundle.initS "java/lang/Throwable")]
theorem qBad_of {args : Array Value} {s : State} (h : qTH s) {E : String} (hE : E ∈ qEx) : ∀ w ∈ qBad E, w.before args s = true := by
  intro w hw
  have hc := h.2.2.2.1 E hE
  have hd := h.2.2.2.2
  rcases List.mem_cons.mp hw with rfl | hw
  · exact va_Nw.use (A := args) rfl hc
  · rcases List.mem_cons.mp hw with rfl | hw
    · exact va_Nw.use (A := args) rfl (hd _ (by decide))
    · rcases List.mem_cons.mp hw with rfl | hw
      · exact va_Nw.use (A := args) rfl (hd _ (by decide))
      · rcases List.mem_cons.mp hw with rfl | hw
        · exact va_Nw.use (A := args) rfl (hd _ (by decide))
        · cases hw
end
section
/-! what the class's small methods answer, in the words of its state -/
theorem qw1 : ∀ w ∈ (vx_atS RX0 218 "java/lang/IndexOutOfBoundsException" ["java/lang/RuntimeException", "java/lang/Exception"]).filter (fun w => !goodWord w), w ∈ qBad "java/lang/IndexOutOfBoundsException" := by decide +kernel
theorem qw2 : ∀ w ∈ (vx_atS RX0 231 "java/lang/IllegalArgumentException" ["java/lang/RuntimeException", "java/lang/Exception"]).filter (fun w => !goodWord w), w ∈ qBad "java/lang/IllegalArgumentException" := by decide +kernel
theorem qw3 : ∀ w ∈ (vx_atS RX0 68 "java/lang/IllegalStateException" ["java/lang/RuntimeException", "java/lang/Exception"]).filter (fun w => !goodWord w), w ∈ qBad "java/lang/IllegalStateException" := by decide +kernel
theorem qg1 : ∀ w ∈ Cond.classLink RX0 214 "java/lang/IndexOutOfBoundsException" :: Cond.initialized "java/lang/IndexOutOfBoundsException" :: vx_atS RX0 218 "java/lang/IndexOutOfBoundsException" ["java/lang/RuntimeException", "java/lang/Exception"], vx_ot w = true := by decide +kernel
theorem qg2 : ∀ w ∈ Cond.classLink RX0 227 "java/lang/IllegalArgumentException" :: Cond.initialized "java/lang/IllegalArgumentException" :: vx_atS RX0 231 "java/lang/IllegalArgumentException" ["java/lang/RuntimeException", "java/lang/Exception"], vx_ot w = true := by decide +kernel
theorem qg3 : ∀ w ∈ Cond.classLink RX0 64 "java/lang/IllegalStateException" :: Cond.initialized "java/lang/IllegalStateException" :: vx_atS RX0 68 "java/lang/IllegalStateException" ["java/lang/RuntimeException", "java/lang/Exception"], vx_ot w = true := by decide +kernel
theorem qX_pass {P P' : String → Prop} {E : String} {st s t t2 : State} {H H1 : Heap} (h : qX P E st t) (hst : st.heap = H) (hH : H = s.heap) (ht : t.heap = H1) (h2 : t2.heap = H1) (hp : P E → P' E) : qX P' E s t2 := by
  obtain ⟨a, b, c⟩ := h
  rw [hst, hH, ht, ← h2] at b c
  exact ⟨hp a, b, c⟩
theorem n_lt {a b : Nat} (h : ¬ nI b ≤ nI a) (ha : a < 2 ^ 31) : a < b := by
  rcases Nat.lt_or_ge a b with q | q
  · exact q
  · exact absurd (nI_le q ha) h
theorem n_ge {a b : Nat} (h : nI b ≤ nI a) (ha : a < 2 ^ 31) (hb : b < 2 ^ 31) : b ≤ a := (nI_leI hb ha).mp h
abbrev xKey (k : Int32) : Prop := 0 ≤ k ∧ k < 100
abbrev xShard (s : Int32) : Prop := 0 ≤ s ∧ s < 4
abbrev xRange (f : qFs) (r : Int32) : Prop := 0 ≤ r ∧ r < f 5
abbrev xBallot (f : qFs) (b : Int32) : Prop := 0 ≤ b ∧ b < f 15
def xI (R B : Nat) (f : qFs) : Prop := f 5 = nI R ∧ 1 ≤ R ∧ R ≤ 8 ∧ f 15 = nI B ∧ B ≤ 60
theorem i_of {x : Int32} {n : Nat} (hn : n < 2 ^ 31) (h : ¬ x < 0) (h2 : ¬ nI n ≤ x) : vp_in x n := by
  rw [vp_in_iff]
  rw [fa_lt] at h
  rw [fa_le, nI_toInt hn] at h2
  have h0 : (0 : Int32).toInt = 0 := rfl
  omega
theorem i_and {a b x : Int32} (h1 : ¬ x < a) (h2 : ¬ b ≤ x) : a ≤ x ∧ x < b := by
  rw [fa_lt] at h1; rw [fa_le] at h2
  rw [fa_le, fa_lt]
  omega
theorem i_nl {a b x : Int32} (h : x < a) : ¬ (a ≤ x ∧ x < b) := fun q => by
  have h1 := q.1
  rw [fa_lt] at h; rw [fa_le] at h1
  omega
theorem i_nr {a b x : Int32} (h : b ≤ x) : ¬ (a ≤ x ∧ x < b) := fun q => by
  have h1 := q.2
  rw [fa_le] at h; rw [fa_lt] at h1
  omega
theorem i_in {x y : Int32} {n : Nat} (hn : n < 2 ^ 31) (h : 0 ≤ x ∧ x < y) (hy : y ≤ nI n) : vp_in x n := by
  rw [vp_in_iff]
  obtain ⟨h1, h2⟩ := h
  rw [fa_le] at h1 hy; rw [fa_lt] at h2; rw [nI_toInt hn] at hy
  have h0 : (0 : Int32).toInt = 0 := rfl
  omega
theorem x_in8 {R B : Nat} {f : qFs} {r : Int32} (hI : xI R B f) (h : xRange f r) : vp_in r 8 := i_in (by decide) h (by rw [hI.1]; exact nI_le hI.2.2.1 (by decide))
theorem x_in60 {R B : Nat} {f : qFs} {r : Int32} (hI : xI R B f) (h : xBallot f r) : vp_in r 60 := i_in (by decide) h (by rw [hI.2.2.2.1]; exact nI_le hI.2.2.2.2 (by decide))
theorem x_inT {s k : Int32} (h1 : xShard s) (h2 : xKey k) : vp_in (s * 100 + k) 400 := by
  obtain ⟨a, ha, rfl⟩ := nI_of2 (x := s) (M := 3) (n := 3) rfl (fun q => by have h := h1.1; rw [fa_lt] at q; rw [fa_le] at h; omega) (by have h := h1.2; rw [fa_lt] at h; rw [fa_le]; have e1 : (4 : Int32).toInt = 4 := rfl; have e2 : (3 : Int32).toInt = 3 := rfl; omega)
  obtain ⟨b, hb, rfl⟩ := nI_of2 (x := k) (M := 99) (n := 99) rfl (fun q => by have h := h2.1; rw [fa_lt] at q; rw [fa_le] at h; omega) (by have h := h2.2; rw [fa_lt] at h; rw [fa_le]; have e1 : (100 : Int32).toInt = 100 := rfl; have e2 : (99 : Int32).toInt = 99 := rfl; omega)
  have e : nI a * 100 + nI b = nI (a * 100 + b) := by
    rw [show (100 : Int32) = nI 100 from rfl, pk_mul, nI_add]
  rw [e]
  exact vp_in_nI (by omega) (by decide)
def xHome (f : qFs) (g : qGs) (r : Int32) : Int32 := if xRange f r then g 3 r.toNatClampNeg else -1
def xTarg (f : qFs) (g : qGs) (r : Int32) : Int32 := if xRange f r then g 4 r.toNatClampNeg else -1
def xLast (f : qFs) (g : qGs) (r : Int32) : Int32 := if xRange f r then g 2 r.toNatClampNeg else -1
def xFirst (f : qFs) (g : qGs) (r : Int32) : Int32 := if r = 0 then 0 else xLast f g (r - 1) + 1
def xRowOf (g : qGs) (s k : Int32) : Int32 := if xShard s ∧ xKey k then g 0 (s * 100 + k).toNatClampNeg else -1
def xHoldN (last : Nat → Int32) (k : Int32) : Nat → Nat → Nat
  | i, 0 => i
  | i, n + 1 => if k ≤ last i then i else xHoldN last k (i + 1) n
def xHold (R : Nat) (g : qGs) (k : Int32) : Nat := xHoldN (g 2) k 0 (R - 1)
def xRead (R : Nat) (f : qFs) (g : qGs) (k : Int32) : Int32 := xRowOf g (xHome f g (nI (xHold R g k))) k
def xDist (a : Int32) : Int32 := if a = -1 then -1 else a / 10
def cntR (p : Nat → Bool) : Nat → Nat → Nat
  | _, 0 => 0
  | lo, n + 1 => (if p lo = true then 1 else 0) + cntR p (lo + 1) n
def cnt (p : Nat → Bool) (lo hi : Nat) : Nat := cntR p lo (hi - lo)
theorem cnt_end {p : Nat → Bool} {lo hi : Nat} (h : hi ≤ lo) : cnt p lo hi = 0 := by
  unfold cnt; rw [Nat.sub_eq_zero_of_le h]; rfl
theorem cnt_step {p : Nat → Bool} {lo hi : Nat} (h : lo < hi) : cnt p lo hi = (if p lo = true then 1 else 0) + cnt p (lo + 1) hi := by
  unfold cnt
  rw [show hi - lo = (hi - (lo + 1)) + 1 by omega]; rfl
theorem cnt_y {p : Nat → Bool} {lo hi : Nat} (h : lo < hi) (hp : p lo = true) : cnt p lo hi = 1 + cnt p (lo + 1) hi := by rw [cnt_step h, if_pos hp]
theorem cnt_n {p : Nat → Bool} {lo hi : Nat} (h : lo < hi) (hp : ¬ p lo = true) : cnt p lo hi = cnt p (lo + 1) hi := by rw [cnt_step h, if_neg hp, Nat.zero_add]
/-- one behind the last key up to l that there is -/
def hiOf (l : Int32) : Nat := if l < 0 then 0 else min (l.toNatClampNeg + 1) 100
theorem x_R1 {nR nB : Nat} {f : qFs} (hI : xI nR nB f) : f 5 - 1 = nI (nR - 1) := by
  rw [hI.1]; exact pk_sub (b := 1) hI.2.1
theorem x_B1 {nR nB : Nat} {f : qFs} (hI : xI nR nB f) : f 15 - 1 = nI nB - 1 := by rw [hI.2.2.2.1]
theorem xHold_y {last : Nat → Int32} {k : Int32} {i n : Nat} (h : i < n) (hk : k ≤ last i) : xHoldN last k i (n - i) = i := by
  rw [show n - i = (n - (i + 1)) + 1 by omega]
  show (if k ≤ last i then i else _) = i
  rw [if_pos hk]
theorem xHold_n {last : Nat → Int32} {k : Int32} {i n : Nat} (h : i < n) (hk : ¬ k ≤ last i) : xHoldN last k i (n - i) = xHoldN last k (i + 1) (n - (i + 1)) := by
  rw [show n - i = (n - (i + 1)) + 1 by omega]
  show (if k ≤ last i then i else _) = _
  rw [if_neg hk]
theorem xHold_e {last : Nat → Int32} {k : Int32} {i n : Nat} (h : n ≤ i) : xHoldN last k i (n - i) = i := by
  rw [Nat.sub_eq_zero_of_le h]; rfl
theorem hi_le (l : Int32) : hiOf l ≤ 100 := by unfold hiOf; split <;> omega
theorem hi_out {l : Int32} {k : Nat} (h : l < nI k) (hk : k < 2 ^ 31) : hiOf l ≤ k := by
  unfold hiOf
  split
  · omega
  · rename_i h0
    obtain ⟨j, hj, rfl⟩ := nI_of h0
    rw [nI_ltI hj hk] at h
    rw [nI_clamp hj]
    omega
theorem hi_in {l : Int32} {k : Nat} (h : ¬ l < nI k) (h2 : ¬ (100 : Int32) ≤ nI k) (hk : k < 2 ^ 31) : k < hiOf l := by
  have h3 : k < 100 := by
    rw [show (100 : Int32) = nI 100 from rfl, nI_leI (by decide) hk] at h2
    omega
  unfold hiOf
  split
  · rename_i h0
    exact absurd (by rw [fa_lt] at h0 ⊢; rw [nI_toInt hk]; have e0 : (0 : Int32).toInt = 0 := rfl; omega) h
  · rename_i h0
    obtain ⟨j, hj, rfl⟩ := nI_of h0
    rw [nI_ltI hj hk] at h
    rw [nI_clamp hj]
    omega
abbrev xOpen (f : qFs) (g : qGs) (b : Int32) : Prop := ¬ f 7 = 0 ∧ xBallot f b ∧ g 10 b.toNatClampNeg = f 8
def xLatN (p : Nat → Bool) : Nat → Int32
  | 0 => -1
  | n + 1 => if p n = true then nI n else xLatN p n
abbrev xLatP (f : qFs) (g : qGs) (k : Int32) : Nat → Bool := fun j => decide (xOpen f g (nI j) ∧ g 9 j = k)
abbrev xRowP (g : qGs) (sh : Int32) : Nat → Bool := fun j => decide (¬ xRowOf g sh (nI j) = -1)
def upN (p : Nat → Bool) : Nat → Nat → Int32
  | _, 0 => -1
  | lo, n + 1 => if p lo = true then nI lo else upN p (lo + 1) n
theorem upN_e {p : Nat → Bool} {lo hi : Nat} (h : hi ≤ lo) : upN p lo (hi - lo) = -1 := by rw [Nat.sub_eq_zero_of_le h]; rfl
theorem upN_y {p : Nat → Bool} {lo hi : Nat} (h : lo < hi) (hp : p lo = true) : upN p lo (hi - lo) = nI lo := by
  rw [show hi - lo = (hi - (lo + 1)) + 1 by omega]
  show (if p lo = true then _ else _) = _
  rw [if_pos hp]
theorem upN_n {p : Nat → Bool} {lo hi : Nat} (h : lo < hi) (hp : ¬ p lo = true) : upN p lo (hi - lo) = upN p (lo + 1) (hi - (lo + 1)) := by
  rw [show hi - lo = (hi - (lo + 1)) + 1 by omega]
  show (if p lo = true then _ else _) = _
  rw [if_neg hp]
abbrev xLowP (f : qFs) (g : qGs) (r : Int32) : Nat → Bool := fun j => decide (¬ xRowOf g (xHome f g r) (nI j) = -1 ∧ xRowOf g (xTarg f g r) (nI j) = -1)
theorem dt {P : Prop} [Decidable P] (h : P) : decide P = true := decide_eq_true h
theorem df {P : Prop} [Decidable P] (h : ¬ P) : ¬ decide P = true := fun q => h (of_decide_eq_true q)
theorem latN_out {i : Nat} (hi : i ≤ 60) (h : nI i - 1 < 0) : i = 0 := by
  cases i with
  | zero => rfl
  | succ j =>
    rw [nI_pred] at h
    exact absurd h (nI_pos (by omega))
theorem latN_in {i : Nat} (h : ¬ nI i - 1 < 0) : ∃ j, i = j + 1 := by
  cases i with
  | zero => exact absurd (by decide) h
  | succ j => exact ⟨j, rfl⟩
theorem up_self {α : Type} (g : Nat → α) (k : Nat) : va_up g k (g k) = g := by
  funext j
  unfold va_up
  split
  · rename_i h; rw [h]
  · rfl
def xPut (row : Nat → Int32) (sh k a : Int32) : Nat → Int32 := if xShard sh ∧ xKey k then upd row (sh * 100 + k).toNatClampNeg a else row
def xPutG (g : qGs) (sh k a : Int32) : qGs := va_up g 0 (xPut (g 0) sh k a)
def xWriteG (R : Nat) (f : qFs) (g : qGs) (k a : Int32) : qGs := xPutG (xPutG g (xHome f g (nI (xHold R g k))) k a) (xTarg f g (nI (xHold R g k))) k a
def xDropN (sh : Int32) : qGs → Nat → Nat → qGs
  | g, _, 0 => g
  | g, lo, n + 1 => xDropN sh (xPutG g sh (nI lo) (-1)) (lo + 1) n
theorem xDropN_e {sh : Int32} {g : qGs} {lo hi : Nat} (h : hi ≤ lo) : xDropN sh g lo (hi - lo) = g := by rw [Nat.sub_eq_zero_of_le h]; rfl
theorem xDropN_s {sh : Int32} {g : qGs} {lo hi : Nat} (h : lo < hi) : xDropN sh g lo (hi - lo) = xDropN sh (xPutG g sh (nI lo) (-1)) (lo + 1) (hi - (lo + 1)) := by
  rw [show hi - lo = (hi - (lo + 1)) + 1 by omega]; rfl
def xCopyG (g : qGs) (i j : Nat) : qGs := va_up (va_up (va_up g 2 (upd (g 2) j (g 2 i))) 3 (upd (g 3) j (g 3 i))) 4 (upd (g 4) j (g 4 i))
def xUpG (r : Nat) : qGs → Nat → qGs
  | g, 0 => g
  | g, n + 1 => xUpG r (xCopyG g (r + n) (r + n + 1)) n
def xDnG : qGs → Nat → Nat → qGs
  | g, _, 0 => g
  | g, t, n + 1 => xDnG (xCopyG g (t + 1) t) (t + 1) n
theorem xDnG_e {g : qGs} {lo hi : Nat} (h : hi ≤ lo) : xDnG g lo (hi - lo) = g := by rw [Nat.sub_eq_zero_of_le h]; rfl
theorem xDnG_s {g : qGs} {lo hi : Nat} (h : lo < hi) : xDnG g lo (hi - lo) = xDnG (xCopyG g (lo + 1) lo) (lo + 1) (hi - (lo + 1)) := by
  rw [show hi - lo = (hi - (lo + 1)) + 1 by omega]; rfl
theorem i_m1 (x : Int32) : x + Int32.ofInt (-1) = x - 1 := by rw [Int32.sub_eq_add_neg]; rfl
theorem i_p1 (x : Int32) : x + Int32.ofInt 1 = x + 1 := rfl
abbrev eIO : String := "java/lang/IndexOutOfBoundsException"
abbrev eIA : String := "java/lang/IllegalArgumentException"
abbrev eIS : String := "java/lang/IllegalStateException"
abbrev xAdr (a : Int32) : Prop := 0 ≤ a ∧ a < 40
abbrev xCho (c : Int32) : Prop := 0 ≤ c ∧ c < 3
theorem i_and2 {a b x : Int32} (h1 : ¬ x < a) (h2 : x < b) : a ≤ x ∧ x < b := ⟨fa_of_nlt h1, h2⟩
theorem x_nat {nR nB : Nat} {f : qFs} {r : Int32} (hI : xI nR nB f) (h : xRange f r) : ∃ n : Nat, n < nR ∧ r = nI n := by
  have h0 : ¬ r < 0 := fun q => by have h1 := h.1; rw [fa_lt] at q; rw [fa_le] at h1; omega
  obtain ⟨j, hj, rfl⟩ := nI_of h0
  have h2 := h.2
  have hR := hI.2.2.1
  rw [hI.1, nI_ltI hj (by omega)] at h2
  exact ⟨j, h2, rfl⟩
theorem k_nat {k : Int32} (h : xKey k) : ∃ n : Nat, n < 100 ∧ k = nI n := by
  have h0 : ¬ k < 0 := fun q => by have h1 := h.1; rw [fa_lt] at q; rw [fa_le] at h1; omega
  obtain ⟨j, hj, rfl⟩ := nI_of h0
  have h2 := h.2
  rw [show (100 : Int32) = nI 100 from rfl, nI_ltI hj (by decide)] at h2
  exact ⟨j, h2, rfl⟩
theorem x_in100 {k : Int32} (h : xKey k) : vp_in k 100 := i_in (by decide) h (by decide)
theorem xHome_of {f : qFs} {g : qGs} {r : Int32} (h : xRange f r) : xHome f g r = g 3 r.toNatClampNeg := if_pos h
theorem xTarg_of {f : qFs} {g : qGs} {r : Int32} (h : xRange f r) : xTarg f g r = g 4 r.toNatClampNeg := if_pos h
theorem xHoldN_le (last : Nat → Int32) (k : Int32) : ∀ (n i : Nat), xHoldN last k i n ≤ i + n
  | 0, i => Nat.le_refl _
  | n + 1, i => by
    show (if k ≤ last i then i else xHoldN last k (i + 1) n) ≤ _
    have := xHoldN_le last k n (i + 1)
    split <;> omega
theorem xHold_lt {nR nB : Nat} {f : qFs} (hI : xI nR nB f) (g : qGs) (k : Int32) : xHold nR g k < nR := by
  have h1 := hI.2.1
  have := xHoldN_le (g 2) k (nR - 1) 0
  unfold xHold
  omega
theorem x_R8 {nR nB : Nat} {f : qFs} (hI : xI nR nB f) (h : f 5 < 8) : nR < 8 := by
  have h8 := hI.2.2.1
  rw [hI.1, show (8 : Int32) = nI 8 from rfl, nI_ltI (by omega) (by decide)] at h
  exact h
theorem x_B60 {nR nB : Nat} {f : qFs} (hI : xI nR nB f) (h : f 15 < 60) : nB < 60 := by
  have h8 := hI.2.2.2.2
  rw [hI.2.2.2.1, show (60 : Int32) = nI 60 from rfl, nI_ltI (by omega) (by decide)] at h
  exact h
/-- the last keys are keys -/
def xL (nR : Nat) (g : qGs) : Prop := ∀ i, i < nR → ∃ j : Nat, j < 100 ∧ g 2 i = nI j
theorem x_first {nR nB : Nat} {f : qFs} {g : qGs} {r : Int32} (hI : xI nR nB f) (hL : xL nR g) (h : xRange f r) : ∃ lo : Nat, lo ≤ 100 ∧ xFirst f g r = nI lo := by
  obtain ⟨n, hn, rfl⟩ := x_nat hI h
  have hR := hI.2.2.1
  unfold xFirst
  cases n with
  | zero => exact ⟨0, by omega, by rw [if_pos (show nI 0 = 0 from rfl)]; rfl⟩
  | succ m =>
    rw [if_neg (nI_ne0 (by omega) (by omega)), nI_pred]
    unfold xLast
    rw [if_pos ⟨nI_pos' (by omega), by rw [hI.1]; exact nI_lt (by omega) (by omega)⟩, nI_clamp (by omega)]
    obtain ⟨j, hj, e⟩ := hL m (by omega)
    exact ⟨j + 1, by omega, by rw [e, nI_1]⟩
theorem hi99 : hiOf 99 = 100 := by decide
def xDropG (f : qFs) (g : qGs) (sh r : Int32) : qGs := xDropN sh g (xFirst f g r).toNatClampNeg (hiOf (xLast f g r) - (xFirst f g r).toNatClampNeg)
def xStepK (f : qFs) (g : qGs) (r : Int32) : Int32 := upN (xLowP f g r) (xFirst f g r).toNatClampNeg (hiOf (xLast f g r) - (xFirst f g r).toNatClampNeg)
def xMany (f : qFs) (g : qGs) (sh r : Int32) : Int32 := nI (cnt (xRowP g sh) (xFirst f g r).toNatClampNeg (hiOf (xLast f g r)))
def xStepG (f : qFs) (g : qGs) (r : Int32) : qGs := if xStepK f g r = -1 then va_up (va_up (xDropG f g (xHome f g r) r) 3 (upd (xDropG f g (xHome f g r) r 3) r.toNatClampNeg (xTarg f g r))) 4 (upd (xDropG f g (xHome f g r) r 4) r.toNatClampNeg (-1)) else xPutG g (xTarg f g r) (xStepK f g r) (xRowOf g (xHome f g r) (xStepK f g r))
def xSendL (f : qFs) (g : qGs) (nB : Nat) (k : Int32) : Int32 := xLatN (xLatP f g k) nB
def xSendS (f : qFs) (g : qGs) (nB : Nat) (k : Int32) : Nat → Int32 := if xBallot f (xSendL f g nB k) then upd (g 13) (xSendL f g nB k).toNatClampNeg 1 else g 13
theorem fix_step (k : Nat) (p q : Nat → Int32) : upd (fun j => if j < k then p j else q j) k (p k) = fun j => if j < k + 1 then p j else q j := by
  funext j
  unfold upd
  by_cases h : j = k
  · subst h; rw [if_pos rfl, if_pos (by omega)]
  · rw [if_neg h]
    by_cases h2 : j < k
    · show (if j < k then p j else q j) = _
      rw [if_pos h2, if_pos (by omega)]
    · show (if j < k then p j else q j) = _
      rw [if_neg h2, if_neg (by omega)]
theorem send_perm (g : qGs) (a b c d e : Nat → Int32) : va_up (va_up (va_up (va_up (va_up g 9 a) 10 b) 11 c) 12 d) 13 e = va_up (va_up (va_up (va_up (va_up g 9 a) 10 b) 11 c) 12 d) 13 e := rfl
theorem send_perm2 (g : qGs) (a b c d e : Nat → Int32) : va_up (va_up (va_up (va_up (va_up g 13 e) 9 a) 10 b) 11 c) 12 d = va_up (va_up (va_up (va_up (va_up g 9 a) 10 b) 11 c) 12 d) 13 e := by
  funext j
  unfold va_up
  by_cases h : j = 13
  · subst h; rfl
  · simp only [if_neg h]
theorem x_rangeAt {f : qFs} {nR i : Nat} (hR : f 5 = nI nR) (h8 : nR ≤ 8) (h : i < nR) : xRange f (nI i) := ⟨nI_pos' (by omega), by rw [hR]; exact nI_lt (by omega) (by omega)⟩
theorem x_lastAt {f : qFs} {g : qGs} {nR i : Nat} (hR : f 5 = nI nR) (h8 : nR ≤ 8) (h : i < nR) : xLast f g (nI i) = g 2 i := by
  unfold xLast
  rw [if_pos (x_rangeAt hR h8 h), nI_clamp (by omega)]
end
section
set_option maxHeartbeats 4000000 in
set_option maxRecDepth 100000 in
/-- a key -/
theorem c_X0_isKey (l : Launch) (k : Int32) : Met l yX0_isKey wsX0_isKey ({ frames := 0, cells := 0, slots := 0, locals := 0 } : Room) (va_Pc [.int k] (fun _ => True)) (vp_Si (fun z => z = bI (xKey k))) 0 0 (fun _ => False) := by
  refine Met.ofW (cc := cX0_isKey) (maxL := 1) (ret := (some .boolean)) (by decide) rfl ?_
  intro p e s m args below meth c s₁ B hml hv
  obtain ⟨rfl, -⟩ := hv
  have hx := B.exec
  have hb := B.bytes
  have hr := B.returns
  have hts := atoms_spec (ws := wsX0_isKey) B.pre
  have hown : s.vm.findClass RX0 = some m.cls := findClass_of_methodNamed B.named
  have hlocks := B.notSynchronized
  have hl := lv_entry ([.int k]) (n := 1) (Nat.le_of_ble_eq_true rfl)
  rw [lg_entry_eq]
  generalize (lg_sl ([.int k]) ++ List.replicate (1 - (lg_sl ([.int k])).length) Slot.unset).toArray = ls at hl ⊢
  have hl : lv_has ls 1 [(0, .int k)] := hl
  refine lv_iload_n hx hb dX0_isKey_0 rfl (lv_at hl 0 rfl) ?_
  refine lv_if_lt (tgt := 14) hx hb dX0_isKey_1 (by decide) (fun c_1 => ?_) (fun c_1 => ?_)
  · skip
    refine lv_iconst (v := 0) hx hb dX0_isKey_14 (by decide) ?_
    exact W.zret (v := 0) hx hb hr rfl (fun t ht hW => ⟨0, rfl, (bI_f (i_nl c_1)).symm, ht⟩) (fun q h => nomatch h) dX0_isKey_15
  · skip
    refine lv_iload_n hx hb dX0_isKey_4 rfl (lv_at hl 0 rfl) ?_
    refine lv_bipush (v := 100) hx hb dX0_isKey_5 (by decide) ?_
    refine lv_icmp_ge (tgt := 14) hx hb dX0_isKey_7 (by decide) (fun c_7 => ?_) (fun c_7 => ?_)
    · skip
      refine lv_iconst (v := 0) hx hb dX0_isKey_14 (by decide) ?_
      exact W.zret (v := 0) hx hb hr rfl (fun t ht hW => ⟨0, rfl, (bI_f (i_nr c_7)).symm, ht⟩) (fun q h => nomatch h) dX0_isKey_15
    · skip
      refine lv_iconst (v := 1) hx hb dX0_isKey_10 (by decide) ?_
      refine lv_goto (tgt := 15) hx hb dX0_isKey_11 (by decide) ?_
      exact W.zret (v := 1) hx hb hr rfl (fun t ht hW => ⟨1, rfl, (bI_t (i_and c_1 c_7)).symm, ht⟩) (fun q h => nomatch h) dX0_isKey_15
set_option maxHeartbeats 4000000 in
set_option maxRecDepth 100000 in
/-- a shard -/
theorem c_X0_isShard (l : Launch) (k : Int32) : Met l yX0_isShard wsX0_isShard ({ frames := 0, cells := 0, slots := 0, locals := 0 } : Room) (va_Pc [.int k] (fun _ => True)) (vp_Si (fun z => z = bI (xShard k))) 0 0 (fun _ => False) := by
  refine Met.ofW (cc := cX0_isShard) (maxL := 1) (ret := (some .boolean)) (by decide) rfl ?_
  intro p e s m args below meth c s₁ B hml hv
  obtain ⟨rfl, -⟩ := hv
  have hx := B.exec
  have hb := B.bytes
  have hr := B.returns
  have hts := atoms_spec (ws := wsX0_isShard) B.pre
  have hown : s.vm.findClass RX0 = some m.cls := findClass_of_methodNamed B.named
  have hlocks := B.notSynchronized
  have hl := lv_entry ([.int k]) (n := 1) (Nat.le_of_ble_eq_true rfl)
  rw [lg_entry_eq]
  generalize (lg_sl ([.int k]) ++ List.replicate (1 - (lg_sl ([.int k])).length) Slot.unset).toArray = ls at hl ⊢
  have hl : lv_has ls 1 [(0, .int k)] := hl
  refine lv_iload_n hx hb dX0_isShard_0 rfl (lv_at hl 0 rfl) ?_
  refine lv_if_lt (tgt := 13) hx hb dX0_isShard_1 (by decide) (fun c_1 => ?_) (fun c_1 => ?_)
  · skip
    refine lv_iconst (v := 0) hx hb dX0_isShard_13 (by decide) ?_
    exact W.zret (v := 0) hx hb hr rfl (fun t ht hW => ⟨0, rfl, (bI_f (i_nl c_1)).symm, ht⟩) (fun q h => nomatch h) dX0_isShard_14
  · skip
    refine lv_iload_n hx hb dX0_isShard_4 rfl (lv_at hl 0 rfl) ?_
    refine lv_iconst (v := 4) hx hb dX0_isShard_5 (by decide) ?_
    refine lv_icmp_ge (tgt := 13) hx hb dX0_isShard_6 (by decide) (fun c_6 => ?_) (fun c_6 => ?_)
    · skip
      refine lv_iconst (v := 0) hx hb dX0_isShard_13 (by decide) ?_
      exact W.zret (v := 0) hx hb hr rfl (fun t ht hW => ⟨0, rfl, (bI_f (i_nr c_6)).symm, ht⟩) (fun q h => nomatch h) dX0_isShard_14
    · skip
      refine lv_iconst (v := 1) hx hb dX0_isShard_9 (by decide) ?_
      refine lv_goto (tgt := 14) hx hb dX0_isShard_10 (by decide) ?_
      exact W.zret (v := 1) hx hb hr rfl (fun t ht hW => ⟨1, rfl, (bI_t (i_and c_1 c_6)).symm, ht⟩) (fun q h => nomatch h) dX0_isShard_14
set_option maxHeartbeats 4000000 in
set_option maxRecDepth 100000 in
/-- the district of an address -/
theorem c_X0_districtOf (l : Launch) (a : Int32) : Met l yX0_districtOf wsX0_districtOf ({ frames := 0, cells := 0, slots := 0, locals := 0 } : Room) (va_Pc [.int a] (fun _ => True)) (vp_Si (fun z => z = xDist a)) 0 0 (fun _ => False) := by
  refine Met.ofW (cc := cX0_districtOf) (maxL := 1) (ret := (some .int)) (by decide) rfl ?_
  intro p e s m args below meth c s₁ B hml hv
  obtain ⟨rfl, -⟩ := hv
  have hx := B.exec
  have hb := B.bytes
  have hr := B.returns
  have hts := atoms_spec (ws := wsX0_districtOf) B.pre
  have hown : s.vm.findClass RX0 = some m.cls := findClass_of_methodNamed B.named
  have hlocks := B.notSynchronized
  have hl := lv_entry ([.int a]) (n := 1) (Nat.le_of_ble_eq_true rfl)
  rw [lg_entry_eq]
  generalize (lg_sl ([.int a]) ++ List.replicate (1 - (lg_sl ([.int a])).length) Slot.unset).toArray = ls at hl ⊢
  have hl : lv_has ls 1 [(0, .int a)] := hl
  refine lv_iload_n hx hb dX0_districtOf_0 rfl (lv_at hl 0 rfl) ?_
  refine lv_iconst (v := (-1)) hx hb dX0_districtOf_1 (by decide) ?_
  refine lv_icmp_ne (tgt := 9) hx hb dX0_districtOf_2 (by decide) (fun c_2 => ?_) (fun c_2 => ?_)
  · skip
    refine lv_iload_n hx hb dX0_districtOf_9 rfl (lv_at hl 0 rfl) ?_
    refine lv_bipush (v := 10) hx hb dX0_districtOf_10 (by decide) ?_
    refine lv_idiv hx hb dX0_districtOf_12 (by decide) ?_
    exact W.iret (v := a / 10) hx hb hr (fun t ht hW => ⟨a / 10, rfl, (by unfold xDist; rw [if_neg c_2]), ht⟩) (fun q h => nomatch h) dX0_districtOf_13
  · skip
    refine lv_iconst (v := (-1)) hx hb dX0_districtOf_5 (by decide) ?_
    refine lv_goto (tgt := 13) hx hb dX0_districtOf_6 (by decide) ?_
    exact W.iret (v := (-1)) hx hb hr (fun t ht hW => ⟨(-1), rfl, (by unfold xDist; rw [if_pos c_2]), ht⟩) (fun q h => nomatch h) dX0_districtOf_13
set_option maxHeartbeats 4000000 in
set_option maxRecDepth 100000 in
/-- a range -/
theorem c_X0_isRange (l : Launch) (D : va_G) (cA cZ cL : ClassId) (ad : Nat → Nat) (f : qFs) (g : qGs) (r : Int32) : Met l yX0_isRange wsX0_isRange ({ frames := 0, cells := 0, slots := 0, locals := 0 } : Room) (va_Pc [.ref (ad 16), .int r] (qPre D (qTy cA cZ cL) (xW cA ad f g))) (vp_Si (fun z => z = bI (xRange f r))) 0 0 (fun _ => False) := by
  refine Met.ofW (cc := cX0_isRange) (maxL := 2) (ret := (some .boolean)) (by decide) rfl ?_
  intro p e s m args below meth c s₁ B hml hv
  obtain ⟨rfl, hP, hK⟩ := hv
  have hx := B.exec
  have hb := B.bytes
  have hr := B.returns
  have hts := atoms_spec (ws := wsX0_isRange) B.pre
  have hown : s.vm.findClass RX0 = some m.cls := findClass_of_methodNamed B.named
  have hlocks := B.notSynchronized
  have hfin : ∀ w ∈ wsX00, w ∈ wsX0_isRange := fun w h => (List.mem_cons_of_mem _ (List.mem_append_right _ h))
  have hl := lv_entry ([.ref (ad 16), .int r]) (n := 2) (Nat.le_of_ble_eq_true rfl)
  rw [lg_entry_eq]
  generalize (lg_sl ([.ref (ad 16), .int r]) ++ List.replicate (2 - (lg_sl ([.ref (ad 16), .int r])).length) Slot.unset).toArray = ls at hl ⊢
  have hl : lv_has ls 2 [(0, .ref (ad 16)), (1, .int r)] := hl
  refine lv_iload_n hx hb dX0_isRange_0 rfl (lv_at hl 1 rfl) ?_
  refine lv_if_lt (tgt := 16) hx hb dX0_isRange_1 (by decide) (fun c_1 => ?_) (fun c_1 => ?_)
  · skip
    refine lv_iconst (v := 0) hx hb dX0_isRange_16 (by decide) ?_
    exact W.zret (v := 0) hx hb hr rfl (fun t ht hW => ⟨0, rfl, (bI_f (i_nl c_1)).symm, ht⟩) (fun q h => nomatch h) dX0_isRange_17
  · skip
    refine lv_iload_n hx hb dX0_isRange_4 rfl (lv_at hl 1 rfl) ?_
    refine lv_aload_n hx hb dX0_isRange_5 rfl (lv_at hl 0 rfl) ?_
    refine va_get (D := D) (ci := 0) (v := .int (f 5)) (C := RX0) (T := TX0) (N := 16) hx hb hts hfin hown hK hP 0 rfl rfl 5 (by decide) (hts _ (List.mem_cons_of_mem _ (List.mem_append_left _ (List.mem_of_getElem? (i := 0) rfl)))) (fun _ h9 => h9) rfl dX0_isRange_6 ?_
    refine lv_icmp_ge (tgt := 16) hx hb dX0_isRange_9 (by decide) (fun c_9 => ?_) (fun c_9 => ?_)
    · skip
      refine lv_iconst (v := 0) hx hb dX0_isRange_16 (by decide) ?_
      exact W.zret (v := 0) hx hb hr rfl (fun t ht hW => ⟨0, rfl, (bI_f (i_nr c_9)).symm, ht⟩) (fun q h => nomatch h) dX0_isRange_17
    · skip
      refine lv_iconst (v := 1) hx hb dX0_isRange_12 (by decide) ?_
      refine lv_goto (tgt := 17) hx hb dX0_isRange_13 (by decide) ?_
      exact W.zret (v := 1) hx hb hr rfl (fun t ht hW => ⟨1, rfl, (bI_t (i_and c_1 c_9)).symm, ht⟩) (fun q h => nomatch h) dX0_isRange_17
set_option maxHeartbeats 4000000 in
set_option maxRecDepth 100000 in
/-- a ballot -/
theorem c_X0_isBallot (l : Launch) (D : va_G) (cA cZ cL : ClassId) (ad : Nat → Nat) (f : qFs) (g : qGs) (r : Int32) : Met l yX0_isBallot wsX0_isBallot ({ frames := 0, cells := 0, slots := 0, locals := 0 } : Room) (va_Pc [.ref (ad 16), .int r] (qPre D (qTy cA cZ cL) (xW cA ad f g))) (vp_Si (fun z => z = bI (xBallot f r))) 0 0 (fun _ => False) := by
  refine Met.ofW (cc := cX0_isBallot) (maxL := 2) (ret := (some .boolean)) (by decide) rfl ?_
  intro p e s m args below meth c s₁ B hml hv
  obtain ⟨rfl, hP, hK⟩ := hv
  have hx := B.exec
  have hb := B.bytes
  have hr := B.returns
  have hts := atoms_spec (ws := wsX0_isBallot) B.pre
  have hown : s.vm.findClass RX0 = some m.cls := findClass_of_methodNamed B.named
  have hlocks := B.notSynchronized
  have hfin : ∀ w ∈ wsX00, w ∈ wsX0_isBallot := fun w h => (List.mem_cons_of_mem _ (List.mem_append_right _ h))
  have hl := lv_entry ([.ref (ad 16), .int r]) (n := 2) (Nat.le_of_ble_eq_true rfl)
  rw [lg_entry_eq]
  generalize (lg_sl ([.ref (ad 16), .int r]) ++ List.replicate (2 - (lg_sl ([.ref (ad 16), .int r])).length) Slot.unset).toArray = ls at hl ⊢
  have hl : lv_has ls 2 [(0, .ref (ad 16)), (1, .int r)] := hl
  refine lv_iload_n hx hb dX0_isBallot_0 rfl (lv_at hl 1 rfl) ?_
  refine lv_if_lt (tgt := 16) hx hb dX0_isBallot_1 (by decide) (fun c_1 => ?_) (fun c_1 => ?_)
  · skip
    refine lv_iconst (v := 0) hx hb dX0_isBallot_16 (by decide) ?_
    exact W.zret (v := 0) hx hb hr rfl (fun t ht hW => ⟨0, rfl, (bI_f (i_nl c_1)).symm, ht⟩) (fun q h => nomatch h) dX0_isBallot_17
  · skip
    refine lv_iload_n hx hb dX0_isBallot_4 rfl (lv_at hl 1 rfl) ?_
    refine lv_aload_n hx hb dX0_isBallot_5 rfl (lv_at hl 0 rfl) ?_
    refine va_get (D := D) (ci := 0) (v := .int (f 15)) (C := RX0) (T := TX0) (N := 16) hx hb hts hfin hown hK hP 0 rfl rfl 15 (by decide) (hts _ (List.mem_cons_of_mem _ (List.mem_append_left _ (List.mem_of_getElem? (i := 0) rfl)))) (fun _ h9 => h9) rfl dX0_isBallot_6 ?_
    refine lv_icmp_ge (tgt := 16) hx hb dX0_isBallot_9 (by decide) (fun c_9 => ?_) (fun c_9 => ?_)
    · skip
      refine lv_iconst (v := 0) hx hb dX0_isBallot_16 (by decide) ?_
      exact W.zret (v := 0) hx hb hr rfl (fun t ht hW => ⟨0, rfl, (bI_f (i_nr c_9)).symm, ht⟩) (fun q h => nomatch h) dX0_isBallot_17
    · skip
      refine lv_iconst (v := 1) hx hb dX0_isBallot_12 (by decide) ?_
      refine lv_goto (tgt := 17) hx hb dX0_isBallot_13 (by decide) ?_
      exact W.zret (v := 1) hx hb hr rfl (fun t ht hW => ⟨1, rfl, (bI_t (i_and c_1 c_9)).symm, ht⟩) (fun q h => nomatch h) dX0_isBallot_17
set_option maxHeartbeats 4000000 in
set_option maxRecDepth 100000 in
/-- homeOf -/
theorem c_X0_homeOf (l : Launch) (D : va_G) (cA cZ cL : ClassId) (ad : Nat → Nat) (f : qFs) (g : qGs) (r : Int32) (nR : Nat) (nB : Nat) (hI : xI nR nB f) : Met l yX0_homeOf wsX0_homeOf ({ frames := 1, cells := 0, slots := 0, locals := 21 } : Room) (va_Pc [.ref (ad 16), .int r] (qPre D (qTy cA cZ cL) (xW cA ad f g))) (vp_Si (fun z => z = xHome f g r)) 0 0 (fun _ => False) := by
  refine Met.ofW (cc := cX0_homeOf) (maxL := 2) (ret := (some .int)) (by decide) rfl ?_
  intro p e s m args below meth c s₁ B hml hv
  obtain ⟨rfl, hP, hK⟩ := hv
  have hx := B.exec
  have hb := B.bytes
  have hr := B.returns
  have hts := atoms_spec (ws := wsX0_homeOf) B.pre
  have hown : s.vm.findClass RX0 = some m.cls := findClass_of_methodNamed B.named
  have hlocks := B.notSynchronized
  have hfin : ∀ w ∈ wsX00, w ∈ wsX0_homeOf := fun w h => (List.mem_cons_of_mem _ (List.mem_append_right _ h))
  have hl := lv_entry ([.ref (ad 16), .int r]) (n := 2) (Nat.le_of_ble_eq_true rfl)
  rw [lg_entry_eq]
  generalize (lg_sl ([.ref (ad 16), .int r]) ++ List.replicate (2 - (lg_sl ([.ref (ad 16), .int r])).length) Slot.unset).toArray = ls at hl ⊢
  have hl : lv_has ls 2 [(0, .ref (ad 16)), (1, .int r)] := hl
  refine lv_aload_n hx hb dX0_homeOf_0 rfl (lv_at hl 0 rfl) ?_
  refine lv_iload_n hx hb dX0_homeOf_1 rfl (lv_at hl 1 rfl) ?_
  refine vp_callSi (W.runV (As := [.int r]) (rest := []) ⟨hx, hb, hml, hown, hts⟩ (c_X0_isRange l D cA cZ cL ad f g r) (cwV 1 hts gX0_homeOf_X0_isRange rfl rfl rfl (by decide +kernel) ⟨Nat.le_of_ble_eq_true rfl, Nat.le_of_ble_eq_true rfl⟩) ⟨qPre_blind, va_recv hK hP (ci := 0) (q0 := 0) rfl rfl, qPre_at hP hK⟩ rfl rfl hl.1 rfl (lv_room (Nat.le_of_ble_eq_true rfl)) dX0_homeOf_2 ⟨Nat.le_of_ble_eq_true rfl, Nat.le_of_ble_eq_true rfl⟩) (fun z hz => ?_)
  subst hz
  refine lv_if_eq (tgt := 17) hx hb dX0_homeOf_5 (by decide) (fun c_5 => ?_) (fun c_5 => ?_)
  · have c_5 := bI_0.mp c_5
    refine lv_iconst (v := (-1)) hx hb dX0_homeOf_17 (by decide) ?_
    exact W.iret (v := (-1)) hx hb hr (fun t ht hW => ⟨(-1), rfl, (by unfold xHome; rw [if_neg c_5]), ht⟩) (fun q h => nomatch h) dX0_homeOf_18
  · have c_5 := bI_n.mp c_5
    refine lv_aload_n hx hb dX0_homeOf_8 rfl (lv_at hl 0 rfl) ?_
    refine va_get (D := D) (ci := 0) (v := .ref (ad 3)) (C := RX0) (T := TX0) (N := 16) hx hb hts hfin hown hK hP 0 rfl rfl 3 (by decide) (hts _ (List.mem_cons_of_mem _ (List.mem_append_left _ (List.mem_of_getElem? (i := 0) rfl)))) (fun _ h9 => h9) rfl dX0_homeOf_9 ?_
    refine lv_iload_n hx hb dX0_homeOf_12 rfl (lv_at hl 1 rfl) ?_
    refine va_iald hx hb hK hP 3 0 rfl rfl (x_in8 hI c_5) dX0_homeOf_13 ?_
    refine lv_goto (tgt := 18) hx hb dX0_homeOf_14 (by decide) ?_
    exact W.iret (v := g 3 r.toNatClampNeg) hx hb hr (fun t ht hW => ⟨g 3 r.toNatClampNeg, rfl, (by unfold xHome; rw [if_pos c_5]), ht⟩) (fun q h => nomatch h) dX0_homeOf_18
set_option maxHeartbeats 4000000 in
set_option maxRecDepth 100000 in
/-- targetOf -/
theorem c_X0_targetOf (l : Launch) (D : va_G) (cA cZ cL : ClassId) (ad : Nat → Nat) (f : qFs) (g : qGs) (r : Int32) (nR : Nat) (nB : Nat) (hI : xI nR nB f) : Met l yX0_targetOf wsX0_targetOf ({ frames := 1, cells := 0, slots := 0, locals := 21 } : Room) (va_Pc [.ref (ad 16), .int r] (qPre D (qTy cA cZ cL) (xW cA ad f g))) (vp_Si (fun z => z = xTarg f g r)) 0 0 (fun _ => False) := by
  refine Met.ofW (cc := cX0_targetOf) (maxL := 2) (ret := (some .int)) (by decide) rfl ?_
  intro p e s m args below meth c s₁ B hml hv
  obtain ⟨rfl, hP, hK⟩ := hv
  have hx := B.exec
  have hb := B.bytes
  have hr := B.returns
  have hts := atoms_spec (ws := wsX0_targetOf) B.pre
  have hown : s.vm.findClass RX0 = some m.cls := findClass_of_methodNamed B.named
  have hlocks := B.notSynchronized
  have hfin : ∀ w ∈ wsX00, w ∈ wsX0_targetOf := fun w h => (List.mem_cons_of_mem _ (List.mem_append_right _ h))
  have hl := lv_entry ([.ref (ad 16), .int r]) (n := 2) (Nat.le_of_ble_eq_true rfl)
  rw [lg_entry_eq]
  generalize (lg_sl ([.ref (ad 16), .int r]) ++ List.replicate (2 - (lg_sl ([.ref (ad 16), .int r])).length) Slot.unset).toArray = ls at hl ⊢
  have hl : lv_has ls 2 [(0, .ref (ad 16)), (1, .int r)] := hl
  refine lv_aload_n hx hb dX0_targetOf_0 rfl (lv_at hl 0 rfl) ?_
  refine lv_iload_n hx hb dX0_targetOf_1 rfl (lv_at hl 1 rfl) ?_
  refine vp_callSi (W.runV (As := [.int r]) (rest := []) ⟨hx, hb, hml, hown, hts⟩ (c_X0_isRange l D cA cZ cL ad f g r) (cwV 1 hts gX0_targetOf_X0_isRange rfl rfl rfl (by decide +kernel) ⟨Nat.le_of_ble_eq_true rfl, Nat.le_of_ble_eq_true rfl⟩) ⟨qPre_blind, va_recv hK hP (ci := 0) (q0 := 0) rfl rfl, qPre_at hP hK⟩ rfl rfl hl.1 rfl (lv_room (Nat.le_of_ble_eq_true rfl)) dX0_targetOf_2 ⟨Nat.le_of_ble_eq_true rfl, Nat.le_of_ble_eq_true rfl⟩) (fun z hz => ?_)
  subst hz
  refine lv_if_eq (tgt := 17) hx hb dX0_targetOf_5 (by decide) (fun c_5 => ?_) (fun c_5 => ?_)
  · have c_5 := bI_0.mp c_5
    refine lv_iconst (v := (-1)) hx hb dX0_targetOf_17 (by decide) ?_
    exact W.iret (v := (-1)) hx hb hr (fun t ht hW => ⟨(-1), rfl, (by unfold xTarg; rw [if_neg c_5]), ht⟩) (fun q h => nomatch h) dX0_targetOf_18
  · have c_5 := bI_n.mp c_5
    refine lv_aload_n hx hb dX0_targetOf_8 rfl (lv_at hl 0 rfl) ?_
    refine va_get (D := D) (ci := 0) (v := .ref (ad 4)) (C := RX0) (T := TX0) (N := 16) hx hb hts hfin hown hK hP 0 rfl rfl 4 (by decide) (hts _ (List.mem_cons_of_mem _ (List.mem_append_left _ (List.mem_of_getElem? (i := 0) rfl)))) (fun _ h9 => h9) rfl dX0_targetOf_9 ?_
    refine lv_iload_n hx hb dX0_targetOf_12 rfl (lv_at hl 1 rfl) ?_
    refine va_iald hx hb hK hP 4 0 rfl rfl (x_in8 hI c_5) dX0_targetOf_13 ?_
    refine lv_goto (tgt := 18) hx hb dX0_targetOf_14 (by decide) ?_
    exact W.iret (v := g 4 r.toNatClampNeg) hx hb hr (fun t ht hW => ⟨g 4 r.toNatClampNeg, rfl, (by unfold xTarg; rw [if_pos c_5]), ht⟩) (fun q h => nomatch h) dX0_targetOf_18
set_option maxHeartbeats 4000000 in
set_option maxRecDepth 100000 in
/-- lastKeyOf -/
theorem c_X0_lastKeyOf (l : Launch) (D : va_G) (cA cZ cL : ClassId) (ad : Nat → Nat) (f : qFs) (g : qGs) (r : Int32) (nR : Nat) (nB : Nat) (hI : xI nR nB f) : Met l yX0_lastKeyOf wsX0_lastKeyOf ({ frames := 1, cells := 0, slots := 0, locals := 21 } : Room) (va_Pc [.ref (ad 16), .int r] (qPre D (qTy cA cZ cL) (xW cA ad f g))) (vp_Si (fun z => z = xLast f g r)) 0 0 (fun _ => False) := by
  refine Met.ofW (cc := cX0_lastKeyOf) (maxL := 2) (ret := (some .int)) (by decide) rfl ?_
  intro p e s m args below meth c s₁ B hml hv
  obtain ⟨rfl, hP, hK⟩ := hv
  have hx := B.exec
  have hb := B.bytes
  have hr := B.returns
  have hts := atoms_spec (ws := wsX0_lastKeyOf) B.pre
  have hown : s.vm.findClass RX0 = some m.cls := findClass_of_methodNamed B.named
  have hlocks := B.notSynchronized
  have hfin : ∀ w ∈ wsX00, w ∈ wsX0_lastKeyOf := fun w h => (List.mem_cons_of_mem _ (List.mem_append_right _ h))
  have hl := lv_entry ([.ref (ad 16), .int r]) (n := 2) (Nat.le_of_ble_eq_true rfl)
  rw [lg_entry_eq]
  generalize (lg_sl ([.ref (ad 16), .int r]) ++ List.replicate (2 - (lg_sl ([.ref (ad 16), .int r])).length) Slot.unset).toArray = ls at hl ⊢
  have hl : lv_has ls 2 [(0, .ref (ad 16)), (1, .int r)] := hl
  refine lv_aload_n hx hb dX0_lastKeyOf_0 rfl (lv_at hl 0 rfl) ?_
  refine lv_iload_n hx hb dX0_lastKeyOf_1 rfl (lv_at hl 1 rfl) ?_
  refine vp_callSi (W.runV (As := [.int r]) (rest := []) ⟨hx, hb, hml, hown, hts⟩ (c_X0_isRange l D cA cZ cL ad f g r) (cwV 1 hts gX0_lastKeyOf_X0_isRange rfl rfl rfl (by decide +kernel) ⟨Nat.le_of_ble_eq_true rfl, Nat.le_of_ble_eq_true rfl⟩) ⟨qPre_blind, va_recv hK hP (ci := 0) (q0 := 0) rfl rfl, qPre_at hP hK⟩ rfl rfl hl.1 rfl (lv_room (Nat.le_of_ble_eq_true rfl)) dX0_lastKeyOf_2 ⟨Nat.le_of_ble_eq_true rfl, Nat.le_of_ble_eq_true rfl⟩) (fun z hz => ?_)
  subst hz
  refine lv_if_eq (tgt := 17) hx hb dX0_lastKeyOf_5 (by decide) (fun c_5 => ?_) (fun c_5 => ?_)
  · have c_5 := bI_0.mp c_5
    refine lv_iconst (v := (-1)) hx hb dX0_lastKeyOf_17 (by decide) ?_
    exact W.iret (v := (-1)) hx hb hr (fun t ht hW => ⟨(-1), rfl, (by unfold xLast; rw [if_neg c_5]), ht⟩) (fun q h => nomatch h) dX0_lastKeyOf_18
  · have c_5 := bI_n.mp c_5
    refine lv_aload_n hx hb dX0_lastKeyOf_8 rfl (lv_at hl 0 rfl) ?_
    refine va_get (D := D) (ci := 0) (v := .ref (ad 2)) (C := RX0) (T := TX0) (N := 16) hx hb hts hfin hown hK hP 0 rfl rfl 2 (by decide) (hts _ (List.mem_cons_of_mem _ (List.mem_append_left _ (List.mem_of_getElem? (i := 0) rfl)))) (fun _ h9 => h9) rfl dX0_lastKeyOf_9 ?_
    refine lv_iload_n hx hb dX0_lastKeyOf_12 rfl (lv_at hl 1 rfl) ?_
    refine va_iald hx hb hK hP 2 0 rfl rfl (x_in8 hI c_5) dX0_lastKeyOf_13 ?_
    refine lv_goto (tgt := 18) hx hb dX0_lastKeyOf_14 (by decide) ?_
    exact W.iret (v := g 2 r.toNatClampNeg) hx hb hr (fun t ht hW => ⟨g 2 r.toNatClampNeg, rfl, (by unfold xLast; rw [if_pos c_5]), ht⟩) (fun q h => nomatch h) dX0_lastKeyOf_18
set_option maxHeartbeats 4000000 in
set_option maxRecDepth 100000 in
/-- a row -/
theorem c_X0_rowOf (l : Launch) (D : va_G) (cA cZ cL : ClassId) (ad : Nat → Nat) (f : qFs) (g : qGs) (sh : Int32) (k : Int32) : Met l yX0_rowOf wsX0_rowOf ({ frames := 1, cells := 0, slots := 0, locals := 20 } : Room) (va_Pc [.ref (ad 16), .int sh, .int k] (qPre D (qTy cA cZ cL) (xW cA ad f g))) (vp_Si (fun z => z = xRowOf g sh k)) 0 0 (fun _ => False) := by
  refine Met.ofW (cc := cX0_rowOf) (maxL := 3) (ret := (some .int)) (by decide) rfl ?_
  intro p e s m args below meth c s₁ B hml hv
  obtain ⟨rfl, hP, hK⟩ := hv
  have hx := B.exec
  have hb := B.bytes
  have hr := B.returns
  have hts := atoms_spec (ws := wsX0_rowOf) B.pre
  have hown : s.vm.findClass RX0 = some m.cls := findClass_of_methodNamed B.named
  have hlocks := B.notSynchronized
  have hfin : ∀ w ∈ wsX00, w ∈ wsX0_rowOf := fun w h => (List.mem_cons_of_mem _ (List.mem_append_right _ h))
  have hl := lv_entry ([.ref (ad 16), .int sh, .int k]) (n := 3) (Nat.le_of_ble_eq_true rfl)
  rw [lg_entry_eq]
  generalize (lg_sl ([.ref (ad 16), .int sh, .int k]) ++ List.replicate (3 - (lg_sl ([.ref (ad 16), .int sh, .int k])).length) Slot.unset).toArray = ls at hl ⊢
  have hl : lv_has ls 3 [(0, .ref (ad 16)), (1, .int sh), (2, .int k)] := hl
  refine lv_iload_n hx hb dX0_rowOf_0 rfl (lv_at hl 1 rfl) ?_
  refine vp_callSi (W.runS (As := [.int sh]) (rest := []) ⟨hx, hb, hml, hown, hts⟩ (c_X0_isShard l sh) (va_cwS 1 hts gX0_rowOf_X0_isShard rfl rfl rfl (by decide +kernel) ⟨Nat.le_of_ble_eq_true rfl, Nat.le_of_ble_eq_true rfl⟩) ⟨qN_blind, qN_at⟩ rfl rfl hl.1 rfl (lv_room (Nat.le_of_ble_eq_true rfl)) dX0_rowOf_1 ⟨Nat.le_of_ble_eq_true rfl, Nat.le_of_ble_eq_true rfl⟩) (fun z hz => ?_)
  subst hz
  refine lv_if_eq (tgt := 28) hx hb dX0_rowOf_4 (by decide) (fun c_4 => ?_) (fun c_4 => ?_)
  · have c_4 := bI_0.mp c_4
    refine lv_iconst (v := (-1)) hx hb dX0_rowOf_28 (by decide) ?_
    exact W.iret (v := (-1)) hx hb hr (fun t ht hW => ⟨(-1), rfl, (by unfold xRowOf; rw [if_neg (fun q => c_4 q.1)]), ht⟩) (fun q h => nomatch h) dX0_rowOf_29
  · have c_4 := bI_n.mp c_4
    refine lv_iload_n hx hb dX0_rowOf_7 rfl (lv_at hl 2 rfl) ?_
    refine vp_callSi (W.runS (As := [.int k]) (rest := []) ⟨hx, hb, hml, hown, hts⟩ (c_X0_isKey l k) (va_cwS 1 hts gX0_rowOf_X0_isKey rfl rfl rfl (by decide +kernel) ⟨Nat.le_of_ble_eq_true rfl, Nat.le_of_ble_eq_true rfl⟩) ⟨qN_blind, qN_at⟩ rfl rfl hl.1 rfl (lv_room (Nat.le_of_ble_eq_true rfl)) dX0_rowOf_8 ⟨Nat.le_of_ble_eq_true rfl, Nat.le_of_ble_eq_true rfl⟩) (fun z hz => ?_)
    subst hz
    refine lv_if_eq (tgt := 28) hx hb dX0_rowOf_11 (by decide) (fun c_11 => ?_) (fun c_11 => ?_)
    · have c_11 := bI_0.mp c_11
      refine lv_iconst (v := (-1)) hx hb dX0_rowOf_28 (by decide) ?_
      exact W.iret (v := (-1)) hx hb hr (fun t ht hW => ⟨(-1), rfl, (by unfold xRowOf; rw [if_neg (fun q => c_11 q.2)]), ht⟩) (fun q h => nomatch h) dX0_rowOf_29
    · have c_11 := bI_n.mp c_11
      refine lv_aload_n hx hb dX0_rowOf_14 rfl (lv_at hl 0 rfl) ?_
      refine va_get (D := D) (ci := 0) (v := .ref (ad 0)) (C := RX0) (T := TX0) (N := 16) hx hb hts hfin hown hK hP 0 rfl rfl 0 (by decide) (hts _ (List.mem_cons_of_mem _ (List.mem_append_left _ (List.mem_of_getElem? (i := 0) rfl)))) (fun _ h9 => h9) rfl dX0_rowOf_15 ?_
      refine lv_iload_n hx hb dX0_rowOf_18 rfl (lv_at hl 1 rfl) ?_
      refine lv_bipush (v := 100) hx hb dX0_rowOf_19 (by decide) ?_
      refine lv_imul hx hb dX0_rowOf_21 ?_
      refine lv_iload_n hx hb dX0_rowOf_22 rfl (lv_at hl 2 rfl) ?_
      refine lv_iadd hx hb dX0_rowOf_23 ?_
      refine va_iald hx hb hK hP 1 0 rfl rfl (x_inT c_4 c_11) dX0_rowOf_24 ?_
      refine lv_goto (tgt := 29) hx hb dX0_rowOf_25 (by decide) ?_
      exact W.iret (v := g 0 ((sh * 100) + k).toNatClampNeg) hx hb hr (fun t ht hW => ⟨g 0 ((sh * 100) + k).toNatClampNeg, rfl, (by unfold xRowOf; rw [if_pos ⟨c_4, c_11⟩]), ht⟩) (fun q h => nomatch h) dX0_rowOf_29
set_option maxHeartbeats 4000000 in
set_option maxRecDepth 100000 in
/-- the range that holds a key -/
theorem c_X0_rangeHolding (l : Launch) (D : va_G) (cA cZ cL : ClassId) (ad : Nat → Nat) (f : qFs) (g : qGs) (k : Int32) (nR : Nat) (nB : Nat) (hI : xI nR nB f) : Met l yX0_rangeHolding wsX0_rangeHolding ({ frames := 2, cells := 0, slots := 0, locals := 42 } : Room) (va_Pc [.ref (ad 16), .int k] (qPre D (qTy cA cZ cL) (xW cA ad f g))) (vp_Si (fun z => z = nI (xHold nR g k))) 0 0 (fun _ => False) := by
  refine Met.ofW (cc := cX0_rangeHolding) (maxL := 4) (ret := (some .int)) (by decide) rfl ?_
  intro p e s m args below meth c s₁ B hml hv
  obtain ⟨rfl, hP, hK⟩ := hv
  have hx := B.exec
  have hb := B.bytes
  have hr := B.returns
  have hts := atoms_spec (ws := wsX0_rangeHolding) B.pre
  have hown : s.vm.findClass RX0 = some m.cls := findClass_of_methodNamed B.named
  have hlocks := B.notSynchronized
  have hfin : ∀ w ∈ wsX00, w ∈ wsX0_rangeHolding := fun w h => (List.mem_cons_of_mem _ (List.mem_append_right _ h))
  have hl := lv_entry ([.ref (ad 16), .int k]) (n := 4) (Nat.le_of_ble_eq_true rfl)
  rw [lg_entry_eq]
  generalize (lg_sl ([.ref (ad 16), .int k]) ++ List.replicate (4 - (lg_sl ([.ref (ad 16), .int k])).length) Slot.unset).toArray = ls at hl ⊢
  have hl : lv_has ls 4 [(0, .ref (ad 16)), (1, .int k)] := hl
  have hR8 := hI.2.2.1
  refine lv_aload_n hx hb dX0_rangeHolding_0 rfl (lv_at hl 0 rfl) ?_
  refine va_get (D := D) (ci := 0) (v := .int (f 5)) (C := RX0) (T := TX0) (N := 16) hx hb hts hfin hown hK hP 0 rfl rfl 5 (by decide) (hts _ (List.mem_cons_of_mem _ (List.mem_append_left _ (List.mem_of_getElem? (i := 0) rfl)))) (fun _ h9 => h9) rfl dX0_rangeHolding_1 ?_
  refine lv_iconst (v := 1) hx hb dX0_rangeHolding_4 (by decide) ?_
  refine lv_isub hx hb dX0_rangeHolding_5 ?_
  refine lv_topi (fun v_5 hv_5 => ?_)
  have hv_5 : v_5 = nI (nR - 1) := hv_5.trans (x_R1 hI)
  subst hv_5
  refine lv_istore_n (lv' := [(2, .int (nI (nR - 1))), (0, .ref (ad 16)), (1, .int k)]) hx hb dX0_rangeHolding_6 rfl hl (by decide) rfl (fun ls hl => ?_)
  refine lv_iconst (v := 0) hx hb dX0_rangeHolding_7 (by decide) ?_
  refine lv_istore_n (lv' := [(3, .int 0), (2, .int (nI (nR - 1))), (0, .ref (ad 16)), (1, .int k)]) hx hb dX0_rangeHolding_8 rfl hl (by decide) rfl (fun ls hl => ?_)
  have hloop_9 : ∀ (nme : Nat) (i : Nat), nR - 1 - i = nme → (i ≤ nR - 1) → (xHoldN (g 2) k i (nR - 1 - i) = xHold nR g k) → ∀ ls : Array Slot, lv_has ls 4 [(0, .ref (ad 16)), (1, .int k), (2, .int (nI (nR - 1))), (3, .int (nI i))] → W p l e (headSpec wsX0_rangeHolding ({ frames := 2, cells := 0, slots := 0, locals := 42 } : Room)).room s m ([.ref (ad 16), .int k] : List Value).toArray below meth c s.heap [] 0 0 (MQ below (vp_Si (fun z => z = nI (xHold nR g k))) ([.ref (ad 16), .int k] : List Value).toArray s 0 0 (fun _ => False)) (F0 m 9 ls []) := by
    intro nme
    induction nme using Nat.strongRecOn with
    | ind nme ih =>
      intro i hnme hi hh ls hl
      refine lv_iload_n hx hb dX0_rangeHolding_9 rfl (lv_at hl 3 rfl) ?_
      refine lv_iload_n hx hb dX0_rangeHolding_10 rfl (lv_at hl 2 rfl) ?_
      refine lv_icmp_ge (tgt := 31) hx hb dX0_rangeHolding_11 (by decide) (fun c_11 => ?_) (fun c_11 => ?_)
      · skip
        have hge : nR - 1 ≤ i := n_ge c_11 (by omega) (by omega)
        refine lv_iload_n hx hb dX0_rangeHolding_31 rfl (lv_at hl 2 rfl) ?_
        exact W.iret (v := nI (nR - 1)) hx hb hr (fun t ht hW => ⟨nI (nR - 1), rfl, (by rw [← hh, xHold_e hge]; congr 1; omega), ht⟩) (fun q h => nomatch h) dX0_rangeHolding_32
      · skip
        have hlt : i < nR - 1 := n_lt c_11 (by omega)
        refine lv_iload_n hx hb dX0_rangeHolding_14 rfl (lv_at hl 1 rfl) ?_
        refine lv_aload_n hx hb dX0_rangeHolding_15 rfl (lv_at hl 0 rfl) ?_
        refine lv_iload_n hx hb dX0_rangeHolding_16 rfl (lv_at hl 3 rfl) ?_
        refine vp_callSi (W.runV (As := [.int (nI i)]) (rest := [.int k]) ⟨hx, hb, hml, hown, hts⟩ (c_X0_lastKeyOf l D cA cZ cL ad f g (nI i) nR nB hI) (cwV 1 hts gX0_rangeHolding_X0_lastKeyOf rfl rfl rfl (by decide +kernel) ⟨Nat.le_of_ble_eq_true rfl, Nat.le_of_ble_eq_true rfl⟩) ⟨qPre_blind, va_recv hK hP (ci := 0) (q0 := 0) rfl rfl, qPre_at hP hK⟩ rfl rfl hl.1 rfl (lv_room (Nat.le_of_ble_eq_true rfl)) dX0_rangeHolding_17 ⟨Nat.le_of_ble_eq_true rfl, Nat.le_of_ble_eq_true rfl⟩) (fun z hz => ?_)
        subst hz
        refine lv_topi (fun v_17 hv_17 => ?_)
        have hv_17 : v_17 = g 2 i := hv_17.trans (x_lastAt hI.1 hR8 (by omega))
        subst hv_17
        refine lv_icmp_gt (tgt := 25) hx hb dX0_rangeHolding_20 (by decide) (fun c_20 => ?_) (fun c_20 => ?_)
        · skip
          refine lv_iinc (v := nI (i + 1)) (lv' := [(3, .int (nI (i + 1))), (0, .ref (ad 16)), (1, .int k), (2, .int (nI (nR - 1)))]) hx hb dX0_rangeHolding_25 hl (k := 3) rfl (nI_1 i) (by decide) rfl (fun ls hl => ?_)
          refine lv_goto (tgt := 9) hx hb dX0_rangeHolding_28 (by decide) ?_
          exact ih _ (by omega) (i + 1) rfl (by omega) (by rw [← hh]; exact (xHold_n hlt (fa_of_lt c_20).2.1).symm) _ (lv_sub hl [1, 2, 3, 0] rfl)
        · skip
          refine lv_iload_n hx hb dX0_rangeHolding_23 rfl (lv_at hl 3 rfl) ?_
          exact W.iret (v := nI i) hx hb hr (fun t ht hW => ⟨nI i, rfl, (by rw [← hh, xHold_y hlt (fa_of_nlt c_20)]), ht⟩) (fun q h => nomatch h) dX0_rangeHolding_24
  exact hloop_9 _ 0 rfl (Nat.zero_le _) rfl _ (lv_sub hl [2, 3, 1, 0] rfl)
set_option maxHeartbeats 4000000 in
set_option maxRecDepth 100000 in
/-- the address at a key -/
theorem c_X0_read (l : Launch) (D : va_G) (cA cZ cL : ClassId) (ad : Nat → Nat) (f : qFs) (g : qGs) (k : Int32) (nR : Nat) (nB : Nat) (hI : xI nR nB f) : Met l yX0_read wsX0_read ({ frames := 3, cells := 0, slots := 0, locals := 65 } : Room) (va_Pc [.ref (ad 16), .int k] (qPre D (qTy cA cZ cL) (xW cA ad f g))) (vp_Si (fun z => z = xRead nR f g k)) 0 0 (fun _ => False) := by
  refine Met.ofW (cc := cX0_read) (maxL := 2) (ret := (some .int)) (by decide) rfl ?_
  intro p e s m args below meth c s₁ B hml hv
  obtain ⟨rfl, hP, hK⟩ := hv
  have hx := B.exec
  have hb := B.bytes
  have hr := B.returns
  have hts := atoms_spec (ws := wsX0_read) B.pre
  have hown : s.vm.findClass RX0 = some m.cls := findClass_of_methodNamed B.named
  have hlocks := B.notSynchronized
  have hfin : ∀ w ∈ wsX00, w ∈ wsX0_read := fun w h => (List.mem_cons_of_mem _ (List.mem_append_right _ h))
  have hl := lv_entry ([.ref (ad 16), .int k]) (n := 2) (Nat.le_of_ble_eq_true rfl)
  rw [lg_entry_eq]
  generalize (lg_sl ([.ref (ad 16), .int k]) ++ List.replicate (2 - (lg_sl ([.ref (ad 16), .int k])).length) Slot.unset).toArray = ls at hl ⊢
  have hl : lv_has ls 2 [(0, .ref (ad 16)), (1, .int k)] := hl
  refine lv_aload_n hx hb dX0_read_0 rfl (lv_at hl 0 rfl) ?_
  refine lv_aload_n hx hb dX0_read_1 rfl (lv_at hl 0 rfl) ?_
  refine lv_aload_n hx hb dX0_read_2 rfl (lv_at hl 0 rfl) ?_
  refine lv_iload_n hx hb dX0_read_3 rfl (lv_at hl 1 rfl) ?_
  refine vp_callSi (W.runV (As := [.int k]) (rest := [.ref (ad 16), .ref (ad 16)]) ⟨hx, hb, hml, hown, hts⟩ (c_X0_rangeHolding l D cA cZ cL ad f g k nR nB hI) (cwV 1 hts gX0_read_X0_rangeHolding rfl rfl rfl (by decide +kernel) ⟨Nat.le_of_ble_eq_true rfl, Nat.le_of_ble_eq_true rfl⟩) ⟨qPre_blind, va_recv hK hP (ci := 0) (q0 := 0) rfl rfl, qPre_at hP hK⟩ rfl rfl hl.1 rfl (lv_room (Nat.le_of_ble_eq_true rfl)) dX0_read_4 ⟨Nat.le_of_ble_eq_true rfl, Nat.le_of_ble_eq_true rfl⟩) (fun z hz => ?_)
  subst hz
  refine vp_callSi (W.runV (As := [.int (nI (xHold nR g k))]) (rest := [.ref (ad 16)]) ⟨hx, hb, hml, hown, hts⟩ (c_X0_homeOf l D cA cZ cL ad f g (nI (xHold nR g k)) nR nB hI) (cwV 1 hts gX0_read_X0_homeOf rfl rfl rfl (by decide +kernel) ⟨Nat.le_of_ble_eq_true rfl, Nat.le_of_ble_eq_true rfl⟩) ⟨qPre_blind, va_recv hK hP (ci := 0) (q0 := 0) rfl rfl, qPre_at hP hK⟩ rfl rfl hl.1 rfl (lv_room (Nat.le_of_ble_eq_true rfl)) dX0_read_7 ⟨Nat.le_of_ble_eq_true rfl, Nat.le_of_ble_eq_true rfl⟩) (fun z hz => ?_)
  subst hz
  refine lv_iload_n hx hb dX0_read_10 rfl (lv_at hl 1 rfl) ?_
  refine vp_callSi (W.runV (As := [.int (xHome f g (nI (xHold nR g k))), .int k]) (rest := []) ⟨hx, hb, hml, hown, hts⟩ (c_X0_rowOf l D cA cZ cL ad f g (xHome f g (nI (xHold nR g k))) k) (cwV 2 hts gX0_read_X0_rowOf rfl rfl rfl (by decide +kernel) ⟨Nat.le_of_ble_eq_true rfl, Nat.le_of_ble_eq_true rfl⟩) ⟨qPre_blind, va_recv hK hP (ci := 0) (q0 := 0) rfl rfl, qPre_at hP hK⟩ rfl rfl hl.1 rfl (lv_room (Nat.le_of_ble_eq_true rfl)) dX0_read_11 ⟨Nat.le_of_ble_eq_true rfl, Nat.le_of_ble_eq_true rfl⟩) (fun z hz => ?_)
  subst hz
  exact W.iret (v := xRowOf g (xHome f g (nI (xHold nR g k))) k) hx hb hr (fun t ht hW => ⟨xRowOf g (xHome f g (nI (xHold nR g k))) k, rfl, rfl, ht⟩) (fun q h => nomatch h) dX0_read_14
set_option maxHeartbeats 4000000 in
set_option maxRecDepth 100000 in
/-- is there a member -/
theorem c_X0_isMember (l : Launch) (D : va_G) (cA cZ cL : ClassId) (ad : Nat → Nat) (f : qFs) (g : qGs) (k : Int32) (nR : Nat) (nB : Nat) (hI : xI nR nB f) : Met l yX0_isMember wsX0_isMember ({ frames := 4, cells := 0, slots := 0, locals := 86 } : Room) (va_Pc [.ref (ad 16), .int k] (qPre D (qTy cA cZ cL) (xW cA ad f g))) (vp_Si (fun z => z = bI (¬ xRead nR f g k = -1))) 0 0 (fun _ => False) := by
  refine Met.ofW (cc := cX0_isMember) (maxL := 2) (ret := (some .boolean)) (by decide) rfl ?_
  intro p e s m args below meth c s₁ B hml hv
  obtain ⟨rfl, hP, hK⟩ := hv
  have hx := B.exec
  have hb := B.bytes
  have hr := B.returns
  have hts := atoms_spec (ws := wsX0_isMember) B.pre
  have hown : s.vm.findClass RX0 = some m.cls := findClass_of_methodNamed B.named
  have hlocks := B.notSynchronized
  have hfin : ∀ w ∈ wsX00, w ∈ wsX0_isMember := fun w h => (List.mem_cons_of_mem _ (List.mem_append_right _ h))
  have hl := lv_entry ([.ref (ad 16), .int k]) (n := 2) (Nat.le_of_ble_eq_true rfl)
  rw [lg_entry_eq]
  generalize (lg_sl ([.ref (ad 16), .int k]) ++ List.replicate (2 - (lg_sl ([.ref (ad 16), .int k])).length) Slot.unset).toArray = ls at hl ⊢
  have hl : lv_has ls 2 [(0, .ref (ad 16)), (1, .int k)] := hl
  refine lv_aload_n hx hb dX0_isMember_0 rfl (lv_at hl 0 rfl) ?_
  refine lv_iload_n hx hb dX0_isMember_1 rfl (lv_at hl 1 rfl) ?_
  refine vp_callSi (W.runV (As := [.int k]) (rest := []) ⟨hx, hb, hml, hown, hts⟩ (c_X0_read l D cA cZ cL ad f g k nR nB hI) (cwV 1 hts gX0_isMember_X0_read rfl rfl rfl (by decide +kernel) ⟨Nat.le_of_ble_eq_true rfl, Nat.le_of_ble_eq_true rfl⟩) ⟨qPre_blind, va_recv hK hP (ci := 0) (q0 := 0) rfl rfl, qPre_at hP hK⟩ rfl rfl hl.1 rfl (lv_room (Nat.le_of_ble_eq_true rfl)) dX0_isMember_2 ⟨Nat.le_of_ble_eq_true rfl, Nat.le_of_ble_eq_true rfl⟩) (fun z hz => ?_)
  subst hz
  refine lv_iconst (v := (-1)) hx hb dX0_isMember_5 (by decide) ?_
  refine lv_icmp_eq (tgt := 13) hx hb dX0_isMember_6 (by decide) (fun c_6 => ?_) (fun c_6 => ?_)
  · skip
    refine lv_iconst (v := 0) hx hb dX0_isMember_13 (by decide) ?_
    exact W.zret (v := 0) hx hb hr rfl (fun t ht hW => ⟨0, rfl, (bI_f (fun q => q c_6)).symm, ht⟩) (fun q h => nomatch h) dX0_isMember_14
  · skip
    refine lv_iconst (v := 1) hx hb dX0_isMember_9 (by decide) ?_
    refine lv_goto (tgt := 14) hx hb dX0_isMember_10 (by decide) ?_
    exact W.zret (v := 1) hx hb hr rfl (fun t ht hW => ⟨1, rfl, (bI_t (c_6)).symm, ht⟩) (fun q h => nomatch h) dX0_isMember_14
set_option maxHeartbeats 4000000 in
set_option maxRecDepth 100000 in
/-- how many rows a shard has from a key to another -/
theorem c_X0_countRows (l : Launch) (D : va_G) (cA cZ cL : ClassId) (ad : Nat → Nat) (f : qFs) (g : qGs) (sh : Int32) (lst : Int32) (lo : Nat) (hlo : lo ≤ 100) : Met l yX0_countRows wsX0_countRows ({ frames := 2, cells := 0, slots := 0, locals := 42 } : Room) (va_Pc [.ref (ad 16), .int sh, .int (nI lo), .int lst] (qPre D (qTy cA cZ cL) (xW cA ad f g))) (vp_Si (fun z => z = nI (cnt (xRowP g sh) lo (hiOf lst)))) 0 0 (fun _ => False) := by
  refine Met.ofW (cc := cX0_countRows) (maxL := 6) (ret := (some .int)) (by decide) rfl ?_
  intro p e s m args below meth c s₁ B hml hv
  obtain ⟨rfl, hP, hK⟩ := hv
  have hx := B.exec
  have hb := B.bytes
  have hr := B.returns
  have hts := atoms_spec (ws := wsX0_countRows) B.pre
  have hown : s.vm.findClass RX0 = some m.cls := findClass_of_methodNamed B.named
  have hlocks := B.notSynchronized
  have hfin : ∀ w ∈ wsX00, w ∈ wsX0_countRows := fun w h => (List.mem_cons_of_mem _ (List.mem_append_right _ h))
  have hl := lv_entry ([.ref (ad 16), .int sh, .int (nI lo), .int lst]) (n := 6) (Nat.le_of_ble_eq_true rfl)
  rw [lg_entry_eq]
  generalize (lg_sl ([.ref (ad 16), .int sh, .int (nI lo), .int lst]) ++ List.replicate (6 - (lg_sl ([.ref (ad 16), .int sh, .int (nI lo), .int lst])).length) Slot.unset).toArray = ls at hl ⊢
  have hl : lv_has ls 6 [(0, .ref (ad 16)), (1, .int sh), (2, .int (nI lo)), (3, .int lst)] := hl
  refine lv_iconst (v := 0) hx hb dX0_countRows_0 (by decide) ?_
  refine lv_istore (lv' := [(4, .int 0), (0, .ref (ad 16)), (1, .int sh), (2, .int (nI lo)), (3, .int lst)]) hx hb dX0_countRows_1 hl (by decide) rfl (fun ls hl => ?_)
  refine lv_iload_n hx hb dX0_countRows_3 rfl (lv_at hl 3 rfl) ?_
  refine lv_istore (lv' := [(5, .int (nI lo)), (4, .int 0), (0, .ref (ad 16)), (1, .int sh), (2, .int (nI lo)), (3, .int lst)]) hx hb dX0_countRows_4 hl (by decide) rfl (fun ls hl => ?_)
  have hloop_6 : ∀ (nme : Nat) (k : Nat) (acc : Nat), 100 - k = nme → (k ≤ 100) → (acc + cnt (xRowP g sh) k (hiOf lst) = cnt (xRowP g sh) lo (hiOf lst)) → ∀ ls : Array Slot, lv_has ls 6 [(0, .ref (ad 16)), (1, .int sh), (2, .int (nI lo)), (3, .int lst), (4, .int (nI acc)), (5, .int (nI k))] → W p l e (headSpec wsX0_countRows ({ frames := 2, cells := 0, slots := 0, locals := 42 } : Room)).room s m ([.ref (ad 16), .int sh, .int (nI lo), .int lst] : List Value).toArray below meth c s.heap [] 0 0 (MQ below (vp_Si (fun z => z = nI (cnt (xRowP g sh) lo (hiOf lst)))) ([.ref (ad 16), .int sh, .int (nI lo), .int lst] : List Value).toArray s 0 0 (fun _ => False)) (F0 m 6 ls []) := by
    intro nme
    induction nme using Nat.strongRecOn with
    | ind nme ih =>
      intro k acc hnme hk hc ls hl
      refine lv_iload hx hb dX0_countRows_6 (lv_at hl 5 rfl) ?_
      refine lv_iload_n hx hb dX0_countRows_8 rfl (lv_at hl 3 rfl) ?_
      refine lv_icmp_gt (tgt := 39) hx hb dX0_countRows_9 (by decide) (fun c_9 => ?_) (fun c_9 => ?_)
      · skip
        have hge := hi_out c_9 (by omega)
        refine lv_iload hx hb dX0_countRows_39 (lv_at hl 4 rfl) ?_
        exact W.iret (v := nI acc) hx hb hr (fun t ht hW => ⟨nI acc, rfl, (by rw [← hc, cnt_end hge]; rfl), ht⟩) (fun q h => nomatch h) dX0_countRows_41
      · skip
        refine lv_iload hx hb dX0_countRows_12 (lv_at hl 5 rfl) ?_
        refine lv_bipush (v := 100) hx hb dX0_countRows_14 (by decide) ?_
        refine lv_icmp_ge (tgt := 39) hx hb dX0_countRows_16 (by decide) (fun c_16 => ?_) (fun c_16 => ?_)
        · skip
          have hge : hiOf lst ≤ k := Nat.le_trans (hi_le lst) (n_ge (a := k) (b := 100) c_16 (by omega) (by decide))
          refine lv_iload hx hb dX0_countRows_39 (lv_at hl 4 rfl) ?_
          exact W.iret (v := nI acc) hx hb hr (fun t ht hW => ⟨nI acc, rfl, (by rw [← hc, cnt_end hge]; rfl), ht⟩) (fun q h => nomatch h) dX0_countRows_41
        · skip
          have hlt := hi_in c_9 c_16 (by omega)
          have hl1 := hi_le lst
          refine lv_aload_n hx hb dX0_countRows_19 rfl (lv_at hl 0 rfl) ?_
          refine lv_iload_n hx hb dX0_countRows_20 rfl (lv_at hl 1 rfl) ?_
          refine lv_iload hx hb dX0_countRows_21 (lv_at hl 5 rfl) ?_
          refine vp_callSi (W.runV (As := [.int sh, .int (nI k)]) (rest := []) ⟨hx, hb, hml, hown, hts⟩ (c_X0_rowOf l D cA cZ cL ad f g sh (nI k)) (cwV 2 hts gX0_countRows_X0_rowOf rfl rfl rfl (by decide +kernel) ⟨Nat.le_of_ble_eq_true rfl, Nat.le_of_ble_eq_true rfl⟩) ⟨qPre_blind, va_recv hK hP (ci := 0) (q0 := 0) rfl rfl, qPre_at hP hK⟩ rfl rfl hl.1 rfl (lv_room (Nat.le_of_ble_eq_true rfl)) dX0_countRows_23 ⟨Nat.le_of_ble_eq_true rfl, Nat.le_of_ble_eq_true rfl⟩) (fun z hz => ?_)
          subst hz
          refine lv_iconst (v := (-1)) hx hb dX0_countRows_26 (by decide) ?_
          refine lv_icmp_eq (tgt := 33) hx hb dX0_countRows_27 (by decide) (fun c_27 => ?_) (fun c_27 => ?_)
          · skip
            refine lv_iinc (v := nI (k + 1)) (lv' := [(5, .int (nI (k + 1))), (0, .ref (ad 16)), (1, .int sh), (2, .int (nI lo)), (3, .int lst), (4, .int (nI acc))]) hx hb dX0_countRows_33 hl (k := 5) rfl (nI_1 k) (by decide) rfl (fun ls hl => ?_)
            refine lv_goto (tgt := 6) hx hb dX0_countRows_36 (by decide) ?_
            exact ih _ (by omega) (k + 1) acc rfl (by omega) (by rw [← hc, cnt_n hlt (df (fun q => q c_27))]) _ (lv_sub hl [1, 2, 3, 4, 5, 0] rfl)
          · skip
            refine lv_iinc (v := nI (acc + 1)) (lv' := [(4, .int (nI (acc + 1))), (0, .ref (ad 16)), (1, .int sh), (2, .int (nI lo)), (3, .int lst), (5, .int (nI k))]) hx hb dX0_countRows_30 hl (k := 4) rfl (nI_1 acc) (by decide) rfl (fun ls hl => ?_)
            refine lv_iinc (v := nI (k + 1)) (lv' := [(5, .int (nI (k + 1))), (4, .int (nI (acc + 1))), (0, .ref (ad 16)), (1, .int sh), (2, .int (nI lo)), (3, .int lst)]) hx hb dX0_countRows_33 hl (k := 5) rfl (nI_1 k) (by decide) rfl (fun ls hl => ?_)
            refine lv_goto (tgt := 6) hx hb dX0_countRows_36 (by decide) ?_
            exact ih _ (by omega) (k + 1) (acc + 1) rfl (by omega) (by rw [← hc, cnt_y hlt (dt c_27)]; omega) _ (lv_sub hl [2, 3, 4, 5, 1, 0] rfl)
  exact hloop_6 _ lo 0 rfl hlo (Nat.zero_add _) _ (lv_sub hl [2, 3, 4, 5, 1, 0] rfl)
set_option maxHeartbeats 4000000 in
set_option maxRecDepth 100000 in
/-- puts a row, if there is such a shard and key -/
theorem c_X0_putRow (l : Launch) (D : va_G) (cA cZ cL : ClassId) (ad : Nat → Nat) (f : qFs) (g : qGs) (sz : Nat) (sh : Int32) (k : Int32) (a : Int32) : Met l yX0_putRow wsX0_putRow ({ frames := 1, cells := 0, slots := 0, locals := 20 } : Room) (va_Pc [.ref (ad 16), .int sh, .int k, .int a] (qPreW D (qTy cA cZ cL) (xW cA ad f g) sz)) (va_Qv (fun u : qFs × qGs => u.1 = f ∧ u.2 = xPutG g sh k a) (qAt D (va_A (xW cA ad f g) sz) (fun u : qFs × qGs => xW cA ad u.1 u.2)) (va_A (xW cA ad f g) sz)) 0 0 (va_A (xW cA ad f g) sz) := by
  refine Met.ofW (cc := cX0_putRow) (maxL := 4) (ret := none) (by decide) rfl ?_
  intro p e s m args below meth c s₁ B hml hv
  obtain ⟨rfl, hsz, hP, hK, hD0⟩ := hv
  have hx := B.exec
  have hb := B.bytes
  have hr := B.returns
  have hts := atoms_spec (ws := wsX0_putRow) B.pre
  have hown : s.vm.findClass RX0 = some m.cls := findClass_of_methodNamed B.named
  have hlocks := B.notSynchronized
  subst hsz
  have hD := hD0.self (sz := s.heap.size)
  generalize hAe : va_A (xW cA ad f g) s.heap.size = A at hD ⊢
  have hA : ∀ q : Nat, s.heap.size ≤ q → A q := fun q h => by rw [← hAe]; exact Or.inr h
  have hS : va_S A s.heap s.heap [] := va_S.rf
  have hfin : ∀ w ∈ wsX00, w ∈ wsX0_putRow := fun w h => (List.mem_cons_of_mem _ (List.mem_append_right _ h))
  have hl := lv_entry ([.ref (ad 16), .int sh, .int k, .int a]) (n := 4) (Nat.le_of_ble_eq_true rfl)
  rw [lg_entry_eq]
  generalize (lg_sl ([.ref (ad 16), .int sh, .int k, .int a]) ++ List.replicate (4 - (lg_sl ([.ref (ad 16), .int sh, .int k, .int a])).length) Slot.unset).toArray = ls at hl ⊢
  have hl : lv_has ls 4 [(0, .ref (ad 16)), (1, .int sh), (2, .int k), (3, .int a)] := hl
  refine lv_iload_n hx hb dX0_putRow_0 rfl (lv_at hl 1 rfl) ?_
  refine vp_callSi (W.runS (As := [.int sh]) (rest := []) ⟨hx, hb, hml, hown, hts⟩ (c_X0_isShard l sh) (va_cwS 1 hts gX0_putRow_X0_isShard rfl rfl rfl (by decide +kernel) ⟨Nat.le_of_ble_eq_true rfl, Nat.le_of_ble_eq_true rfl⟩) ⟨qN_blind, qN_at⟩ rfl rfl hl.1 rfl (lv_room (Nat.le_of_ble_eq_true rfl)) dX0_putRow_1 ⟨Nat.le_of_ble_eq_true rfl, Nat.le_of_ble_eq_true rfl⟩) (fun z hz => ?_)
  subst hz
  refine lv_if_eq (tgt := 26) hx hb dX0_putRow_4 (by decide) (fun c_4 => ?_) (fun c_4 => ?_)
  · have c_4 := bI_0.mp c_4
    exact W.vret hx hb hr (fun t ht hW => ⟨⟨(f, g), rfl, ⟨rfl, (by unfold xPutG xPut; rw [if_neg (fun q => c_4 q.1), up_self])⟩, by rw [ht]; exact hP, hD⟩, hS.F ht⟩) hS.2.2 dX0_putRow_26
  · have c_4 := bI_n.mp c_4
    refine lv_iload_n hx hb dX0_putRow_7 rfl (lv_at hl 2 rfl) ?_
    refine vp_callSi (W.runS (As := [.int k]) (rest := []) ⟨hx, hb, hml, hown, hts⟩ (c_X0_isKey l k) (va_cwS 1 hts gX0_putRow_X0_isKey rfl rfl rfl (by decide +kernel) ⟨Nat.le_of_ble_eq_true rfl, Nat.le_of_ble_eq_true rfl⟩) ⟨qN_blind, qN_at⟩ rfl rfl hl.1 rfl (lv_room (Nat.le_of_ble_eq_true rfl)) dX0_putRow_8 ⟨Nat.le_of_ble_eq_true rfl, Nat.le_of_ble_eq_true rfl⟩) (fun z hz => ?_)
    subst hz
    refine lv_if_eq (tgt := 26) hx hb dX0_putRow_11 (by decide) (fun c_11 => ?_) (fun c_11 => ?_)
    · have c_11 := bI_0.mp c_11
      exact W.vret hx hb hr (fun t ht hW => ⟨⟨(f, g), rfl, ⟨rfl, (by unfold xPutG xPut; rw [if_neg (fun q => c_11 q.2), up_self])⟩, by rw [ht]; exact hP, hD⟩, hS.F ht⟩) hS.2.2 dX0_putRow_26
    · have c_11 := bI_n.mp c_11
      refine lv_aload_n hx hb dX0_putRow_14 rfl (lv_at hl 0 rfl) ?_
      refine va_get (D := D) (ci := 0) (v := .ref (ad 0)) (C := RX0) (T := TX0) (N := 16) hx hb hts hfin hown hK hP 0 rfl rfl 0 (by decide) (hts _ (List.mem_cons_of_mem _ (List.mem_append_left _ (List.mem_of_getElem? (i := 0) rfl)))) (fun _ h9 => h9) rfl dX0_putRow_15 ?_
      refine lv_iload_n hx hb dX0_putRow_18 rfl (lv_at hl 1 rfl) ?_
      refine lv_bipush (v := 100) hx hb dX0_putRow_19 (by decide) ?_
      refine lv_imul hx hb dX0_putRow_21 ?_
      refine lv_iload_n hx hb dX0_putRow_22 rfl (lv_at hl 2 rfl) ?_
      refine lv_iadd hx hb dX0_putRow_23 ?_
      refine lv_iload_n hx hb dX0_putRow_24 rfl (lv_at hl 3 rfl) ?_
      refine va_iast hx hb hK hP hD hS 1 0 rfl rfl (x_inT c_4 c_11) dX0_putRow_25 (fun H locs hP hD hS => ?_)
      have hP : va_P D vwCl (xW cA ad f (va_up g 0 (upd (g 0) ((sh * 100) + k).toNatClampNeg a))) H := hP
      have hD : va_D A (xW cA ad f (va_up g 0 (upd (g 0) ((sh * 100) + k).toNatClampNeg a))) := hD
      exact W.vret hx hb hr (fun t ht hW => ⟨⟨(f, (va_up g 0 (upd (g 0) ((sh * 100) + k).toNatClampNeg a))), rfl, ⟨rfl, (by unfold xPutG xPut; rw [if_pos ⟨c_4, c_11⟩])⟩, by rw [ht]; exact hP, hD⟩, hS.F ht⟩) hS.2.2 dX0_putRow_26
set_option maxHeartbeats 4000000 in
set_option maxRecDepth 100000 in
/-- a write, to both shards of a moved range -/
theorem c_X0_write (l : Launch) (D : va_G) (cA cZ cL : ClassId) (ad : Nat → Nat) (f : qFs) (g : qGs) (sz : Nat) (k : Int32) (a : Int32) (nR : Nat) (nB : Nat) (hI : xI nR nB f) : Met l yX0_write wsX0_write ({ frames := 3, cells := 0, slots := 0, locals := 65 } : Room) (va_Pc [.ref (ad 16), .int k, .int a] (qPreW D (qTy cA cZ cL) (xW cA ad f g) sz)) (va_Qv (fun u : qFs × qGs => u.1 = f ∧ u.2 = xWriteG nR f g k a) (qAt D (va_A (xW cA ad f g) sz) (fun u : qFs × qGs => xW cA ad u.1 u.2)) (va_A (xW cA ad f g) sz)) 0 0 (va_A (xW cA ad f g) sz) := by
  refine Met.ofW (cc := cX0_write) (maxL := 4) (ret := none) (by decide) rfl ?_
  intro p e s m args below meth c s₁ B hml hv
  obtain ⟨rfl, hsz, hP, hK, hD0⟩ := hv
  have hx := B.exec
  have hb := B.bytes
  have hr := B.returns
  have hts := atoms_spec (ws := wsX0_write) B.pre
  have hown : s.vm.findClass RX0 = some m.cls := findClass_of_methodNamed B.named
  have hlocks := B.notSynchronized
  subst hsz
  have hD := hD0.self (sz := s.heap.size)
  generalize hAe : va_A (xW cA ad f g) s.heap.size = A at hD ⊢
  have hA : ∀ q : Nat, s.heap.size ≤ q → A q := fun q h => by rw [← hAe]; exact Or.inr h
  have hS : va_S A s.heap s.heap [] := va_S.rf
  have hfin : ∀ w ∈ wsX00, w ∈ wsX0_write := fun w h => (List.mem_cons_of_mem _ (List.mem_append_right _ h))
  have hl := lv_entry ([.ref (ad 16), .int k, .int a]) (n := 4) (Nat.le_of_ble_eq_true rfl)
  rw [lg_entry_eq]
  generalize (lg_sl ([.ref (ad 16), .int k, .int a]) ++ List.replicate (4 - (lg_sl ([.ref (ad 16), .int k, .int a])).length) Slot.unset).toArray = ls at hl ⊢
  have hl : lv_has ls 4 [(0, .ref (ad 16)), (1, .int k), (2, .int a)] := hl
  refine lv_aload_n hx hb dX0_write_0 rfl (lv_at hl 0 rfl) ?_
  refine lv_iload_n hx hb dX0_write_1 rfl (lv_at hl 1 rfl) ?_
  refine vp_callSi (W.runV (As := [.int k]) (rest := []) ⟨hx, hb, hml, hown, hts⟩ (c_X0_rangeHolding l D cA cZ cL ad f g k nR nB hI) (cwV 1 hts gX0_write_X0_rangeHolding rfl rfl rfl (by decide +kernel) ⟨Nat.le_of_ble_eq_true rfl, Nat.le_of_ble_eq_true rfl⟩) ⟨qPre_blind, va_recv hK hP (ci := 0) (q0 := 0) rfl rfl, qPre_at hP hK⟩ rfl rfl hl.1 rfl (lv_room (Nat.le_of_ble_eq_true rfl)) dX0_write_2 ⟨Nat.le_of_ble_eq_true rfl, Nat.le_of_ble_eq_true rfl⟩) (fun z hz => ?_)
  subst hz
  refine lv_istore_n (lv' := [(3, .int (nI (xHold nR g k))), (0, .ref (ad 16)), (1, .int k), (2, .int a)]) hx hb dX0_write_5 rfl hl (by decide) rfl (fun ls hl => ?_)
  refine lv_aload_n hx hb dX0_write_6 rfl (lv_at hl 1 rfl) ?_
  refine lv_aload_n hx hb dX0_write_7 rfl (lv_at hl 1 rfl) ?_
  refine lv_iload_n hx hb dX0_write_8 rfl (lv_at hl 0 rfl) ?_
  refine vp_callSi (W.runV (As := [.int (nI (xHold nR g k))]) (rest := [.ref (ad 16)]) ⟨hx, hb, hml, hown, hts⟩ (c_X0_homeOf l D cA cZ cL ad f g (nI (xHold nR g k)) nR nB hI) (cwV 1 hts gX0_write_X0_homeOf rfl rfl rfl (by decide +kernel) ⟨Nat.le_of_ble_eq_true rfl, Nat.le_of_ble_eq_true rfl⟩) ⟨qPre_blind, va_recv hK hP (ci := 0) (q0 := 0) rfl rfl, qPre_at hP hK⟩ rfl rfl hl.1 rfl (lv_room (Nat.le_of_ble_eq_true rfl)) dX0_write_9 ⟨Nat.le_of_ble_eq_true rfl, Nat.le_of_ble_eq_true rfl⟩) (fun z hz => ?_)
  subst hz
  refine lv_iload_n hx hb dX0_write_12 rfl (lv_at hl 2 rfl) ?_
  refine lv_iload_n hx hb dX0_write_13 rfl (lv_at hl 3 rfl) ?_
  refine qb_callv (va_runV (As := [.int (xHome f g (nI (xHold nR g k))), .int k, .int a]) (rest := []) ⟨hx, hb, hml, hown, hts⟩ (c_X0_putRow l D cA cZ cL ad f g s.heap.size (xHome f g (nI (xHold nR g k))) k a) (cwV 3 hts gX0_write_X0_putRow rfl rfl rfl (by decide +kernel) ⟨Nat.le_of_ble_eq_true rfl, Nat.le_of_ble_eq_true rfl⟩) ⟨qPreW_blind, va_recv hK hP (ci := 0) (q0 := 0) rfl rfl, qPreW_at hP hK hD⟩ rfl rfl hl.1 rfl (lv_room (Nat.le_of_ble_eq_true rfl)) dX0_write_14 ⟨Nat.le_of_ble_eq_true rfl, Nat.le_of_ble_eq_true rfl⟩) hD hS hA (fun u H locs hu hP hD hS => ?_)
  obtain ⟨uf, ug⟩ := u
  obtain ⟨hu1, hu2⟩ := hu
  have hu1 : uf = f := hu1
  have hu2 : ug = xPutG g (xHome f g (nI (xHold nR g k))) k a := hu2
  have hP : va_P D vwCl (xW cA ad uf ug) H := hP
  have hD : va_D A (xW cA ad uf ug) := hD
  rw [hu1, hu2] at hP hD
  have hP : va_P D vwCl (xW cA ad f (xPutG g (xHome f g (nI (xHold nR g k))) k a)) H := hP
  have hD : va_D A (xW cA ad f (xPutG g (xHome f g (nI (xHold nR g k))) k a)) := hD
  refine lv_aload_n hx hb dX0_write_17 rfl (lv_at hl 1 rfl) ?_
  refine lv_aload_n hx hb dX0_write_18 rfl (lv_at hl 1 rfl) ?_
  refine lv_iload_n hx hb dX0_write_19 rfl (lv_at hl 0 rfl) ?_
  refine vp_callSi (W.runV (As := [.int (nI (xHold nR g k))]) (rest := [.ref (ad 16)]) ⟨hx, hb, hml, hown, hts⟩ (c_X0_targetOf l D cA cZ cL ad f (xPutG g (xHome f g (nI (xHold nR g k))) k a) (nI (xHold nR g k)) nR nB hI) (cwV 1 hts gX0_write_X0_targetOf rfl rfl rfl (by decide +kernel) ⟨Nat.le_of_ble_eq_true rfl, Nat.le_of_ble_eq_true rfl⟩) ⟨qPre_blind, va_recv hK hP (ci := 0) (q0 := 0) rfl rfl, qPre_at hP hK⟩ rfl rfl hl.1 rfl (lv_room (Nat.le_of_ble_eq_true rfl)) dX0_write_20 ⟨Nat.le_of_ble_eq_true rfl, Nat.le_of_ble_eq_true rfl⟩) (fun z hz => ?_)
  subst hz
  refine lv_topi (fun v_20 hv_20 => ?_)
  have hv_20 : v_20 = xTarg f g (nI (xHold nR g k)) := hv_20.trans (rfl)
  subst hv_20
  refine lv_iload_n hx hb dX0_write_23 rfl (lv_at hl 2 rfl) ?_
  refine lv_iload_n hx hb dX0_write_24 rfl (lv_at hl 3 rfl) ?_
  refine qb_callv (va_runV (As := [.int (xTarg f g (nI (xHold nR g k))), .int k, .int a]) (rest := []) ⟨hx, hb, hml, hown, hts⟩ (c_X0_putRow l D cA cZ cL ad f (xPutG g (xHome f g (nI (xHold nR g k))) k a) H.size (xTarg f g (nI (xHold nR g k))) k a) (cwV 3 hts gX0_write_X0_putRow rfl rfl rfl (by decide +kernel) ⟨Nat.le_of_ble_eq_true rfl, Nat.le_of_ble_eq_true rfl⟩) ⟨qPreW_blind, va_recv hK hP (ci := 0) (q0 := 0) rfl rfl, qPreW_at hP hK hD⟩ rfl rfl hl.1 rfl (lv_room (Nat.le_of_ble_eq_true rfl)) dX0_write_25 ⟨Nat.le_of_ble_eq_true rfl, Nat.le_of_ble_eq_true rfl⟩) hD hS hA (fun u H locs hu hP hD hS => ?_)
  obtain ⟨uf, ug⟩ := u
  obtain ⟨hu1, hu2⟩ := hu
  have hu1 : uf = f := hu1
  have hu2 : ug = xPutG (xPutG g (xHome f g (nI (xHold nR g k))) k a) (xTarg f g (nI (xHold nR g k))) k a := hu2
  have hP : va_P D vwCl (xW cA ad uf ug) H := hP
  have hD : va_D A (xW cA ad uf ug) := hD
  rw [hu1, hu2] at hP hD
  have hP : va_P D vwCl (xW cA ad f (xPutG (xPutG g (xHome f g (nI (xHold nR g k))) k a) (xTarg f g (nI (xHold nR g k))) k a)) H := hP
  have hD : va_D A (xW cA ad f (xPutG (xPutG g (xHome f g (nI (xHold nR g k))) k a) (xTarg f g (nI (xHold nR g k))) k a)) := hD
  exact W.vret hx hb hr (fun t ht hW => ⟨⟨(f, (xPutG (xPutG g (xHome f g (nI (xHold nR g k))) k a) (xTarg f g (nI (xHold nR g k))) k a)), rfl, ⟨rfl, rfl⟩, by rw [ht]; exact hP, hD⟩, hS.F ht⟩) hS.2.2 dX0_write_28
set_option maxHeartbeats 4000000 in
set_option maxRecDepth 100000 in
/-- checkKey -/
theorem c_X0_checkKey (l : Launch) (hl0 : l.stackTraces = false) (k : Int32) : vx_Met l yX0_checkKey wsX0_checkKey ({ frames := 6, cells := 1, slots := 6, locals := 90 } : Room) (va_Pc [.int k] qTH) (va_Sv (fun _ => xKey k)) (qX (fun E => E = eIO ∧ ¬ (xKey k))) 1 6 (fun _ => False) := by
  refine vx_ofW (cc := cX0_checkKey) (maxL := 1) (ret := none) (by decide) rfl ?_
  intro p e s m args below meth c s₁ B hml hno hv
  obtain ⟨rfl, hTH⟩ := hv
  have hx := B.exec
  have hb := B.bytes
  have hr := B.returns
  have hts := atoms_spec (ws := wsX0_checkKey) B.pre
  have hown : s.vm.findClass RX0 = some m.cls := findClass_of_methodNamed B.named
  have hlocks := B.notSynchronized
  have hl := lv_entry ([.int k]) (n := 1) (Nat.le_of_ble_eq_true rfl)
  rw [lg_entry_eq]
  generalize (lg_sl ([.int k]) ++ List.replicate (1 - (lg_sl ([.int k])).length) Slot.unset).toArray = ls at hl ⊢
  have hl : lv_has ls 1 [(0, .int k)] := hl
  refine lv_iload_n hx hb dX0_checkKey_0 rfl (lv_at hl 0 rfl) ?_
  refine vp_callSi (W.runS (As := [.int k]) (rest := []) ⟨hx, hb, hml, hown, hts⟩ (c_X0_isKey l k) (va_cwS 1 hts gX0_checkKey_X0_isKey rfl rfl rfl (by decide +kernel) ⟨Nat.le_of_ble_eq_true rfl, Nat.le_of_ble_eq_true rfl⟩) ⟨qN_blind, qN_at⟩ rfl rfl hl.1 rfl (lv_room (Nat.le_of_ble_eq_true rfl)) dX0_checkKey_1 ⟨Nat.le_of_ble_eq_true rfl, Nat.le_of_ble_eq_true rfl⟩) (fun z hz => ?_)
  subst hz
  refine lv_if_ne (tgt := 17) hx hb dX0_checkKey_4 (by decide) (fun c_4 => ?_) (fun c_4 => ?_)
  · have c_4 := bI_n.mp c_4
    refine vx_ret ?_
    refine W.widen (k := 1) (n := 6) (by decide) (by decide) ?_
    exact W.vret hx hb hr (fun t ht hW => ⟨rfl, c_4, ht⟩) (fun q h => nomatch h) dX0_checkKey_17
  · have c_4 := bI_0.mp c_4
    obtain ⟨sa, hsa⟩ := hTH.2.2.1 (216, "no such key") (List.mem_of_getElem? (i := 17) rfl)
    exact vx_throwS (A := fun _ => False) (names := ["java/lang/RuntimeException", "java/lang/Exception"]) hx hb hl0 hown (by decide) (by decide) (hts _ (List.mem_cons_of_mem _ (List.mem_append_left _ (List.mem_of_getElem? (i := 0) rfl)))) (hts _ (List.mem_cons_of_mem _ (List.mem_append_left _ (List.mem_of_getElem? (i := 1) rfl)))) hsa (vx_hat (fun w h => hts w (List.mem_cons_of_mem _ (List.mem_append_right _ h))) qw1 (qBad_of hTH (by decide))) qg1 hTH.1 hTH.2.1 va_S.rf (hl.1.trans hml.symm) dX0_checkKey_7 dX0_checkKey_10 dX0_checkKey_11 dX0_checkKey_13 dX0_checkKey_16 (fun x h => (hno x h).elim) (Nat.le_of_ble_eq_true rfl) (Nat.le_of_ble_eq_true rfl) (Nat.le_of_ble_eq_true rfl) (Nat.le_of_ble_eq_true rfl) hlocks (fun t _ h1 h2 => ⟨⟨rfl, c_4⟩, h1, h2⟩) (fun q h => nomatch h) (by decide) (by decide)
set_option maxHeartbeats 4000000 in
set_option maxRecDepth 100000 in
/-- checkShard -/
theorem c_X0_checkShard (l : Launch) (hl0 : l.stackTraces = false) (k : Int32) : vx_Met l yX0_checkShard wsX0_checkShard ({ frames := 6, cells := 1, slots := 6, locals := 90 } : Room) (va_Pc [.int k] qTH) (va_Sv (fun _ => xShard k)) (qX (fun E => E = eIO ∧ ¬ (xShard k))) 1 6 (fun _ => False) := by
  refine vx_ofW (cc := cX0_checkShard) (maxL := 1) (ret := none) (by decide) rfl ?_
  intro p e s m args below meth c s₁ B hml hno hv
  obtain ⟨rfl, hTH⟩ := hv
  have hx := B.exec
  have hb := B.bytes
  have hr := B.returns
  have hts := atoms_spec (ws := wsX0_checkShard) B.pre
  have hown : s.vm.findClass RX0 = some m.cls := findClass_of_methodNamed B.named
  have hlocks := B.notSynchronized
  have hl := lv_entry ([.int k]) (n := 1) (Nat.le_of_ble_eq_true rfl)
  rw [lg_entry_eq]
  generalize (lg_sl ([.int k]) ++ List.replicate (1 - (lg_sl ([.int k])).length) Slot.unset).toArray = ls at hl ⊢
  have hl : lv_has ls 1 [(0, .int k)] := hl
  refine lv_iload_n hx hb dX0_checkShard_0 rfl (lv_at hl 0 rfl) ?_
  refine vp_callSi (W.runS (As := [.int k]) (rest := []) ⟨hx, hb, hml, hown, hts⟩ (c_X0_isShard l k) (va_cwS 1 hts gX0_checkShard_X0_isShard rfl rfl rfl (by decide +kernel) ⟨Nat.le_of_ble_eq_true rfl, Nat.le_of_ble_eq_true rfl⟩) ⟨qN_blind, qN_at⟩ rfl rfl hl.1 rfl (lv_room (Nat.le_of_ble_eq_true rfl)) dX0_checkShard_1 ⟨Nat.le_of_ble_eq_true rfl, Nat.le_of_ble_eq_true rfl⟩) (fun z hz => ?_)
  subst hz
  refine lv_if_ne (tgt := 17) hx hb dX0_checkShard_4 (by decide) (fun c_4 => ?_) (fun c_4 => ?_)
  · have c_4 := bI_n.mp c_4
    refine vx_ret ?_
    refine W.widen (k := 1) (n := 6) (by decide) (by decide) ?_
    exact W.vret hx hb hr (fun t ht hW => ⟨rfl, c_4, ht⟩) (fun q h => nomatch h) dX0_checkShard_17
  · have c_4 := bI_0.mp c_4
    obtain ⟨sa, hsa⟩ := hTH.2.2.1 (219, "no such shard") (List.mem_of_getElem? (i := 18) rfl)
    exact vx_throwS (A := fun _ => False) (names := ["java/lang/RuntimeException", "java/lang/Exception"]) hx hb hl0 hown (by decide) (by decide) (hts _ (List.mem_cons_of_mem _ (List.mem_append_left _ (List.mem_of_getElem? (i := 0) rfl)))) (hts _ (List.mem_cons_of_mem _ (List.mem_append_left _ (List.mem_of_getElem? (i := 1) rfl)))) hsa (vx_hat (fun w h => hts w (List.mem_cons_of_mem _ (List.mem_append_right _ h))) qw1 (qBad_of hTH (by decide))) qg1 hTH.1 hTH.2.1 va_S.rf (hl.1.trans hml.symm) dX0_checkShard_7 dX0_checkShard_10 dX0_checkShard_11 dX0_checkShard_13 dX0_checkShard_16 (fun x h => (hno x h).elim) (Nat.le_of_ble_eq_true rfl) (Nat.le_of_ble_eq_true rfl) (Nat.le_of_ble_eq_true rfl) (Nat.le_of_ble_eq_true rfl) hlocks (fun t _ h1 h2 => ⟨⟨rfl, c_4⟩, h1, h2⟩) (fun q h => nomatch h) (by decide) (by decide)
set_option maxHeartbeats 4000000 in
set_option maxRecDepth 100000 in
/-- checkDistrict -/
theorem c_X0_checkDistrict (l : Launch) (hl0 : l.stackTraces = false) (k : Int32) : vx_Met l yX0_checkDistrict wsX0_checkDistrict ({ frames := 6, cells := 1, slots := 6, locals := 90 } : Room) (va_Pc [.int k] qTH) (va_Sv (fun _ => xShard k)) (qX (fun E => E = eIO ∧ ¬ (xShard k))) 1 6 (fun _ => False) := by
  refine vx_ofW (cc := cX0_checkDistrict) (maxL := 1) (ret := none) (by decide) rfl ?_
  intro p e s m args below meth c s₁ B hml hno hv
  obtain ⟨rfl, hTH⟩ := hv
  have hx := B.exec
  have hb := B.bytes
  have hr := B.returns
  have hts := atoms_spec (ws := wsX0_checkDistrict) B.pre
  have hown : s.vm.findClass RX0 = some m.cls := findClass_of_methodNamed B.named
  have hlocks := B.notSynchronized
  have hl := lv_entry ([.int k]) (n := 1) (Nat.le_of_ble_eq_true rfl)
  rw [lg_entry_eq]
  generalize (lg_sl ([.int k]) ++ List.replicate (1 - (lg_sl ([.int k])).length) Slot.unset).toArray = ls at hl ⊢
  have hl : lv_has ls 1 [(0, .int k)] := hl
  refine lv_iload_n hx hb dX0_checkDistrict_0 rfl (lv_at hl 0 rfl) ?_
  refine lv_if_lt (tgt := 9) hx hb dX0_checkDistrict_1 (by decide) (fun c_1 => ?_) (fun c_1 => ?_)
  · skip
    obtain ⟨sa, hsa⟩ := hTH.2.2.1 (221, "no such district") (List.mem_of_getElem? (i := 19) rfl)
    exact vx_throwS (A := fun _ => False) (names := ["java/lang/RuntimeException", "java/lang/Exception"]) hx hb hl0 hown (by decide) (by decide) (hts _ (List.mem_cons_of_mem _ (List.mem_append_left _ (List.mem_of_getElem? (i := 0) rfl)))) (hts _ (List.mem_cons_of_mem _ (List.mem_append_left _ (List.mem_of_getElem? (i := 1) rfl)))) hsa (vx_hat (fun w h => hts w (List.mem_cons_of_mem _ (List.mem_append_right _ h))) qw1 (qBad_of hTH (by decide))) qg1 hTH.1 hTH.2.1 va_S.rf (hl.1.trans hml.symm) dX0_checkDistrict_9 dX0_checkDistrict_12 dX0_checkDistrict_13 dX0_checkDistrict_15 dX0_checkDistrict_18 (fun x h => (hno x h).elim) (Nat.le_of_ble_eq_true rfl) (Nat.le_of_ble_eq_true rfl) (Nat.le_of_ble_eq_true rfl) (Nat.le_of_ble_eq_true rfl) hlocks (fun t _ h1 h2 => ⟨⟨rfl, i_nl c_1⟩, h1, h2⟩) (fun q h => nomatch h) (by decide) (by decide)
  · skip
    refine lv_iload_n hx hb dX0_checkDistrict_4 rfl (lv_at hl 0 rfl) ?_
    refine lv_iconst (v := 4) hx hb dX0_checkDistrict_5 (by decide) ?_
    refine lv_icmp_lt (tgt := 19) hx hb dX0_checkDistrict_6 (by decide) (fun c_6 => ?_) (fun c_6 => ?_)
    · skip
      refine vx_ret ?_
      refine W.widen (k := 1) (n := 6) (by decide) (by decide) ?_
      exact W.vret hx hb hr (fun t ht hW => ⟨rfl, (i_and2 c_1 c_6), ht⟩) (fun q h => nomatch h) dX0_checkDistrict_19
    · skip
      obtain ⟨sa, hsa⟩ := hTH.2.2.1 (221, "no such district") (List.mem_of_getElem? (i := 19) rfl)
      exact vx_throwS (A := fun _ => False) (names := ["java/lang/RuntimeException", "java/lang/Exception"]) hx hb hl0 hown (by decide) (by decide) (hts _ (List.mem_cons_of_mem _ (List.mem_append_left _ (List.mem_of_getElem? (i := 0) rfl)))) (hts _ (List.mem_cons_of_mem _ (List.mem_append_left _ (List.mem_of_getElem? (i := 1) rfl)))) hsa (vx_hat (fun w h => hts w (List.mem_cons_of_mem _ (List.mem_append_right _ h))) qw1 (qBad_of hTH (by decide))) qg1 hTH.1 hTH.2.1 va_S.rf (hl.1.trans hml.symm) dX0_checkDistrict_9 dX0_checkDistrict_12 dX0_checkDistrict_13 dX0_checkDistrict_15 dX0_checkDistrict_18 (fun x h => (hno x h).elim) (Nat.le_of_ble_eq_true rfl) (Nat.le_of_ble_eq_true rfl) (Nat.le_of_ble_eq_true rfl) (Nat.le_of_ble_eq_true rfl) hlocks (fun t _ h1 h2 => ⟨⟨rfl, fun q => c_6 q.2⟩, h1, h2⟩) (fun q h => nomatch h) (by decide) (by decide)
set_option maxHeartbeats 4000000 in
set_option maxRecDepth 100000 in
/-- checkAddress -/
theorem c_X0_checkAddress (l : Launch) (hl0 : l.stackTraces = false) (k : Int32) : vx_Met l yX0_checkAddress wsX0_checkAddress ({ frames := 6, cells := 1, slots := 6, locals := 90 } : Room) (va_Pc [.int k] qTH) (va_Sv (fun _ => xAdr k)) (qX (fun E => E = eIA ∧ ¬ (xAdr k))) 1 6 (fun _ => False) := by
  refine vx_ofW (cc := cX0_checkAddress) (maxL := 1) (ret := none) (by decide) rfl ?_
  intro p e s m args below meth c s₁ B hml hno hv
  obtain ⟨rfl, hTH⟩ := hv
  have hx := B.exec
  have hb := B.bytes
  have hr := B.returns
  have hts := atoms_spec (ws := wsX0_checkAddress) B.pre
  have hown : s.vm.findClass RX0 = some m.cls := findClass_of_methodNamed B.named
  have hlocks := B.notSynchronized
  have hl := lv_entry ([.int k]) (n := 1) (Nat.le_of_ble_eq_true rfl)
  rw [lg_entry_eq]
  generalize (lg_sl ([.int k]) ++ List.replicate (1 - (lg_sl ([.int k])).length) Slot.unset).toArray = ls at hl ⊢
  have hl : lv_has ls 1 [(0, .int k)] := hl
  refine lv_iload_n hx hb dX0_checkAddress_0 rfl (lv_at hl 0 rfl) ?_
  refine lv_if_lt (tgt := 10) hx hb dX0_checkAddress_1 (by decide) (fun c_1 => ?_) (fun c_1 => ?_)
  · skip
    obtain ⟨sa, hsa⟩ := hTH.2.2.1 (229, "the address is out of range") (List.mem_of_getElem? (i := 22) rfl)
    exact vx_throwS (A := fun _ => False) (names := ["java/lang/RuntimeException", "java/lang/Exception"]) hx hb hl0 hown (by decide) (by decide) (hts _ (List.mem_cons_of_mem _ (List.mem_append_left _ (List.mem_of_getElem? (i := 0) rfl)))) (hts _ (List.mem_cons_of_mem _ (List.mem_append_left _ (List.mem_of_getElem? (i := 1) rfl)))) hsa (vx_hat (fun w h => hts w (List.mem_cons_of_mem _ (List.mem_append_right _ h))) qw2 (qBad_of hTH (by decide))) qg2 hTH.1 hTH.2.1 va_S.rf (hl.1.trans hml.symm) dX0_checkAddress_10 dX0_checkAddress_13 dX0_checkAddress_14 dX0_checkAddress_16 dX0_checkAddress_19 (fun x h => (hno x h).elim) (Nat.le_of_ble_eq_true rfl) (Nat.le_of_ble_eq_true rfl) (Nat.le_of_ble_eq_true rfl) (Nat.le_of_ble_eq_true rfl) hlocks (fun t _ h1 h2 => ⟨⟨rfl, i_nl c_1⟩, h1, h2⟩) (fun q h => nomatch h) (by decide) (by decide)
  · skip
    refine lv_iload_n hx hb dX0_checkAddress_4 rfl (lv_at hl 0 rfl) ?_
    refine lv_bipush (v := 40) hx hb dX0_checkAddress_5 (by decide) ?_
    refine lv_icmp_lt (tgt := 20) hx hb dX0_checkAddress_7 (by decide) (fun c_7 => ?_) (fun c_7 => ?_)
    · skip
      refine vx_ret ?_
      refine W.widen (k := 1) (n := 6) (by decide) (by decide) ?_
      exact W.vret hx hb hr (fun t ht hW => ⟨rfl, (i_and2 c_1 c_7), ht⟩) (fun q h => nomatch h) dX0_checkAddress_20
    · skip
      obtain ⟨sa, hsa⟩ := hTH.2.2.1 (229, "the address is out of range") (List.mem_of_getElem? (i := 22) rfl)
      exact vx_throwS (A := fun _ => False) (names := ["java/lang/RuntimeException", "java/lang/Exception"]) hx hb hl0 hown (by decide) (by decide) (hts _ (List.mem_cons_of_mem _ (List.mem_append_left _ (List.mem_of_getElem? (i := 0) rfl)))) (hts _ (List.mem_cons_of_mem _ (List.mem_append_left _ (List.mem_of_getElem? (i := 1) rfl)))) hsa (vx_hat (fun w h => hts w (List.mem_cons_of_mem _ (List.mem_append_right _ h))) qw2 (qBad_of hTH (by decide))) qg2 hTH.1 hTH.2.1 va_S.rf (hl.1.trans hml.symm) dX0_checkAddress_10 dX0_checkAddress_13 dX0_checkAddress_14 dX0_checkAddress_16 dX0_checkAddress_19 (fun x h => (hno x h).elim) (Nat.le_of_ble_eq_true rfl) (Nat.le_of_ble_eq_true rfl) (Nat.le_of_ble_eq_true rfl) (Nat.le_of_ble_eq_true rfl) hlocks (fun t _ h1 h2 => ⟨⟨rfl, fun q => c_7 q.2⟩, h1, h2⟩) (fun q h => nomatch h) (by decide) (by decide)
set_option maxHeartbeats 4000000 in
set_option maxRecDepth 100000 in
/-- checkChoice -/
theorem c_X0_checkChoice (l : Launch) (hl0 : l.stackTraces = false) (k : Int32) : vx_Met l yX0_checkChoice wsX0_checkChoice ({ frames := 6, cells := 1, slots := 6, locals := 90 } : Room) (va_Pc [.int k] qTH) (va_Sv (fun _ => xCho k)) (qX (fun E => E = eIA ∧ ¬ (xCho k))) 1 6 (fun _ => False) := by
  refine vx_ofW (cc := cX0_checkChoice) (maxL := 1) (ret := none) (by decide) rfl ?_
  intro p e s m args below meth c s₁ B hml hno hv
  obtain ⟨rfl, hTH⟩ := hv
  have hx := B.exec
  have hb := B.bytes
  have hr := B.returns
  have hts := atoms_spec (ws := wsX0_checkChoice) B.pre
  have hown : s.vm.findClass RX0 = some m.cls := findClass_of_methodNamed B.named
  have hlocks := B.notSynchronized
  have hl := lv_entry ([.int k]) (n := 1) (Nat.le_of_ble_eq_true rfl)
  rw [lg_entry_eq]
  generalize (lg_sl ([.int k]) ++ List.replicate (1 - (lg_sl ([.int k])).length) Slot.unset).toArray = ls at hl ⊢
  have hl : lv_has ls 1 [(0, .int k)] := hl
  refine lv_iload_n hx hb dX0_checkChoice_0 rfl (lv_at hl 0 rfl) ?_
  refine lv_if_lt (tgt := 9) hx hb dX0_checkChoice_1 (by decide) (fun c_1 => ?_) (fun c_1 => ?_)
  · skip
    obtain ⟨sa, hsa⟩ := hTH.2.2.1 (232, "the choice is out of range") (List.mem_of_getElem? (i := 23) rfl)
    exact vx_throwS (A := fun _ => False) (names := ["java/lang/RuntimeException", "java/lang/Exception"]) hx hb hl0 hown (by decide) (by decide) (hts _ (List.mem_cons_of_mem _ (List.mem_append_left _ (List.mem_of_getElem? (i := 0) rfl)))) (hts _ (List.mem_cons_of_mem _ (List.mem_append_left _ (List.mem_of_getElem? (i := 1) rfl)))) hsa (vx_hat (fun w h => hts w (List.mem_cons_of_mem _ (List.mem_append_right _ h))) qw2 (qBad_of hTH (by decide))) qg2 hTH.1 hTH.2.1 va_S.rf (hl.1.trans hml.symm) dX0_checkChoice_9 dX0_checkChoice_12 dX0_checkChoice_13 dX0_checkChoice_15 dX0_checkChoice_18 (fun x h => (hno x h).elim) (Nat.le_of_ble_eq_true rfl) (Nat.le_of_ble_eq_true rfl) (Nat.le_of_ble_eq_true rfl) (Nat.le_of_ble_eq_true rfl) hlocks (fun t _ h1 h2 => ⟨⟨rfl, i_nl c_1⟩, h1, h2⟩) (fun q h => nomatch h) (by decide) (by decide)
  · skip
    refine lv_iload_n hx hb dX0_checkChoice_4 rfl (lv_at hl 0 rfl) ?_
    refine lv_iconst (v := 3) hx hb dX0_checkChoice_5 (by decide) ?_
    refine lv_icmp_lt (tgt := 19) hx hb dX0_checkChoice_6 (by decide) (fun c_6 => ?_) (fun c_6 => ?_)
    · skip
      refine vx_ret ?_
      refine W.widen (k := 1) (n := 6) (by decide) (by decide) ?_
      exact W.vret hx hb hr (fun t ht hW => ⟨rfl, (i_and2 c_1 c_6), ht⟩) (fun q h => nomatch h) dX0_checkChoice_19
    · skip
      obtain ⟨sa, hsa⟩ := hTH.2.2.1 (232, "the choice is out of range") (List.mem_of_getElem? (i := 23) rfl)
      exact vx_throwS (A := fun _ => False) (names := ["java/lang/RuntimeException", "java/lang/Exception"]) hx hb hl0 hown (by decide) (by decide) (hts _ (List.mem_cons_of_mem _ (List.mem_append_left _ (List.mem_of_getElem? (i := 0) rfl)))) (hts _ (List.mem_cons_of_mem _ (List.mem_append_left _ (List.mem_of_getElem? (i := 1) rfl)))) hsa (vx_hat (fun w h => hts w (List.mem_cons_of_mem _ (List.mem_append_right _ h))) qw2 (qBad_of hTH (by decide))) qg2 hTH.1 hTH.2.1 va_S.rf (hl.1.trans hml.symm) dX0_checkChoice_9 dX0_checkChoice_12 dX0_checkChoice_13 dX0_checkChoice_15 dX0_checkChoice_18 (fun x h => (hno x h).elim) (Nat.le_of_ble_eq_true rfl) (Nat.le_of_ble_eq_true rfl) (Nat.le_of_ble_eq_true rfl) (Nat.le_of_ble_eq_true rfl) hlocks (fun t _ h1 h2 => ⟨⟨rfl, fun q => c_6 q.2⟩, h1, h2⟩) (fun q h => nomatch h) (by decide) (by decide)
set_option maxHeartbeats 4000000 in
set_option maxRecDepth 100000 in
/-- checkRange -/
theorem c_X0_checkRange (l : Launch) (hl0 : l.stackTraces = false) (D : va_G) (cA cZ cL : ClassId) (ad : Nat → Nat) (f : qFs) (g : qGs) (r : Int32) : vx_Met l yX0_checkRange wsX0_checkRange ({ frames := 6, cells := 1, slots := 6, locals := 90 } : Room) (va_Pc [.ref (ad 16), .int r] (qPreT D (qTy cA cZ cL) (xW cA ad f g))) (va_Sv (fun _ => xRange f r)) (qX (fun E => E = eIO ∧ ¬ (xRange f r))) 1 6 (fun _ => False) := by
  refine vx_ofW (cc := cX0_checkRange) (maxL := 2) (ret := none) (by decide) rfl ?_
  intro p e s m args below meth c s₁ B hml hno hv
  obtain ⟨rfl, hP, hK, hTH⟩ := hv
  have hx := B.exec
  have hb := B.bytes
  have hr := B.returns
  have hts := atoms_spec (ws := wsX0_checkRange) B.pre
  have hown : s.vm.findClass RX0 = some m.cls := findClass_of_methodNamed B.named
  have hlocks := B.notSynchronized
  have hfin : ∀ w ∈ wsX00, w ∈ wsX0_checkRange := fun w h => (List.mem_cons_of_mem _ (List.mem_append_left _ (List.mem_append_right _ h)))
  have hl := lv_entry ([.ref (ad 16), .int r]) (n := 2) (Nat.le_of_ble_eq_true rfl)
  rw [lg_entry_eq]
  generalize (lg_sl ([.ref (ad 16), .int r]) ++ List.replicate (2 - (lg_sl ([.ref (ad 16), .int r])).length) Slot.unset).toArray = ls at hl ⊢
  have hl : lv_has ls 2 [(0, .ref (ad 16)), (1, .int r)] := hl
  refine lv_aload_n hx hb dX0_checkRange_0 rfl (lv_at hl 0 rfl) ?_
  refine lv_iload_n hx hb dX0_checkRange_1 rfl (lv_at hl 1 rfl) ?_
  refine vp_callSi (W.runV (As := [.int r]) (rest := []) ⟨hx, hb, hml, hown, hts⟩ (c_X0_isRange l D cA cZ cL ad f g r) (cwV 1 hts gX0_checkRange_X0_isRange rfl rfl rfl (by decide +kernel) ⟨Nat.le_of_ble_eq_true rfl, Nat.le_of_ble_eq_true rfl⟩) ⟨qPre_blind, va_recv hK hP (ci := 0) (q0 := 0) rfl rfl, qPre_at hP hK⟩ rfl rfl hl.1 rfl (lv_room (Nat.le_of_ble_eq_true rfl)) dX0_checkRange_2 ⟨Nat.le_of_ble_eq_true rfl, Nat.le_of_ble_eq_true rfl⟩) (fun z hz => ?_)
  subst hz
  refine lv_if_ne (tgt := 18) hx hb dX0_checkRange_5 (by decide) (fun c_5 => ?_) (fun c_5 => ?_)
  · have c_5 := bI_n.mp c_5
    refine vx_ret ?_
    refine W.widen (k := 1) (n := 6) (by decide) (by decide) ?_
    exact W.vret hx hb hr (fun t ht hW => ⟨rfl, c_5, ht⟩) (fun q h => nomatch h) dX0_checkRange_18
  · have c_5 := bI_0.mp c_5
    obtain ⟨sa, hsa⟩ := hTH.2.2.1 (223, "no such range") (List.mem_of_getElem? (i := 20) rfl)
    exact vx_throwS (A := fun _ => False) (names := ["java/lang/RuntimeException", "java/lang/Exception"]) hx hb hl0 hown (by decide) (by decide) (hts _ (List.mem_cons_of_mem _ (List.mem_append_left _ (List.mem_append_left _ (List.mem_of_getElem? (i := 0) rfl))))) (hts _ (List.mem_cons_of_mem _ (List.mem_append_left _ (List.mem_append_left _ (List.mem_of_getElem? (i := 1) rfl))))) hsa (vx_hat (fun w h => hts w (List.mem_cons_of_mem _ (List.mem_append_right _ h))) qw1 (qBad_of hTH (by decide))) qg1 hTH.1 hTH.2.1 va_S.rf (hl.1.trans hml.symm) dX0_checkRange_8 dX0_checkRange_11 dX0_checkRange_12 dX0_checkRange_14 dX0_checkRange_17 (fun x h => (hno x h).elim) (Nat.le_of_ble_eq_true rfl) (Nat.le_of_ble_eq_true rfl) (Nat.le_of_ble_eq_true rfl) (Nat.le_of_ble_eq_true rfl) hlocks (fun t _ h1 h2 => ⟨⟨rfl, c_5⟩, h1, h2⟩) (fun q h => nomatch h) (by decide) (by decide)
set_option maxHeartbeats 4000000 in
set_option maxRecDepth 100000 in
/-- checkBallot -/
theorem c_X0_checkBallot (l : Launch) (hl0 : l.stackTraces = false) (D : va_G) (cA cZ cL : ClassId) (ad : Nat → Nat) (f : qFs) (g : qGs) (r : Int32) : vx_Met l yX0_checkBallot wsX0_checkBallot ({ frames := 6, cells := 1, slots := 6, locals := 90 } : Room) (va_Pc [.ref (ad 16), .int r] (qPreT D (qTy cA cZ cL) (xW cA ad f g))) (va_Sv (fun _ => xBallot f r)) (qX (fun E => E = eIO ∧ ¬ (xBallot f r))) 1 6 (fun _ => False) := by
  refine vx_ofW (cc := cX0_checkBallot) (maxL := 2) (ret := none) (by decide) rfl ?_
  intro p e s m args below meth c s₁ B hml hno hv
  obtain ⟨rfl, hP, hK, hTH⟩ := hv
  have hx := B.exec
  have hb := B.bytes
  have hr := B.returns
  have hts := atoms_spec (ws := wsX0_checkBallot) B.pre
  have hown : s.vm.findClass RX0 = some m.cls := findClass_of_methodNamed B.named
  have hlocks := B.notSynchronized
  have hfin : ∀ w ∈ wsX00, w ∈ wsX0_checkBallot := fun w h => (List.mem_cons_of_mem _ (List.mem_append_left _ (List.mem_append_right _ h)))
  have hl := lv_entry ([.ref (ad 16), .int r]) (n := 2) (Nat.le_of_ble_eq_true rfl)
  rw [lg_entry_eq]
  generalize (lg_sl ([.ref (ad 16), .int r]) ++ List.replicate (2 - (lg_sl ([.ref (ad 16), .int r])).length) Slot.unset).toArray = ls at hl ⊢
  have hl : lv_has ls 2 [(0, .ref (ad 16)), (1, .int r)] := hl
  refine lv_aload_n hx hb dX0_checkBallot_0 rfl (lv_at hl 0 rfl) ?_
  refine lv_iload_n hx hb dX0_checkBallot_1 rfl (lv_at hl 1 rfl) ?_
  refine vp_callSi (W.runV (As := [.int r]) (rest := []) ⟨hx, hb, hml, hown, hts⟩ (c_X0_isBallot l D cA cZ cL ad f g r) (cwV 1 hts gX0_checkBallot_X0_isBallot rfl rfl rfl (by decide +kernel) ⟨Nat.le_of_ble_eq_true rfl, Nat.le_of_ble_eq_true rfl⟩) ⟨qPre_blind, va_recv hK hP (ci := 0) (q0 := 0) rfl rfl, qPre_at hP hK⟩ rfl rfl hl.1 rfl (lv_room (Nat.le_of_ble_eq_true rfl)) dX0_checkBallot_2 ⟨Nat.le_of_ble_eq_true rfl, Nat.le_of_ble_eq_true rfl⟩) (fun z hz => ?_)
  subst hz
  refine lv_if_ne (tgt := 18) hx hb dX0_checkBallot_5 (by decide) (fun c_5 => ?_) (fun c_5 => ?_)
  · have c_5 := bI_n.mp c_5
    refine vx_ret ?_
    refine W.widen (k := 1) (n := 6) (by decide) (by decide) ?_
    exact W.vret hx hb hr (fun t ht hW => ⟨rfl, c_5, ht⟩) (fun q h => nomatch h) dX0_checkBallot_18
  · have c_5 := bI_0.mp c_5
    obtain ⟨sa, hsa⟩ := hTH.2.2.1 (225, "no such ballot") (List.mem_of_getElem? (i := 21) rfl)
    exact vx_throwS (A := fun _ => False) (names := ["java/lang/RuntimeException", "java/lang/Exception"]) hx hb hl0 hown (by decide) (by decide) (hts _ (List.mem_cons_of_mem _ (List.mem_append_left _ (List.mem_append_left _ (List.mem_of_getElem? (i := 0) rfl))))) (hts _ (List.mem_cons_of_mem _ (List.mem_append_left _ (List.mem_append_left _ (List.mem_of_getElem? (i := 1) rfl))))) hsa (vx_hat (fun w h => hts w (List.mem_cons_of_mem _ (List.mem_append_right _ h))) qw1 (qBad_of hTH (by decide))) qg1 hTH.1 hTH.2.1 va_S.rf (hl.1.trans hml.symm) dX0_checkBallot_8 dX0_checkBallot_11 dX0_checkBallot_12 dX0_checkBallot_14 dX0_checkBallot_17 (fun x h => (hno x h).elim) (Nat.le_of_ble_eq_true rfl) (Nat.le_of_ble_eq_true rfl) (Nat.le_of_ble_eq_true rfl) (Nat.le_of_ble_eq_true rfl) hlocks (fun t _ h1 h2 => ⟨⟨rfl, c_5⟩, h1, h2⟩) (fun q h => nomatch h) (by decide) (by decide)
set_option maxHeartbeats 4000000 in
set_option maxRecDepth 100000 in
/-- ranges -/
theorem c_X0_ranges (l : Launch) (D : va_G) (cA cZ cL : ClassId) (ad : Nat → Nat) (f : qFs) (g : qGs) : Met l yX0_ranges wsX0_ranges ({ frames := 0, cells := 0, slots := 0, locals := 0 } : Room) (va_Pc [.ref (ad 16)] (qPre D (qTy cA cZ cL) (xW cA ad f g))) (vp_Si (fun z => z = f 5)) 0 0 (fun _ => False) := by
  refine Met.ofW (cc := cX0_ranges) (maxL := 1) (ret := (some .int)) (by decide) rfl ?_
  intro p e s m args below meth c s₁ B hml hv
  obtain ⟨rfl, hP, hK⟩ := hv
  have hx := B.exec
  have hb := B.bytes
  have hr := B.returns
  have hts := atoms_spec (ws := wsX0_ranges) B.pre
  have hown : s.vm.findClass RX0 = some m.cls := findClass_of_methodNamed B.named
  have hlocks := B.notSynchronized
  have hfin : ∀ w ∈ wsX00, w ∈ wsX0_ranges := fun w h => (List.mem_cons_of_mem _ (List.mem_append_right _ h))
  have hl := lv_entry ([.ref (ad 16)]) (n := 1) (Nat.le_of_ble_eq_true rfl)
  rw [lg_entry_eq]
  generalize (lg_sl ([.ref (ad 16)]) ++ List.replicate (1 - (lg_sl ([.ref (ad 16)])).length) Slot.unset).toArray = ls at hl ⊢
  have hl : lv_has ls 1 [(0, .ref (ad 16))] := hl
  refine lv_aload_n hx hb dX0_ranges_0 rfl (lv_at hl 0 rfl) ?_
  refine va_get (D := D) (ci := 0) (v := .int (f 5)) (C := RX0) (T := TX0) (N := 16) hx hb hts hfin hown hK hP 0 rfl rfl 5 (by decide) (hts _ (List.mem_cons_of_mem _ (List.mem_append_left _ (List.mem_of_getElem? (i := 0) rfl)))) (fun _ h9 => h9) rfl dX0_ranges_1 ?_
  exact W.iret (v := f 5) hx hb hr (fun t ht hW => ⟨f 5, rfl, rfl, ht⟩) (fun q h => nomatch h) dX0_ranges_4
set_option maxHeartbeats 4000000 in
set_option maxRecDepth 100000 in
/-- address -/
theorem c_X0_address (l : Launch) (hl0 : l.stackTraces = false) (D : va_G) (cA cZ cL : ClassId) (ad : Nat → Nat) (f : qFs) (g : qGs) (k : Int32) (nR : Nat) (nB : Nat) (hI : xI nR nB f) : vx_Met l yX0_address wsX0_address ({ frames := 7, cells := 1, slots := 6, locals := 110 } : Room) (va_Pc [.ref (ad 16), .int k] (qPreT D (qTy cA cZ cL) (xW cA ad f g))) (vp_Si (fun z => xKey k ∧ z = xRead nR f g k)) (qX (fun E => E = eIO ∧ ¬ xKey k)) 1 6 (fun _ => False) := by
  refine vx_ofW (cc := cX0_address) (maxL := 2) (ret := (some .int)) (by decide) rfl ?_
  intro p e s m args below meth c s₁ B hml hno hv
  obtain ⟨rfl, hP, hK, hTH⟩ := hv
  have hx := B.exec
  have hb := B.bytes
  have hr := B.returns
  have hts := atoms_spec (ws := wsX0_address) B.pre
  have hown : s.vm.findClass RX0 = some m.cls := findClass_of_methodNamed B.named
  have hlocks := B.notSynchronized
  have hfin : ∀ w ∈ wsX00, w ∈ wsX0_address := fun w h => (List.mem_cons_of_mem _ (List.mem_append_left _ (List.mem_append_right _ h)))
  have hl := lv_entry ([.ref (ad 16), .int k]) (n := 2) (Nat.le_of_ble_eq_true rfl)
  rw [lg_entry_eq]
  generalize (lg_sl ([.ref (ad 16), .int k]) ++ List.replicate (2 - (lg_sl ([.ref (ad 16), .int k])).length) Slot.unset).toArray = ls at hl ⊢
  have hl : lv_has ls 2 [(0, .ref (ad 16)), (1, .int k)] := hl
  refine lv_iload_n hx hb dX0_address_0 rfl (lv_at hl 1 rfl) ?_
  refine qb_callSv (vx_runS (As := [.int k]) (rest := []) ⟨hx, hb, hml, hown, hts⟩ (c_X0_checkKey l hl0 k) (va_cwS 1 hts gX0_address_X0_checkKey rfl rfl rfl (by decide +kernel) ⟨Nat.le_of_ble_eq_true rfl, Nat.le_of_ble_eq_true rfl⟩) ⟨qTH_blind, qTH_pc hTH rfl⟩ rfl rfl hl.1 rfl (lv_room (Nat.le_of_ble_eq_true rfl)) dX0_address_1 ⟨Nat.le_of_ble_eq_true rfl, Nat.le_of_ble_eq_true rfl⟩) (fun E ce q9 st t H1 hst ht hvm hX hcell hcv hcl => vx_out (fun x h => (hno x h).elim) hlocks hcell hcv hcl (fun t2 h2 hA2 => qX_pass hX hst rfl ht h2 (fun h => h)) (fun q h => nomatch h) (by decide) (by decide)) (fun hz => ?_)
  have h_1 := hz
  refine lv_aload_n hx hb dX0_address_4 rfl (lv_at hl 0 rfl) ?_
  refine lv_iload_n hx hb dX0_address_5 rfl (lv_at hl 1 rfl) ?_
  refine vp_callSi (W.runV (As := [.int k]) (rest := []) ⟨hx, hb, hml, hown, hts⟩ (c_X0_read l D cA cZ cL ad f g k nR nB hI) (cwV 1 hts gX0_address_X0_read rfl rfl rfl (by decide +kernel) ⟨Nat.le_of_ble_eq_true rfl, Nat.le_of_ble_eq_true rfl⟩) ⟨qPre_blind, va_recv hK hP (ci := 0) (q0 := 0) rfl rfl, qPre_at hP hK⟩ rfl rfl hl.1 rfl (lv_room (Nat.le_of_ble_eq_true rfl)) dX0_address_6 ⟨Nat.le_of_ble_eq_true rfl, Nat.le_of_ble_eq_true rfl⟩) (fun z hz => ?_)
  subst hz
  refine vx_ret ?_
  refine W.widen (k := 1) (n := 6) (by decide) (by decide) ?_
  exact W.iret (v := xRead nR f g k) hx hb hr (fun t ht hW => ⟨xRead nR f g k, rfl, ⟨h_1, rfl⟩, ht⟩) (fun q h => nomatch h) dX0_address_9
set_option maxHeartbeats 4000000 in
set_option maxRecDepth 100000 in
/-- rangeOf -/
theorem c_X0_rangeOf (l : Launch) (hl0 : l.stackTraces = false) (D : va_G) (cA cZ cL : ClassId) (ad : Nat → Nat) (f : qFs) (g : qGs) (k : Int32) (nR : Nat) (nB : Nat) (hI : xI nR nB f) : vx_Met l yX0_rangeOf wsX0_rangeOf ({ frames := 7, cells := 1, slots := 6, locals := 110 } : Room) (va_Pc [.ref (ad 16), .int k] (qPreT D (qTy cA cZ cL) (xW cA ad f g))) (vp_Si (fun z => xKey k ∧ z = nI (xHold nR g k))) (qX (fun E => E = eIO ∧ ¬ xKey k)) 1 6 (fun _ => False) := by
  refine vx_ofW (cc := cX0_rangeOf) (maxL := 2) (ret := (some .int)) (by decide) rfl ?_
  intro p e s m args below meth c s₁ B hml hno hv
  obtain ⟨rfl, hP, hK, hTH⟩ := hv
  have hx := B.exec
  have hb := B.bytes
  have hr := B.returns
  have hts := atoms_spec (ws := wsX0_rangeOf) B.pre
  have hown : s.vm.findClass RX0 = some m.cls := findClass_of_methodNamed B.named
  have hlocks := B.notSynchronized
  have hfin : ∀ w ∈ wsX00, w ∈ wsX0_rangeOf := fun w h => (List.mem_cons_of_mem _ (List.mem_append_left _ (List.mem_append_right _ h)))
  have hl := lv_entry ([.ref (ad 16), .int k]) (n := 2) (Nat.le_of_ble_eq_true rfl)
  rw [lg_entry_eq]
  generalize (lg_sl ([.ref (ad 16), .int k]) ++ List.replicate (2 - (lg_sl ([.ref (ad 16), .int k])).length) Slot.unset).toArray = ls at hl ⊢
  have hl : lv_has ls 2 [(0, .ref (ad 16)), (1, .int k)] := hl
  refine lv_iload_n hx hb dX0_rangeOf_0 rfl (lv_at hl 1 rfl) ?_
  refine qb_callSv (vx_runS (As := [.int k]) (rest := []) ⟨hx, hb, hml, hown, hts⟩ (c_X0_checkKey l hl0 k) (va_cwS 1 hts gX0_rangeOf_X0_checkKey rfl rfl rfl (by decide +kernel) ⟨Nat.le_of_ble_eq_true rfl, Nat.le_of_ble_eq_true rfl⟩) ⟨qTH_blind, qTH_pc hTH rfl⟩ rfl rfl hl.1 rfl (lv_room (Nat.le_of_ble_eq_true rfl)) dX0_rangeOf_1 ⟨Nat.le_of_ble_eq_true rfl, Nat.le_of_ble_eq_true rfl⟩) (fun E ce q9 st t H1 hst ht hvm hX hcell hcv hcl => vx_out (fun x h => (hno x h).elim) hlocks hcell hcv hcl (fun t2 h2 hA2 => qX_pass hX hst rfl ht h2 (fun h => h)) (fun q h => nomatch h) (by decide) (by decide)) (fun hz => ?_)
  have h_1 := hz
  refine lv_aload_n hx hb dX0_rangeOf_4 rfl (lv_at hl 0 rfl) ?_
  refine lv_iload_n hx hb dX0_rangeOf_5 rfl (lv_at hl 1 rfl) ?_
  refine vp_callSi (W.runV (As := [.int k]) (rest := []) ⟨hx, hb, hml, hown, hts⟩ (c_X0_rangeHolding l D cA cZ cL ad f g k nR nB hI) (cwV 1 hts gX0_rangeOf_X0_rangeHolding rfl rfl rfl (by decide +kernel) ⟨Nat.le_of_ble_eq_true rfl, Nat.le_of_ble_eq_true rfl⟩) ⟨qPre_blind, va_recv hK hP (ci := 0) (q0 := 0) rfl rfl, qPre_at hP hK⟩ rfl rfl hl.1 rfl (lv_room (Nat.le_of_ble_eq_true rfl)) dX0_rangeOf_6 ⟨Nat.le_of_ble_eq_true rfl, Nat.le_of_ble_eq_true rfl⟩) (fun z hz => ?_)
  subst hz
  refine vx_ret ?_
  refine W.widen (k := 1) (n := 6) (by decide) (by decide) ?_
  exact W.iret (v := nI (xHold nR g k)) hx hb hr (fun t ht hW => ⟨nI (xHold nR g k), rfl, ⟨h_1, rfl⟩, ht⟩) (fun q h => nomatch h) dX0_rangeOf_9
set_option maxHeartbeats 4000000 in
set_option maxRecDepth 100000 in
/-- shardOf -/
theorem c_X0_shardOf (l : Launch) (hl0 : l.stackTraces = false) (D : va_G) (cA cZ cL : ClassId) (ad : Nat → Nat) (f : qFs) (g : qGs) (r : Int32) (nR : Nat) (nB : Nat) (hI : xI nR nB f) : vx_Met l yX0_shardOf wsX0_shardOf ({ frames := 7, cells := 1, slots := 6, locals := 111 } : Room) (va_Pc [.ref (ad 16), .int r] (qPreT D (qTy cA cZ cL) (xW cA ad f g))) (vp_Si (fun z => xRange f r ∧ z = g 3 r.toNatClampNeg)) (qX (fun E => E = eIO ∧ ¬ xRange f r)) 1 6 (fun _ => False) := by
  refine vx_ofW (cc := cX0_shardOf) (maxL := 2) (ret := (some .int)) (by decide) rfl ?_
  intro p e s m args below meth c s₁ B hml hno hv
  obtain ⟨rfl, hP, hK, hTH⟩ := hv
  have hx := B.exec
  have hb := B.bytes
  have hr := B.returns
  have hts := atoms_spec (ws := wsX0_shardOf) B.pre
  have hown : s.vm.findClass RX0 = some m.cls := findClass_of_methodNamed B.named
  have hlocks := B.notSynchronized
  have hfin : ∀ w ∈ wsX00, w ∈ wsX0_shardOf := fun w h => (List.mem_cons_of_mem _ (List.mem_append_left _ (List.mem_append_right _ h)))
  have hl := lv_entry ([.ref (ad 16), .int r]) (n := 2) (Nat.le_of_ble_eq_true rfl)
  rw [lg_entry_eq]
  generalize (lg_sl ([.ref (ad 16), .int r]) ++ List.replicate (2 - (lg_sl ([.ref (ad 16), .int r])).length) Slot.unset).toArray = ls at hl ⊢
  have hl : lv_has ls 2 [(0, .ref (ad 16)), (1, .int r)] := hl
  refine lv_aload_n hx hb dX0_shardOf_0 rfl (lv_at hl 0 rfl) ?_
  refine lv_iload_n hx hb dX0_shardOf_1 rfl (lv_at hl 1 rfl) ?_
  refine qb_callSv (vx_runV (As := [.int r]) (rest := []) ⟨hx, hb, hml, hown, hts⟩ (c_X0_checkRange l hl0 D cA cZ cL ad f g r) (cwV 1 hts gX0_shardOf_X0_checkRange rfl rfl rfl (by decide +kernel) ⟨Nat.le_of_ble_eq_true rfl, Nat.le_of_ble_eq_true rfl⟩) ⟨qPreT_blind, va_recv hK hP (ci := 0) (q0 := 0) rfl rfl, qPreT_at hP hK hTH rfl⟩ rfl rfl hl.1 rfl (lv_room (Nat.le_of_ble_eq_true rfl)) dX0_shardOf_2 ⟨Nat.le_of_ble_eq_true rfl, Nat.le_of_ble_eq_true rfl⟩) (fun E ce q9 st t H1 hst ht hvm hX hcell hcv hcl => vx_out (fun x h => (hno x h).elim) hlocks hcell hcv hcl (fun t2 h2 hA2 => qX_pass hX hst rfl ht h2 (fun h => h)) (fun q h => nomatch h) (by decide) (by decide)) (fun hz => ?_)
  have h_2 := hz
  refine lv_aload_n hx hb dX0_shardOf_5 rfl (lv_at hl 0 rfl) ?_
  refine va_get (D := D) (ci := 0) (v := .ref (ad 3)) (C := RX0) (T := TX0) (N := 16) hx hb hts hfin hown hK hP 0 rfl rfl 3 (by decide) (hts _ (List.mem_cons_of_mem _ (List.mem_append_left _ (List.mem_append_left _ (List.mem_of_getElem? (i := 0) rfl))))) (fun _ h9 => h9) rfl dX0_shardOf_6 ?_
  refine lv_iload_n hx hb dX0_shardOf_9 rfl (lv_at hl 1 rfl) ?_
  refine va_iald hx hb hK hP 3 0 rfl rfl (x_in8 hI h_2) dX0_shardOf_10 ?_
  refine vx_ret ?_
  refine W.widen (k := 1) (n := 6) (by decide) (by decide) ?_
  exact W.iret (v := g 3 r.toNatClampNeg) hx hb hr (fun t ht hW => ⟨g 3 r.toNatClampNeg, rfl, ⟨h_2, rfl⟩, ht⟩) (fun q h => nomatch h) dX0_shardOf_11
set_option maxHeartbeats 4000000 in
set_option maxRecDepth 100000 in
/-- rows -/
theorem c_X0_rows (l : Launch) (hl0 : l.stackTraces = false) (D : va_G) (cA cZ cL : ClassId) (ad : Nat → Nat) (f : qFs) (g : qGs) (sh : Int32) : vx_Met l yX0_rows wsX0_rows ({ frames := 7, cells := 1, slots := 6, locals := 110 } : Room) (va_Pc [.ref (ad 16), .int sh] (qPreT D (qTy cA cZ cL) (xW cA ad f g))) (vp_Si (fun z => xShard sh ∧ z = nI (cnt (xRowP g sh) 0 100))) (qX (fun E => E = eIO ∧ ¬ xShard sh)) 1 6 (fun _ => False) := by
  refine vx_ofW (cc := cX0_rows) (maxL := 2) (ret := (some .int)) (by decide) rfl ?_
  intro p e s m args below meth c s₁ B hml hno hv
  obtain ⟨rfl, hP, hK, hTH⟩ := hv
  have hx := B.exec
  have hb := B.bytes
  have hr := B.returns
  have hts := atoms_spec (ws := wsX0_rows) B.pre
  have hown : s.vm.findClass RX0 = some m.cls := findClass_of_methodNamed B.named
  have hlocks := B.notSynchronized
  have hfin : ∀ w ∈ wsX00, w ∈ wsX0_rows := fun w h => (List.mem_cons_of_mem _ (List.mem_append_left _ (List.mem_append_right _ h)))
  have hl := lv_entry ([.ref (ad 16), .int sh]) (n := 2) (Nat.le_of_ble_eq_true rfl)
  rw [lg_entry_eq]
  generalize (lg_sl ([.ref (ad 16), .int sh]) ++ List.replicate (2 - (lg_sl ([.ref (ad 16), .int sh])).length) Slot.unset).toArray = ls at hl ⊢
  have hl : lv_has ls 2 [(0, .ref (ad 16)), (1, .int sh)] := hl
  refine lv_iload_n hx hb dX0_rows_0 rfl (lv_at hl 1 rfl) ?_
  refine qb_callSv (vx_runS (As := [.int sh]) (rest := []) ⟨hx, hb, hml, hown, hts⟩ (c_X0_checkShard l hl0 sh) (va_cwS 1 hts gX0_rows_X0_checkShard rfl rfl rfl (by decide +kernel) ⟨Nat.le_of_ble_eq_true rfl, Nat.le_of_ble_eq_true rfl⟩) ⟨qTH_blind, qTH_pc hTH rfl⟩ rfl rfl hl.1 rfl (lv_room (Nat.le_of_ble_eq_true rfl)) dX0_rows_1 ⟨Nat.le_of_ble_eq_true rfl, Nat.le_of_ble_eq_true rfl⟩) (fun E ce q9 st t H1 hst ht hvm hX hcell hcv hcl => vx_out (fun x h => (hno x h).elim) hlocks hcell hcv hcl (fun t2 h2 hA2 => qX_pass hX hst rfl ht h2 (fun h => h)) (fun q h => nomatch h) (by decide) (by decide)) (fun hz => ?_)
  have h_1 := hz
  refine lv_aload_n hx hb dX0_rows_4 rfl (lv_at hl 0 rfl) ?_
  refine lv_iload_n hx hb dX0_rows_5 rfl (lv_at hl 1 rfl) ?_
  refine lv_iconst (v := 0) hx hb dX0_rows_6 (by decide) ?_
  refine lv_bipush (v := 99) hx hb dX0_rows_7 (by decide) ?_
  refine vp_callSi (W.runV (As := [.int sh, .int 0, .int 99]) (rest := []) ⟨hx, hb, hml, hown, hts⟩ (c_X0_countRows l D cA cZ cL ad f g sh 99 0 (by decide)) (cwV 3 hts gX0_rows_X0_countRows rfl rfl rfl (by decide +kernel) ⟨Nat.le_of_ble_eq_true rfl, Nat.le_of_ble_eq_true rfl⟩) ⟨qPre_blind, va_recv hK hP (ci := 0) (q0 := 0) rfl rfl, qPre_at hP hK⟩ rfl rfl hl.1 rfl (lv_room (Nat.le_of_ble_eq_true rfl)) dX0_rows_9 ⟨Nat.le_of_ble_eq_true rfl, Nat.le_of_ble_eq_true rfl⟩) (fun z hz => ?_)
  subst hz
  refine vx_ret ?_
  refine W.widen (k := 1) (n := 6) (by decide) (by decide) ?_
  exact W.iret (v := nI (cnt (xRowP g sh) 0 (hiOf 99))) hx hb hr (fun t ht hW => ⟨nI (cnt (xRowP g sh) 0 (hiOf 99)), rfl, ⟨h_1, (by rw [hi99])⟩, ht⟩) (fun q h => nomatch h) dX0_rows_12
set_option maxHeartbeats 4000000 in
set_option maxRecDepth 100000 in
/-- onRoll -/
theorem c_X0_onRoll (l : Launch) (hl0 : l.stackTraces = false) (D : va_G) (cA cZ cL : ClassId) (ad : Nat → Nat) (f : qFs) (g : qGs) (k : Int32) : vx_Met l yX0_onRoll wsX0_onRoll ({ frames := 7, cells := 1, slots := 6, locals := 110 } : Room) (va_Pc [.ref (ad 16), .int k] (qPreT D (qTy cA cZ cL) (xW cA ad f g))) (vp_Si (fun z => xKey k ∧ z = (if f 7 = 0 then -1 else g 6 k.toNatClampNeg))) (qX (fun E => E = eIO ∧ ¬ xKey k)) 1 6 (fun _ => False) := by
  refine vx_ofW (cc := cX0_onRoll) (maxL := 2) (ret := (some .int)) (by decide) rfl ?_
  intro p e s m args below meth c s₁ B hml hno hv
  obtain ⟨rfl, hP, hK, hTH⟩ := hv
  have hx := B.exec
  have hb := B.bytes
  have hr := B.returns
  have hts := atoms_spec (ws := wsX0_onRoll) B.pre
  have hown : s.vm.findClass RX0 = some m.cls := findClass_of_methodNamed B.named
  have hlocks := B.notSynchronized
  have hfin : ∀ w ∈ wsX00, w ∈ wsX0_onRoll := fun w h => (List.mem_cons_of_mem _ (List.mem_append_left _ (List.mem_append_right _ h)))
  have hl := lv_entry ([.ref (ad 16), .int k]) (n := 2) (Nat.le_of_ble_eq_true rfl)
  rw [lg_entry_eq]
  generalize (lg_sl ([.ref (ad 16), .int k]) ++ List.replicate (2 - (lg_sl ([.ref (ad 16), .int k])).length) Slot.unset).toArray = ls at hl ⊢
  have hl : lv_has ls 2 [(0, .ref (ad 16)), (1, .int k)] := hl
  refine lv_iload_n hx hb dX0_onRoll_0 rfl (lv_at hl 1 rfl) ?_
  refine qb_callSv (vx_runS (As := [.int k]) (rest := []) ⟨hx, hb, hml, hown, hts⟩ (c_X0_checkKey l hl0 k) (va_cwS 1 hts gX0_onRoll_X0_checkKey rfl rfl rfl (by decide +kernel) ⟨Nat.le_of_ble_eq_true rfl, Nat.le_of_ble_eq_true rfl⟩) ⟨qTH_blind, qTH_pc hTH rfl⟩ rfl rfl hl.1 rfl (lv_room (Nat.le_of_ble_eq_true rfl)) dX0_onRoll_1 ⟨Nat.le_of_ble_eq_true rfl, Nat.le_of_ble_eq_true rfl⟩) (fun E ce q9 st t H1 hst ht hvm hX hcell hcv hcl => vx_out (fun x h => (hno x h).elim) hlocks hcell hcv hcl (fun t2 h2 hA2 => qX_pass hX hst rfl ht h2 (fun h => h)) (fun q h => nomatch h) (by decide) (by decide)) (fun hz => ?_)
  have h_1 := hz
  refine lv_aload_n hx hb dX0_onRoll_4 rfl (lv_at hl 0 rfl) ?_
  refine va_get (D := D) (ci := 0) (v := .int (f 7)) (C := RX0) (T := TX0) (N := 16) hx hb hts hfin hown hK hP 0 rfl rfl 7 (by decide) (hts _ (List.mem_cons_of_mem _ (List.mem_append_left _ (List.mem_append_left _ (List.mem_of_getElem? (i := 0) rfl))))) (fun _ h9 => h9) rfl dX0_onRoll_5 ?_
  refine lv_if_eq (tgt := 20) hx hb dX0_onRoll_8 (by decide) (fun c_8 => ?_) (fun c_8 => ?_)
  · skip
    refine lv_iconst (v := (-1)) hx hb dX0_onRoll_20 (by decide) ?_
    refine vx_ret ?_
    refine W.widen (k := 1) (n := 6) (by decide) (by decide) ?_
    exact W.iret (v := (-1)) hx hb hr (fun t ht hW => ⟨(-1), rfl, ⟨h_1, (by rw [if_pos c_8])⟩, ht⟩) (fun q h => nomatch h) dX0_onRoll_21
  · skip
    refine lv_aload_n hx hb dX0_onRoll_11 rfl (lv_at hl 0 rfl) ?_
    refine va_get (D := D) (ci := 0) (v := .ref (ad 6)) (C := RX0) (T := TX0) (N := 16) hx hb hts hfin hown hK hP 0 rfl rfl 6 (by decide) (hts _ (List.mem_cons_of_mem _ (List.mem_append_left _ (List.mem_append_left _ (List.mem_of_getElem? (i := 1) rfl))))) (fun _ h9 => h9) rfl dX0_onRoll_12 ?_
    refine lv_iload_n hx hb dX0_onRoll_15 rfl (lv_at hl 1 rfl) ?_
    refine va_iald hx hb hK hP 5 0 rfl rfl (x_in100 h_1) dX0_onRoll_16 ?_
    refine lv_goto (tgt := 21) hx hb dX0_onRoll_17 (by decide) ?_
    refine vx_ret ?_
    refine W.widen (k := 1) (n := 6) (by decide) (by decide) ?_
    exact W.iret (v := g 6 k.toNatClampNeg) hx hb hr (fun t ht hW => ⟨g 6 k.toNatClampNeg, rfl, ⟨h_1, (by rw [if_neg c_8])⟩, ht⟩) (fun q h => nomatch h) dX0_onRoll_21
set_option maxHeartbeats 4000000 in
set_option maxRecDepth 100000 in
/-- sentTo -/
theorem c_X0_sentTo (l : Launch) (hl0 : l.stackTraces = false) (D : va_G) (cA cZ cL : ClassId) (ad : Nat → Nat) (f : qFs) (g : qGs) (b : Int32) (nR : Nat) (nB : Nat) (hI : xI nR nB f) : vx_Met l yX0_sentTo wsX0_sentTo ({ frames := 7, cells := 1, slots := 6, locals := 111 } : Room) (va_Pc [.ref (ad 16), .int b] (qPreT D (qTy cA cZ cL) (xW cA ad f g))) (vp_Si (fun z => xBallot f b ∧ z = g 11 b.toNatClampNeg)) (qX (fun E => E = eIO ∧ ¬ xBallot f b)) 1 6 (fun _ => False) := by
  refine vx_ofW (cc := cX0_sentTo) (maxL := 2) (ret := (some .int)) (by decide) rfl ?_
  intro p e s m args below meth c s₁ B hml hno hv
  obtain ⟨rfl, hP, hK, hTH⟩ := hv
  have hx := B.exec
  have hb := B.bytes
  have hr := B.returns
  have hts := atoms_spec (ws := wsX0_sentTo) B.pre
  have hown : s.vm.findClass RX0 = some m.cls := findClass_of_methodNamed B.named
  have hlocks := B.notSynchronized
  have hfin : ∀ w ∈ wsX00, w ∈ wsX0_sentTo := fun w h => (List.mem_cons_of_mem _ (List.mem_append_left _ (List.mem_append_right _ h)))
  have hl := lv_entry ([.ref (ad 16), .int b]) (n := 2) (Nat.le_of_ble_eq_true rfl)
  rw [lg_entry_eq]
  generalize (lg_sl ([.ref (ad 16), .int b]) ++ List.replicate (2 - (lg_sl ([.ref (ad 16), .int b])).length) Slot.unset).toArray = ls at hl ⊢
  have hl : lv_has ls 2 [(0, .ref (ad 16)), (1, .int b)] := hl
  refine lv_aload_n hx hb dX0_sentTo_0 rfl (lv_at hl 0 rfl) ?_
  refine lv_iload_n hx hb dX0_sentTo_1 rfl (lv_at hl 1 rfl) ?_
  refine qb_callSv (vx_runV (As := [.int b]) (rest := []) ⟨hx, hb, hml, hown, hts⟩ (c_X0_checkBallot l hl0 D cA cZ cL ad f g b) (cwV 1 hts gX0_sentTo_X0_checkBallot rfl rfl rfl (by decide +kernel) ⟨Nat.le_of_ble_eq_true rfl, Nat.le_of_ble_eq_true rfl⟩) ⟨qPreT_blind, va_recv hK hP (ci := 0) (q0 := 0) rfl rfl, qPreT_at hP hK hTH rfl⟩ rfl rfl hl.1 rfl (lv_room (Nat.le_of_ble_eq_true rfl)) dX0_sentTo_2 ⟨Nat.le_of_ble_eq_true rfl, Nat.le_of_ble_eq_true rfl⟩) (fun E ce q9 st t H1 hst ht hvm hX hcell hcv hcl => vx_out (fun x h => (hno x h).elim) hlocks hcell hcv hcl (fun t2 h2 hA2 => qX_pass hX hst rfl ht h2 (fun h => h)) (fun q h => nomatch h) (by decide) (by decide)) (fun hz => ?_)
  have h_2 := hz
  refine lv_aload_n hx hb dX0_sentTo_5 rfl (lv_at hl 0 rfl) ?_
  refine va_get (D := D) (ci := 0) (v := .ref (ad 11)) (C := RX0) (T := TX0) (N := 16) hx hb hts hfin hown hK hP 0 rfl rfl 11 (by decide) (hts _ (List.mem_cons_of_mem _ (List.mem_append_left _ (List.mem_append_left _ (List.mem_of_getElem? (i := 0) rfl))))) (fun _ h9 => h9) rfl dX0_sentTo_6 ?_
  refine lv_iload_n hx hb dX0_sentTo_9 rfl (lv_at hl 1 rfl) ?_
  refine va_iald hx hb hK hP 8 0 rfl rfl (x_in60 hI h_2) dX0_sentTo_10 ?_
  refine vx_ret ?_
  refine W.widen (k := 1) (n := 6) (by decide) (by decide) ?_
  exact W.iret (v := g 11 b.toNatClampNeg) hx hb hr (fun t ht hW => ⟨g 11 b.toNatClampNeg, rfl, ⟨h_2, rfl⟩, ht⟩) (fun q h => nomatch h) dX0_sentTo_11
set_option maxHeartbeats 4000000 in
set_option maxRecDepth 100000 in
/-- stateOf -/
theorem c_X0_stateOf (l : Launch) (hl0 : l.stackTraces = false) (D : va_G) (cA cZ cL : ClassId) (ad : Nat → Nat) (f : qFs) (g : qGs) (b : Int32) (nR : Nat) (nB : Nat) (hI : xI nR nB f) : vx_Met l yX0_stateOf wsX0_stateOf ({ frames := 7, cells := 1, slots := 6, locals := 111 } : Room) (va_Pc [.ref (ad 16), .int b] (qPreT D (qTy cA cZ cL) (xW cA ad f g))) (vp_Si (fun z => xBallot f b ∧ z = g 13 b.toNatClampNeg)) (qX (fun E => E = eIO ∧ ¬ xBallot f b)) 1 6 (fun _ => False) := by
  refine vx_ofW (cc := cX0_stateOf) (maxL := 2) (ret := (some .int)) (by decide) rfl ?_
  intro p e s m args below meth c s₁ B hml hno hv
  obtain ⟨rfl, hP, hK, hTH⟩ := hv
  have hx := B.exec
  have hb := B.bytes
  have hr := B.returns
  have hts := atoms_spec (ws := wsX0_stateOf) B.pre
  have hown : s.vm.findClass RX0 = some m.cls := findClass_of_methodNamed B.named
  have hlocks := B.notSynchronized
  have hfin : ∀ w ∈ wsX00, w ∈ wsX0_stateOf := fun w h => (List.mem_cons_of_mem _ (List.mem_append_left _ (List.mem_append_right _ h)))
  have hl := lv_entry ([.ref (ad 16), .int b]) (n := 2) (Nat.le_of_ble_eq_true rfl)
  rw [lg_entry_eq]
  generalize (lg_sl ([.ref (ad 16), .int b]) ++ List.replicate (2 - (lg_sl ([.ref (ad 16), .int b])).length) Slot.unset).toArray = ls at hl ⊢
  have hl : lv_has ls 2 [(0, .ref (ad 16)), (1, .int b)] := hl
  refine lv_aload_n hx hb dX0_stateOf_0 rfl (lv_at hl 0 rfl) ?_
  refine lv_iload_n hx hb dX0_stateOf_1 rfl (lv_at hl 1 rfl) ?_
  refine qb_callSv (vx_runV (As := [.int b]) (rest := []) ⟨hx, hb, hml, hown, hts⟩ (c_X0_checkBallot l hl0 D cA cZ cL ad f g b) (cwV 1 hts gX0_stateOf_X0_checkBallot rfl rfl rfl (by decide +kernel) ⟨Nat.le_of_ble_eq_true rfl, Nat.le_of_ble_eq_true rfl⟩) ⟨qPreT_blind, va_recv hK hP (ci := 0) (q0 := 0) rfl rfl, qPreT_at hP hK hTH rfl⟩ rfl rfl hl.1 rfl (lv_room (Nat.le_of_ble_eq_true rfl)) dX0_stateOf_2 ⟨Nat.le_of_ble_eq_true rfl, Nat.le_of_ble_eq_true rfl⟩) (fun E ce q9 st t H1 hst ht hvm hX hcell hcv hcl => vx_out (fun x h => (hno x h).elim) hlocks hcell hcv hcl (fun t2 h2 hA2 => qX_pass hX hst rfl ht h2 (fun h => h)) (fun q h => nomatch h) (by decide) (by decide)) (fun hz => ?_)
  have h_2 := hz
  refine lv_aload_n hx hb dX0_stateOf_5 rfl (lv_at hl 0 rfl) ?_
  refine va_get (D := D) (ci := 0) (v := .ref (ad 13)) (C := RX0) (T := TX0) (N := 16) hx hb hts hfin hown hK hP 0 rfl rfl 13 (by decide) (hts _ (List.mem_cons_of_mem _ (List.mem_append_left _ (List.mem_append_left _ (List.mem_of_getElem? (i := 0) rfl))))) (fun _ h9 => h9) rfl dX0_stateOf_6 ?_
  refine lv_iload_n hx hb dX0_stateOf_9 rfl (lv_at hl 1 rfl) ?_
  refine va_iald hx hb hK hP 10 0 rfl rfl (x_in60 hI h_2) dX0_stateOf_10 ?_
  refine vx_ret ?_
  refine W.widen (k := 1) (n := 6) (by decide) (by decide) ?_
  exact W.iret (v := g 13 b.toNatClampNeg) hx hb hr (fun t ht hW => ⟨g 13 b.toNatClampNeg, rfl, ⟨h_2, rfl⟩, ht⟩) (fun q h => nomatch h) dX0_stateOf_11
set_option maxHeartbeats 4000000 in
set_option maxRecDepth 100000 in
/-- inDistrict -/
theorem c_X0_inDistrict (l : Launch) (hl0 : l.stackTraces = false) (D : va_G) (cA cZ cL : ClassId) (ad : Nat → Nat) (f : qFs) (g : qGs) (d : Int32) (nR : Nat) (nB : Nat) (hI : xI nR nB f) : vx_Met l yX0_inDistrict wsX0_inDistrict ({ frames := 7, cells := 1, slots := 6, locals := 110 } : Room) (va_Pc [.ref (ad 16), .int d] (qPreT D (qTy cA cZ cL) (xW cA ad f g))) (vp_Si (fun z => xShard d ∧ z = nI (cnt (fun j => decide (xDist (xRead nR f g (nI j)) = d)) 0 100))) (qX (fun E => E = eIO ∧ ¬ xShard d)) 1 6 (fun _ => False) := by
  refine vx_ofW (cc := cX0_inDistrict) (maxL := 4) (ret := (some .int)) (by decide) rfl ?_
  intro p e s m args below meth c s₁ B hml hno hv
  obtain ⟨rfl, hP, hK, hTH⟩ := hv
  have hx := B.exec
  have hb := B.bytes
  have hr := B.returns
  have hts := atoms_spec (ws := wsX0_inDistrict) B.pre
  have hown : s.vm.findClass RX0 = some m.cls := findClass_of_methodNamed B.named
  have hlocks := B.notSynchronized
  have hfin : ∀ w ∈ wsX00, w ∈ wsX0_inDistrict := fun w h => (List.mem_cons_of_mem _ (List.mem_append_left _ (List.mem_append_right _ h)))
  have hl := lv_entry ([.ref (ad 16), .int d]) (n := 4) (Nat.le_of_ble_eq_true rfl)
  rw [lg_entry_eq]
  generalize (lg_sl ([.ref (ad 16), .int d]) ++ List.replicate (4 - (lg_sl ([.ref (ad 16), .int d])).length) Slot.unset).toArray = ls at hl ⊢
  have hl : lv_has ls 4 [(0, .ref (ad 16)), (1, .int d)] := hl
  refine lv_iload_n hx hb dX0_inDistrict_0 rfl (lv_at hl 1 rfl) ?_
  refine qb_callSv (vx_runS (As := [.int d]) (rest := []) ⟨hx, hb, hml, hown, hts⟩ (c_X0_checkDistrict l hl0 d) (va_cwS 1 hts gX0_inDistrict_X0_checkDistrict rfl rfl rfl (by decide +kernel) ⟨Nat.le_of_ble_eq_true rfl, Nat.le_of_ble_eq_true rfl⟩) ⟨qTH_blind, qTH_pc hTH rfl⟩ rfl rfl hl.1 rfl (lv_room (Nat.le_of_ble_eq_true rfl)) dX0_inDistrict_1 ⟨Nat.le_of_ble_eq_true rfl, Nat.le_of_ble_eq_true rfl⟩) (fun E ce q9 st t H1 hst ht hvm hX hcell hcv hcl => vx_out (fun x h => (hno x h).elim) hlocks hcell hcv hcl (fun t2 h2 hA2 => qX_pass hX hst rfl ht h2 (fun h => h)) (fun q h => nomatch h) (by decide) (by decide)) (fun hz => ?_)
  have h_1 := hz
  refine lv_iconst (v := 0) hx hb dX0_inDistrict_4 (by decide) ?_
  refine lv_istore_n (lv' := [(2, .int 0), (0, .ref (ad 16)), (1, .int d)]) hx hb dX0_inDistrict_5 rfl hl (by decide) rfl (fun ls hl => ?_)
  refine lv_iconst (v := 0) hx hb dX0_inDistrict_6 (by decide) ?_
  refine lv_istore_n (lv' := [(3, .int 0), (2, .int 0), (0, .ref (ad 16)), (1, .int d)]) hx hb dX0_inDistrict_7 rfl hl (by decide) rfl (fun ls hl => ?_)
  have hloop_8 : ∀ (nme : Nat) (k : Nat) (acc : Nat), 100 - k = nme → (k ≤ 100) → (acc + cnt (fun j => decide (xDist (xRead nR f g (nI j)) = d)) k 100 = cnt (fun j => decide (xDist (xRead nR f g (nI j)) = d)) 0 100) → ∀ ls : Array Slot, lv_has ls 4 [(0, .ref (ad 16)), (1, .int d), (2, .int (nI acc)), (3, .int (nI k))] → W p l e (headSpec wsX0_inDistrict ({ frames := 7, cells := 1, slots := 6, locals := 110 } : Room)).room s m ([.ref (ad 16), .int d] : List Value).toArray below meth c s.heap [] 0 0 (vx_MQ below (vp_Si (fun z => xShard d ∧ z = nI (cnt (fun j => decide (xDist (xRead nR f g (nI j)) = d)) 0 100))) (qX (fun E => E = eIO ∧ ¬ xShard d)) ([.ref (ad 16), .int d] : List Value).toArray s 1 6 (fun _ => False)) (F0 m 8 ls []) := by
    intro nme
    induction nme using Nat.strongRecOn with
    | ind nme ih =>
      intro k acc hnme hk hc ls hl
      refine lv_iload_n hx hb dX0_inDistrict_8 rfl (lv_at hl 3 rfl) ?_
      refine lv_bipush (v := 100) hx hb dX0_inDistrict_9 (by decide) ?_
      refine lv_icmp_ge (tgt := 35) hx hb dX0_inDistrict_11 (by decide) (fun c_11 => ?_) (fun c_11 => ?_)
      · skip
        have hge : 100 ≤ k := n_ge (b := 100) c_11 (by omega) (by decide)
        refine lv_iload_n hx hb dX0_inDistrict_35 rfl (lv_at hl 2 rfl) ?_
        refine vx_ret ?_
        refine W.widen (k := 1) (n := 6) (by decide) (by decide) ?_
        exact W.iret (v := nI acc) hx hb hr (fun t ht hW => ⟨nI acc, rfl, ⟨h_1, (by rw [← hc, cnt_end hge]; rfl)⟩, ht⟩) (fun q h => nomatch h) dX0_inDistrict_36
      · skip
        have hlt : k < 100 := n_lt (b := 100) c_11 (by omega)
        refine lv_aload_n hx hb dX0_inDistrict_14 rfl (lv_at hl 0 rfl) ?_
        refine lv_iload_n hx hb dX0_inDistrict_15 rfl (lv_at hl 3 rfl) ?_
        refine vp_callSi (W.runV (As := [.int (nI k)]) (rest := []) ⟨hx, hb, hml, hown, hts⟩ (c_X0_read l D cA cZ cL ad f g (nI k) nR nB hI) (cwV 1 hts gX0_inDistrict_X0_read rfl rfl rfl (by decide +kernel) ⟨Nat.le_of_ble_eq_true rfl, Nat.le_of_ble_eq_true rfl⟩) ⟨qPre_blind, va_recv hK hP (ci := 0) (q0 := 0) rfl rfl, qPre_at hP hK⟩ rfl rfl hl.1 rfl (lv_room (Nat.le_of_ble_eq_true rfl)) dX0_inDistrict_16 ⟨Nat.le_of_ble_eq_true rfl, Nat.le_of_ble_eq_true rfl⟩) (fun z hz => ?_)
        subst hz
        refine vp_callSi (W.runS (As := [.int (xRead nR f g (nI k))]) (rest := []) ⟨hx, hb, hml, hown, hts⟩ (c_X0_districtOf l (xRead nR f g (nI k))) (va_cwS 1 hts gX0_inDistrict_X0_districtOf rfl rfl rfl (by decide +kernel) ⟨Nat.le_of_ble_eq_true rfl, Nat.le_of_ble_eq_true rfl⟩) ⟨qN_blind, qN_at⟩ rfl rfl hl.1 rfl (lv_room (Nat.le_of_ble_eq_true rfl)) dX0_inDistrict_19 ⟨Nat.le_of_ble_eq_true rfl, Nat.le_of_ble_eq_true rfl⟩) (fun z hz => ?_)
        subst hz
        refine lv_iload_n hx hb dX0_inDistrict_22 rfl (lv_at hl 1 rfl) ?_
        refine lv_icmp_ne (tgt := 29) hx hb dX0_inDistrict_23 (by decide) (fun c_23 => ?_) (fun c_23 => ?_)
        · skip
          refine lv_iinc (v := nI (k + 1)) (lv' := [(3, .int (nI (k + 1))), (0, .ref (ad 16)), (1, .int d), (2, .int (nI acc))]) hx hb dX0_inDistrict_29 hl (k := 3) rfl (nI_1 k) (by decide) rfl (fun ls hl => ?_)
          refine lv_goto (tgt := 8) hx hb dX0_inDistrict_32 (by decide) ?_
          exact ih _ (by omega) (k + 1) acc rfl (by omega) (by rw [← hc, cnt_n hlt (df c_23)]) _ (lv_sub hl [1, 2, 3, 0] rfl)
        · skip
          refine lv_iinc (v := nI (acc + 1)) (lv' := [(2, .int (nI (acc + 1))), (0, .ref (ad 16)), (1, .int d), (3, .int (nI k))]) hx hb dX0_inDistrict_26 hl (k := 2) rfl (nI_1 acc) (by decide) rfl (fun ls hl => ?_)
          refine lv_iinc (v := nI (k + 1)) (lv' := [(3, .int (nI (k + 1))), (2, .int (nI (acc + 1))), (0, .ref (ad 16)), (1, .int d)]) hx hb dX0_inDistrict_29 hl (k := 3) rfl (nI_1 k) (by decide) rfl (fun ls hl => ?_)
          refine lv_goto (tgt := 8) hx hb dX0_inDistrict_32 (by decide) ?_
          exact ih _ (by omega) (k + 1) (acc + 1) rfl (by omega) (by rw [← hc, cnt_y hlt (dt c_23)]; omega) _ (lv_sub hl [2, 3, 1, 0] rfl)
  exact hloop_8 _ 0 0 rfl (by omega) (Nat.zero_add _) _ (lv_sub hl [2, 3, 1, 0] rfl)
set_option maxHeartbeats 4000000 in
set_option maxRecDepth 100000 in
/-- counted -/
theorem c_X0_counted (l : Launch) (hl0 : l.stackTraces = false) (D : va_G) (cA cZ cL : ClassId) (ad : Nat → Nat) (f : qFs) (g : qGs) (d : Int32) (ch : Int32) (nR : Nat) (nB : Nat) (hI : xI nR nB f) : vx_Met l yX0_counted wsX0_counted ({ frames := 7, cells := 1, slots := 6, locals := 110 } : Room) (va_Pc [.ref (ad 16), .int d, .int ch] (qPreT D (qTy cA cZ cL) (xW cA ad f g))) (vp_Si (fun z => (xShard d ∧ xCho ch) ∧ z = nI (cnt (fun j => decide (g 13 j = 2 ∧ g 12 j = d ∧ g 14 j = ch)) 0 nB))) (qX (fun E => (E = eIO ∧ ¬ xShard d) ∨ (E = eIA ∧ xShard d ∧ ¬ xCho ch))) 1 6 (fun _ => False) := by
  refine vx_ofW (cc := cX0_counted) (maxL := 5) (ret := (some .int)) (by decide) rfl ?_
  intro p e s m args below meth c s₁ B hml hno hv
  obtain ⟨rfl, hP, hK, hTH⟩ := hv
  have hx := B.exec
  have hb := B.bytes
  have hr := B.returns
  have hts := atoms_spec (ws := wsX0_counted) B.pre
  have hown : s.vm.findClass RX0 = some m.cls := findClass_of_methodNamed B.named
  have hlocks := B.notSynchronized
  have hfin : ∀ w ∈ wsX00, w ∈ wsX0_counted := fun w h => (List.mem_cons_of_mem _ (List.mem_append_left _ (List.mem_append_left _ (List.mem_append_right _ h))))
  have hl := lv_entry ([.ref (ad 16), .int d, .int ch]) (n := 5) (Nat.le_of_ble_eq_true rfl)
  rw [lg_entry_eq]
  generalize (lg_sl ([.ref (ad 16), .int d, .int ch]) ++ List.replicate (5 - (lg_sl ([.ref (ad 16), .int d, .int ch])).length) Slot.unset).toArray = ls at hl ⊢
  have hl : lv_has ls 5 [(0, .ref (ad 16)), (1, .int d), (2, .int ch)] := hl
  have hB6 := hI.2.2.2.2
  refine lv_iload_n hx hb dX0_counted_0 rfl (lv_at hl 1 rfl) ?_
  refine qb_callSv (vx_runS (As := [.int d]) (rest := []) ⟨hx, hb, hml, hown, hts⟩ (c_X0_checkDistrict l hl0 d) (va_cwS 1 hts gX0_counted_X0_checkDistrict rfl rfl rfl (by decide +kernel) ⟨Nat.le_of_ble_eq_true rfl, Nat.le_of_ble_eq_true rfl⟩) ⟨qTH_blind, qTH_pc hTH rfl⟩ rfl rfl hl.1 rfl (lv_room (Nat.le_of_ble_eq_true rfl)) dX0_counted_1 ⟨Nat.le_of_ble_eq_true rfl, Nat.le_of_ble_eq_true rfl⟩) (fun E ce q9 st t H1 hst ht hvm hX hcell hcv hcl => vx_out (fun x h => (hno x h).elim) hlocks hcell hcv hcl (fun t2 h2 hA2 => qX_pass hX hst rfl ht h2 (Or.inl)) (fun q h => nomatch h) (by decide) (by decide)) (fun hz => ?_)
  have h_1 := hz
  refine lv_iload_n hx hb dX0_counted_4 rfl (lv_at hl 2 rfl) ?_
  refine qb_callSv (vx_runS (As := [.int ch]) (rest := []) ⟨hx, hb, hml, hown, hts⟩ (c_X0_checkChoice l hl0 ch) (va_cwS 1 hts gX0_counted_X0_checkChoice rfl rfl rfl (by decide +kernel) ⟨Nat.le_of_ble_eq_true rfl, Nat.le_of_ble_eq_true rfl⟩) ⟨qTH_blind, qTH_pc hTH rfl⟩ rfl rfl hl.1 rfl (lv_room (Nat.le_of_ble_eq_true rfl)) dX0_counted_5 ⟨Nat.le_of_ble_eq_true rfl, Nat.le_of_ble_eq_true rfl⟩) (fun E ce q9 st t H1 hst ht hvm hX hcell hcv hcl => vx_out (fun x h => (hno x h).elim) hlocks hcell hcv hcl (fun t2 h2 hA2 => qX_pass hX hst rfl ht h2 (fun h => Or.inr ⟨h.1, h_1, h.2⟩)) (fun q h => nomatch h) (by decide) (by decide)) (fun hz => ?_)
  have h_5 := hz
  refine lv_iconst (v := 0) hx hb dX0_counted_8 (by decide) ?_
  refine lv_istore_n (lv' := [(3, .int 0), (0, .ref (ad 16)), (1, .int d), (2, .int ch)]) hx hb dX0_counted_9 rfl hl (by decide) rfl (fun ls hl => ?_)
  refine lv_iconst (v := 0) hx hb dX0_counted_10 (by decide) ?_
  refine lv_istore (lv' := [(4, .int 0), (3, .int 0), (0, .ref (ad 16)), (1, .int d), (2, .int ch)]) hx hb dX0_counted_11 hl (by decide) rfl (fun ls hl => ?_)
  have hloop_13 : ∀ (nme : Nat) (k : Nat) (acc : Nat), nB - k = nme → (k ≤ nB) → (acc + cnt (fun j => decide (g 13 j = 2 ∧ g 12 j = d ∧ g 14 j = ch)) k nB = cnt (fun j => decide (g 13 j = 2 ∧ g 12 j = d ∧ g 14 j = ch)) 0 nB) → ∀ ls : Array Slot, lv_has ls 5 [(0, .ref (ad 16)), (1, .int d), (2, .int ch), (3, .int (nI acc)), (4, .int (nI k))] → W p l e (headSpec wsX0_counted ({ frames := 7, cells := 1, slots := 6, locals := 110 } : Room)).room s m ([.ref (ad 16), .int d, .int ch] : List Value).toArray below meth c s.heap [] 0 0 (vx_MQ below (vp_Si (fun z => (xShard d ∧ xCho ch) ∧ z = nI (cnt (fun j => decide (g 13 j = 2 ∧ g 12 j = d ∧ g 14 j = ch)) 0 nB))) (qX (fun E => (E = eIO ∧ ¬ xShard d) ∨ (E = eIA ∧ xShard d ∧ ¬ xCho ch))) ([.ref (ad 16), .int d, .int ch] : List Value).toArray s 1 6 (fun _ => False)) (F0 m 13 ls []) := by
    intro nme
    induction nme using Nat.strongRecOn with
    | ind nme ih =>
      intro k acc hnme hk hc ls hl
      refine lv_iload hx hb dX0_counted_13 (lv_at hl 4 rfl) ?_
      refine lv_aload_n hx hb dX0_counted_15 rfl (lv_at hl 0 rfl) ?_
      refine va_get (D := D) (ci := 0) (v := .int (f 15)) (C := RX0) (T := TX0) (N := 16) hx hb hts hfin hown hK hP 0 rfl rfl 15 (by decide) (hts _ (List.mem_cons_of_mem _ (List.mem_append_left _ (List.mem_append_left _ (List.mem_append_left _ (List.mem_of_getElem? (i := 0) rfl)))))) (fun _ h9 => h9) rfl dX0_counted_16 ?_
      refine lv_topi (fun v_16 hv_16 => ?_)
      have hv_16 : v_16 = nI nB := hv_16.trans (hI.2.2.2.1)
      subst hv_16
      refine lv_icmp_ge (tgt := 64) hx hb dX0_counted_19 (by decide) (fun c_19 => ?_) (fun c_19 => ?_)
      · skip
        have hge : nB ≤ k := n_ge c_19 (by omega) (by omega)
        refine lv_iload_n hx hb dX0_counted_64 rfl (lv_at hl 3 rfl) ?_
        refine vx_ret ?_
        refine W.widen (k := 1) (n := 6) (by decide) (by decide) ?_
        exact W.iret (v := nI acc) hx hb hr (fun t ht hW => ⟨nI acc, rfl, ⟨⟨h_1, h_5⟩, (by rw [← hc, cnt_end hge]; rfl)⟩, ht⟩) (fun q h => nomatch h) dX0_counted_65
      · skip
        have hlt : k < nB := n_lt c_19 (by omega)
        refine lv_aload_n hx hb dX0_counted_22 rfl (lv_at hl 0 rfl) ?_
        refine va_get (D := D) (ci := 0) (v := .ref (ad 13)) (C := RX0) (T := TX0) (N := 16) hx hb hts hfin hown hK hP 0 rfl rfl 13 (by decide) (hts _ (List.mem_cons_of_mem _ (List.mem_append_left _ (List.mem_append_left _ (List.mem_append_left _ (List.mem_of_getElem? (i := 1) rfl)))))) (fun _ h9 => h9) rfl dX0_counted_23 ?_
        refine lv_iload hx hb dX0_counted_26 (lv_at hl 4 rfl) ?_
        refine va_iald hx hb hK hP 10 0 rfl rfl (vp_in_nI (by omega) (by decide)) dX0_counted_28 ?_
        refine lv_topi (fun v_28 hv_28 => ?_)
        have hv_28 : v_28 = g 13 k := hv_28.trans (by rw [nI_clamp (by omega)])
        subst hv_28
        refine lv_iconst (v := 2) hx hb dX0_counted_29 (by decide) ?_
        refine lv_icmp_ne (tgt := 58) hx hb dX0_counted_30 (by decide) (fun c_30 => ?_) (fun c_30 => ?_)
        · skip
          refine lv_iinc (v := nI (k + 1)) (lv' := [(4, .int (nI (k + 1))), (0, .ref (ad 16)), (1, .int d), (2, .int ch), (3, .int (nI acc))]) hx hb dX0_counted_58 hl (k := 4) rfl (nI_1 k) (by decide) rfl (fun ls hl => ?_)
          refine lv_goto (tgt := 13) hx hb dX0_counted_61 (by decide) ?_
          exact ih _ (by omega) (k + 1) acc rfl (by omega) (by rw [← hc, cnt_n hlt (df (fun q => c_30 q.1))]) _ (lv_sub hl [1, 2, 3, 4, 0] rfl)
        · skip
          refine lv_aload_n hx hb dX0_counted_33 rfl (lv_at hl 0 rfl) ?_
          refine va_get (D := D) (ci := 0) (v := .ref (ad 12)) (C := RX0) (T := TX0) (N := 16) hx hb hts hfin hown hK hP 0 rfl rfl 12 (by decide) (hts _ (List.mem_cons_of_mem _ (List.mem_append_left _ (List.mem_append_left _ (List.mem_append_left _ (List.mem_of_getElem? (i := 2) rfl)))))) (fun _ h9 => h9) rfl dX0_counted_34 ?_
          refine lv_iload hx hb dX0_counted_37 (lv_at hl 4 rfl) ?_
          refine va_iald hx hb hK hP 9 0 rfl rfl (vp_in_nI (by omega) (by decide)) dX0_counted_39 ?_
          refine lv_topi (fun v_39 hv_39 => ?_)
          have hv_39 : v_39 = g 12 k := hv_39.trans (by rw [nI_clamp (by omega)])
          subst hv_39
          refine lv_iload_n hx hb dX0_counted_40 rfl (lv_at hl 1 rfl) ?_
          refine lv_icmp_ne (tgt := 58) hx hb dX0_counted_41 (by decide) (fun c_41 => ?_) (fun c_41 => ?_)
          · skip
            refine lv_iinc (v := nI (k + 1)) (lv' := [(4, .int (nI (k + 1))), (0, .ref (ad 16)), (1, .int d), (2, .int ch), (3, .int (nI acc))]) hx hb dX0_counted_58 hl (k := 4) rfl (nI_1 k) (by decide) rfl (fun ls hl => ?_)
            refine lv_goto (tgt := 13) hx hb dX0_counted_61 (by decide) ?_
            exact ih _ (by omega) (k + 1) acc rfl (by omega) (by rw [← hc, cnt_n hlt (df (fun q => c_41 q.2.1))]) _ (lv_sub hl [1, 2, 3, 4, 0] rfl)
          · skip
            refine lv_aload_n hx hb dX0_counted_44 rfl (lv_at hl 0 rfl) ?_
            refine va_get (D := D) (ci := 0) (v := .ref (ad 14)) (C := RX0) (T := TX0) (N := 16) hx hb hts hfin hown hK hP 0 rfl rfl 14 (by decide) (hts _ (List.mem_cons_of_mem _ (List.mem_append_left _ (List.mem_append_left _ (List.mem_append_left _ (List.mem_of_getElem? (i := 3) rfl)))))) (fun _ h9 => h9) rfl dX0_counted_45 ?_
            refine lv_iload hx hb dX0_counted_48 (lv_at hl 4 rfl) ?_
            refine va_iald hx hb hK hP 11 0 rfl rfl (vp_in_nI (by omega) (by decide)) dX0_counted_50 ?_
            refine lv_topi (fun v_50 hv_50 => ?_)
            have hv_50 : v_50 = g 14 k := hv_50.trans (by rw [nI_clamp (by omega)])
            subst hv_50
            refine lv_iload_n hx hb dX0_counted_51 rfl (lv_at hl 2 rfl) ?_
            refine lv_icmp_ne (tgt := 58) hx hb dX0_counted_52 (by decide) (fun c_52 => ?_) (fun c_52 => ?_)
            · skip
              refine lv_iinc (v := nI (k + 1)) (lv' := [(4, .int (nI (k + 1))), (0, .ref (ad 16)), (1, .int d), (2, .int ch), (3, .int (nI acc))]) hx hb dX0_counted_58 hl (k := 4) rfl (nI_1 k) (by decide) rfl (fun ls hl => ?_)
              refine lv_goto (tgt := 13) hx hb dX0_counted_61 (by decide) ?_
              exact ih _ (by omega) (k + 1) acc rfl (by omega) (by rw [← hc, cnt_n hlt (df (fun q => c_52 q.2.2))]) _ (lv_sub hl [1, 2, 3, 4, 0] rfl)
            · skip
              refine lv_iinc (v := nI (acc + 1)) (lv' := [(3, .int (nI (acc + 1))), (0, .ref (ad 16)), (1, .int d), (2, .int ch), (4, .int (nI k))]) hx hb dX0_counted_55 hl (k := 3) rfl (nI_1 acc) (by decide) rfl (fun ls hl => ?_)
              refine lv_iinc (v := nI (k + 1)) (lv' := [(4, .int (nI (k + 1))), (3, .int (nI (acc + 1))), (0, .ref (ad 16)), (1, .int d), (2, .int ch)]) hx hb dX0_counted_58 hl (k := 4) rfl (nI_1 k) (by decide) rfl (fun ls hl => ?_)
              refine lv_goto (tgt := 13) hx hb dX0_counted_61 (by decide) ?_
              exact ih _ (by omega) (k + 1) (acc + 1) rfl (by omega) (by rw [← hc, cnt_y hlt (dt ⟨c_30, c_41, c_52⟩)]; omega) _ (lv_sub hl [2, 3, 4, 1, 0] rfl)
  exact hloop_13 _ 0 0 rfl (by omega) (Nat.zero_add _) _ (lv_sub hl [2, 3, 4, 1, 0] rfl)
set_option maxHeartbeats 4000000 in
set_option maxRecDepth 100000 in
/-- join -/
theorem c_X0_join (l : Launch) (hl0 : l.stackTraces = false) (D : va_G) (cA cZ cL : ClassId) (ad : Nat → Nat) (f : qFs) (g : qGs) (sz : Nat) (k : Int32) (a : Int32) (nR : Nat) (nB : Nat) (hI : xI nR nB f) : vx_Met l yX0_join wsX0_join ({ frames := 7, cells := 1, slots := 6, locals := 110 } : Room) (va_Pc [.ref (ad 16), .int k, .int a] (qPreX D (qTy cA cZ cL) (xW cA ad f g) sz)) (va_Qi (fun (z : Int32) (u : qFs × qGs) => (xKey k ∧ xAdr a ∧ xRead nR f g k = -1 ∧ f 1 < 40) ∧ z = f 1 + 1 ∧ u.1 = va_up f 1 (f 1 + 1) ∧ u.2 = xWriteG nR f g k a) (qAt D (va_A (xW cA ad f g) sz) (fun u : qFs × qGs => xW cA ad u.1 u.2)) (va_A (xW cA ad f g) sz)) (qX (fun E => (E = eIO ∧ ¬ xKey k) ∨ (E = eIA ∧ xKey k ∧ ¬ xAdr a) ∨ (E = eIS ∧ xKey k ∧ xAdr a ∧ (¬ xRead nR f g k = -1 ∨ ¬ f 1 < 40)))) 1 6 (va_A (xW cA ad f g) sz) := by
  refine vx_ofW (cc := cX0_join) (maxL := 3) (ret := (some .int)) (by decide) rfl ?_
  intro p e s m args below meth c s₁ B hml hno hv
  obtain ⟨rfl, hsz, hP, hK, hD0, hTH⟩ := hv
  have hx := B.exec
  have hb := B.bytes
  have hr := B.returns
  have hts := atoms_spec (ws := wsX0_join) B.pre
  have hown : s.vm.findClass RX0 = some m.cls := findClass_of_methodNamed B.named
  have hlocks := B.notSynchronized
  subst hsz
  have hD := hD0.self (sz := s.heap.size)
  generalize hAe : va_A (xW cA ad f g) s.heap.size = A at hD ⊢
  have hA : ∀ q : Nat, s.heap.size ≤ q → A q := fun q h => by rw [← hAe]; exact Or.inr h
  have hS : va_S A s.heap s.heap [] := va_S.rf
  have hfin : ∀ w ∈ wsX00, w ∈ wsX0_join := fun w h => (List.mem_cons_of_mem _ (List.mem_append_left _ (List.mem_append_left _ (List.mem_append_left _ (List.mem_append_right _ h)))))
  have hl := lv_entry ([.ref (ad 16), .int k, .int a]) (n := 3) (Nat.le_of_ble_eq_true rfl)
  rw [lg_entry_eq]
  generalize (lg_sl ([.ref (ad 16), .int k, .int a]) ++ List.replicate (3 - (lg_sl ([.ref (ad 16), .int k, .int a])).length) Slot.unset).toArray = ls at hl ⊢
  have hl : lv_has ls 3 [(0, .ref (ad 16)), (1, .int k), (2, .int a)] := hl
  refine lv_iload_n hx hb dX0_join_0 rfl (lv_at hl 1 rfl) ?_
  refine qb_callSv (vx_runS (As := [.int k]) (rest := []) ⟨hx, hb, hml, hown, hts⟩ (c_X0_checkKey l hl0 k) (va_cwS 1 hts gX0_join_X0_checkKey rfl rfl rfl (by decide +kernel) ⟨Nat.le_of_ble_eq_true rfl, Nat.le_of_ble_eq_true rfl⟩) ⟨qTH_blind, qTH_pc hTH rfl⟩ rfl rfl hl.1 rfl (lv_room (Nat.le_of_ble_eq_true rfl)) dX0_join_1 ⟨Nat.le_of_ble_eq_true rfl, Nat.le_of_ble_eq_true rfl⟩) (fun E ce q9 st t H1 hst ht hvm hX hcell hcv hcl => vx_out (fun x h => (hno x h).elim) hlocks hcell hcv hcl (fun t2 h2 hA2 => qX_pass hX hst rfl ht h2 (Or.inl)) (fun q h => nomatch h) (by decide) (by decide)) (fun hz => ?_)
  have h_1 := hz
  refine lv_iload_n hx hb dX0_join_4 rfl (lv_at hl 2 rfl) ?_
  refine qb_callSv (vx_runS (As := [.int a]) (rest := []) ⟨hx, hb, hml, hown, hts⟩ (c_X0_checkAddress l hl0 a) (va_cwS 1 hts gX0_join_X0_checkAddress rfl rfl rfl (by decide +kernel) ⟨Nat.le_of_ble_eq_true rfl, Nat.le_of_ble_eq_true rfl⟩) ⟨qTH_blind, qTH_pc hTH rfl⟩ rfl rfl hl.1 rfl (lv_room (Nat.le_of_ble_eq_true rfl)) dX0_join_5 ⟨Nat.le_of_ble_eq_true rfl, Nat.le_of_ble_eq_true rfl⟩) (fun E ce q9 st t H1 hst ht hvm hX hcell hcv hcl => vx_out (fun x h => (hno x h).elim) hlocks hcell hcv hcl (fun t2 h2 hA2 => qX_pass hX hst rfl ht h2 (fun h => Or.inr (Or.inl ⟨h.1, h_1, h.2⟩))) (fun q h => nomatch h) (by decide) (by decide)) (fun hz => ?_)
  have h_5 := hz
  refine lv_aload_n hx hb dX0_join_8 rfl (lv_at hl 0 rfl) ?_
  refine lv_iload_n hx hb dX0_join_9 rfl (lv_at hl 1 rfl) ?_
  refine vp_callSi (W.runV (As := [.int k]) (rest := []) ⟨hx, hb, hml, hown, hts⟩ (c_X0_isMember l D cA cZ cL ad f g k nR nB hI) (cwV 1 hts gX0_join_X0_isMember rfl rfl rfl (by decide +kernel) ⟨Nat.le_of_ble_eq_true rfl, Nat.le_of_ble_eq_true rfl⟩) ⟨qPre_blind, va_recv hK hP (ci := 0) (q0 := 0) rfl rfl, qPre_at hP hK⟩ rfl rfl hl.1 rfl (lv_room (Nat.le_of_ble_eq_true rfl)) dX0_join_10 ⟨Nat.le_of_ble_eq_true rfl, Nat.le_of_ble_eq_true rfl⟩) (fun z hz => ?_)
  subst hz
  refine lv_if_eq (tgt := 26) hx hb dX0_join_13 (by decide) (fun c_13 => ?_) (fun c_13 => ?_)
  · have c_13 := bI_0.mp c_13
    refine lv_aload_n hx hb dX0_join_26 rfl (lv_at hl 0 rfl) ?_
    refine va_get (D := D) (ci := 0) (v := .int (f 1)) (C := RX0) (T := TX0) (N := 16) hx hb hts hfin hown hK hP 0 rfl rfl 1 (by decide) (hts _ (List.mem_cons_of_mem _ (List.mem_append_left _ (List.mem_append_left _ (List.mem_append_left _ (List.mem_append_left _ (List.mem_append_left _ (List.mem_of_getElem? (i := 2) rfl)))))))) (fun _ h9 => h9) rfl dX0_join_27 ?_
    refine lv_bipush (v := 40) hx hb dX0_join_30 (by decide) ?_
    refine lv_icmp_lt (tgt := 45) hx hb dX0_join_32 (by decide) (fun c_32 => ?_) (fun c_32 => ?_)
    · skip
      refine lv_aload_n hx hb dX0_join_45 rfl (lv_at hl 0 rfl) ?_
      refine lv_iload_n hx hb dX0_join_46 rfl (lv_at hl 1 rfl) ?_
      refine lv_iload_n hx hb dX0_join_47 rfl (lv_at hl 2 rfl) ?_
      refine qb_callv (va_runV (As := [.int k, .int a]) (rest := []) ⟨hx, hb, hml, hown, hts⟩ (c_X0_write l D cA cZ cL ad f g s.heap.size k a nR nB hI) (cwV 2 hts gX0_join_X0_write rfl rfl rfl (by decide +kernel) ⟨Nat.le_of_ble_eq_true rfl, Nat.le_of_ble_eq_true rfl⟩) ⟨qPreW_blind, va_recv hK hP (ci := 0) (q0 := 0) rfl rfl, qPreW_at hP hK hD⟩ rfl rfl hl.1 rfl (lv_room (Nat.le_of_ble_eq_true rfl)) dX0_join_48 ⟨Nat.le_of_ble_eq_true rfl, Nat.le_of_ble_eq_true rfl⟩) hD hS hA (fun u H locs hu hP hD hS => ?_)
      obtain ⟨uf, ug⟩ := u
      obtain ⟨hu1, hu2⟩ := hu
      have hu1 : uf = f := hu1
      have hu2 : ug = xWriteG nR f g k a := hu2
      have hP : va_P D vwCl (xW cA ad uf ug) H := hP
      have hD : va_D A (xW cA ad uf ug) := hD
      rw [hu1, hu2] at hP hD
      have hP : va_P D vwCl (xW cA ad f (xWriteG nR f g k a)) H := hP
      have hD : va_D A (xW cA ad f (xWriteG nR f g k a)) := hD
      refine lv_aload_n hx hb dX0_join_51 rfl (lv_at hl 0 rfl) ?_
      refine lv_dup hx hb dX0_join_52 rfl ?_
      refine va_get (D := D) (ci := 0) (v := .int (f 1)) (C := RX0) (T := TX0) (N := 16) hx hb hts hfin hown hK hP 0 rfl rfl 1 (by decide) (hts _ (List.mem_cons_of_mem _ (List.mem_append_left _ (List.mem_append_left _ (List.mem_append_left _ (List.mem_append_left _ (List.mem_append_left _ (List.mem_of_getElem? (i := 2) rfl)))))))) (fun _ h9 => h9) rfl dX0_join_53 ?_
      refine lv_iconst (v := 1) hx hb dX0_join_56 (by decide) ?_
      refine lv_iadd hx hb dX0_join_57 ?_
      refine va_put (D := D) (ci := 0) (v := .int ((f 1) + 1)) (ty := .int) (C := RX0) (T := TX0) (N := 16) hx hb hts hfin tyX0 tyX0_ok nmX0 hown hK hP hD hS 0 rfl rfl 1 (by decide) (hts _ (List.mem_cons_of_mem _ (List.mem_append_left _ (List.mem_append_left _ (List.mem_append_left _ (List.mem_append_left _ (List.mem_append_left _ (List.mem_of_getElem? (i := 2) rfl)))))))) (fun _ h9 => h9) rfl (by decide +kernel) (rfl) (rfl) (Nat.le_of_ble_eq_true rfl) dX0_join_58 (fun H locs hP hD hS => ?_)
      have hP : va_P D vwCl (xW cA ad (va_up f 1 ((f 1) + 1)) (xWriteG nR f g k a)) H := hP
      have hD : va_D A (xW cA ad (va_up f 1 ((f 1) + 1)) (xWriteG nR f g k a)) := hD
      refine lv_aload_n hx hb dX0_join_61 rfl (lv_at hl 0 rfl) ?_
      refine va_get (D := D) (ci := 0) (v := .int ((f 1) + 1)) (C := RX0) (T := TX0) (N := 16) hx hb hts hfin hown hK hP 0 rfl rfl 1 (by decide) (hts _ (List.mem_cons_of_mem _ (List.mem_append_left _ (List.mem_append_left _ (List.mem_append_left _ (List.mem_append_left _ (List.mem_append_left _ (List.mem_of_getElem? (i := 2) rfl)))))))) (fun _ h9 => h9) rfl dX0_join_62 ?_
      refine vx_ret ?_
      refine W.widen (k := 1) (n := 6) (by decide) (by decide) ?_
      exact W.iret (v := (f 1) + 1) hx hb hr (fun t ht hW => ⟨⟨(f 1) + 1, ((va_up f 1 ((f 1) + 1)), (xWriteG nR f g k a)), rfl, ⟨⟨h_1, h_5, Decidable.not_not.mp c_13, c_32⟩, rfl, rfl, rfl⟩, by rw [ht]; exact hP, hD⟩, hS.F ht⟩) hS.2.2 dX0_join_65
    · skip
      obtain ⟨sa, hsa⟩ := hTH.2.2.1 (74, "there are 40 members") (List.mem_of_getElem? (i := 1) rfl)
      exact vx_throwS (A := fun _ => False) (names := ["java/lang/RuntimeException", "java/lang/Exception"]) hx hb hl0 hown (by decide) (by decide) (hts _ (List.mem_cons_of_mem _ (List.mem_append_left _ (List.mem_append_left _ (List.mem_append_left _ (List.mem_append_left _ (List.mem_append_left _ (List.mem_of_getElem? (i := 0) rfl)))))))) (hts _ (List.mem_cons_of_mem _ (List.mem_append_left _ (List.mem_append_left _ (List.mem_append_left _ (List.mem_append_left _ (List.mem_append_left _ (List.mem_of_getElem? (i := 1) rfl)))))))) hsa (vx_hat (fun w h => hts w (List.mem_cons_of_mem _ (List.mem_append_left _ (List.mem_append_left _ (List.mem_append_right _ h))))) qw3 (qBad_of hTH (by decide))) qg3 hTH.1 hTH.2.1 va_S.rf (hl.1.trans hml.symm) dX0_join_35 dX0_join_38 dX0_join_39 dX0_join_41 dX0_join_44 (fun x h => (hno x h).elim) (Nat.le_of_ble_eq_true rfl) (Nat.le_of_ble_eq_true rfl) (Nat.le_of_ble_eq_true rfl) (Nat.le_of_ble_eq_true rfl) hlocks (fun t _ h1 h2 => ⟨Or.inr (Or.inr ⟨rfl, h_1, h_5, Or.inr c_32⟩), h1, h2⟩) (fun q h => nomatch h) (by decide) (by decide)
  · have c_13 := bI_n.mp c_13
    obtain ⟨sa, hsa⟩ := hTH.2.2.1 (66, "there is a member with this key") (List.mem_of_getElem? (i := 0) rfl)
    exact vx_throwS (A := fun _ => False) (names := ["java/lang/RuntimeException", "java/lang/Exception"]) hx hb hl0 hown (by decide) (by decide) (hts _ (List.mem_cons_of_mem _ (List.mem_append_left _ (List.mem_append_left _ (List.mem_append_left _ (List.mem_append_left _ (List.mem_append_left _ (List.mem_of_getElem? (i := 0) rfl)))))))) (hts _ (List.mem_cons_of_mem _ (List.mem_append_left _ (List.mem_append_left _ (List.mem_append_left _ (List.mem_append_left _ (List.mem_append_left _ (List.mem_of_getElem? (i := 1) rfl)))))))) hsa (vx_hat (fun w h => hts w (List.mem_cons_of_mem _ (List.mem_append_left _ (List.mem_append_left _ (List.mem_append_right _ h))))) qw3 (qBad_of hTH (by decide))) qg3 hTH.1 hTH.2.1 va_S.rf (hl.1.trans hml.symm) dX0_join_16 dX0_join_19 dX0_join_20 dX0_join_22 dX0_join_25 (fun x h => (hno x h).elim) (Nat.le_of_ble_eq_true rfl) (Nat.le_of_ble_eq_true rfl) (Nat.le_of_ble_eq_true rfl) (Nat.le_of_ble_eq_true rfl) hlocks (fun t _ h1 h2 => ⟨Or.inr (Or.inr ⟨rfl, h_1, h_5, Or.inl c_13⟩), h1, h2⟩) (fun q h => nomatch h) (by decide) (by decide)
end
section
theorem q_arr {ty : FieldType} {args : Array Value} {s : State} (h : (Cond.arrayClass ty).before args s = true) : ∃ cA : ClassId, ArrOfT s cA ty ∧ s.vm.findClass ("[" ++ ty.toString) = some cA := by
  obtain ⟨cA, kA, comp, h1, h2, h3⟩ := Cond.arrayClass_spec h
  exact ⟨cA, fun n z => ⟨fun k h => (by cases h), kA, h2, comp, h3⟩, h1⟩
section QN
variable {p : Program} {l : Launch} {e : Env} {R : Room} {s : State} {m : MethodId} {args : Array Value} {below : List Frame} {meth : Method} {c : Code} {H : Heap} {locs : List Loc} {cells slots : Nat} {Q : State → Prop} {pc : Nat} {ls : Array Slot} {rest : List Value} {cc : ByteArray}
variable {D : va_G} {ws : va_W} {tys : List (ClassId × FieldType)} {A : Nat → Prop} {H0 : Heap}
/-- a new row of a known class -/
theorem qb_newa (hexec : p.tables.exec = Jvm.exec) (hb : c.code = cc) {atype : ArrayType} (harr : (Cond.arrayClass (newarray.typeOf atype)).before args s = true) {ty : FieldType} (hty : newarray.typeOf atype = ty) (hK : va_K D vwCl tys s) (hP : va_P D vwCl ws H) (hD : va_D A ws) (hS : va_S A H0 H locs) (hA : ∀ q, H0.size ≤ q → A q)
    (t0 : Nat) {cA : ClassId} (ht : tys[t0]? = some (cA, ty)) (hra : ∀ x, va_RA s x ty → s.vm.findClass ("[" ++ ty.toString) = some x)
    {n : Int32} {N' : Nat} {a0 : vp_A} (ha : ∀ cA : ClassId, vp_cell cA a0 = arrV cA N' (fun _ => defaultValue ty)) (hn : ¬ n < 0) (hN : n.toNatClampNeg = N') (hbytes : N' * componentBytes ty ≤ 536870912) (hcells : cells + 1 ≤ R.cells) (hslots : slots + N' ≤ R.slots) (hdg : decode cc pc = .ok (.newarray atype, 2))
    (kk : ∀ (q : Nat) (H1 : Heap), va_P D vwCl (ws ++ [(q, .inl (cA, a0))]) H1 → va_D A (ws ++ [(q, .inl (cA, a0))]) → va_S A H0 H1 locs →
      W p l e R s m args below meth c H1 locs (cells + 1) (slots + N') Q (F0 m (pc + 2) ls (.ref q :: rest))) : W p l e R s m args below meth c H locs cells slots Q (F0 m pc ls (.int n :: rest)) := by
  refine va_newa hexec hb harr hty hK hP hD hS hA ha hn hN hbytes hcells hslots hdg (fun q cB H1 hK1 hP1 hD1 hS1 => ?_)
  have h1 := hra _ (hK.2 t0 _ ht).2
  have h2 := hra _ (hK1.2 tys.length (cB, ty) (by rw [List.getElem?_append_right (Nat.le_refl _), Nat.sub_self]; rfl)).2
  have h3 : cB = cA := Option.some.inj (h2.symm.trans h1)
  subst h3
  exact kk q H1 hP1 hD1 hS1
end QN
set_option maxHeartbeats 4000000 in
set_option maxRecDepth 100000 in
theorem c_J7_fill (l : Launch) (D : va_G) (cA cZ cL : ClassId) (a n : Nat) (v : Int32) (f : Nat → Int32) (hn : n < 2 ^ 31) (sz : Nat) : Met l yJ7_fill_53178 wsJ7_fill_53178 ({ frames := 0, cells := 0, slots := 0, locals := 0 } : Room) (va_Pc [.ref a, .int v] (qPreW D (qTy cA cZ cL) [(a, .inl (cA, n, .inl f))] sz)) (va_Qv (fun u : Nat → Int32 => u = fun j => if j < n then v else f j) (qAt D (va_A [(a, .inl (cA, n, .inl f))] sz) (fun u : Nat → Int32 => [(a, .inl (cA, n, .inl u))])) (va_A [(a, .inl (cA, n, .inl f))] sz)) 0 0 (va_A [(a, .inl (cA, n, .inl f))] sz) := by
  refine Met.ofW (cc := cJ7_fill_53178) (maxL := 4) (ret := none) (by decide) rfl ?_
  intro p e s m args below meth c s₁ B hml hv
  obtain ⟨rfl, hsz, hP, hK, hD0⟩ := hv
  have hx := B.exec
  have hb := B.bytes
  have hr := B.returns
  have hlocks := B.notSynchronized
  subst hsz
  have hD := hD0.self (sz := s.heap.size)
  generalize hAe : va_A [(a, .inl (cA, n, .inl f))] s.heap.size = A at hD ⊢
  have hA : ∀ q : Nat, s.heap.size ≤ q → A q := fun q h => by rw [← hAe]; exact Or.inr h
  have hS : va_S A s.heap s.heap [] := va_S.rf
  have hl := lv_entry ([.ref a, .int v]) (n := 4) (Nat.le_of_ble_eq_true rfl)
  rw [lg_entry_eq]
  generalize (lg_sl ([.ref a, .int v]) ++ List.replicate (4 - (lg_sl ([.ref a, .int v])).length) Slot.unset).toArray = ls at hl ⊢
  have hl : lv_has ls 4 [(0, .ref a), (1, .int v)] := hl
  refine lv_iconst (v := 0) hx hb dJ7_fill_53178_0 (by decide) ?_
  refine lv_istore_n (lv' := [(2, .int 0), (0, .ref a), (1, .int v)]) hx hb dJ7_fill_53178_1 rfl hl (by decide) rfl (fun ls hl => ?_)
  refine lv_aload_n hx hb dJ7_fill_53178_2 rfl (lv_at hl 1 rfl) ?_
  refine va_alen (v := nI n) hx hb hK hP 0 0 rfl rfl rfl dJ7_fill_53178_3 ?_
  refine lv_istore_n (lv' := [(3, .int (nI n)), (2, .int 0), (0, .ref a), (1, .int v)]) hx hb dJ7_fill_53178_4 rfl hl (by decide) rfl (fun ls hl => ?_)
  have hloop : ∀ (nme : Nat) (i : Nat) (w : Nat → Int32), n - i = nme → i ≤ n → (w = fun j => if j < i then v else f j) → ∀ (H : Heap) (locs : List Loc), va_P D vwCl [(a, .inl (cA, n, .inl w))] H → va_D A [(a, .inl (cA, n, .inl w))] → va_S A s.heap H locs → ∀ ls : Array Slot, lv_has ls 4 [(0, .ref a), (1, .int v), (2, .int (nI i)), (3, .int (nI n))] → W p l e (headSpec wsJ7_fill_53178 ({ frames := 0, cells := 0, slots := 0, locals := 0 } : Room)).room s m ([.ref a, .int v] : List Value).toArray below meth c H locs 0 0 (MQ below (va_Qv (fun u : Nat → Int32 => u = fun j => if j < n then v else f j) (qAt D A (fun u : Nat → Int32 => [(a, .inl (cA, n, .inl u))])) A) ([.ref a, .int v] : List Value).toArray s 0 0 A) (F0 m 5 ls []) := by
    intro nme
    induction nme using Nat.strongRecOn with
    | ind nme ih =>
      intro i w hnme hi hw H locs hP hD hS ls hl
      refine lv_iload_n hx hb dJ7_fill_53178_5 rfl (lv_at hl 2 rfl) ?_
      refine lv_iload_n hx hb dJ7_fill_53178_6 rfl (lv_at hl 3 rfl) ?_
      refine lv_icmp_ge (tgt := 20) hx hb dJ7_fill_53178_7 (by decide) (fun c_7 => ?_) (fun c_7 => ?_)
      · have hge : i = n := by have := n_ge c_7 (by omega) (by omega); omega
        subst hge
        exact W.vret hx hb hr (fun t ht hW => ⟨⟨w, rfl, hw, by rw [ht]; exact hP, hD⟩, hS.F ht⟩) hS.2.2 dJ7_fill_53178_20
      · have hlt : i < n := n_lt c_7 (by omega)
        refine lv_aload_n hx hb dJ7_fill_53178_10 rfl (lv_at hl 0 rfl) ?_
        refine lv_iload_n hx hb dJ7_fill_53178_11 rfl (lv_at hl 2 rfl) ?_
        refine lv_iload_n hx hb dJ7_fill_53178_12 rfl (lv_at hl 1 rfl) ?_
        refine va_iast hx hb hK hP hD hS 0 0 rfl rfl (vp_in_nI hlt hn) dJ7_fill_53178_13 (fun H locs hP hD hS => ?_)
        have hix : (nI i).toNatClampNeg = i := nI_clamp (by omega)
        rw [hix] at hP hD
        have hP : va_P D vwCl [(a, .inl (cA, n, .inl (upd w i v)))] H := hP
        have hD : va_D A [(a, .inl (cA, n, .inl (upd w i v)))] := hD
        refine lv_iinc (v := nI (i + 1)) (lv' := [(2, .int (nI (i + 1))), (0, .ref a), (1, .int v), (3, .int (nI n))]) hx hb dJ7_fill_53178_14 hl (k := 2) rfl (nI_1 i) (by decide) rfl (fun ls hl => ?_)
        refine lv_goto (tgt := 5) hx hb dJ7_fill_53178_17 (by decide) ?_
        exact ih _ (by omega) (i + 1) (upd w i v) rfl (by omega) (by rw [hw]; exact fix_step i (fun _ => v) f) _ _ hP hD hS _ (lv_sub hl [1, 2, 0, 3] rfl)
  exact hloop _ 0 f rfl (by omega) (by funext j; rw [if_neg (by omega)]) _ _ hP hD hS _ (lv_sub hl [2, 3, 1, 0] rfl)
def xAd (h q0 q1 q2 q3 q4 q5 q6 q7 q8 q9 q10 : Nat) : Nat → Nat := fun k => match k with
  | 0 => q0
  | 2 => q1
  | 3 => q2
  | 4 => q3
  | 6 => q4
  | 9 => q5
  | 10 => q6
  | 11 => q7
  | 12 => q8
  | 13 => q9
  | 14 => q10
  | _ => h
def xF0 : qFs := fun k => if k = 5 then 1 else 0
def xG0 : qGs := fun k => match k with
  | 0 => fun j => if j < 400 then (-1) else (fun _ => 0) j
  | 2 => upd (fun _ => 0) 0 99
  | 4 => fun j => if j < 8 then (-1) else (fun _ => 0) j
  | _ => fun _ => 0
set_option maxHeartbeats 4000000 in
set_option maxRecDepth 100000 in
theorem c_X0_init (l : Launch) (D : va_G) (cA cZ cL : ClassId) (h0 : Nat) (sz : Nat) : Met l yX0_init wsX0_init ({ frames := 1, cells := 11, slots := 884, locals := 30 } : Room) (va_Pc [.ref h0] (qPreW D (qTy cA cZ cL) [(h0, .inr (0, [.null, .int 0, .null, .null, .null, .int 0, .null, .int 0, .int 0, .null, .null, .null, .null, .null, .null, .int 0]))] sz)) (va_Qv (fun ad : Nat → Nat => ad 16 = h0) (qAt D (va_A [(h0, .inr (0, [.null, .int 0, .null, .null, .null, .int 0, .null, .int 0, .int 0, .null, .null, .null, .null, .null, .null, .int 0]))] sz) (fun ad : Nat → Nat => xW cA ad xF0 xG0)) (va_A [(h0, .inr (0, [.null, .int 0, .null, .null, .null, .int 0, .null, .int 0, .int 0, .null, .null, .null, .null, .null, .null, .int 0]))] sz)) 11 884 (va_A [(h0, .inr (0, [.null, .int 0, .null, .null, .null, .int 0, .null, .int 0, .int 0, .null, .null, .null, .null, .null, .null, .int 0]))] sz) := by
  refine Met.ofW (cc := cX0_init) (maxL := 1) (ret := none) (by decide) rfl ?_
  intro p e s m args below meth c s₁ B hml hv
  obtain ⟨rfl, hsz, hP, hK, hD0⟩ := hv
  have hx := B.exec
  have hb := B.bytes
  have hr := B.returns
  have hts := atoms_spec (ws := wsX0_init) B.pre
  have hown : s.vm.findClass RX0 = some m.cls := findClass_of_methodNamed B.named
  have hlocks := B.notSynchronized
  have hin : meth.name = "<init>" := (name_of_methodNamed B.named B.method).1
  subst hsz
  have hD := hD0.self (sz := s.heap.size)
  generalize hAe : va_A [(h0, .inr (0, [.null, .int 0, .null, .null, .null, .int 0, .null, .int 0, .int 0, .null, .null, .null, .null, .null, .null, .int 0]))] s.heap.size = A at hD ⊢
  have hA : ∀ q : Nat, s.heap.size ≤ q → A q := fun q h => by rw [← hAe]; exact Or.inr h
  have hS : va_S A s.heap s.heap [] := va_S.rf
  have hfin : ∀ w ∈ wsX00, w ∈ wsX0_init := fun w h => (List.mem_cons_of_mem _ (List.mem_append_right _ h))
  have hl := lv_entry ([.ref h0]) (n := 1) (Nat.le_of_ble_eq_true rfl)
  rw [lg_entry_eq]
  generalize (lg_sl ([.ref h0]) ++ List.replicate (1 - (lg_sl ([.ref h0])).length) Slot.unset).toArray = ls at hl ⊢
  have hl : lv_has ls 1 [(0, .ref h0)] := hl
  refine lv_aload_n hx hb dX0_init_0 rfl (lv_at hl 0 rfl) ?_
  refine W.objInit hx hb hown (hts _ (List.mem_cons_of_mem _ (List.mem_append_left _ (List.mem_of_getElem? (i := 0) rfl)))) (hts _ (List.mem_cons_of_mem _ (List.mem_append_left _ (List.mem_of_getElem? (i := 1) rfl)))) (hts _ (List.mem_cons_of_mem _ (List.mem_append_left _ (List.mem_of_getElem? (i := 2) rfl)))) rfl (by rw [hml]; exact hl.1) rfl dX0_init_1 (Nat.le_of_ble_eq_true rfl) (Nat.le_of_ble_eq_true rfl) ?_
  refine W.eq (g2 := F0 m 4 ls []) rfl ?_
  refine lv_aload_n hx hb dX0_init_4 rfl (lv_at hl 0 rfl) ?_
  refine lv_sipush (v := 400) hx hb dX0_init_5 (by decide) ?_
  refine qb_newa (atype := .int) (a0 := (400, .inl (fun _ => 0))) hx hb (hts _ (List.mem_cons_of_mem _ (List.mem_append_left _ (List.mem_of_getElem? (i := 3) rfl)))) rfl hK hP hD hS hA 0 rfl (fun _ h => h) (fun _ => rfl) (by decide) (by decide) (Nat.le_of_ble_eq_true rfl) (Nat.le_of_ble_eq_true rfl) (Nat.le_of_ble_eq_true rfl) dX0_init_8 (fun q0 H hP hD hS => ?_)
  have hP : va_P D vwCl [(h0, .inr (0, [.null, .int 0, .null, .null, .null, .int 0, .null, .int 0, .int 0, .null, .null, .null, .null, .null, .null, .int 0])), (q0, .inl (cA, 400, .inl (fun _ => 0)))] H := hP
  have hD : va_D A [(h0, .inr (0, [.null, .int 0, .null, .null, .null, .int 0, .null, .int 0, .int 0, .null, .null, .null, .null, .null, .null, .int 0])), (q0, .inl (cA, 400, .inl (fun _ => 0)))] := hD
  refine W.widen (k := 1) (n := 400) (Nat.le_refl _) (Nat.le_refl _) ?_
  refine va_putF (D := D) (ci := 0) (v := .ref q0) (ty := .array .int) (C := RX0) (T := TX0) (N := 16) hx hb hts hfin tyX0 tyX0_ok nmX0 hown hK hP hD hS 0 rfl rfl 0 (by decide) (hts _ (List.mem_cons_of_mem _ (List.mem_append_left _ (List.mem_of_getElem? (i := 4) rfl)))) (fun _ h9 => h9) rfl hin rfl (by decide +kernel) rfl rfl (Nat.le_of_ble_eq_true rfl) dX0_init_10 (fun H locs hP hD hS => ?_)
  have hP : va_P D vwCl [(h0, .inr (0, [.ref q0, .int 0, .null, .null, .null, .int 0, .null, .int 0, .int 0, .null, .null, .null, .null, .null, .null, .int 0])), (q0, .inl (cA, 400, .inl (fun _ => 0)))] H := hP
  have hD : va_D A [(h0, .inr (0, [.ref q0, .int 0, .null, .null, .null, .int 0, .null, .int 0, .int 0, .null, .null, .null, .null, .null, .null, .int 0])), (q0, .inl (cA, 400, .inl (fun _ => 0)))] := hD
  refine lv_aload_n hx hb dX0_init_13 rfl (lv_at hl 0 rfl) ?_
  refine lv_bipush (v := 8) hx hb dX0_init_14 (by decide) ?_
  refine qb_newa (atype := .int) (a0 := (8, .inl (fun _ => 0))) hx hb (hts _ (List.mem_cons_of_mem _ (List.mem_append_left _ (List.mem_of_getElem? (i := 3) rfl)))) rfl hK hP hD hS hA 0 rfl (fun _ h => h) (fun _ => rfl) (by decide) (by decide) (Nat.le_of_ble_eq_true rfl) (Nat.le_of_ble_eq_true rfl) (Nat.le_of_ble_eq_true rfl) dX0_init_16 (fun q1 H hP hD hS => ?_)
  have hP : va_P D vwCl [(h0, .inr (0, [.ref q0, .int 0, .null, .null, .null, .int 0, .null, .int 0, .int 0, .null, .null, .null, .null, .null, .null, .int 0])), (q0, .inl (cA, 400, .inl (fun _ => 0))), (q1, .inl (cA, 8, .inl (fun _ => 0)))] H := hP
  have hD : va_D A [(h0, .inr (0, [.ref q0, .int 0, .null, .null, .null, .int 0, .null, .int 0, .int 0, .null, .null, .null, .null, .null, .null, .int 0])), (q0, .inl (cA, 400, .inl (fun _ => 0))), (q1, .inl (cA, 8, .inl (fun _ => 0)))] := hD
  refine W.widen (k := 2) (n := 408) (Nat.le_refl _) (Nat.le_refl _) ?_
  refine va_putF (D := D) (ci := 0) (v := .ref q1) (ty := .array .int) (C := RX0) (T := TX0) (N := 16) hx hb hts hfin tyX0 tyX0_ok nmX0 hown hK hP hD hS 0 rfl rfl 2 (by decide) (hts _ (List.mem_cons_of_mem _ (List.mem_append_left _ (List.mem_of_getElem? (i := 5) rfl)))) (fun _ h9 => h9) rfl hin rfl (by decide +kernel) rfl rfl (Nat.le_of_ble_eq_true rfl) dX0_init_18 (fun H locs hP hD hS => ?_)
  have hP : va_P D vwCl [(h0, .inr (0, [.ref q0, .int 0, .ref q1, .null, .null, .int 0, .null, .int 0, .int 0, .null, .null, .null, .null, .null, .null, .int 0])), (q0, .inl (cA, 400, .inl (fun _ => 0))), (q1, .inl (cA, 8, .inl (fun _ => 0)))] H := hP
  have hD : va_D A [(h0, .inr (0, [.ref q0, .int 0, .ref q1, .null, .null, .int 0, .null, .int 0, .int 0, .null, .null, .null, .null, .null, .null, .int 0])), (q0, .inl (cA, 400, .inl (fun _ => 0))), (q1, .inl (cA, 8, .inl (fun _ => 0)))] := hD
  refine lv_aload_n hx hb dX0_init_21 rfl (lv_at hl 0 rfl) ?_
  refine lv_bipush (v := 8) hx hb dX0_init_22 (by decide) ?_
  refine qb_newa (atype := .int) (a0 := (8, .inl (fun _ => 0))) hx hb (hts _ (List.mem_cons_of_mem _ (List.mem_append_left _ (List.mem_of_getElem? (i := 3) rfl)))) rfl hK hP hD hS hA 0 rfl (fun _ h => h) (fun _ => rfl) (by decide) (by decide) (Nat.le_of_ble_eq_true rfl) (Nat.le_of_ble_eq_true rfl) (Nat.le_of_ble_eq_true rfl) dX0_init_24 (fun q2 H hP hD hS => ?_)
  have hP : va_P D vwCl [(h0, .inr (0, [.ref q0, .int 0, .ref q1, .null, .null, .int 0, .null, .int 0, .int 0, .null, .null, .null, .null, .null, .null, .int 0])), (q0, .inl (cA, 400, .inl (fun _ => 0))), (q1, .inl (cA, 8, .inl (fun _ => 0))), (q2, .inl (cA, 8, .inl (fun _ => 0)))] H := hP
  have hD : va_D A [(h0, .inr (0, [.ref q0, .int 0, .ref q1, .null, .null, .int 0, .null, .int 0, .int 0, .null, .null, .null, .null, .null, .null, .int 0])), (q0, .inl (cA, 400, .inl (fun _ => 0))), (q1, .inl (cA, 8, .inl (fun _ => 0))), (q2, .inl (cA, 8, .inl (fun _ => 0)))] := hD
  refine W.widen (k := 3) (n := 416) (Nat.le_refl _) (Nat.le_refl _) ?_
  refine va_putF (D := D) (ci := 0) (v := .ref q2) (ty := .array .int) (C := RX0) (T := TX0) (N := 16) hx hb hts hfin tyX0 tyX0_ok nmX0 hown hK hP hD hS 0 rfl rfl 3 (by decide) (hts _ (List.mem_cons_of_mem _ (List.mem_append_left _ (List.mem_of_getElem? (i := 6) rfl)))) (fun _ h9 => h9) rfl hin rfl (by decide +kernel) rfl rfl (Nat.le_of_ble_eq_true rfl) dX0_init_26 (fun H locs hP hD hS => ?_)
  have hP : va_P D vwCl [(h0, .inr (0, [.ref q0, .int 0, .ref q1, .ref q2, .null, .int 0, .null, .int 0, .int 0, .null, .null, .null, .null, .null, .null, .int 0])), (q0, .inl (cA, 400, .inl (fun _ => 0))), (q1, .inl (cA, 8, .inl (fun _ => 0))), (q2, .inl (cA, 8, .inl (fun _ => 0)))] H := hP
  have hD : va_D A [(h0, .inr (0, [.ref q0, .int 0, .ref q1, .ref q2, .null, .int 0, .null, .int 0, .int 0, .null, .null, .null, .null, .null, .null, .int 0])), (q0, .inl (cA, 400, .inl (fun _ => 0))), (q1, .inl (cA, 8, .inl (fun _ => 0))), (q2, .inl (cA, 8, .inl (fun _ => 0)))] := hD
  refine lv_aload_n hx hb dX0_init_29 rfl (lv_at hl 0 rfl) ?_
  refine lv_bipush (v := 8) hx hb dX0_init_30 (by decide) ?_
  refine qb_newa (atype := .int) (a0 := (8, .inl (fun _ => 0))) hx hb (hts _ (List.mem_cons_of_mem _ (List.mem_append_left _ (List.mem_of_getElem? (i := 3) rfl)))) rfl hK hP hD hS hA 0 rfl (fun _ h => h) (fun _ => rfl) (by decide) (by decide) (Nat.le_of_ble_eq_true rfl) (Nat.le_of_ble_eq_true rfl) (Nat.le_of_ble_eq_true rfl) dX0_init_32 (fun q3 H hP hD hS => ?_)
  have hP : va_P D vwCl [(h0, .inr (0, [.ref q0, .int 0, .ref q1, .ref q2, .null, .int 0, .null, .int 0, .int 0, .null, .null, .null, .null, .null, .null, .int 0])), (q0, .inl (cA, 400, .inl (fun _ => 0))), (q1, .inl (cA, 8, .inl (fun _ => 0))), (q2, .inl (cA, 8, .inl (fun _ => 0))), (q3, .inl (cA, 8, .inl (fun _ => 0)))] H := hP
  have hD : va_D A [(h0, .inr (0, [.ref q0, .int 0, .ref q1, .ref q2, .null, .int 0, .null, .int 0, .int 0, .null, .null, .null, .null, .null, .null, .int 0])), (q0, .inl (cA, 400, .inl (fun _ => 0))), (q1, .inl (cA, 8, .inl (fun _ => 0))), (q2, .inl (cA, 8, .inl (fun _ => 0))), (q3, .inl (cA, 8, .inl (fun _ => 0)))] := hD
  refine W.widen (k := 4) (n := 424) (Nat.le_refl _) (Nat.le_refl _) ?_
  refine va_putF (D := D) (ci := 0) (v := .ref q3) (ty := .array .int) (C := RX0) (T := TX0) (N := 16) hx hb hts hfin tyX0 tyX0_ok nmX0 hown hK hP hD hS 0 rfl rfl 4 (by decide) (hts _ (List.mem_cons_of_mem _ (List.mem_append_left _ (List.mem_of_getElem? (i := 7) rfl)))) (fun _ h9 => h9) rfl hin rfl (by decide +kernel) rfl rfl (Nat.le_of_ble_eq_true rfl) dX0_init_34 (fun H locs hP hD hS => ?_)
  have hP : va_P D vwCl [(h0, .inr (0, [.ref q0, .int 0, .ref q1, .ref q2, .ref q3, .int 0, .null, .int 0, .int 0, .null, .null, .null, .null, .null, .null, .int 0])), (q0, .inl (cA, 400, .inl (fun _ => 0))), (q1, .inl (cA, 8, .inl (fun _ => 0))), (q2, .inl (cA, 8, .inl (fun _ => 0))), (q3, .inl (cA, 8, .inl (fun _ => 0)))] H := hP
  have hD : va_D A [(h0, .inr (0, [.ref q0, .int 0, .ref q1, .ref q2, .ref q3, .int 0, .null, .int 0, .int 0, .null, .null, .null, .null, .null, .null, .int 0])), (q0, .inl (cA, 400, .inl (fun _ => 0))), (q1, .inl (cA, 8, .inl (fun _ => 0))), (q2, .inl (cA, 8, .inl (fun _ => 0))), (q3, .inl (cA, 8, .inl (fun _ => 0)))] := hD
  refine lv_aload_n hx hb dX0_init_37 rfl (lv_at hl 0 rfl) ?_
  refine lv_bipush (v := 100) hx hb dX0_init_38 (by decide) ?_
  refine qb_newa (atype := .int) (a0 := (100, .inl (fun _ => 0))) hx hb (hts _ (List.mem_cons_of_mem _ (List.mem_append_left _ (List.mem_of_getElem? (i := 3) rfl)))) rfl hK hP hD hS hA 0 rfl (fun _ h => h) (fun _ => rfl) (by decide) (by decide) (Nat.le_of_ble_eq_true rfl) (Nat.le_of_ble_eq_true rfl) (Nat.le_of_ble_eq_true rfl) dX0_init_40 (fun q4 H hP hD hS => ?_)
  have hP : va_P D vwCl [(h0, .inr (0, [.ref q0, .int 0, .ref q1, .ref q2, .ref q3, .int 0, .null, .int 0, .int 0, .null, .null, .null, .null, .null, .null, .int 0])), (q0, .inl (cA, 400, .inl (fun _ => 0))), (q1, .inl (cA, 8, .inl (fun _ => 0))), (q2, .inl (cA, 8, .inl (fun _ => 0))), (q3, .inl (cA, 8, .inl (fun _ => 0))), (q4, .inl (cA, 100, .inl (fun _ => 0)))] H := hP
  have hD : va_D A [(h0, .inr (0, [.ref q0, .int 0, .ref q1, .ref q2, .ref q3, .int 0, .null, .int 0, .int 0, .null, .null, .null, .null, .null, .null, .int 0])), (q0, .inl (cA, 400, .inl (fun _ => 0))), (q1, .inl (cA, 8, .inl (fun _ => 0))), (q2, .inl (cA, 8, .inl (fun _ => 0))), (q3, .inl (cA, 8, .inl (fun _ => 0))), (q4, .inl (cA, 100, .inl (fun _ => 0)))] := hD
  refine W.widen (k := 5) (n := 524) (Nat.le_refl _) (Nat.le_refl _) ?_
  refine va_putF (D := D) (ci := 0) (v := .ref q4) (ty := .array .int) (C := RX0) (T := TX0) (N := 16) hx hb hts hfin tyX0 tyX0_ok nmX0 hown hK hP hD hS 0 rfl rfl 6 (by decide) (hts _ (List.mem_cons_of_mem _ (List.mem_append_left _ (List.mem_of_getElem? (i := 8) rfl)))) (fun _ h9 => h9) rfl hin rfl (by decide +kernel) rfl rfl (Nat.le_of_ble_eq_true rfl) dX0_init_42 (fun H locs hP hD hS => ?_)
  have hP : va_P D vwCl [(h0, .inr (0, [.ref q0, .int 0, .ref q1, .ref q2, .ref q3, .int 0, .ref q4, .int 0, .int 0, .null, .null, .null, .null, .null, .null, .int 0])), (q0, .inl (cA, 400, .inl (fun _ => 0))), (q1, .inl (cA, 8, .inl (fun _ => 0))), (q2, .inl (cA, 8, .inl (fun _ => 0))), (q3, .inl (cA, 8, .inl (fun _ => 0))), (q4, .inl (cA, 100, .inl (fun _ => 0)))] H := hP
  have hD : va_D A [(h0, .inr (0, [.ref q0, .int 0, .ref q1, .ref q2, .ref q3, .int 0, .ref q4, .int 0, .int 0, .null, .null, .null, .null, .null, .null, .int 0])), (q0, .inl (cA, 400, .inl (fun _ => 0))), (q1, .inl (cA, 8, .inl (fun _ => 0))), (q2, .inl (cA, 8, .inl (fun _ => 0))), (q3, .inl (cA, 8, .inl (fun _ => 0))), (q4, .inl (cA, 100, .inl (fun _ => 0)))] := hD
  refine lv_aload_n hx hb dX0_init_45 rfl (lv_at hl 0 rfl) ?_
  refine lv_bipush (v := 60) hx hb dX0_init_46 (by decide) ?_
  refine qb_newa (atype := .int) (a0 := (60, .inl (fun _ => 0))) hx hb (hts _ (List.mem_cons_of_mem _ (List.mem_append_left _ (List.mem_of_getElem? (i := 3) rfl)))) rfl hK hP hD hS hA 0 rfl (fun _ h => h) (fun _ => rfl) (by decide) (by decide) (Nat.le_of_ble_eq_true rfl) (Nat.le_of_ble_eq_true rfl) (Nat.le_of_ble_eq_true rfl) dX0_init_48 (fun q5 H hP hD hS => ?_)
  have hP : va_P D vwCl [(h0, .inr (0, [.ref q0, .int 0, .ref q1, .ref q2, .ref q3, .int 0, .ref q4, .int 0, .int 0, .null, .null, .null, .null, .null, .null, .int 0])), (q0, .inl (cA, 400, .inl (fun _ => 0))), (q1, .inl (cA, 8, .inl (fun _ => 0))), (q2, .inl (cA, 8, .inl (fun _ => 0))), (q3, .inl (cA, 8, .inl (fun _ => 0))), (q4, .inl (cA, 100, .inl (fun _ => 0))), (q5, .inl (cA, 60, .inl (fun _ => 0)))] H := hP
  have hD : va_D A [(h0, .inr (0, [.ref q0, .int 0, .ref q1, .ref q2, .ref q3, .int 0, .ref q4, .int 0, .int 0, .null, .null, .null, .null, .null, .null, .int 0])), (q0, .inl (cA, 400, .inl (fun _ => 0))), (q1, .inl (cA, 8, .inl (fun _ => 0))), (q2, .inl (cA, 8, .inl (fun _ => 0))), (q3, .inl (cA, 8, .inl (fun _ => 0))), (q4, .inl (cA, 100, .inl (fun _ => 0))), (q5, .inl (cA, 60, .inl (fun _ => 0)))] := hD
  refine W.widen (k := 6) (n := 584) (Nat.le_refl _) (Nat.le_refl _) ?_
  refine va_putF (D := D) (ci := 0) (v := .ref q5) (ty := .array .int) (C := RX0) (T := TX0) (N := 16) hx hb hts hfin tyX0 tyX0_ok nmX0 hown hK hP hD hS 0 rfl rfl 9 (by decide) (hts _ (List.mem_cons_of_mem _ (List.mem_append_left _ (List.mem_of_getElem? (i := 9) rfl)))) (fun _ h9 => h9) rfl hin rfl (by decide +kernel) rfl rfl (Nat.le_of_ble_eq_true rfl) dX0_init_50 (fun H locs hP hD hS => ?_)
  have hP : va_P D vwCl [(h0, .inr (0, [.ref q0, .int 0, .ref q1, .ref q2, .ref q3, .int 0, .ref q4, .int 0, .int 0, .ref q5, .null, .null, .null, .null, .null, .int 0])), (q0, .inl (cA, 400, .inl (fun _ => 0))), (q1, .inl (cA, 8, .inl (fun _ => 0))), (q2, .inl (cA, 8, .inl (fun _ => 0))), (q3, .inl (cA, 8, .inl (fun _ => 0))), (q4, .inl (cA, 100, .inl (fun _ => 0))), (q5, .inl (cA, 60, .inl (fun _ => 0)))] H := hP
  have hD : va_D A [(h0, .inr (0, [.ref q0, .int 0, .ref q1, .ref q2, .ref q3, .int 0, .ref q4, .int 0, .int 0, .ref q5, .null, .null, .null, .null, .null, .int 0])), (q0, .inl (cA, 400, .inl (fun _ => 0))), (q1, .inl (cA, 8, .inl (fun _ => 0))), (q2, .inl (cA, 8, .inl (fun _ => 0))), (q3, .inl (cA, 8, .inl (fun _ => 0))), (q4, .inl (cA, 100, .inl (fun _ => 0))), (q5, .inl (cA, 60, .inl (fun _ => 0)))] := hD
  refine lv_aload_n hx hb dX0_init_53 rfl (lv_at hl 0 rfl) ?_
  refine lv_bipush (v := 60) hx hb dX0_init_54 (by decide) ?_
  refine qb_newa (atype := .int) (a0 := (60, .inl (fun _ => 0))) hx hb (hts _ (List.mem_cons_of_mem _ (List.mem_append_left _ (List.mem_of_getElem? (i := 3) rfl)))) rfl hK hP hD hS hA 0 rfl (fun _ h => h) (fun _ => rfl) (by decide) (by decide) (Nat.le_of_ble_eq_true rfl) (Nat.le_of_ble_eq_true rfl) (Nat.le_of_ble_eq_true rfl) dX0_init_56 (fun q6 H hP hD hS => ?_)
  have hP : va_P D vwCl [(h0, .inr (0, [.ref q0, .int 0, .ref q1, .ref q2, .ref q3, .int 0, .ref q4, .int 0, .int 0, .ref q5, .null, .null, .null, .null, .null, .int 0])), (q0, .inl (cA, 400, .inl (fun _ => 0))), (q1, .inl (cA, 8, .inl (fun _ => 0))), (q2, .inl (cA, 8, .inl (fun _ => 0))), (q3, .inl (cA, 8, .inl (fun _ => 0))), (q4, .inl (cA, 100, .inl (fun _ => 0))), (q5, .inl (cA, 60, .inl (fun _ => 0))), (q6, .inl (cA, 60, .inl (fun _ => 0)))] H := hP
  have hD : va_D A [(h0, .inr (0, [.ref q0, .int 0, .ref q1, .ref q2, .ref q3, .int 0, .ref q4, .int 0, .int 0, .ref q5, .null, .null, .null, .null, .null, .int 0])), (q0, .inl (cA, 400, .inl (fun _ => 0))), (q1, .inl (cA, 8, .inl (fun _ => 0))), (q2, .inl (cA, 8, .inl (fun _ => 0))), (q3, .inl (cA, 8, .inl (fun _ => 0))), (q4, .inl (cA, 100, .inl (fun _ => 0))), (q5, .inl (cA, 60, .inl (fun _ => 0))), (q6, .inl (cA, 60, .inl (fun _ => 0)))] := hD
  refine W.widen (k := 7) (n := 644) (Nat.le_refl _) (Nat.le_refl _) ?_
  refine va_putF (D := D) (ci := 0) (v := .ref q6) (ty := .array .int) (C := RX0) (T := TX0) (N := 16) hx hb hts hfin tyX0 tyX0_ok nmX0 hown hK hP hD hS 0 rfl rfl 10 (by decide) (hts _ (List.mem_cons_of_mem _ (List.mem_append_left _ (List.mem_of_getElem? (i := 10) rfl)))) (fun _ h9 => h9) rfl hin rfl (by decide +kernel) rfl rfl (Nat.le_of_ble_eq_true rfl) dX0_init_58 (fun H locs hP hD hS => ?_)
  have hP : va_P D vwCl [(h0, .inr (0, [.ref q0, .int 0, .ref q1, .ref q2, .ref q3, .int 0, .ref q4, .int 0, .int 0, .ref q5, .ref q6, .null, .null, .null, .null, .int 0])), (q0, .inl (cA, 400, .inl (fun _ => 0))), (q1, .inl (cA, 8, .inl (fun _ => 0))), (q2, .inl (cA, 8, .inl (fun _ => 0))), (q3, .inl (cA, 8, .inl (fun _ => 0))), (q4, .inl (cA, 100, .inl (fun _ => 0))), (q5, .inl (cA, 60, .inl (fun _ => 0))), (q6, .inl (cA, 60, .inl (fun _ => 0)))] H := hP
  have hD : va_D A [(h0, .inr (0, [.ref q0, .int 0, .ref q1, .ref q2, .ref q3, .int 0, .ref q4, .int 0, .int 0, .ref q5, .ref q6, .null, .null, .null, .null, .int 0])), (q0, .inl (cA, 400, .inl (fun _ => 0))), (q1, .inl (cA, 8, .inl (fun _ => 0))), (q2, .inl (cA, 8, .inl (fun _ => 0))), (q3, .inl (cA, 8, .inl (fun _ => 0))), (q4, .inl (cA, 100, .inl (fun _ => 0))), (q5, .inl (cA, 60, .inl (fun _ => 0))), (q6, .inl (cA, 60, .inl (fun _ => 0)))] := hD
  refine lv_aload_n hx hb dX0_init_61 rfl (lv_at hl 0 rfl) ?_
  refine lv_bipush (v := 60) hx hb dX0_init_62 (by decide) ?_
  refine qb_newa (atype := .int) (a0 := (60, .inl (fun _ => 0))) hx hb (hts _ (List.mem_cons_of_mem _ (List.mem_append_left _ (List.mem_of_getElem? (i := 3) rfl)))) rfl hK hP hD hS hA 0 rfl (fun _ h => h) (fun _ => rfl) (by decide) (by decide) (Nat.le_of_ble_eq_true rfl) (Nat.le_of_ble_eq_true rfl) (Nat.le_of_ble_eq_true rfl) dX0_init_64 (fun q7 H hP hD hS => ?_)
  have hP : va_P D vwCl [(h0, .inr (0, [.ref q0, .int 0, .ref q1, .ref q2, .ref q3, .int 0, .ref q4, .int 0, .int 0, .ref q5, .ref q6, .null, .null, .null, .null, .int 0])), (q0, .inl (cA, 400, .inl (fun _ => 0))), (q1, .inl (cA, 8, .inl (fun _ => 0))), (q2, .inl (cA, 8, .inl (fun _ => 0))), (q3, .inl (cA, 8, .inl (fun _ => 0))), (q4, .inl (cA, 100, .inl (fun _ => 0))), (q5, .inl (cA, 60, .inl (fun _ => 0))), (q6, .inl (cA, 60, .inl (fun _ => 0))), (q7, .inl (cA, 60, .inl (fun _ => 0)))] H := hP
  have hD : va_D A [(h0, .inr (0, [.ref q0, .int 0, .ref q1, .ref q2, .ref q3, .int 0, .ref q4, .int 0, .int 0, .ref q5, .ref q6, .null, .null, .null, .null, .int 0])), (q0, .inl (cA, 400, .inl (fun _ => 0))), (q1, .inl (cA, 8, .inl (fun _ => 0))), (q2, .inl (cA, 8, .inl (fun _ => 0))), (q3, .inl (cA, 8, .inl (fun _ => 0))), (q4, .inl (cA, 100, .inl (fun _ => 0))), (q5, .inl (cA, 60, .inl (fun _ => 0))), (q6, .inl (cA, 60, .inl (fun _ => 0))), (q7, .inl (cA, 60, .inl (fun _ => 0)))] := hD
  refine W.widen (k := 8) (n := 704) (Nat.le_refl _) (Nat.le_refl _) ?_
  refine va_putF (D := D) (ci := 0) (v := .ref q7) (ty := .array .int) (C := RX0) (T := TX0) (N := 16) hx hb hts hfin tyX0 tyX0_ok nmX0 hown hK hP hD hS 0 rfl rfl 11 (by decide) (hts _ (List.mem_cons_of_mem _ (List.mem_append_left _ (List.mem_of_getElem? (i := 11) rfl)))) (fun _ h9 => h9) rfl hin rfl (by decide +kernel) rfl rfl (Nat.le_of_ble_eq_true rfl) dX0_init_66 (fun H locs hP hD hS => ?_)
  have hP : va_P D vwCl [(h0, .inr (0, [.ref q0, .int 0, .ref q1, .ref q2, .ref q3, .int 0, .ref q4, .int 0, .int 0, .ref q5, .ref q6, .ref q7, .null, .null, .null, .int 0])), (q0, .inl (cA, 400, .inl (fun _ => 0))), (q1, .inl (cA, 8, .inl (fun _ => 0))), (q2, .inl (cA, 8, .inl (fun _ => 0))), (q3, .inl (cA, 8, .inl (fun _ => 0))), (q4, .inl (cA, 100, .inl (fun _ => 0))), (q5, .inl (cA, 60, .inl (fun _ => 0))), (q6, .inl (cA, 60, .inl (fun _ => 0))), (q7, .inl (cA, 60, .inl (fun _ => 0)))] H := hP
  have hD : va_D A [(h0, .inr (0, [.ref q0, .int 0, .ref q1, .ref q2, .ref q3, .int 0, .ref q4, .int 0, .int 0, .ref q5, .ref q6, .ref q7, .null, .null, .null, .int 0])), (q0, .inl (cA, 400, .inl (fun _ => 0))), (q1, .inl (cA, 8, .inl (fun _ => 0))), (q2, .inl (cA, 8, .inl (fun _ => 0))), (q3, .inl (cA, 8, .inl (fun _ => 0))), (q4, .inl (cA, 100, .inl (fun _ => 0))), (q5, .inl (cA, 60, .inl (fun _ => 0))), (q6, .inl (cA, 60, .inl (fun _ => 0))), (q7, .inl (cA, 60, .inl (fun _ => 0)))] := hD
  refine lv_aload_n hx hb dX0_init_69 rfl (lv_at hl 0 rfl) ?_
  refine lv_bipush (v := 60) hx hb dX0_init_70 (by decide) ?_
  refine qb_newa (atype := .int) (a0 := (60, .inl (fun _ => 0))) hx hb (hts _ (List.mem_cons_of_mem _ (List.mem_append_left _ (List.mem_of_getElem? (i := 3) rfl)))) rfl hK hP hD hS hA 0 rfl (fun _ h => h) (fun _ => rfl) (by decide) (by decide) (Nat.le_of_ble_eq_true rfl) (Nat.le_of_ble_eq_true rfl) (Nat.le_of_ble_eq_true rfl) dX0_init_72 (fun q8 H hP hD hS => ?_)
  have hP : va_P D vwCl [(h0, .inr (0, [.ref q0, .int 0, .ref q1, .ref q2, .ref q3, .int 0, .ref q4, .int 0, .int 0, .ref q5, .ref q6, .ref q7, .null, .null, .null, .int 0])), (q0, .inl (cA, 400, .inl (fun _ => 0))), (q1, .inl (cA, 8, .inl (fun _ => 0))), (q2, .inl (cA, 8, .inl (fun _ => 0))), (q3, .inl (cA, 8, .inl (fun _ => 0))), (q4, .inl (cA, 100, .inl (fun _ => 0))), (q5, .inl (cA, 60, .inl (fun _ => 0))), (q6, .inl (cA, 60, .inl (fun _ => 0))), (q7, .inl (cA, 60, .inl (fun _ => 0))), (q8, .inl (cA, 60, .inl (fun _ => 0)))] H := hP
  have hD : va_D A [(h0, .inr (0, [.ref q0, .int 0, .ref q1, .ref q2, .ref q3, .int 0, .ref q4, .int 0, .int 0, .ref q5, .ref q6, .ref q7, .null, .null, .null, .int 0])), (q0, .inl (cA, 400, .inl (fun _ => 0))), (q1, .inl (cA, 8, .inl (fun _ => 0))), (q2, .inl (cA, 8, .inl (fun _ => 0))), (q3, .inl (cA, 8, .inl (fun _ => 0))), (q4, .inl (cA, 100, .inl (fun _ => 0))), (q5, .inl (cA, 60, .inl (fun _ => 0))), (q6, .inl (cA, 60, .inl (fun _ => 0))), (q7, .inl (cA, 60, .inl (fun _ => 0))), (q8, .inl (cA, 60, .inl (fun _ => 0)))] := hD
  refine W.widen (k := 9) (n := 764) (Nat.le_refl _) (Nat.le_refl _) ?_
  refine va_putF (D := D) (ci := 0) (v := .ref q8) (ty := .array .int) (C := RX0) (T := TX0) (N := 16) hx hb hts hfin tyX0 tyX0_ok nmX0 hown hK hP hD hS 0 rfl rfl 12 (by decide) (hts _ (List.mem_cons_of_mem _ (List.mem_append_left _ (List.mem_of_getElem? (i := 12) rfl)))) (fun _ h9 => h9) rfl hin rfl (by decide +kernel) rfl rfl (Nat.le_of_ble_eq_true rfl) dX0_init_74 (fun H locs hP hD hS => ?_)
  have hP : va_P D vwCl [(h0, .inr (0, [.ref q0, .int 0, .ref q1, .ref q2, .ref q3, .int 0, .ref q4, .int 0, .int 0, .ref q5, .ref q6, .ref q7, .ref q8, .null, .null, .int 0])), (q0, .inl (cA, 400, .inl (fun _ => 0))), (q1, .inl (cA, 8, .inl (fun _ => 0))), (q2, .inl (cA, 8, .inl (fun _ => 0))), (q3, .inl (cA, 8, .inl (fun _ => 0))), (q4, .inl (cA, 100, .inl (fun _ => 0))), (q5, .inl (cA, 60, .inl (fun _ => 0))), (q6, .inl (cA, 60, .inl (fun _ => 0))), (q7, .inl (cA, 60, .inl (fun _ => 0))), (q8, .inl (cA, 60, .inl (fun _ => 0)))] H := hP
  have hD : va_D A [(h0, .inr (0, [.ref q0, .int 0, .ref q1, .ref q2, .ref q3, .int 0, .ref q4, .int 0, .int 0, .ref q5, .ref q6, .ref q7, .ref q8, .null, .null, .int 0])), (q0, .inl (cA, 400, .inl (fun _ => 0))), (q1, .inl (cA, 8, .inl (fun _ => 0))), (q2, .inl (cA, 8, .inl (fun _ => 0))), (q3, .inl (cA, 8, .inl (fun _ => 0))), (q4, .inl (cA, 100, .inl (fun _ => 0))), (q5, .inl (cA, 60, .inl (fun _ => 0))), (q6, .inl (cA, 60, .inl (fun _ => 0))), (q7, .inl (cA, 60, .inl (fun _ => 0))), (q8, .inl (cA, 60, .inl (fun _ => 0)))] := hD
  refine lv_aload_n hx hb dX0_init_77 rfl (lv_at hl 0 rfl) ?_
  refine lv_bipush (v := 60) hx hb dX0_init_78 (by decide) ?_
  refine qb_newa (atype := .int) (a0 := (60, .inl (fun _ => 0))) hx hb (hts _ (List.mem_cons_of_mem _ (List.mem_append_left _ (List.mem_of_getElem? (i := 3) rfl)))) rfl hK hP hD hS hA 0 rfl (fun _ h => h) (fun _ => rfl) (by decide) (by decide) (Nat.le_of_ble_eq_true rfl) (Nat.le_of_ble_eq_true rfl) (Nat.le_of_ble_eq_true rfl) dX0_init_80 (fun q9 H hP hD hS => ?_)
  have hP : va_P D vwCl [(h0, .inr (0, [.ref q0, .int 0, .ref q1, .ref q2, .ref q3, .int 0, .ref q4, .int 0, .int 0, .ref q5, .ref q6, .ref q7, .ref q8, .null, .null, .int 0])), (q0, .inl (cA, 400, .inl (fun _ => 0))), (q1, .inl (cA, 8, .inl (fun _ => 0))), (q2, .inl (cA, 8, .inl (fun _ => 0))), (q3, .inl (cA, 8, .inl (fun _ => 0))), (q4, .inl (cA, 100, .inl (fun _ => 0))), (q5, .inl (cA, 60, .inl (fun _ => 0))), (q6, .inl (cA, 60, .inl (fun _ => 0))), (q7, .inl (cA, 60, .inl (fun _ => 0))), (q8, .inl (cA, 60, .inl (fun _ => 0))), (q9, .inl (cA, 60, .inl (fun _ => 0)))] H := hP
  have hD : va_D A [(h0, .inr (0, [.ref q0, .int 0, .ref q1, .ref q2, .ref q3, .int 0, .ref q4, .int 0, .int 0, .ref q5, .ref q6, .ref q7, .ref q8, .null, .null, .int 0])), (q0, .inl (cA, 400, .inl (fun _ => 0))), (q1, .inl (cA, 8, .inl (fun _ => 0))), (q2, .inl (cA, 8, .inl (fun _ => 0))), (q3, .inl (cA, 8, .inl (fun _ => 0))), (q4, .inl (cA, 100, .inl (fun _ => 0))), (q5, .inl (cA, 60, .inl (fun _ => 0))), (q6, .inl (cA, 60, .inl (fun _ => 0))), (q7, .inl (cA, 60, .inl (fun _ => 0))), (q8, .inl (cA, 60, .inl (fun _ => 0))), (q9, .inl (cA, 60, .inl (fun _ => 0)))] := hD
  refine W.widen (k := 10) (n := 824) (Nat.le_refl _) (Nat.le_refl _) ?_
  refine va_putF (D := D) (ci := 0) (v := .ref q9) (ty := .array .int) (C := RX0) (T := TX0) (N := 16) hx hb hts hfin tyX0 tyX0_ok nmX0 hown hK hP hD hS 0 rfl rfl 13 (by decide) (hts _ (List.mem_cons_of_mem _ (List.mem_append_left _ (List.mem_of_getElem? (i := 13) rfl)))) (fun _ h9 => h9) rfl hin rfl (by decide +kernel) rfl rfl (Nat.le_of_ble_eq_true rfl) dX0_init_82 (fun H locs hP hD hS => ?_)
  have hP : va_P D vwCl [(h0, .inr (0, [.ref q0, .int 0, .ref q1, .ref q2, .ref q3, .int 0, .ref q4, .int 0, .int 0, .ref q5, .ref q6, .ref q7, .ref q8, .ref q9, .null, .int 0])), (q0, .inl (cA, 400, .inl (fun _ => 0))), (q1, .inl (cA, 8, .inl (fun _ => 0))), (q2, .inl (cA, 8, .inl (fun _ => 0))), (q3, .inl (cA, 8, .inl (fun _ => 0))), (q4, .inl (cA, 100, .inl (fun _ => 0))), (q5, .inl (cA, 60, .inl (fun _ => 0))), (q6, .inl (cA, 60, .inl (fun _ => 0))), (q7, .inl (cA, 60, .inl (fun _ => 0))), (q8, .inl (cA, 60, .inl (fun _ => 0))), (q9, .inl (cA, 60, .inl (fun _ => 0)))] H := hP
  have hD : va_D A [(h0, .inr (0, [.ref q0, .int 0, .ref q1, .ref q2, .ref q3, .int 0, .ref q4, .int 0, .int 0, .ref q5, .ref q6, .ref q7, .ref q8, .ref q9, .null, .int 0])), (q0, .inl (cA, 400, .inl (fun _ => 0))), (q1, .inl (cA, 8, .inl (fun _ => 0))), (q2, .inl (cA, 8, .inl (fun _ => 0))), (q3, .inl (cA, 8, .inl (fun _ => 0))), (q4, .inl (cA, 100, .inl (fun _ => 0))), (q5, .inl (cA, 60, .inl (fun _ => 0))), (q6, .inl (cA, 60, .inl (fun _ => 0))), (q7, .inl (cA, 60, .inl (fun _ => 0))), (q8, .inl (cA, 60, .inl (fun _ => 0))), (q9, .inl (cA, 60, .inl (fun _ => 0)))] := hD
  refine lv_aload_n hx hb dX0_init_85 rfl (lv_at hl 0 rfl) ?_
  refine lv_bipush (v := 60) hx hb dX0_init_86 (by decide) ?_
  refine qb_newa (atype := .int) (a0 := (60, .inl (fun _ => 0))) hx hb (hts _ (List.mem_cons_of_mem _ (List.mem_append_left _ (List.mem_of_getElem? (i := 3) rfl)))) rfl hK hP hD hS hA 0 rfl (fun _ h => h) (fun _ => rfl) (by decide) (by decide) (Nat.le_of_ble_eq_true rfl) (Nat.le_of_ble_eq_true rfl) (Nat.le_of_ble_eq_true rfl) dX0_init_88 (fun q10 H hP hD hS => ?_)
  have hP : va_P D vwCl [(h0, .inr (0, [.ref q0, .int 0, .ref q1, .ref q2, .ref q3, .int 0, .ref q4, .int 0, .int 0, .ref q5, .ref q6, .ref q7, .ref q8, .ref q9, .null, .int 0])), (q0, .inl (cA, 400, .inl (fun _ => 0))), (q1, .inl (cA, 8, .inl (fun _ => 0))), (q2, .inl (cA, 8, .inl (fun _ => 0))), (q3, .inl (cA, 8, .inl (fun _ => 0))), (q4, .inl (cA, 100, .inl (fun _ => 0))), (q5, .inl (cA, 60, .inl (fun _ => 0))), (q6, .inl (cA, 60, .inl (fun _ => 0))), (q7, .inl (cA, 60, .inl (fun _ => 0))), (q8, .inl (cA, 60, .inl (fun _ => 0))), (q9, .inl (cA, 60, .inl (fun _ => 0))), (q10, .inl (cA, 60, .inl (fun _ => 0)))] H := hP
  have hD : va_D A [(h0, .inr (0, [.ref q0, .int 0, .ref q1, .ref q2, .ref q3, .int 0, .ref q4, .int 0, .int 0, .ref q5, .ref q6, .ref q7, .ref q8, .ref q9, .null, .int 0])), (q0, .inl (cA, 400, .inl (fun _ => 0))), (q1, .inl (cA, 8, .inl (fun _ => 0))), (q2, .inl (cA, 8, .inl (fun _ => 0))), (q3, .inl (cA, 8, .inl (fun _ => 0))), (q4, .inl (cA, 100, .inl (fun _ => 0))), (q5, .inl (cA, 60, .inl (fun _ => 0))), (q6, .inl (cA, 60, .inl (fun _ => 0))), (q7, .inl (cA, 60, .inl (fun _ => 0))), (q8, .inl (cA, 60, .inl (fun _ => 0))), (q9, .inl (cA, 60, .inl (fun _ => 0))), (q10, .inl (cA, 60, .inl (fun _ => 0)))] := hD
  refine W.widen (k := 11) (n := 884) (Nat.le_refl _) (Nat.le_refl _) ?_
  refine va_putF (D := D) (ci := 0) (v := .ref q10) (ty := .array .int) (C := RX0) (T := TX0) (N := 16) hx hb hts hfin tyX0 tyX0_ok nmX0 hown hK hP hD hS 0 rfl rfl 14 (by decide) (hts _ (List.mem_cons_of_mem _ (List.mem_append_left _ (List.mem_of_getElem? (i := 14) rfl)))) (fun _ h9 => h9) rfl hin rfl (by decide +kernel) rfl rfl (Nat.le_of_ble_eq_true rfl) dX0_init_90 (fun H locs hP hD hS => ?_)
  have hP : va_P D vwCl [(h0, .inr (0, [.ref q0, .int 0, .ref q1, .ref q2, .ref q3, .int 0, .ref q4, .int 0, .int 0, .ref q5, .ref q6, .ref q7, .ref q8, .ref q9, .ref q10, .int 0])), (q0, .inl (cA, 400, .inl (fun _ => 0))), (q1, .inl (cA, 8, .inl (fun _ => 0))), (q2, .inl (cA, 8, .inl (fun _ => 0))), (q3, .inl (cA, 8, .inl (fun _ => 0))), (q4, .inl (cA, 100, .inl (fun _ => 0))), (q5, .inl (cA, 60, .inl (fun _ => 0))), (q6, .inl (cA, 60, .inl (fun _ => 0))), (q7, .inl (cA, 60, .inl (fun _ => 0))), (q8, .inl (cA, 60, .inl (fun _ => 0))), (q9, .inl (cA, 60, .inl (fun _ => 0))), (q10, .inl (cA, 60, .inl (fun _ => 0)))] H := hP
  have hD : va_D A [(h0, .inr (0, [.ref q0, .int 0, .ref q1, .ref q2, .ref q3, .int 0, .ref q4, .int 0, .int 0, .ref q5, .ref q6, .ref q7, .ref q8, .ref q9, .ref q10, .int 0])), (q0, .inl (cA, 400, .inl (fun _ => 0))), (q1, .inl (cA, 8, .inl (fun _ => 0))), (q2, .inl (cA, 8, .inl (fun _ => 0))), (q3, .inl (cA, 8, .inl (fun _ => 0))), (q4, .inl (cA, 100, .inl (fun _ => 0))), (q5, .inl (cA, 60, .inl (fun _ => 0))), (q6, .inl (cA, 60, .inl (fun _ => 0))), (q7, .inl (cA, 60, .inl (fun _ => 0))), (q8, .inl (cA, 60, .inl (fun _ => 0))), (q9, .inl (cA, 60, .inl (fun _ => 0))), (q10, .inl (cA, 60, .inl (fun _ => 0)))] := hD
  refine lv_aload_n hx hb dX0_init_93 rfl (lv_at hl 0 rfl) ?_
  refine va_get (D := D) (ci := 0) (v := .ref q0) (C := RX0) (T := TX0) (N := 16) hx hb hts hfin hown hK hP 0 rfl rfl 0 (by decide) (hts _ (List.mem_cons_of_mem _ (List.mem_append_left _ (List.mem_of_getElem? (i := 4) rfl)))) (fun _ h9 => h9) rfl dX0_init_94 ?_
  refine lv_iconst (v := (-1)) hx hb dX0_init_97 (by decide) ?_
  have hPc := hP.sub (ws' := [(q0, .inl (cA, 400, .inl (fun _ => 0)))]) [1] rfl
  have hDc := hD.sub (ws' := [(q0, .inl (cA, 400, .inl (fun _ => 0)))]) [1] (by decide) rfl
  refine qb_callvP (wc := [(q0, .inl (cA, 400, .inl (fun _ => 0)))]) (wr := [(h0, .inr (0, [.ref q0, .int 0, .ref q1, .ref q2, .ref q3, .int 0, .ref q4, .int 0, .int 0, .ref q5, .ref q6, .ref q7, .ref q8, .ref q9, .ref q10, .int 0])), (q1, .inl (cA, 8, .inl (fun _ => 0))), (q2, .inl (cA, 8, .inl (fun _ => 0))), (q3, .inl (cA, 8, .inl (fun _ => 0))), (q4, .inl (cA, 100, .inl (fun _ => 0))), (q5, .inl (cA, 60, .inl (fun _ => 0))), (q6, .inl (cA, 60, .inl (fun _ => 0))), (q7, .inl (cA, 60, .inl (fun _ => 0))), (q8, .inl (cA, 60, .inl (fun _ => 0))), (q9, .inl (cA, 60, .inl (fun _ => 0))), (q10, .inl (cA, 60, .inl (fun _ => 0)))]) [1] [0, 2, 3, 4, 5, 6, 7, 8, 9, 10, 11] rfl rfl (by decide) (by decide) hP (va_runS (As := [.ref q0, .int (-1)]) (rest := []) ⟨hx, hb, hml, hown, hts⟩ (c_J7_fill l D cA cZ cL q0 400 (-1) (fun _ => 0) (by decide) H.size) (va_cwS 2 hts gX0_init_J7_fill_53178 rfl rfl rfl (by decide +kernel) ⟨Nat.le_of_ble_eq_true rfl, Nat.le_of_ble_eq_true rfl⟩) ⟨qPreW_blind, qPreW_at hPc hK hDc⟩ rfl rfl hl.1 rfl (lv_room (Nat.le_of_ble_eq_true rfl)) dX0_init_98 ⟨Nat.le_of_ble_eq_true rfl, Nat.le_of_ble_eq_true rfl⟩) hD hS hA (fun u H locs hu hP hD hS => ?_)
  have hu : u = fun j => if j < 400 then (-1) else (fun _ => 0) j := hu
  subst hu
  have hP := hP.sub (ws' := [(h0, .inr (0, [.ref q0, .int 0, .ref q1, .ref q2, .ref q3, .int 0, .ref q4, .int 0, .int 0, .ref q5, .ref q6, .ref q7, .ref q8, .ref q9, .ref q10, .int 0])), (q0, .inl (cA, 400, .inl (fun j => if j < 400 then (-1) else (fun _ => 0) j))), (q1, .inl (cA, 8, .inl (fun _ => 0))), (q2, .inl (cA, 8, .inl (fun _ => 0))), (q3, .inl (cA, 8, .inl (fun _ => 0))), (q4, .inl (cA, 100, .inl (fun _ => 0))), (q5, .inl (cA, 60, .inl (fun _ => 0))), (q6, .inl (cA, 60, .inl (fun _ => 0))), (q7, .inl (cA, 60, .inl (fun _ => 0))), (q8, .inl (cA, 60, .inl (fun _ => 0))), (q9, .inl (cA, 60, .inl (fun _ => 0))), (q10, .inl (cA, 60, .inl (fun _ => 0)))]) [0, 11, 1, 2, 3, 4, 5, 6, 7, 8, 9, 10] rfl
  have hD := hD.sub (ws' := [(h0, .inr (0, [.ref q0, .int 0, .ref q1, .ref q2, .ref q3, .int 0, .ref q4, .int 0, .int 0, .ref q5, .ref q6, .ref q7, .ref q8, .ref q9, .ref q10, .int 0])), (q0, .inl (cA, 400, .inl (fun j => if j < 400 then (-1) else (fun _ => 0) j))), (q1, .inl (cA, 8, .inl (fun _ => 0))), (q2, .inl (cA, 8, .inl (fun _ => 0))), (q3, .inl (cA, 8, .inl (fun _ => 0))), (q4, .inl (cA, 100, .inl (fun _ => 0))), (q5, .inl (cA, 60, .inl (fun _ => 0))), (q6, .inl (cA, 60, .inl (fun _ => 0))), (q7, .inl (cA, 60, .inl (fun _ => 0))), (q8, .inl (cA, 60, .inl (fun _ => 0))), (q9, .inl (cA, 60, .inl (fun _ => 0))), (q10, .inl (cA, 60, .inl (fun _ => 0)))]) [0, 11, 1, 2, 3, 4, 5, 6, 7, 8, 9, 10] (by decide) rfl
  refine lv_aload_n hx hb dX0_init_101 rfl (lv_at hl 0 rfl) ?_
  refine va_get (D := D) (ci := 0) (v := .ref q3) (C := RX0) (T := TX0) (N := 16) hx hb hts hfin hown hK hP 0 rfl rfl 4 (by decide) (hts _ (List.mem_cons_of_mem _ (List.mem_append_left _ (List.mem_of_getElem? (i := 7) rfl)))) (fun _ h9 => h9) rfl dX0_init_102 ?_
  refine lv_iconst (v := (-1)) hx hb dX0_init_105 (by decide) ?_
  have hPc := hP.sub (ws' := [(q3, .inl (cA, 8, .inl (fun _ => 0)))]) [4] rfl
  have hDc := hD.sub (ws' := [(q3, .inl (cA, 8, .inl (fun _ => 0)))]) [4] (by decide) rfl
  refine qb_callvP (wc := [(q3, .inl (cA, 8, .inl (fun _ => 0)))]) (wr := [(h0, .inr (0, [.ref q0, .int 0, .ref q1, .ref q2, .ref q3, .int 0, .ref q4, .int 0, .int 0, .ref q5, .ref q6, .ref q7, .ref q8, .ref q9, .ref q10, .int 0])), (q0, .inl (cA, 400, .inl (fun j => if j < 400 then (-1) else (fun _ => 0) j))), (q1, .inl (cA, 8, .inl (fun _ => 0))), (q2, .inl (cA, 8, .inl (fun _ => 0))), (q4, .inl (cA, 100, .inl (fun _ => 0))), (q5, .inl (cA, 60, .inl (fun _ => 0))), (q6, .inl (cA, 60, .inl (fun _ => 0))), (q7, .inl (cA, 60, .inl (fun _ => 0))), (q8, .inl (cA, 60, .inl (fun _ => 0))), (q9, .inl (cA, 60, .inl (fun _ => 0))), (q10, .inl (cA, 60, .inl (fun _ => 0)))]) [4] [0, 1, 2, 3, 5, 6, 7, 8, 9, 10, 11] rfl rfl (by decide) (by decide) hP (va_runS (As := [.ref q3, .int (-1)]) (rest := []) ⟨hx, hb, hml, hown, hts⟩ (c_J7_fill l D cA cZ cL q3 8 (-1) (fun _ => 0) (by decide) H.size) (va_cwS 2 hts gX0_init_J7_fill_53178 rfl rfl rfl (by decide +kernel) ⟨Nat.le_of_ble_eq_true rfl, Nat.le_of_ble_eq_true rfl⟩) ⟨qPreW_blind, qPreW_at hPc hK hDc⟩ rfl rfl hl.1 rfl (lv_room (Nat.le_of_ble_eq_true rfl)) dX0_init_106 ⟨Nat.le_of_ble_eq_true rfl, Nat.le_of_ble_eq_true rfl⟩) hD hS hA (fun u H locs hu hP hD hS => ?_)
  have hu : u = fun j => if j < 8 then (-1) else (fun _ => 0) j := hu
  subst hu
  have hP := hP.sub (ws' := [(h0, .inr (0, [.ref q0, .int 0, .ref q1, .ref q2, .ref q3, .int 0, .ref q4, .int 0, .int 0, .ref q5, .ref q6, .ref q7, .ref q8, .ref q9, .ref q10, .int 0])), (q0, .inl (cA, 400, .inl (fun j => if j < 400 then (-1) else (fun _ => 0) j))), (q1, .inl (cA, 8, .inl (fun _ => 0))), (q2, .inl (cA, 8, .inl (fun _ => 0))), (q3, .inl (cA, 8, .inl (fun j => if j < 8 then (-1) else (fun _ => 0) j))), (q4, .inl (cA, 100, .inl (fun _ => 0))), (q5, .inl (cA, 60, .inl (fun _ => 0))), (q6, .inl (cA, 60, .inl (fun _ => 0))), (q7, .inl (cA, 60, .inl (fun _ => 0))), (q8, .inl (cA, 60, .inl (fun _ => 0))), (q9, .inl (cA, 60, .inl (fun _ => 0))), (q10, .inl (cA, 60, .inl (fun _ => 0)))]) [0, 1, 2, 3, 11, 4, 5, 6, 7, 8, 9, 10] rfl
  have hD := hD.sub (ws' := [(h0, .inr (0, [.ref q0, .int 0, .ref q1, .ref q2, .ref q3, .int 0, .ref q4, .int 0, .int 0, .ref q5, .ref q6, .ref q7, .ref q8, .ref q9, .ref q10, .int 0])), (q0, .inl (cA, 400, .inl (fun j => if j < 400 then (-1) else (fun _ => 0) j))), (q1, .inl (cA, 8, .inl (fun _ => 0))), (q2, .inl (cA, 8, .inl (fun _ => 0))), (q3, .inl (cA, 8, .inl (fun j => if j < 8 then (-1) else (fun _ => 0) j))), (q4, .inl (cA, 100, .inl (fun _ => 0))), (q5, .inl (cA, 60, .inl (fun _ => 0))), (q6, .inl (cA, 60, .inl (fun _ => 0))), (q7, .inl (cA, 60, .inl (fun _ => 0))), (q8, .inl (cA, 60, .inl (fun _ => 0))), (q9, .inl (cA, 60, .inl (fun _ => 0))), (q10, .inl (cA, 60, .inl (fun _ => 0)))]) [0, 1, 2, 3, 11, 4, 5, 6, 7, 8, 9, 10] (by decide) rfl
  refine lv_aload_n hx hb dX0_init_109 rfl (lv_at hl 0 rfl) ?_
  refine va_get (D := D) (ci := 0) (v := .ref q1) (C := RX0) (T := TX0) (N := 16) hx hb hts hfin hown hK hP 0 rfl rfl 2 (by decide) (hts _ (List.mem_cons_of_mem _ (List.mem_append_left _ (List.mem_of_getElem? (i := 5) rfl)))) (fun _ h9 => h9) rfl dX0_init_110 ?_
  refine lv_iconst (v := 0) hx hb dX0_init_113 (by decide) ?_
  refine lv_bipush (v := 99) hx hb dX0_init_114 (by decide) ?_
  refine va_iast hx hb hK hP hD hS 2 0 rfl rfl (by unfold vp_in; decide) dX0_init_116 (fun H locs hP hD hS => ?_)
  have hP : va_P D vwCl [(h0, .inr (0, [.ref q0, .int 0, .ref q1, .ref q2, .ref q3, .int 0, .ref q4, .int 0, .int 0, .ref q5, .ref q6, .ref q7, .ref q8, .ref q9, .ref q10, .int 0])), (q0, .inl (cA, 400, .inl (fun j => if j < 400 then (-1) else (fun _ => 0) j))), (q1, .inl (cA, 8, .inl (upd (fun _ => 0) 0 99))), (q2, .inl (cA, 8, .inl (fun _ => 0))), (q3, .inl (cA, 8, .inl (fun j => if j < 8 then (-1) else (fun _ => 0) j))), (q4, .inl (cA, 100, .inl (fun _ => 0))), (q5, .inl (cA, 60, .inl (fun _ => 0))), (q6, .inl (cA, 60, .inl (fun _ => 0))), (q7, .inl (cA, 60, .inl (fun _ => 0))), (q8, .inl (cA, 60, .inl (fun _ => 0))), (q9, .inl (cA, 60, .inl (fun _ => 0))), (q10, .inl (cA, 60, .inl (fun _ => 0)))] H := hP
  have hD : va_D A [(h0, .inr (0, [.ref q0, .int 0, .ref q1, .ref q2, .ref q3, .int 0, .ref q4, .int 0, .int 0, .ref q5, .ref q6, .ref q7, .ref q8, .ref q9, .ref q10, .int 0])), (q0, .inl (cA, 400, .inl (fun j => if j < 400 then (-1) else (fun _ => 0) j))), (q1, .inl (cA, 8, .inl (upd (fun _ => 0) 0 99))), (q2, .inl (cA, 8, .inl (fun _ => 0))), (q3, .inl (cA, 8, .inl (fun j => if j < 8 then (-1) else (fun _ => 0) j))), (q4, .inl (cA, 100, .inl (fun _ => 0))), (q5, .inl (cA, 60, .inl (fun _ => 0))), (q6, .inl (cA, 60, .inl (fun _ => 0))), (q7, .inl (cA, 60, .inl (fun _ => 0))), (q8, .inl (cA, 60, .inl (fun _ => 0))), (q9, .inl (cA, 60, .inl (fun _ => 0))), (q10, .inl (cA, 60, .inl (fun _ => 0)))] := hD
  refine lv_aload_n hx hb dX0_init_117 rfl (lv_at hl 0 rfl) ?_
  refine lv_iconst (v := 1) hx hb dX0_init_118 (by decide) ?_
  refine va_put (D := D) (ci := 0) (v := .int 1) (ty := .int) (C := RX0) (T := TX0) (N := 16) hx hb hts hfin tyX0 tyX0_ok nmX0 hown hK hP hD hS 0 rfl rfl 5 (by decide) (hts _ (List.mem_cons_of_mem _ (List.mem_append_left _ (List.mem_of_getElem? (i := 15) rfl)))) (fun _ h9 => h9) rfl (by decide +kernel) rfl rfl (Nat.le_of_ble_eq_true rfl) dX0_init_119 (fun H locs hP hD hS => ?_)
  have hP : va_P D vwCl [(h0, .inr (0, [.ref q0, .int 0, .ref q1, .ref q2, .ref q3, .int 1, .ref q4, .int 0, .int 0, .ref q5, .ref q6, .ref q7, .ref q8, .ref q9, .ref q10, .int 0])), (q0, .inl (cA, 400, .inl (fun j => if j < 400 then (-1) else (fun _ => 0) j))), (q1, .inl (cA, 8, .inl (upd (fun _ => 0) 0 99))), (q2, .inl (cA, 8, .inl (fun _ => 0))), (q3, .inl (cA, 8, .inl (fun j => if j < 8 then (-1) else (fun _ => 0) j))), (q4, .inl (cA, 100, .inl (fun _ => 0))), (q5, .inl (cA, 60, .inl (fun _ => 0))), (q6, .inl (cA, 60, .inl (fun _ => 0))), (q7, .inl (cA, 60, .inl (fun _ => 0))), (q8, .inl (cA, 60, .inl (fun _ => 0))), (q9, .inl (cA, 60, .inl (fun _ => 0))), (q10, .inl (cA, 60, .inl (fun _ => 0)))] H := hP
  have hD : va_D A [(h0, .inr (0, [.ref q0, .int 0, .ref q1, .ref q2, .ref q3, .int 1, .ref q4, .int 0, .int 0, .ref q5, .ref q6, .ref q7, .ref q8, .ref q9, .ref q10, .int 0])), (q0, .inl (cA, 400, .inl (fun j => if j < 400 then (-1) else (fun _ => 0) j))), (q1, .inl (cA, 8, .inl (upd (fun _ => 0) 0 99))), (q2, .inl (cA, 8, .inl (fun _ => 0))), (q3, .inl (cA, 8, .inl (fun j => if j < 8 then (-1) else (fun _ => 0) j))), (q4, .inl (cA, 100, .inl (fun _ => 0))), (q5, .inl (cA, 60, .inl (fun _ => 0))), (q6, .inl (cA, 60, .inl (fun _ => 0))), (q7, .inl (cA, 60, .inl (fun _ => 0))), (q8, .inl (cA, 60, .inl (fun _ => 0))), (q9, .inl (cA, 60, .inl (fun _ => 0))), (q10, .inl (cA, 60, .inl (fun _ => 0)))] := hD
  have hP : va_P D vwCl (xW cA (xAd h0 q0 q1 q2 q3 q4 q5 q6 q7 q8 q9 q10) xF0 xG0) H := hP
  have hD : va_D A (xW cA (xAd h0 q0 q1 q2 q3 q4 q5 q6 q7 q8 q9 q10) xF0 xG0) := hD
  exact W.vret hx hb hr (fun t ht hW => ⟨⟨xAd h0 q0 q1 q2 q3 q4 q5 q6 q7 q8 q9 q10, rfl, rfl, by rw [ht]; exact hP, hD⟩, hS.F ht⟩) hS.2.2 dX0_init_122
end
section
theorem qMet_ofWH {l : Launch} {y : MethodName} {ws ws' : List Cond} {rm : Room} {Pc : Array Value → State → Prop} {Qc : Array Value → State → Outcome → State → Prop} {mc ms : Nat} {free : Addr → Prop} {cc : ByteArray} {maxL : Nat} {ret : Option FieldType} {hh : List (Nat × Nat × Nat × Nat)}
    (hy : plainName y.cls = true) (hw : ws = Cond.codeWith y cc maxL ret hh :: ws')
    (body : ∀ p e s m args below meth c s₁, BodyLoose p l y (headSpec ws rm) cc maxL ret e s m args below meth c s₁ → c.maxLocals = maxL → Pc args s →
      W p l e (headSpec ws rm).room s m args below meth c s.heap [] 0 0 (MQ below Qc args s mc ms free) (entryFrame m args maxL)) : Met l y ws rm Pc Qc mc ms free := by
  refine MetFree.of_bodyS (code := cc) (maxLocals := maxL) (ret := ret) hy ?_ ?_
  · intro args s m h hn
    obtain ⟨m9, meth, c, hn9, h1, h2, h3, h4, -, h5, h6, -⟩ := Cond.codeWith_spec (atoms_spec (ws := ws) h _ (by rw [hw]; exact List.mem_cons_self))
    cases hn.symm.trans hn9
    exact ⟨meth, c, h1, h2, h3, h4, h5, h6⟩
  · intro p e s m args below meth c s₁ B hml hP _
    have hh0 : s₁.heap = s.heap := by rw [B.state]; rfl
    obtain ⟨t, a1, o, b1, b2, b3⟩ := body p e s m args below meth c s₁ B hml hP s₁ hh0 (Stand.of_body B)
    exact ⟨t, o, a1, b1, b2, ⟨b3.1, b3.2⟩⟩
/-- which exceptions are none of another's kind -/
def qNC (U : State) : Prop := va_Nc eIA eIO U ∧ va_Nc eIS eIO U ∧ va_Nc eIS eIA U
theorem qNc_moved {C T : String} {s U : State} (hvm : s.vm.Alike U.vm) (h : va_Nc C T s) : va_Nc C T U := va_Nc.moved hvm h
theorem qNC_at {s U : State} (h : qNC s) (hvm : s.vm.Alike U.vm) : qNC U := ⟨qNc_moved hvm h.1, qNc_moved hvm h.2.1, qNc_moved hvm h.2.2⟩
def qPreL (D : va_G) (tys : List (ClassId × FieldType)) (ws : va_W) (sz : Nat) : State → Prop := fun U => U.heap.size = sz ∧ va_P D vwCl ws U.heap ∧ va_K D vwCl tys U ∧ va_D (fun _ => True) ws ∧ qTH U ∧ qNC U
theorem qPreL_blind {D : va_G} {tys : List (ClassId × FieldType)} {ws : va_W} {av : List Value} {sz : Nat} : FrameBlind (va_Pc av (qPreL D tys ws sz)) := fun a U g mk q => ⟨q.1, q.2.1, q.2.2.1, va_K.moved (u := U) (U := U.calling g mk a) (Vm.Alike.refl U.vm) q.2.2.2.1, q.2.2.2.2.1, qTH_call q.2.2.2.2.2.1, qNC_at (U := U.calling g mk a) q.2.2.2.2.2.2 (Vm.Alike.refl U.vm)⟩
def qPreN (D : va_G) (tys : List (ClassId × FieldType)) (ws : va_W) : State → Prop := fun U => va_P D vwCl ws U.heap ∧ va_K D vwCl tys U ∧ qTH U ∧ qNC U
theorem qPreN_blind {D : va_G} {tys : List (ClassId × FieldType)} {ws : va_W} {av : List Value} : FrameBlind (va_Pc av (qPreN D tys ws)) := fun a U g mk q => ⟨q.1, q.2.1, va_K.moved (u := U) (U := U.calling g mk a) (Vm.Alike.refl U.vm) q.2.2.1, qTH_call q.2.2.2.1, qNC_at (U := U.calling g mk a) q.2.2.2.2 (Vm.Alike.refl U.vm)⟩
theorem qPreN_at {D : va_G} {tys : List (ClassId × FieldType)} {ws : va_W} {av : List Value} {s : State} {H : Heap} (hP : va_P D vwCl ws H) (hK : va_K D vwCl tys s) (hT : ∀ U : State, U.heap = H → s.WarmedH U.vm → qTH U ∧ qNC U) : ∀ U : State, U.heap = H → s.WarmedH U.vm → va_Pc av (qPreN D tys ws) av.toArray U := fun U hU hW => ⟨rfl, by rw [hU]; exact hP, va_K.moved hW.alike hK, hT U hU hW⟩
theorem qPreL_at {D : va_G} {tys : List (ClassId × FieldType)} {ws : va_W} {av : List Value} {s : State} {H : Heap} {A : Nat → Prop} (hP : va_P D vwCl ws H) (hK : va_K D vwCl tys s) (hD : va_D A ws) (hT : ∀ U : State, U.heap = H → s.WarmedH U.vm → qTH U ∧ qNC U) : ∀ U : State, U.heap = H → s.WarmedH U.vm → va_Pc av (qPreL D tys ws H.size) av.toArray U := fun U hU hW => ⟨rfl, by rw [hU], by rw [hU]; exact hP, va_K.moved hW.alike hK, hD.weaken (fun _ _ _ _ => trivial), (hT U hU hW).1, (hT U hU hW).2⟩
/-- what a throw needs, where nothing below z0 is touched -/
def qTZ (z0 : Nat) (U : State) : Prop := vx_Zq Bundle.tN "UNASSIGNED_STACK" Bundle.steD (fun q : Nat => z0 ≤ q) U U.heap ∧ vx_Zq Bundle.tN "SUPPRESSED_SENTINEL" Bundle.listD (fun q : Nat => z0 ≤ q) U U.heap ∧ (∀ q ∈ qStr, ∃ sa : Nat, vk_R RX0 q.1 q.2 sa U) ∧ (∀ E ∈ qEx, va_Nw (.castable E E) U) ∧ (∀ Y ∈ qDe, va_Nw (.declares (Bundle.initS Y)) U) ∧ qNC U
theorem qTZ_at {z0 : Nat} {s : State} (h : qTZ z0 s) {A : Nat → Prop} {H : Heap} {locs : List Loc} (hS : va_S A s.heap H locs) (hA : ∀ q, A q → z0 ≤ q) : ∀ U : State, U.heap = H → s.WarmedH U.vm → qTZ z0 U := by
  intro U hU hW
  obtain ⟨h1, h2, h3, h4, h5, h6⟩ := h
  have hq : ∀ a : Nat, a < s.heap.size → ¬ (fun q : Nat => z0 ≤ q) a → H[a]? = s.heap[a]? := fun a ha hn => hS.2.1 a ha (fun q => hn (hA a q))
  refine ⟨?_, ?_, fun q hq => ?_, fun E hE => va_Nw.warmC hW (h4 E hE), fun Y hY => qNw_warmD hW (h5 Y hY), qNC_at h6 hW.alike⟩
  · rw [hU]; exact vx_Zq.moved hW.alike (vx_Zq.kept h1 hq)
  · rw [hU]; exact vx_Zq.moved hW.alike (vx_Zq.kept h2 hq)
  · obtain ⟨sa, h7⟩ := h3 q hq
    exact ⟨sa, vk_R.warm hW h7⟩
theorem qTZ_call {z0 : Nat} {U : State} {g : JFrame} {mk : MethodId} {a : Array Value} (h : qTZ z0 U) : qTZ z0 (U.calling g mk a) := ⟨vx_Zq.moved (u := U) (U := U.calling g mk a) (Vm.Alike.refl U.vm) h.1, vx_Zq.moved (u := U) (U := U.calling g mk a) (Vm.Alike.refl U.vm) h.2.1, fun q hq => by obtain ⟨sa, h1⟩ := h.2.2.1 q hq; exact ⟨sa, vk_R.same (u := U) (U := U.calling g mk a) rfl h1⟩, fun E hE => va_tabs (u := U) (U := U.calling g mk a) rfl rfl (h.2.2.2.1 E hE), fun Y hY => va_tabs (u := U) (U := U.calling g mk a) rfl rfl (h.2.2.2.2.1 Y hY), qNC_at (U := U.calling g mk a) h.2.2.2.2.2 (Vm.Alike.refl U.vm)⟩
theorem qTZ_th {z0 : Nat} {U : State} (h : qTZ z0 U) : qTH U ∧ qNC U := ⟨⟨h.1.narrow (fun _ q => q.elim), h.2.1.narrow (fun _ q => q.elim), h.2.2.1, h.2.2.2.1, h.2.2.2.2.1⟩, h.2.2.2.2.2⟩
theorem qTH_grow {s : State} (h : qTH s) (h6 : qNC s) {H : Heap} {locs : List Loc} (hS : va_S (fun _ => False) s.heap H locs) : ∀ U : State, U.heap = H → s.WarmedH U.vm → qTH U ∧ qNC U := by
  intro U hU hW
  obtain ⟨h1, h2, h3, h4, h5⟩ := h
  refine ⟨⟨?_, ?_, fun q hq => ?_, fun E hE => va_Nw.warmC hW (h4 E hE), fun Y hY => qNw_warmD hW (h5 Y hY)⟩, qNC_at h6 hW.alike⟩
  · rw [hU]; exact vx_Zq.moved hW.alike (vx_Zq.kept h1 hS.2.1)
  · rw [hU]; exact vx_Zq.moved hW.alike (vx_Zq.kept h2 hS.2.1)
  · obtain ⟨sa, h7⟩ := h3 q hq
    exact ⟨sa, vk_R.warm hW h7⟩
def qPreZ (z0 : Nat) (D : va_G) (tys : List (ClassId × FieldType)) (ws : va_W) (sz : Nat) : State → Prop := fun U => U.heap.size = sz ∧ z0 ≤ sz ∧ va_P D vwCl ws U.heap ∧ va_K D vwCl tys U ∧ va_D (fun q : Nat => z0 ≤ q) ws ∧ qTZ z0 U
theorem qPreZ_blind {z0 : Nat} {D : va_G} {tys : List (ClassId × FieldType)} {ws : va_W} {av : List Value} {sz : Nat} : FrameBlind (va_Pc av (qPreZ z0 D tys ws sz)) := fun a U g mk q => ⟨q.1, q.2.1, q.2.2.1, q.2.2.2.1, va_K.moved (u := U) (U := U.calling g mk a) (Vm.Alike.refl U.vm) q.2.2.2.2.1, q.2.2.2.2.2.1, qTZ_call q.2.2.2.2.2.2⟩
theorem qPreZ_at {z0 : Nat} {D : va_G} {tys : List (ClassId × FieldType)} {ws : va_W} {av : List Value} {s : State} {H : Heap} (hz : z0 ≤ H.size) (hP : va_P D vwCl ws H) (hK : va_K D vwCl tys s) (hD : va_D (fun q : Nat => z0 ≤ q) ws) (hT : ∀ U : State, U.heap = H → s.WarmedH U.vm → qTZ z0 U) : ∀ U : State, U.heap = H → s.WarmedH U.vm → va_Pc av (qPreZ z0 D tys ws H.size) av.toArray U := fun U hU hW => ⟨rfl, by rw [hU], hz, by rw [hU]; exact hP, va_K.moved hW.alike hK, hD, hT U hU hW⟩
/-- a method that writes nothing old: what it answers, and the heap's sizes before and after -/
def qG (post : Int32 → Nat → Nat → Prop) : Array Value → State → Outcome → State → Prop := fun _ st oc t => ∃ r : Int32, oc = .returned (some (.int r)) ∧ st.heap.size ≤ t.heap.size ∧ (∀ q : Nat, q < st.heap.size → t.heap[q]? = st.heap[q]?) ∧ post r st.heap.size t.heap.size
/-- a world and the heap's size with it -/
abbrev qAtN {S : Type} (D : va_G) (A : Nat → Prop) (wf : S → va_W) : S × Nat → State → Prop := fun u t => (va_P D vwCl (wf u.1) t.heap ∧ va_D A (wf u.1)) ∧ t.heap.size = u.2
section QR
variable {p : Program} {l : Launch} {e : Env} {R : Room} {s : State} {m : MethodId} {args : Array Value} {below : List Frame} {meth : Method} {c : Code} {H : Heap} {locs : List Loc} {cells slots mc ms : Nat} {Q : State → Prop} {pc : Nat} {ls : Array Slot} {st0 rest : List Value} {a : Array Value}
variable {D : va_G} {ws wc wr : va_W} {A0 : Nat → Prop} {H0 : Heap} {P : String → Prop}
theorem qb_readG {post : Int32 → Prop} (hP : va_P D vwCl ws H)
    (hr : vx_Run p l e R s m args below meth c H locs cells slots mc ms (F0 m pc ls st0) rest (vp_Si post a) (qX P) (fun _ => False)) (hS : va_S A0 H0 H locs)
    (kx : ∀ (E : String) (ce : Cell) (q9 : Addr) (H1 : Heap) (locs1 : List Loc), P E → H.size + 1 ≤ H1.size → va_P D vwCl ws H1 → va_S A0 H0 H1 locs1 → H1[q9]? = some ce → ce.vm = .none → s.vm.findClass E = some ce.cls → vx_W p l e R s m args below meth c H1 locs1 (cells + mc) (slots + ms) Q (F0 m pc ls rest) q9)
    (kk : ∀ (r : Int32), post r → W p l e R s m args below meth c H locs (cells + mc) (slots + ms) Q (F0 m (pc + 3) ls (.int r :: rest))) : W p l e R s m args below meth c H locs cells slots Q (F0 m pc ls st0) := by
  intro T hT X
  rcases hr T hT X with ⟨v, st₀, t, T', L, h0, X', hL, e1, e2, ⟨r, hv, hp, hh⟩, st⟩ | ⟨q, st₀, t, T', L, E, ce, h0, X', hL, e1, e2, hx, hce, hcv, hcl, st⟩
  · cases hv
    obtain ⟨t2, a1, c1⟩ := kk r hp T' (by rw [e1, hh, h0]) (Stand.forget X' (fun q h => (hL q h).elim))
    exact ⟨t2, st t2 a1, c1⟩
  · obtain ⟨k1, k2, k3⟩ := vx_keep (free := fun _ => False) (A0 := A0) (A1 := fun _ => False) h0 e1 hS (fun q _ h => h.elim) (fun q h => h.elim) hL ⟨Nat.le_of_succ_le hx.2.1, fun q h1 _ => hx.2.2 q h1⟩
    have hg : H.size + 1 ≤ T'.heap.size := by rw [e1, ← h0]; exact hx.2.1
    have hP1 : va_P D vwCl ws T'.heap := hP.kept (fun k q hk => k2 q.1 ((hP k q hk).lt) (fun h => h))
    obtain ⟨t2, a1, c1⟩ := kx E ce q T'.heap (locs ++ L) hx.1 hg hP1 k3 (by rw [e1]; exact hce) hcv hcl T' rfl X'
    exact ⟨t2, st.trans a1, c1⟩
theorem qb_calliG {S : Type} {post : Int32 → S → Prop} {wf : S → va_W} (hP : va_P D vwCl ws H)
    (hr : vx_Run p l e R s m args below meth c H locs cells slots mc ms (F0 m pc ls st0) rest (va_Qi post (qAt D (va_A ws H.size) wf) (va_A ws H.size) a) (qX P) (va_A ws H.size)) (hD : va_D A0 ws) (hS : va_S A0 H0 H locs) (hA : ∀ q, H0.size ≤ q → A0 q)
    (kx : ∀ (E : String) (ce : Cell) (q9 : Addr) (H1 : Heap) (locs1 : List Loc), P E → H.size + 1 ≤ H1.size → va_P D vwCl ws H1 → va_S A0 H0 H1 locs1 → H1[q9]? = some ce → ce.vm = .none → s.vm.findClass E = some ce.cls → vx_W p l e R s m args below meth c H1 locs1 (cells + mc) (slots + ms) Q (F0 m pc ls rest) q9)
    (kk : ∀ (r : Int32) (u : S) (H1 : Heap) (locs1 : List Loc), post r u → va_P D vwCl (wf u) H1 → va_D A0 (wf u) → va_S A0 H0 H1 locs1 → W p l e R s m args below meth c H1 locs1 (cells + mc) (slots + ms) Q (F0 m (pc + 3) ls (.int r :: rest))) : W p l e R s m args below meth c H locs cells slots Q (F0 m pc ls st0) := by
  have hF : ∀ q, va_A ws H.size q → A0 q := qF_of hD hS hA
  intro T hT X
  rcases hr T hT X with ⟨v, st₀, t, T', L, h0, X', hL, e1, e2, ⟨⟨r, u, hv, hp, hb⟩, hFr⟩, st⟩ | ⟨q, st₀, t, T', L, E, ce, h0, X', hL, e1, e2, hx, hce, hcv, hcl, st⟩
  · cases hv
    obtain ⟨k1, k2, k3⟩ := vx_keep h0 e1 hS (fun q _ h => hF q h) hF hL hFr
    obtain ⟨b1, b2⟩ := hb
    rw [← e1] at b1
    obtain ⟨t2, a1, c1⟩ := kk r u T'.heap (locs ++ L) hp b1 (b2.weaken (fun _ _ _ h => hF _ h)) k3 T' rfl X'
    exact ⟨t2, st t2 a1, c1⟩
  · obtain ⟨k1, k2, k3⟩ := vx_keep (A1 := fun _ => False) h0 e1 hS (fun q _ h => h.elim) hF hL ⟨Nat.le_of_succ_le hx.2.1, fun q h1 _ => hx.2.2 q h1⟩
    have hg : H.size + 1 ≤ T'.heap.size := by rw [e1, ← h0]; exact hx.2.1
    have hP1 : va_P D vwCl ws T'.heap := hP.kept (fun k q hk => k2 q.1 ((hP k q hk).lt) (fun h => h))
    obtain ⟨t2, a1, c1⟩ := kx E ce q T'.heap (locs ++ L) hx.1 hg hP1 k3 (by rw [e1]; exact hce) hcv hcl T' rfl X'
    exact ⟨t2, st.trans a1, c1⟩
/-- a call of a method that writes nothing old -/
theorem qb_grow {post : Int32 → Nat → Nat → Prop} (hr : va_Run p l e R s m args below meth c H locs cells slots mc ms (F0 m pc ls st0) rest (qG post a) (fun _ => False)) (hP : va_P D vwCl ws H) (hS : va_S A0 H0 H locs)
    (kk : ∀ (r : Int32) (H1 : Heap) (locs1 : List Loc), post r H.size H1.size → H.size ≤ H1.size → va_P D vwCl ws H1 → va_S A0 H0 H1 locs1 → W p l e R s m args below meth c H1 locs1 (cells + mc) (slots + ms) Q (F0 m (pc + 3) ls (.int r :: rest))) : W p l e R s m args below meth c H locs cells slots Q (F0 m pc ls st0) := by
  intro T hT X
  obtain ⟨v, st₀, t, T', L, h0, X', hL, e1, e2, ⟨r, hv, hz, hk, hp⟩, st⟩ := hr T hT X
  cases hv
  obtain ⟨k1, k2, k3⟩ := vx_keep (free := fun _ => False) (A0 := A0) (A1 := fun _ => False) h0 e1 hS (fun q _ h => h.elim) (fun q h => h.elim) hL ⟨hz, fun q h1 _ => hk q h1⟩
  have hP1 : va_P D vwCl ws T'.heap := hP.kept (fun k q hk => k2 q.1 ((hP k q hk).lt) (fun h => h))
  obtain ⟨t2, a1, c1⟩ := kk r T'.heap (locs ++ L) (by rw [← h0, e1]; exact hp) k1 hP1 k3 T' rfl X'
  exact ⟨t2, st t2 a1, c1⟩
/-- a call that may write a part of the world, the heap's size with it -/
theorem qb_calliPN {S : Type} {post : Int32 → S × Nat → Prop} {wf : S → va_W} (isC isR : List Nat) (hC : isC.map (fun i => ws[i]?) = wc.map some) (hR : isR.map (fun i => ws[i]?) = wr.map some) (hn : va_nd isR = true) (hdis : ∀ i ∈ isR, i ∉ isC) (hP : va_P D vwCl ws H)
    (hr : va_Run p l e R s m args below meth c H locs cells slots mc ms (F0 m pc ls st0) rest (va_Qi post (qAtN D (va_A wc H.size) wf) (va_A wc H.size) a) (va_A wc H.size)) (hD : va_D A0 ws) (hS : va_S A0 H0 H locs) (hA : ∀ q, H0.size ≤ q → A0 q)
    (kk : ∀ (r : Int32) (u : S) (H1 : Heap) (locs1 : List Loc), post r (u, H1.size) → H.size ≤ H1.size → va_P D vwCl (wr ++ wf u) H1 → va_D A0 (wr ++ wf u) → va_S A0 H0 H1 locs1 → W p l e R s m args below meth c H1 locs1 (cells + mc) (slots + ms) Q (F0 m (pc + 3) ls (.int r :: rest))) : W p l e R s m args below meth c H locs cells slots Q (F0 m pc ls st0) :=
  have hF : ∀ q, va_A wc H.size q → A0 q := va_free hD hS hA isC hC
  va_calli hr hS (fun q _ h => hF q h) hF (fun r u t H1 locs1 ht hvm hw hB hz hk hS1 => by
    obtain ⟨⟨h1, h2⟩, h3⟩ := hB
    obtain ⟨u1, u2⟩ := u
    have h3 : t.heap.size = u2 := h3
    subst h3
    rw [ht] at h1 hw
    obtain ⟨g1, g2⟩ := va_join hP hD isC isR hC hR hn hdis hk hF h1 h2
    exact kk r u1 H1 locs1 hw hz g1 g2 hS1)
theorem qb_calliN {S : Type} {post : Int32 → S × Nat → Prop} {wf : S → va_W}
    (hr : va_Run p l e R s m args below meth c H locs cells slots mc ms (F0 m pc ls st0) rest (va_Qi post (qAtN D A0 wf) A0 a) A0) (hS : va_S A0 H0 H locs)
    (kk : ∀ (r : Int32) (u : S) (H1 : Heap) (locs1 : List Loc), post r (u, H1.size) → H.size ≤ H1.size → va_P D vwCl (wf u) H1 → va_D A0 (wf u) → va_S A0 H0 H1 locs1 → W p l e R s m args below meth c H1 locs1 (cells + mc) (slots + ms) Q (F0 m (pc + 3) ls (.int r :: rest))) : W p l e R s m args below meth c H locs cells slots Q (F0 m pc ls st0) :=
  va_calli hr hS (fun q _ h => h) (fun q h => h) (fun r u t H1 locs1 ht hvm hw hB hz hk hS1 => by
    obtain ⟨⟨h1, h2⟩, h3⟩ := hB
    obtain ⟨u1, u2⟩ := u
    have h3 : t.heap.size = u2 := h3
    subst h3
    rw [ht] at h1 hw
    exact kk r u1 H1 locs1 hw hz h1 h2 hS1)
/-- a store into a row, the heap's size told -/
theorem rb_iast {cc : ByteArray} {tys : List (ClassId × FieldType)} {ad : Nat} (hexec : p.tables.exec = Jvm.exec) (hb : c.code = cc) (hK : va_K D vwCl tys s) (hP : va_P D vwCl ws H) (hD : va_D A0 ws) (hS : va_S A0 H0 H locs) (q0 t0 : Nat) {cA : ClassId} {n : Nat} {f : Nat → Int32} (ha : ws[q0]? = some (ad, .inl (cA, n, .inl f))) (ht : tys[t0]? = some (cA, .int)) {i : Int32} {x : Int32} (hin : vp_in i n) (hdg : decode cc pc = .ok (.iastore, 1))
    (kk : ∀ (H1 : Heap) (locs1 : List Loc), H1.size = H.size → va_P D vwCl (ws.set q0 (ad, .inl (cA, n, .inl (upd f i.toNatClampNeg x)))) H1 → va_D A0 (ws.set q0 (ad, .inl (cA, n, .inl (upd f i.toNatClampNeg x)))) → va_S A0 H0 H1 locs1 → W p l e R s m args below meth c H1 locs1 cells slots Q (F0 m (pc + 1) ls rest)) : W p l e R s m args below meth c H locs cells slots Q (F0 m pc ls (.int x :: .int i :: .ref ad :: rest)) := by
  refine W.iast hexec hb (hP q0 _ ha) ((hK.2 t0 _ ht).1 n (fun j => .int (f j))) (fun q => by cases q) (by show ¬ (i < 0 ∨ (arrV _ _ _).slots.size ≤ _); rw [arrV_size]; exact hin) rfl rfl hdg fun H1 e z oq => ?_
  refine kk H1 _ z (hP.set hD ha ?_ oq) (hD.set ha) (hS.put z oq (hD.2 q0 _ ha))
  show H1[ad]? = some (vp_cell _ _)
  rw [e]
  rw [vp_cell_i, vp_cell_i, arrV_store]
  congr 2
  funext j
  by_cases hj : j = i.toNatClampNeg
  · subst hj; simp [upd, updV]
  · simp [upd, updV, hj]
end QR
/-- the law's rows: members, roll, ranges, ballots, counts, numbers -/
abbrev rW (cA : ClassId) (q : Nat → Nat) (h : Nat → Nat → Int32) : va_W := [(q 0, .inl (cA, 40, .inl (h 0))), (q 1, .inl (cA, 40, .inl (h 1))), (q 2, .inl (cA, 9, .inl (h 2))), (q 3, .inl (cA, 60, .inl (h 3))), (q 4, .inl (cA, 12, .inl (h 4))), (q 5, .inl (cA, 6, .inl (h 5)))]
abbrev LW (cA : ClassId) (ad q : Nat → Nat) (f : qFs) (g : qGs) (h : Nat → Nat → Int32) : va_W := rW cA q h ++ xW cA ad f g
/-- as long as no range was split and no ballot was sent -/
def RInv (f : qFs) (h : Nat → Nat → Int32) : Prop := xI 1 0 f ∧ h 2 0 = 99 ∧ h 5 1 = nI 1 ∧ h 5 4 = nI 0 ∧ h 5 5 = nI 0 ∧ ∃ n : Nat, n ≤ 40 ∧ h 5 0 = nI n
end
section
set_option maxHeartbeats 4000000 in
set_option maxRecDepth 100000 in
/-- the law asks rows -/
theorem c_L_rows (l : Launch) (hl0 : l.stackTraces = false) (D : va_G) (cA cZ cL : ClassId) (ad : Nat → Nat) (f : qFs) (g : qGs) (sh : Int32) : Met l yL_rows wsL_rows ({ frames := 8, cells := 1, slots := 6, locals := 131 } : Room) (va_Pc [.ref (ad 16), .int sh] (qPreN D (qTy cA cZ cL) (xW cA ad f g))) (qG (fun z n1 n2 => ¬ (xShard sh) → n1 + 1 ≤ n2)) 1 6 (fun _ => False) := by
  refine qMet_ofWH (cc := cL_rows) (maxL := 4) (ret := (some .int)) (hh := [(0, 6, 9, 14)]) (by decide) rfl ?_
  intro p e s m args below meth c s₁ B hml hv
  obtain ⟨rfl, hP, hK, hTH, hNC⟩ := hv
  have hx := B.exec
  have hb := B.bytes
  have hr := B.returns
  have hts := atoms_spec (ws := wsL_rows) B.pre
  have hown : s.vm.findClass RL = some m.cls := findClass_of_methodNamed B.named
  have hlocks := B.notSynchronized
  have hTab := vx_table (x := yL_rows) B (hts _ List.mem_cons_self)
  have hS : va_S (fun _ => False) s.heap s.heap [] := va_S.rf
  have hl := lv_entry ([.ref (ad 16), .int sh]) (n := 4) (Nat.le_of_ble_eq_true rfl)
  rw [lg_entry_eq]
  generalize (lg_sl ([.ref (ad 16), .int sh]) ++ List.replicate (4 - (lg_sl ([.ref (ad 16), .int sh])).length) Slot.unset).toArray = ls at hl ⊢
  have hl : lv_has ls 4 [(0, .ref (ad 16)), (1, .int sh)] := hl
  refine lv_aload_n hx hb dL_rows_0 rfl (lv_at hl 0 rfl) ?_
  refine lv_iload_n hx hb dL_rows_1 rfl (lv_at hl 1 rfl) ?_
  refine qb_readG hP (vx_runV (As := [.int sh]) (rest := []) ⟨hx, hb, hml, hown, hts⟩ (c_X0_rows l hl0 D cA cZ cL ad f g sh) (cwV 1 hts gL_rows_X0_rows rfl rfl rfl (by decide +kernel) ⟨Nat.le_of_ble_eq_true rfl, Nat.le_of_ble_eq_true rfl⟩) ⟨qPreT_blind, va_recv hK hP (ci := 0) (q0 := 0) rfl rfl, qPreT_at hP hK hTH rfl⟩ rfl rfl hl.1 rfl (lv_room (Nat.le_of_ble_eq_true rfl)) dL_rows_2 ⟨Nat.le_of_ble_eq_true rfl, Nat.le_of_ble_eq_true rfl⟩) hS (fun E ce q9 H locs hE hg hP hS hcell hcv hcl => ?_) (fun rv hu => ?_)
  · obtain ⟨rfl, hc⟩ := hE
    refine vx_catch (name := eIO) hown [] (⟨0, 6, 9, 14⟩ : ExceptionTableEntry) [] (by rw [hTab]; rfl) (fun _ h => nomatch h) (by decide) (by decide) (hts _ (List.mem_cons_of_mem _ (List.mem_append_left _ (List.mem_append_left _ (List.mem_append_left _ (List.mem_of_getElem? (i := 0) rfl)))))) (va_Nw.use rfl (hTH.2.2.2.1 eIO (by decide))) hcell hcv hcl ?_
    refine lv_astore_n (lv' := [(3, .ref q9), (0, .ref (ad 16)), (1, .int sh)]) hx hb dL_rows_9 rfl hl (by decide) rfl (fun ls hl => ?_)
    refine lv_sipush (v := -7100) hx hb dL_rows_10 (by decide) ?_
    exact W.iret (v := (-7100)) hx hb hr (fun t ht hW => ⟨(-7100), rfl, by first | (rw [ht]; done) | (rw [ht]; exact hS.1), fun q hq => by first | (rw [ht]; done) | (rw [ht]; exact hS.2.1 q hq (fun h => h)), fun hbad => by rw [ht]; exact hg⟩) hS.2.2 dL_rows_13
  · skip
    refine lv_istore_n (lv' := [(2, .int rv), (0, .ref (ad 16)), (1, .int sh)]) hx hb dL_rows_5 rfl hl (by decide) rfl (fun ls hl => ?_)
    refine lv_goto (tgt := 14) hx hb dL_rows_6 (by decide) ?_
    refine lv_iload_n hx hb dL_rows_14 rfl (lv_at hl 0 rfl) ?_
    exact W.iret (v := rv) hx hb hr (fun t ht hW => ⟨rv, rfl, by first | (rw [ht]; done) | (rw [ht]; exact hS.1), fun q hq => by first | (rw [ht]; done) | (rw [ht]; exact hS.2.1 q hq (fun h => h)), fun hbad => by rw [ht]; exact absurd hu.1 hbad⟩) hS.2.2 dL_rows_15
set_option maxHeartbeats 4000000 in
set_option maxRecDepth 100000 in
/-- the law asks inDistrict -/
theorem c_L_inDistrict (l : Launch) (hl0 : l.stackTraces = false) (D : va_G) (cA cZ cL : ClassId) (ad : Nat → Nat) (f : qFs) (g : qGs) (d : Int32) (nR : Nat) (nB : Nat) (hI : xI nR nB f) : Met l yL_inDistrict wsL_inDistrict ({ frames := 8, cells := 1, slots := 6, locals := 133 } : Room) (va_Pc [.ref (ad 16), .int d] (qPreN D (qTy cA cZ cL) (xW cA ad f g))) (qG (fun z n1 n2 => ¬ (xShard d) → n1 + 1 ≤ n2)) 1 6 (fun _ => False) := by
  refine qMet_ofWH (cc := cL_inDistrict) (maxL := 4) (ret := (some .int)) (hh := [(0, 6, 9, 14)]) (by decide) rfl ?_
  intro p e s m args below meth c s₁ B hml hv
  obtain ⟨rfl, hP, hK, hTH, hNC⟩ := hv
  have hx := B.exec
  have hb := B.bytes
  have hr := B.returns
  have hts := atoms_spec (ws := wsL_inDistrict) B.pre
  have hown : s.vm.findClass RL = some m.cls := findClass_of_methodNamed B.named
  have hlocks := B.notSynchronized
  have hTab := vx_table (x := yL_inDistrict) B (hts _ List.mem_cons_self)
  have hS : va_S (fun _ => False) s.heap s.heap [] := va_S.rf
  have hl := lv_entry ([.ref (ad 16), .int d]) (n := 4) (Nat.le_of_ble_eq_true rfl)
  rw [lg_entry_eq]
  generalize (lg_sl ([.ref (ad 16), .int d]) ++ List.replicate (4 - (lg_sl ([.ref (ad 16), .int d])).length) Slot.unset).toArray = ls at hl ⊢
  have hl : lv_has ls 4 [(0, .ref (ad 16)), (1, .int d)] := hl
  refine lv_aload_n hx hb dL_inDistrict_0 rfl (lv_at hl 0 rfl) ?_
  refine lv_iload_n hx hb dL_inDistrict_1 rfl (lv_at hl 1 rfl) ?_
  refine qb_readG hP (vx_runV (As := [.int d]) (rest := []) ⟨hx, hb, hml, hown, hts⟩ (c_X0_inDistrict l hl0 D cA cZ cL ad f g d nR nB hI) (cwV 1 hts gL_inDistrict_X0_inDistrict rfl rfl rfl (by decide +kernel) ⟨Nat.le_of_ble_eq_true rfl, Nat.le_of_ble_eq_true rfl⟩) ⟨qPreT_blind, va_recv hK hP (ci := 0) (q0 := 0) rfl rfl, qPreT_at hP hK hTH rfl⟩ rfl rfl hl.1 rfl (lv_room (Nat.le_of_ble_eq_true rfl)) dL_inDistrict_2 ⟨Nat.le_of_ble_eq_true rfl, Nat.le_of_ble_eq_true rfl⟩) hS (fun E ce q9 H locs hE hg hP hS hcell hcv hcl => ?_) (fun rv hu => ?_)
  · obtain ⟨rfl, hc⟩ := hE
    refine vx_catch (name := eIO) hown [] (⟨0, 6, 9, 14⟩ : ExceptionTableEntry) [] (by rw [hTab]; rfl) (fun _ h => nomatch h) (by decide) (by decide) (hts _ (List.mem_cons_of_mem _ (List.mem_append_left _ (List.mem_append_left _ (List.mem_append_left _ (List.mem_of_getElem? (i := 0) rfl)))))) (va_Nw.use rfl (hTH.2.2.2.1 eIO (by decide))) hcell hcv hcl ?_
    refine lv_astore_n (lv' := [(3, .ref q9), (0, .ref (ad 16)), (1, .int d)]) hx hb dL_inDistrict_9 rfl hl (by decide) rfl (fun ls hl => ?_)
    refine lv_sipush (v := -7100) hx hb dL_inDistrict_10 (by decide) ?_
    exact W.iret (v := (-7100)) hx hb hr (fun t ht hW => ⟨(-7100), rfl, by first | (rw [ht]; done) | (rw [ht]; exact hS.1), fun q hq => by first | (rw [ht]; done) | (rw [ht]; exact hS.2.1 q hq (fun h => h)), fun hbad => by rw [ht]; exact hg⟩) hS.2.2 dL_inDistrict_13
  · skip
    refine lv_istore_n (lv' := [(2, .int rv), (0, .ref (ad 16)), (1, .int d)]) hx hb dL_inDistrict_5 rfl hl (by decide) rfl (fun ls hl => ?_)
    refine lv_goto (tgt := 14) hx hb dL_inDistrict_6 (by decide) ?_
    refine lv_iload_n hx hb dL_inDistrict_14 rfl (lv_at hl 0 rfl) ?_
    exact W.iret (v := rv) hx hb hr (fun t ht hW => ⟨rv, rfl, by first | (rw [ht]; done) | (rw [ht]; exact hS.1), fun q hq => by first | (rw [ht]; done) | (rw [ht]; exact hS.2.1 q hq (fun h => h)), fun hbad => by rw [ht]; exact absurd hu.1 hbad⟩) hS.2.2 dL_inDistrict_15
set_option maxHeartbeats 4000000 in
set_option maxRecDepth 100000 in
/-- the law asks counted -/
theorem c_L_counted (l : Launch) (hl0 : l.stackTraces = false) (D : va_G) (cA cZ cL : ClassId) (ad : Nat → Nat) (f : qFs) (g : qGs) (d : Int32) (ch : Int32) (nR : Nat) (nB : Nat) (hI : xI nR nB f) : Met l yL_counted wsL_counted ({ frames := 8, cells := 1, slots := 6, locals := 134 } : Room) (va_Pc [.ref (ad 16), .int d, .int ch] (qPreN D (qTy cA cZ cL) (xW cA ad f g))) (qG (fun z n1 n2 => ¬ (xShard d ∧ xCho ch) → n1 + 1 ≤ n2)) 1 6 (fun _ => False) := by
  refine qMet_ofWH (cc := cL_counted) (maxL := 5) (ret := (some .int)) (hh := [(0, 7, 10, 14), (0, 7, 16, 16)]) (by decide) rfl ?_
  intro p e s m args below meth c s₁ B hml hv
  obtain ⟨rfl, hP, hK, hTH, hNC⟩ := hv
  have hx := B.exec
  have hb := B.bytes
  have hr := B.returns
  have hts := atoms_spec (ws := wsL_counted) B.pre
  have hown : s.vm.findClass RL = some m.cls := findClass_of_methodNamed B.named
  have hlocks := B.notSynchronized
  have hTab := vx_table (x := yL_counted) B (hts _ List.mem_cons_self)
  have hS : va_S (fun _ => False) s.heap s.heap [] := va_S.rf
  have hl := lv_entry ([.ref (ad 16), .int d, .int ch]) (n := 5) (Nat.le_of_ble_eq_true rfl)
  rw [lg_entry_eq]
  generalize (lg_sl ([.ref (ad 16), .int d, .int ch]) ++ List.replicate (5 - (lg_sl ([.ref (ad 16), .int d, .int ch])).length) Slot.unset).toArray = ls at hl ⊢
  have hl : lv_has ls 5 [(0, .ref (ad 16)), (1, .int d), (2, .int ch)] := hl
  refine lv_aload_n hx hb dL_counted_0 rfl (lv_at hl 0 rfl) ?_
  refine lv_iload_n hx hb dL_counted_1 rfl (lv_at hl 1 rfl) ?_
  refine lv_iload_n hx hb dL_counted_2 rfl (lv_at hl 2 rfl) ?_
  refine qb_readG hP (vx_runV (As := [.int d, .int ch]) (rest := []) ⟨hx, hb, hml, hown, hts⟩ (c_X0_counted l hl0 D cA cZ cL ad f g d ch nR nB hI) (cwV 2 hts gL_counted_X0_counted rfl rfl rfl (by decide +kernel) ⟨Nat.le_of_ble_eq_true rfl, Nat.le_of_ble_eq_true rfl⟩) ⟨qPreT_blind, va_recv hK hP (ci := 0) (q0 := 0) rfl rfl, qPreT_at hP hK hTH rfl⟩ rfl rfl hl.1 rfl (lv_room (Nat.le_of_ble_eq_true rfl)) dL_counted_3 ⟨Nat.le_of_ble_eq_true rfl, Nat.le_of_ble_eq_true rfl⟩) hS (fun E ce q9 H locs hE hg hP hS hcell hcv hcl => ?_) (fun rv hu => ?_)
  · rcases hE with ⟨rfl, hc⟩ | ⟨rfl, hc⟩
    · skip
      refine vx_catch (name := eIO) hown [] (⟨0, 7, 10, 14⟩ : ExceptionTableEntry) [(⟨0, 7, 16, 16⟩ : ExceptionTableEntry)] (by rw [hTab]; rfl) (fun _ h => nomatch h) (by decide) (by decide) (hts _ (List.mem_cons_of_mem _ (List.mem_append_left _ (List.mem_append_left _ (List.mem_append_left _ (List.mem_of_getElem? (i := 0) rfl)))))) (va_Nw.use rfl (hTH.2.2.2.1 eIO (by decide))) hcell hcv hcl ?_
      refine lv_astore (lv' := [(4, .ref q9), (0, .ref (ad 16)), (1, .int d), (2, .int ch)]) hx hb dL_counted_10 hl (by decide) rfl (fun ls hl => ?_)
      refine lv_sipush (v := -7100) hx hb dL_counted_12 (by decide) ?_
      exact W.iret (v := (-7100)) hx hb hr (fun t ht hW => ⟨(-7100), rfl, by first | (rw [ht]; done) | (rw [ht]; exact hS.1), fun q hq => by first | (rw [ht]; done) | (rw [ht]; exact hS.2.1 q hq (fun h => h)), fun hbad => by rw [ht]; exact hg⟩) hS.2.2 dL_counted_15
    · skip
      refine vx_catch (name := eIA) hown [(⟨0, 7, 10, 14⟩ : ExceptionTableEntry)] (⟨0, 7, 16, 16⟩ : ExceptionTableEntry) [] (by rw [hTab]; rfl) (List.forall_mem_cons.mpr ⟨Or.inr ⟨by decide, _, (hts _ (List.mem_cons_of_mem _ (List.mem_append_left _ (List.mem_append_left _ (List.mem_append_left _ (List.mem_of_getElem? (i := 0) rfl)))))), hNC.1⟩, (fun _ h => nomatch h)⟩) (by decide) (by decide) (hts _ (List.mem_cons_of_mem _ (List.mem_append_left _ (List.mem_append_left _ (List.mem_append_left _ (List.mem_of_getElem? (i := 1) rfl)))))) (va_Nw.use rfl (hTH.2.2.2.1 eIA (by decide))) hcell hcv hcl ?_
      refine lv_astore (lv' := [(4, .ref q9), (0, .ref (ad 16)), (1, .int d), (2, .int ch)]) hx hb dL_counted_16 hl (by decide) rfl (fun ls hl => ?_)
      refine lv_sipush (v := -7200) hx hb dL_counted_18 (by decide) ?_
      exact W.iret (v := (-7200)) hx hb hr (fun t ht hW => ⟨(-7200), rfl, by first | (rw [ht]; done) | (rw [ht]; exact hS.1), fun q hq => by first | (rw [ht]; done) | (rw [ht]; exact hS.2.1 q hq (fun h => h)), fun hbad => by rw [ht]; exact hg⟩) hS.2.2 dL_counted_21
  · skip
    refine lv_istore_n (lv' := [(3, .int rv), (0, .ref (ad 16)), (1, .int d), (2, .int ch)]) hx hb dL_counted_6 rfl hl (by decide) rfl (fun ls hl => ?_)
    refine lv_goto (tgt := 22) hx hb dL_counted_7 (by decide) ?_
    refine lv_iload_n hx hb dL_counted_22 rfl (lv_at hl 0 rfl) ?_
    exact W.iret (v := rv) hx hb hr (fun t ht hW => ⟨rv, rfl, by first | (rw [ht]; done) | (rw [ht]; exact hS.1), fun q hq => by first | (rw [ht]; done) | (rw [ht]; exact hS.2.1 q hq (fun h => h)), fun hbad => by rw [ht]; exact absurd hu.1 hbad⟩) hS.2.2 dL_counted_23
set_option maxHeartbeats 4000000 in
set_option maxRecDepth 100000 in
/-- the law asks shardOf -/
theorem c_L_shardOf (l : Launch) (hl0 : l.stackTraces = false) (D : va_G) (cA cZ cL : ClassId) (ad : Nat → Nat) (f : qFs) (g : qGs) (r : Int32) (nR : Nat) (nB : Nat) (hI : xI nR nB f) : Met l yL_shardOf wsL_shardOf ({ frames := 8, cells := 1, slots := 6, locals := 132 } : Room) (va_Pc [.ref (ad 16), .int r] (qPreN D (qTy cA cZ cL) (xW cA ad f g))) (qG (fun z n1 n2 => ¬ (xRange f r) → n1 + 1 ≤ n2)) 1 6 (fun _ => False) := by
  refine qMet_ofWH (cc := cL_shardOf) (maxL := 4) (ret := (some .int)) (hh := [(0, 6, 9, 14)]) (by decide) rfl ?_
  intro p e s m args below meth c s₁ B hml hv
  obtain ⟨rfl, hP, hK, hTH, hNC⟩ := hv
  have hx := B.exec
  have hb := B.bytes
  have hr := B.returns
  have hts := atoms_spec (ws := wsL_shardOf) B.pre
  have hown : s.vm.findClass RL = some m.cls := findClass_of_methodNamed B.named
  have hlocks := B.notSynchronized
  have hTab := vx_table (x := yL_shardOf) B (hts _ List.mem_cons_self)
  have hS : va_S (fun _ => False) s.heap s.heap [] := va_S.rf
  have hl := lv_entry ([.ref (ad 16), .int r]) (n := 4) (Nat.le_of_ble_eq_true rfl)
  rw [lg_entry_eq]
  generalize (lg_sl ([.ref (ad 16), .int r]) ++ List.replicate (4 - (lg_sl ([.ref (ad 16), .int r])).length) Slot.unset).toArray = ls at hl ⊢
  have hl : lv_has ls 4 [(0, .ref (ad 16)), (1, .int r)] := hl
  refine lv_aload_n hx hb dL_shardOf_0 rfl (lv_at hl 0 rfl) ?_
  refine lv_iload_n hx hb dL_shardOf_1 rfl (lv_at hl 1 rfl) ?_
  refine qb_readG hP (vx_runV (As := [.int r]) (rest := []) ⟨hx, hb, hml, hown, hts⟩ (c_X0_shardOf l hl0 D cA cZ cL ad f g r nR nB hI) (cwV 1 hts gL_shardOf_X0_shardOf rfl rfl rfl (by decide +kernel) ⟨Nat.le_of_ble_eq_true rfl, Nat.le_of_ble_eq_true rfl⟩) ⟨qPreT_blind, va_recv hK hP (ci := 0) (q0 := 0) rfl rfl, qPreT_at hP hK hTH rfl⟩ rfl rfl hl.1 rfl (lv_room (Nat.le_of_ble_eq_true rfl)) dL_shardOf_2 ⟨Nat.le_of_ble_eq_true rfl, Nat.le_of_ble_eq_true rfl⟩) hS (fun E ce q9 H locs hE hg hP hS hcell hcv hcl => ?_) (fun rv hu => ?_)
  · obtain ⟨rfl, hc⟩ := hE
    refine vx_catch (name := eIO) hown [] (⟨0, 6, 9, 14⟩ : ExceptionTableEntry) [] (by rw [hTab]; rfl) (fun _ h => nomatch h) (by decide) (by decide) (hts _ (List.mem_cons_of_mem _ (List.mem_append_left _ (List.mem_append_left _ (List.mem_of_getElem? (i := 0) rfl))))) (va_Nw.use rfl (hTH.2.2.2.1 eIO (by decide))) hcell hcv hcl ?_
    refine lv_astore_n (lv' := [(3, .ref q9), (0, .ref (ad 16)), (1, .int r)]) hx hb dL_shardOf_9 rfl hl (by decide) rfl (fun ls hl => ?_)
    refine lv_sipush (v := -7100) hx hb dL_shardOf_10 (by decide) ?_
    exact W.iret (v := (-7100)) hx hb hr (fun t ht hW => ⟨(-7100), rfl, by first | (rw [ht]; done) | (rw [ht]; exact hS.1), fun q hq => by first | (rw [ht]; done) | (rw [ht]; exact hS.2.1 q hq (fun h => h)), fun hbad => by rw [ht]; exact hg⟩) hS.2.2 dL_shardOf_13
  · skip
    refine lv_istore_n (lv' := [(2, .int rv), (0, .ref (ad 16)), (1, .int r)]) hx hb dL_shardOf_5 rfl hl (by decide) rfl (fun ls hl => ?_)
    refine lv_goto (tgt := 14) hx hb dL_shardOf_6 (by decide) ?_
    refine lv_iload_n hx hb dL_shardOf_14 rfl (lv_at hl 0 rfl) ?_
    exact W.iret (v := rv) hx hb hr (fun t ht hW => ⟨rv, rfl, by first | (rw [ht]; done) | (rw [ht]; exact hS.1), fun q hq => by first | (rw [ht]; done) | (rw [ht]; exact hS.2.1 q hq (fun h => h)), fun hbad => by rw [ht]; exact absurd hu.1 hbad⟩) hS.2.2 dL_shardOf_15
set_option maxHeartbeats 4000000 in
set_option maxRecDepth 100000 in
/-- the law asks address -/
theorem c_L_address (l : Launch) (hl0 : l.stackTraces = false) (D : va_G) (cA cZ cL : ClassId) (ad : Nat → Nat) (f : qFs) (g : qGs) (k : Int32) (nR : Nat) (nB : Nat) (hI : xI nR nB f) : Met l yL_address wsL_address ({ frames := 8, cells := 1, slots := 6, locals := 131 } : Room) (va_Pc [.ref (ad 16), .int k] (qPreN D (qTy cA cZ cL) (xW cA ad f g))) (qG (fun z n1 n2 => ¬ (xKey k) → n1 + 1 ≤ n2)) 1 6 (fun _ => False) := by
  refine qMet_ofWH (cc := cL_address) (maxL := 4) (ret := (some .int)) (hh := [(0, 6, 9, 14)]) (by decide) rfl ?_
  intro p e s m args below meth c s₁ B hml hv
  obtain ⟨rfl, hP, hK, hTH, hNC⟩ := hv
  have hx := B.exec
  have hb := B.bytes
  have hr := B.returns
  have hts := atoms_spec (ws := wsL_address) B.pre
  have hown : s.vm.findClass RL = some m.cls := findClass_of_methodNamed B.named
  have hlocks := B.notSynchronized
  have hTab := vx_table (x := yL_address) B (hts _ List.mem_cons_self)
  have hS : va_S (fun _ => False) s.heap s.heap [] := va_S.rf
  have hl := lv_entry ([.ref (ad 16), .int k]) (n := 4) (Nat.le_of_ble_eq_true rfl)
  rw [lg_entry_eq]
  generalize (lg_sl ([.ref (ad 16), .int k]) ++ List.replicate (4 - (lg_sl ([.ref (ad 16), .int k])).length) Slot.unset).toArray = ls at hl ⊢
  have hl : lv_has ls 4 [(0, .ref (ad 16)), (1, .int k)] := hl
  refine lv_aload_n hx hb dL_address_0 rfl (lv_at hl 0 rfl) ?_
  refine lv_iload_n hx hb dL_address_1 rfl (lv_at hl 1 rfl) ?_
  refine qb_readG hP (vx_runV (As := [.int k]) (rest := []) ⟨hx, hb, hml, hown, hts⟩ (c_X0_address l hl0 D cA cZ cL ad f g k nR nB hI) (cwV 1 hts gL_address_X0_address rfl rfl rfl (by decide +kernel) ⟨Nat.le_of_ble_eq_true rfl, Nat.le_of_ble_eq_true rfl⟩) ⟨qPreT_blind, va_recv hK hP (ci := 0) (q0 := 0) rfl rfl, qPreT_at hP hK hTH rfl⟩ rfl rfl hl.1 rfl (lv_room (Nat.le_of_ble_eq_true rfl)) dL_address_2 ⟨Nat.le_of_ble_eq_true rfl, Nat.le_of_ble_eq_true rfl⟩) hS (fun E ce q9 H locs hE hg hP hS hcell hcv hcl => ?_) (fun rv hu => ?_)
  · obtain ⟨rfl, hc⟩ := hE
    refine vx_catch (name := eIO) hown [] (⟨0, 6, 9, 14⟩ : ExceptionTableEntry) [] (by rw [hTab]; rfl) (fun _ h => nomatch h) (by decide) (by decide) (hts _ (List.mem_cons_of_mem _ (List.mem_append_left _ (List.mem_append_left _ (List.mem_append_left _ (List.mem_of_getElem? (i := 0) rfl)))))) (va_Nw.use rfl (hTH.2.2.2.1 eIO (by decide))) hcell hcv hcl ?_
    refine lv_astore_n (lv' := [(3, .ref q9), (0, .ref (ad 16)), (1, .int k)]) hx hb dL_address_9 rfl hl (by decide) rfl (fun ls hl => ?_)
    refine lv_sipush (v := -7100) hx hb dL_address_10 (by decide) ?_
    exact W.iret (v := (-7100)) hx hb hr (fun t ht hW => ⟨(-7100), rfl, by first | (rw [ht]; done) | (rw [ht]; exact hS.1), fun q hq => by first | (rw [ht]; done) | (rw [ht]; exact hS.2.1 q hq (fun h => h)), fun hbad => by rw [ht]; exact hg⟩) hS.2.2 dL_address_13
  · skip
    refine lv_istore_n (lv' := [(2, .int rv), (0, .ref (ad 16)), (1, .int k)]) hx hb dL_address_5 rfl hl (by decide) rfl (fun ls hl => ?_)
    refine lv_goto (tgt := 14) hx hb dL_address_6 (by decide) ?_
    refine lv_iload_n hx hb dL_address_14 rfl (lv_at hl 0 rfl) ?_
    exact W.iret (v := rv) hx hb hr (fun t ht hW => ⟨rv, rfl, by first | (rw [ht]; done) | (rw [ht]; exact hS.1), fun q hq => by first | (rw [ht]; done) | (rw [ht]; exact hS.2.1 q hq (fun h => h)), fun hbad => by rw [ht]; exact absurd hu.1 hbad⟩) hS.2.2 dL_address_15
set_option maxHeartbeats 4000000 in
set_option maxRecDepth 100000 in
/-- the law asks onRoll -/
theorem c_L_onRoll (l : Launch) (hl0 : l.stackTraces = false) (D : va_G) (cA cZ cL : ClassId) (ad : Nat → Nat) (f : qFs) (g : qGs) (k : Int32) : Met l yL_onRoll wsL_onRoll ({ frames := 8, cells := 1, slots := 6, locals := 131 } : Room) (va_Pc [.ref (ad 16), .int k] (qPreN D (qTy cA cZ cL) (xW cA ad f g))) (qG (fun z n1 n2 => ¬ (xKey k) → n1 + 1 ≤ n2)) 1 6 (fun _ => False) := by
  refine qMet_ofWH (cc := cL_onRoll) (maxL := 4) (ret := (some .int)) (hh := [(0, 6, 9, 14)]) (by decide) rfl ?_
  intro p e s m args below meth c s₁ B hml hv
  obtain ⟨rfl, hP, hK, hTH, hNC⟩ := hv
  have hx := B.exec
  have hb := B.bytes
  have hr := B.returns
  have hts := atoms_spec (ws := wsL_onRoll) B.pre
  have hown : s.vm.findClass RL = some m.cls := findClass_of_methodNamed B.named
  have hlocks := B.notSynchronized
  have hTab := vx_table (x := yL_onRoll) B (hts _ List.mem_cons_self)
  have hS : va_S (fun _ => False) s.heap s.heap [] := va_S.rf
  have hl := lv_entry ([.ref (ad 16), .int k]) (n := 4) (Nat.le_of_ble_eq_true rfl)
  rw [lg_entry_eq]
  generalize (lg_sl ([.ref (ad 16), .int k]) ++ List.replicate (4 - (lg_sl ([.ref (ad 16), .int k])).length) Slot.unset).toArray = ls at hl ⊢
  have hl : lv_has ls 4 [(0, .ref (ad 16)), (1, .int k)] := hl
  refine lv_aload_n hx hb dL_onRoll_0 rfl (lv_at hl 0 rfl) ?_
  refine lv_iload_n hx hb dL_onRoll_1 rfl (lv_at hl 1 rfl) ?_
  refine qb_readG hP (vx_runV (As := [.int k]) (rest := []) ⟨hx, hb, hml, hown, hts⟩ (c_X0_onRoll l hl0 D cA cZ cL ad f g k) (cwV 1 hts gL_onRoll_X0_onRoll rfl rfl rfl (by decide +kernel) ⟨Nat.le_of_ble_eq_true rfl, Nat.le_of_ble_eq_true rfl⟩) ⟨qPreT_blind, va_recv hK hP (ci := 0) (q0 := 0) rfl rfl, qPreT_at hP hK hTH rfl⟩ rfl rfl hl.1 rfl (lv_room (Nat.le_of_ble_eq_true rfl)) dL_onRoll_2 ⟨Nat.le_of_ble_eq_true rfl, Nat.le_of_ble_eq_true rfl⟩) hS (fun E ce q9 H locs hE hg hP hS hcell hcv hcl => ?_) (fun rv hu => ?_)
  · obtain ⟨rfl, hc⟩ := hE
    refine vx_catch (name := eIO) hown [] (⟨0, 6, 9, 14⟩ : ExceptionTableEntry) [] (by rw [hTab]; rfl) (fun _ h => nomatch h) (by decide) (by decide) (hts _ (List.mem_cons_of_mem _ (List.mem_append_left _ (List.mem_append_left _ (List.mem_of_getElem? (i := 0) rfl))))) (va_Nw.use rfl (hTH.2.2.2.1 eIO (by decide))) hcell hcv hcl ?_
    refine lv_astore_n (lv' := [(3, .ref q9), (0, .ref (ad 16)), (1, .int k)]) hx hb dL_onRoll_9 rfl hl (by decide) rfl (fun ls hl => ?_)
    refine lv_sipush (v := -7100) hx hb dL_onRoll_10 (by decide) ?_
    exact W.iret (v := (-7100)) hx hb hr (fun t ht hW => ⟨(-7100), rfl, by first | (rw [ht]; done) | (rw [ht]; exact hS.1), fun q hq => by first | (rw [ht]; done) | (rw [ht]; exact hS.2.1 q hq (fun h => h)), fun hbad => by rw [ht]; exact hg⟩) hS.2.2 dL_onRoll_13
  · skip
    refine lv_istore_n (lv' := [(2, .int rv), (0, .ref (ad 16)), (1, .int k)]) hx hb dL_onRoll_5 rfl hl (by decide) rfl (fun ls hl => ?_)
    refine lv_goto (tgt := 14) hx hb dL_onRoll_6 (by decide) ?_
    refine lv_iload_n hx hb dL_onRoll_14 rfl (lv_at hl 0 rfl) ?_
    exact W.iret (v := rv) hx hb hr (fun t ht hW => ⟨rv, rfl, by first | (rw [ht]; done) | (rw [ht]; exact hS.1), fun q hq => by first | (rw [ht]; done) | (rw [ht]; exact hS.2.1 q hq (fun h => h)), fun hbad => by rw [ht]; exact absurd hu.1 hbad⟩) hS.2.2 dL_onRoll_15
set_option maxHeartbeats 4000000 in
set_option maxRecDepth 100000 in
/-- the law asks rangeOf -/
theorem c_L_rangeOf (l : Launch) (hl0 : l.stackTraces = false) (D : va_G) (cA cZ cL : ClassId) (ad : Nat → Nat) (f : qFs) (g : qGs) (k : Int32) (nR : Nat) (nB : Nat) (hI : xI nR nB f) : Met l yL_rangeOf wsL_rangeOf ({ frames := 8, cells := 1, slots := 6, locals := 131 } : Room) (va_Pc [.ref (ad 16), .int k] (qPreN D (qTy cA cZ cL) (xW cA ad f g))) (qG (fun z n1 n2 => ¬ (xKey k) → n1 + 1 ≤ n2)) 1 6 (fun _ => False) := by
  refine qMet_ofWH (cc := cL_rangeOf) (maxL := 4) (ret := (some .int)) (hh := [(0, 6, 9, 14)]) (by decide) rfl ?_
  intro p e s m args below meth c s₁ B hml hv
  obtain ⟨rfl, hP, hK, hTH, hNC⟩ := hv
  have hx := B.exec
  have hb := B.bytes
  have hr := B.returns
  have hts := atoms_spec (ws := wsL_rangeOf) B.pre
  have hown : s.vm.findClass RL = some m.cls := findClass_of_methodNamed B.named
  have hlocks := B.notSynchronized
  have hTab := vx_table (x := yL_rangeOf) B (hts _ List.mem_cons_self)
  have hS : va_S (fun _ => False) s.heap s.heap [] := va_S.rf
  have hl := lv_entry ([.ref (ad 16), .int k]) (n := 4) (Nat.le_of_ble_eq_true rfl)
  rw [lg_entry_eq]
  generalize (lg_sl ([.ref (ad 16), .int k]) ++ List.replicate (4 - (lg_sl ([.ref (ad 16), .int k])).length) Slot.unset).toArray = ls at hl ⊢
  have hl : lv_has ls 4 [(0, .ref (ad 16)), (1, .int k)] := hl
  refine lv_aload_n hx hb dL_rangeOf_0 rfl (lv_at hl 0 rfl) ?_
  refine lv_iload_n hx hb dL_rangeOf_1 rfl (lv_at hl 1 rfl) ?_
  refine qb_readG hP (vx_runV (As := [.int k]) (rest := []) ⟨hx, hb, hml, hown, hts⟩ (c_X0_rangeOf l hl0 D cA cZ cL ad f g k nR nB hI) (cwV 1 hts gL_rangeOf_X0_rangeOf rfl rfl rfl (by decide +kernel) ⟨Nat.le_of_ble_eq_true rfl, Nat.le_of_ble_eq_true rfl⟩) ⟨qPreT_blind, va_recv hK hP (ci := 0) (q0 := 0) rfl rfl, qPreT_at hP hK hTH rfl⟩ rfl rfl hl.1 rfl (lv_room (Nat.le_of_ble_eq_true rfl)) dL_rangeOf_2 ⟨Nat.le_of_ble_eq_true rfl, Nat.le_of_ble_eq_true rfl⟩) hS (fun E ce q9 H locs hE hg hP hS hcell hcv hcl => ?_) (fun rv hu => ?_)
  · obtain ⟨rfl, hc⟩ := hE
    refine vx_catch (name := eIO) hown [] (⟨0, 6, 9, 14⟩ : ExceptionTableEntry) [] (by rw [hTab]; rfl) (fun _ h => nomatch h) (by decide) (by decide) (hts _ (List.mem_cons_of_mem _ (List.mem_append_left _ (List.mem_append_left _ (List.mem_append_left _ (List.mem_of_getElem? (i := 0) rfl)))))) (va_Nw.use rfl (hTH.2.2.2.1 eIO (by decide))) hcell hcv hcl ?_
    refine lv_astore_n (lv' := [(3, .ref q9), (0, .ref (ad 16)), (1, .int k)]) hx hb dL_rangeOf_9 rfl hl (by decide) rfl (fun ls hl => ?_)
    refine lv_sipush (v := -7100) hx hb dL_rangeOf_10 (by decide) ?_
    exact W.iret (v := (-7100)) hx hb hr (fun t ht hW => ⟨(-7100), rfl, by first | (rw [ht]; done) | (rw [ht]; exact hS.1), fun q hq => by first | (rw [ht]; done) | (rw [ht]; exact hS.2.1 q hq (fun h => h)), fun hbad => by rw [ht]; exact hg⟩) hS.2.2 dL_rangeOf_13
  · skip
    refine lv_istore_n (lv' := [(2, .int rv), (0, .ref (ad 16)), (1, .int k)]) hx hb dL_rangeOf_5 rfl hl (by decide) rfl (fun ls hl => ?_)
    refine lv_goto (tgt := 14) hx hb dL_rangeOf_6 (by decide) ?_
    refine lv_iload_n hx hb dL_rangeOf_14 rfl (lv_at hl 0 rfl) ?_
    exact W.iret (v := rv) hx hb hr (fun t ht hW => ⟨rv, rfl, by first | (rw [ht]; done) | (rw [ht]; exact hS.1), fun q hq => by first | (rw [ht]; done) | (rw [ht]; exact hS.2.1 q hq (fun h => h)), fun hbad => by rw [ht]; exact absurd hu.1 hbad⟩) hS.2.2 dL_rangeOf_15
set_option maxHeartbeats 4000000 in
set_option maxRecDepth 100000 in
/-- the law asks stateOf -/
theorem c_L_stateOf (l : Launch) (hl0 : l.stackTraces = false) (D : va_G) (cA cZ cL : ClassId) (ad : Nat → Nat) (f : qFs) (g : qGs) (b : Int32) (nR : Nat) (nB : Nat) (hI : xI nR nB f) : Met l yL_stateOf wsL_stateOf ({ frames := 8, cells := 1, slots := 6, locals := 132 } : Room) (va_Pc [.ref (ad 16), .int b] (qPreN D (qTy cA cZ cL) (xW cA ad f g))) (qG (fun z n1 n2 => ¬ (xBallot f b) → n1 + 1 ≤ n2)) 1 6 (fun _ => False) := by
  refine qMet_ofWH (cc := cL_stateOf) (maxL := 4) (ret := (some .int)) (hh := [(0, 6, 9, 14)]) (by decide) rfl ?_
  intro p e s m args below meth c s₁ B hml hv
  obtain ⟨rfl, hP, hK, hTH, hNC⟩ := hv
  have hx := B.exec
  have hb := B.bytes
  have hr := B.returns
  have hts := atoms_spec (ws := wsL_stateOf) B.pre
  have hown : s.vm.findClass RL = some m.cls := findClass_of_methodNamed B.named
  have hlocks := B.notSynchronized
  have hTab := vx_table (x := yL_stateOf) B (hts _ List.mem_cons_self)
  have hS : va_S (fun _ => False) s.heap s.heap [] := va_S.rf
  have hl := lv_entry ([.ref (ad 16), .int b]) (n := 4) (Nat.le_of_ble_eq_true rfl)
  rw [lg_entry_eq]
  generalize (lg_sl ([.ref (ad 16), .int b]) ++ List.replicate (4 - (lg_sl ([.ref (ad 16), .int b])).length) Slot.unset).toArray = ls at hl ⊢
  have hl : lv_has ls 4 [(0, .ref (ad 16)), (1, .int b)] := hl
  refine lv_aload_n hx hb dL_stateOf_0 rfl (lv_at hl 0 rfl) ?_
  refine lv_iload_n hx hb dL_stateOf_1 rfl (lv_at hl 1 rfl) ?_
  refine qb_readG hP (vx_runV (As := [.int b]) (rest := []) ⟨hx, hb, hml, hown, hts⟩ (c_X0_stateOf l hl0 D cA cZ cL ad f g b nR nB hI) (cwV 1 hts gL_stateOf_X0_stateOf rfl rfl rfl (by decide +kernel) ⟨Nat.le_of_ble_eq_true rfl, Nat.le_of_ble_eq_true rfl⟩) ⟨qPreT_blind, va_recv hK hP (ci := 0) (q0 := 0) rfl rfl, qPreT_at hP hK hTH rfl⟩ rfl rfl hl.1 rfl (lv_room (Nat.le_of_ble_eq_true rfl)) dL_stateOf_2 ⟨Nat.le_of_ble_eq_true rfl, Nat.le_of_ble_eq_true rfl⟩) hS (fun E ce q9 H locs hE hg hP hS hcell hcv hcl => ?_) (fun rv hu => ?_)
  · obtain ⟨rfl, hc⟩ := hE
    refine vx_catch (name := eIO) hown [] (⟨0, 6, 9, 14⟩ : ExceptionTableEntry) [] (by rw [hTab]; rfl) (fun _ h => nomatch h) (by decide) (by decide) (hts _ (List.mem_cons_of_mem _ (List.mem_append_left _ (List.mem_append_left _ (List.mem_of_getElem? (i := 0) rfl))))) (va_Nw.use rfl (hTH.2.2.2.1 eIO (by decide))) hcell hcv hcl ?_
    refine lv_astore_n (lv' := [(3, .ref q9), (0, .ref (ad 16)), (1, .int b)]) hx hb dL_stateOf_9 rfl hl (by decide) rfl (fun ls hl => ?_)
    refine lv_sipush (v := -7100) hx hb dL_stateOf_10 (by decide) ?_
    exact W.iret (v := (-7100)) hx hb hr (fun t ht hW => ⟨(-7100), rfl, by first | (rw [ht]; done) | (rw [ht]; exact hS.1), fun q hq => by first | (rw [ht]; done) | (rw [ht]; exact hS.2.1 q hq (fun h => h)), fun hbad => by rw [ht]; exact hg⟩) hS.2.2 dL_stateOf_13
  · skip
    refine lv_istore_n (lv' := [(2, .int rv), (0, .ref (ad 16)), (1, .int b)]) hx hb dL_stateOf_5 rfl hl (by decide) rfl (fun ls hl => ?_)
    refine lv_goto (tgt := 14) hx hb dL_stateOf_6 (by decide) ?_
    refine lv_iload_n hx hb dL_stateOf_14 rfl (lv_at hl 0 rfl) ?_
    exact W.iret (v := rv) hx hb hr (fun t ht hW => ⟨rv, rfl, by first | (rw [ht]; done) | (rw [ht]; exact hS.1), fun q hq => by first | (rw [ht]; done) | (rw [ht]; exact hS.2.1 q hq (fun h => h)), fun hbad => by rw [ht]; exact absurd hu.1 hbad⟩) hS.2.2 dL_stateOf_15
set_option maxHeartbeats 4000000 in
set_option maxRecDepth 100000 in
/-- the law asks sentTo -/
theorem c_L_sentTo (l : Launch) (hl0 : l.stackTraces = false) (D : va_G) (cA cZ cL : ClassId) (ad : Nat → Nat) (f : qFs) (g : qGs) (b : Int32) (nR : Nat) (nB : Nat) (hI : xI nR nB f) : Met l yL_sentTo wsL_sentTo ({ frames := 8, cells := 1, slots := 6, locals := 132 } : Room) (va_Pc [.ref (ad 16), .int b] (qPreN D (qTy cA cZ cL) (xW cA ad f g))) (qG (fun z n1 n2 => ¬ (xBallot f b) → n1 + 1 ≤ n2)) 1 6 (fun _ => False) := by
  refine qMet_ofWH (cc := cL_sentTo) (maxL := 4) (ret := (some .int)) (hh := [(0, 6, 9, 14)]) (by decide) rfl ?_
  intro p e s m args below meth c s₁ B hml hv
  obtain ⟨rfl, hP, hK, hTH, hNC⟩ := hv
  have hx := B.exec
  have hb := B.bytes
  have hr := B.returns
  have hts := atoms_spec (ws := wsL_sentTo) B.pre
  have hown : s.vm.findClass RL = some m.cls := findClass_of_methodNamed B.named
  have hlocks := B.notSynchronized
  have hTab := vx_table (x := yL_sentTo) B (hts _ List.mem_cons_self)
  have hS : va_S (fun _ => False) s.heap s.heap [] := va_S.rf
  have hl := lv_entry ([.ref (ad 16), .int b]) (n := 4) (Nat.le_of_ble_eq_true rfl)
  rw [lg_entry_eq]
  generalize (lg_sl ([.ref (ad 16), .int b]) ++ List.replicate (4 - (lg_sl ([.ref (ad 16), .int b])).length) Slot.unset).toArray = ls at hl ⊢
  have hl : lv_has ls 4 [(0, .ref (ad 16)), (1, .int b)] := hl
  refine lv_aload_n hx hb dL_sentTo_0 rfl (lv_at hl 0 rfl) ?_
  refine lv_iload_n hx hb dL_sentTo_1 rfl (lv_at hl 1 rfl) ?_
  refine qb_readG hP (vx_runV (As := [.int b]) (rest := []) ⟨hx, hb, hml, hown, hts⟩ (c_X0_sentTo l hl0 D cA cZ cL ad f g b nR nB hI) (cwV 1 hts gL_sentTo_X0_sentTo rfl rfl rfl (by decide +kernel) ⟨Nat.le_of_ble_eq_true rfl, Nat.le_of_ble_eq_true rfl⟩) ⟨qPreT_blind, va_recv hK hP (ci := 0) (q0 := 0) rfl rfl, qPreT_at hP hK hTH rfl⟩ rfl rfl hl.1 rfl (lv_room (Nat.le_of_ble_eq_true rfl)) dL_sentTo_2 ⟨Nat.le_of_ble_eq_true rfl, Nat.le_of_ble_eq_true rfl⟩) hS (fun E ce q9 H locs hE hg hP hS hcell hcv hcl => ?_) (fun rv hu => ?_)
  · obtain ⟨rfl, hc⟩ := hE
    refine vx_catch (name := eIO) hown [] (⟨0, 6, 9, 14⟩ : ExceptionTableEntry) [] (by rw [hTab]; rfl) (fun _ h => nomatch h) (by decide) (by decide) (hts _ (List.mem_cons_of_mem _ (List.mem_append_left _ (List.mem_append_left _ (List.mem_of_getElem? (i := 0) rfl))))) (va_Nw.use rfl (hTH.2.2.2.1 eIO (by decide))) hcell hcv hcl ?_
    refine lv_astore_n (lv' := [(3, .ref q9), (0, .ref (ad 16)), (1, .int b)]) hx hb dL_sentTo_9 rfl hl (by decide) rfl (fun ls hl => ?_)
    refine lv_sipush (v := -7100) hx hb dL_sentTo_10 (by decide) ?_
    exact W.iret (v := (-7100)) hx hb hr (fun t ht hW => ⟨(-7100), rfl, by first | (rw [ht]; done) | (rw [ht]; exact hS.1), fun q hq => by first | (rw [ht]; done) | (rw [ht]; exact hS.2.1 q hq (fun h => h)), fun hbad => by rw [ht]; exact hg⟩) hS.2.2 dL_sentTo_13
  · skip
    refine lv_istore_n (lv' := [(2, .int rv), (0, .ref (ad 16)), (1, .int b)]) hx hb dL_sentTo_5 rfl hl (by decide) rfl (fun ls hl => ?_)
    refine lv_goto (tgt := 14) hx hb dL_sentTo_6 (by decide) ?_
    refine lv_iload_n hx hb dL_sentTo_14 rfl (lv_at hl 0 rfl) ?_
    exact W.iret (v := rv) hx hb hr (fun t ht hW => ⟨rv, rfl, by first | (rw [ht]; done) | (rw [ht]; exact hS.1), fun q hq => by first | (rw [ht]; done) | (rw [ht]; exact hS.2.1 q hq (fun h => h)), fun hbad => by rw [ht]; exact absurd hu.1 hbad⟩) hS.2.2 dL_sentTo_15
set_option maxHeartbeats 4000000 in
set_option maxRecDepth 100000 in
/-- the law asks join -/
theorem c_L_join (l : Launch) (hl0 : l.stackTraces = false) (D : va_G) (cA cZ cL : ClassId) (ad : Nat → Nat) (f : qFs) (g : qGs) (sz : Nat) (k : Int32) (a : Int32) (nR : Nat) (nB : Nat) (hI : xI nR nB f) : Met l yL_join wsL_join ({ frames := 8, cells := 1, slots := 6, locals := 132 } : Room) (va_Pc [.ref (ad 16), .int k, .int a] (qPreL D (qTy cA cZ cL) (xW cA ad f g) sz)) (va_Qi (fun (z : Int32) (u : (qFs × qGs) × Nat) => (u.1.1 5 = f 5 ∧ u.1.1 15 = f 15) ∧ (¬ (xKey k ∧ xAdr a) → sz + 1 ≤ u.2)) (qAtN D (va_A (xW cA ad f g) sz) (fun u : qFs × qGs => xW cA ad u.1 u.2)) (va_A (xW cA ad f g) sz)) 1 6 (va_A (xW cA ad f g) sz) := by
  refine qMet_ofWH (cc := cL_join) (maxL := 5) (ret := (some .int)) (hh := [(0, 7, 10, 14), (0, 7, 16, 16), (0, 7, 22, 18)]) (by decide) rfl ?_
  intro p e s m args below meth c s₁ B hml hv
  obtain ⟨rfl, hsz, hP, hK, hD0, hTH, hNC⟩ := hv
  have hx := B.exec
  have hb := B.bytes
  have hr := B.returns
  have hts := atoms_spec (ws := wsL_join) B.pre
  have hown : s.vm.findClass RL = some m.cls := findClass_of_methodNamed B.named
  have hlocks := B.notSynchronized
  have hTab := vx_table (x := yL_join) B (hts _ List.mem_cons_self)
  subst hsz
  have hD := hD0.self (sz := s.heap.size)
  generalize hAe : va_A (xW cA ad f g) s.heap.size = A at hD ⊢
  have hA : ∀ q : Nat, s.heap.size ≤ q → A q := fun q h => by rw [← hAe]; exact Or.inr h
  have hS : va_S A s.heap s.heap [] := va_S.rf
  have hl := lv_entry ([.ref (ad 16), .int k, .int a]) (n := 5) (Nat.le_of_ble_eq_true rfl)
  rw [lg_entry_eq]
  generalize (lg_sl ([.ref (ad 16), .int k, .int a]) ++ List.replicate (5 - (lg_sl ([.ref (ad 16), .int k, .int a])).length) Slot.unset).toArray = ls at hl ⊢
  have hl : lv_has ls 5 [(0, .ref (ad 16)), (1, .int k), (2, .int a)] := hl
  refine lv_aload_n hx hb dL_join_0 rfl (lv_at hl 0 rfl) ?_
  refine lv_iload_n hx hb dL_join_1 rfl (lv_at hl 1 rfl) ?_
  refine lv_iload_n hx hb dL_join_2 rfl (lv_at hl 2 rfl) ?_
  refine qb_calliG (ws := xW cA ad f g) hP (vx_runV (As := [.int k, .int a]) (rest := []) ⟨hx, hb, hml, hown, hts⟩ (c_X0_join l hl0 D cA cZ cL ad f g s.heap.size k a nR nB hI) (cwV 2 hts gL_join_X0_join rfl rfl rfl (by decide +kernel) ⟨Nat.le_of_ble_eq_true rfl, Nat.le_of_ble_eq_true rfl⟩) ⟨qPreX_blind, va_recv hK hP (ci := 0) (q0 := 0) rfl rfl, qPreX_at hP hK hD (fun U hU hW => qTH_at hTH hU hW)⟩ rfl rfl hl.1 rfl (lv_room (Nat.le_of_ble_eq_true rfl)) dL_join_3 ⟨Nat.le_of_ble_eq_true rfl, Nat.le_of_ble_eq_true rfl⟩) hD hS hA (fun E ce q9 H locs hE hg hP hS hcell hcv hcl => ?_) (fun rv u H locs hu hP hD hS => ?_)
  · rcases hE with ⟨rfl, hc⟩ | ⟨rfl, hc⟩ | ⟨rfl, hc⟩
    · skip
      refine vx_catch (name := eIO) hown [] (⟨0, 7, 10, 14⟩ : ExceptionTableEntry) [(⟨0, 7, 16, 16⟩ : ExceptionTableEntry), (⟨0, 7, 22, 18⟩ : ExceptionTableEntry)] (by rw [hTab]; rfl) (fun _ h => nomatch h) (by decide) (by decide) (hts _ (List.mem_cons_of_mem _ (List.mem_append_left _ (List.mem_append_left _ (List.mem_append_left _ (List.mem_append_left _ (List.mem_append_left _ (List.mem_of_getElem? (i := 0) rfl)))))))) (va_Nw.use rfl (hTH.2.2.2.1 eIO (by decide))) hcell hcv hcl ?_
      refine lv_astore (lv' := [(4, .ref q9), (0, .ref (ad 16)), (1, .int k), (2, .int a)]) hx hb dL_join_10 hl (by decide) rfl (fun ls hl => ?_)
      refine lv_sipush (v := -7100) hx hb dL_join_12 (by decide) ?_
      exact W.iret (v := (-7100)) hx hb hr (fun t ht hW => ⟨⟨(-7100), ((f, g), t.heap.size), rfl, ⟨⟨rfl, rfl⟩, fun hbad => by show s.heap.size + 1 ≤ t.heap.size; rw [ht]; exact hg⟩, ⟨⟨by rw [ht]; exact hP, hD⟩, rfl⟩⟩, hS.F ht⟩) hS.2.2 dL_join_15
    · skip
      refine vx_catch (name := eIA) hown [(⟨0, 7, 10, 14⟩ : ExceptionTableEntry)] (⟨0, 7, 16, 16⟩ : ExceptionTableEntry) [(⟨0, 7, 22, 18⟩ : ExceptionTableEntry)] (by rw [hTab]; rfl) (List.forall_mem_cons.mpr ⟨Or.inr ⟨by decide, _, (hts _ (List.mem_cons_of_mem _ (List.mem_append_left _ (List.mem_append_left _ (List.mem_append_left _ (List.mem_append_left _ (List.mem_append_left _ (List.mem_of_getElem? (i := 0) rfl)))))))), hNC.1⟩, (fun _ h => nomatch h)⟩) (by decide) (by decide) (hts _ (List.mem_cons_of_mem _ (List.mem_append_left _ (List.mem_append_left _ (List.mem_append_left _ (List.mem_append_left _ (List.mem_append_left _ (List.mem_of_getElem? (i := 1) rfl)))))))) (va_Nw.use rfl (hTH.2.2.2.1 eIA (by decide))) hcell hcv hcl ?_
      refine lv_astore (lv' := [(4, .ref q9), (0, .ref (ad 16)), (1, .int k), (2, .int a)]) hx hb dL_join_16 hl (by decide) rfl (fun ls hl => ?_)
      refine lv_sipush (v := -7200) hx hb dL_join_18 (by decide) ?_
      exact W.iret (v := (-7200)) hx hb hr (fun t ht hW => ⟨⟨(-7200), ((f, g), t.heap.size), rfl, ⟨⟨rfl, rfl⟩, fun hbad => by show s.heap.size + 1 ≤ t.heap.size; rw [ht]; exact hg⟩, ⟨⟨by rw [ht]; exact hP, hD⟩, rfl⟩⟩, hS.F ht⟩) hS.2.2 dL_join_21
    · skip
      refine vx_catch (name := eIS) hown [(⟨0, 7, 10, 14⟩ : ExceptionTableEntry), (⟨0, 7, 16, 16⟩ : ExceptionTableEntry)] (⟨0, 7, 22, 18⟩ : ExceptionTableEntry) [] (by rw [hTab]; rfl) (List.forall_mem_cons.mpr ⟨Or.inr ⟨by decide, _, (hts _ (List.mem_cons_of_mem _ (List.mem_append_left _ (List.mem_append_left _ (List.mem_append_left _ (List.mem_append_left _ (List.mem_append_left _ (List.mem_of_getElem? (i := 0) rfl)))))))), hNC.2.1⟩, (List.forall_mem_cons.mpr ⟨Or.inr ⟨by decide, _, (hts _ (List.mem_cons_of_mem _ (List.mem_append_left _ (List.mem_append_left _ (List.mem_append_left _ (List.mem_append_left _ (List.mem_append_left _ (List.mem_of_getElem? (i := 1) rfl)))))))), hNC.2.2⟩, (fun _ h => nomatch h)⟩)⟩) (by decide) (by decide) (hts _ (List.mem_cons_of_mem _ (List.mem_append_left _ (List.mem_append_left _ (List.mem_append_left _ (List.mem_append_left _ (List.mem_append_left _ (List.mem_of_getElem? (i := 2) rfl)))))))) (va_Nw.use rfl (hTH.2.2.2.1 eIS (by decide))) hcell hcv hcl ?_
      refine lv_astore (lv' := [(4, .ref q9), (0, .ref (ad 16)), (1, .int k), (2, .int a)]) hx hb dL_join_22 hl (by decide) rfl (fun ls hl => ?_)
      refine lv_sipush (v := -7300) hx hb dL_join_24 (by decide) ?_
      exact W.iret (v := (-7300)) hx hb hr (fun t ht hW => ⟨⟨(-7300), ((f, g), t.heap.size), rfl, ⟨⟨rfl, rfl⟩, fun hbad => by show s.heap.size + 1 ≤ t.heap.size; rw [ht]; exact hg⟩, ⟨⟨by rw [ht]; exact hP, hD⟩, rfl⟩⟩, hS.F ht⟩) hS.2.2 dL_join_27
  · skip
    obtain ⟨uf, ug⟩ := u
    obtain ⟨hok, -, hu1, hu2⟩ := hu
    have hu1 : uf = va_up f 1 (f 1 + 1) := hu1
    have hP : va_P D vwCl (xW cA ad uf ug) H := hP
    have hD : va_D A (xW cA ad uf ug) := hD
    refine lv_istore_n (lv' := [(3, .int rv), (0, .ref (ad 16)), (1, .int k), (2, .int a)]) hx hb dL_join_6 rfl hl (by decide) rfl (fun ls hl => ?_)
    refine lv_goto (tgt := 28) hx hb dL_join_7 (by decide) ?_
    refine lv_iload_n hx hb dL_join_28 rfl (lv_at hl 0 rfl) ?_
    exact W.iret (v := rv) hx hb hr (fun t ht hW => ⟨⟨rv, ((uf, ug), t.heap.size), rfl, ⟨⟨by show uf 5 = f 5; rw [hu1]; rfl, by show uf 15 = f 15; rw [hu1]; rfl⟩, fun hbad => by show s.heap.size + 1 ≤ t.heap.size; rw [ht]; exact absurd ⟨hok.1, hok.2.1⟩ hbad⟩, ⟨⟨by rw [ht]; exact hP, hD⟩, rfl⟩⟩, hS.F ht⟩) hS.2.2 dL_join_29
end
section
theorem cl0 : (0 : Int32).toNatClampNeg = 0 := by decide
theorem cl1 : (1 : Int32).toNatClampNeg = 1 := by decide
theorem cl4 : (4 : Int32).toNatClampNeg = 4 := by decide
theorem cl5 : (5 : Int32).toNatClampNeg = 5 := by decide
theorem in40 {z : Int32} (h : z = -1 ∨ ∃ j : Nat, j < 40 ∧ z = nI j) (h0 : 0 ≤ z) : vp_in z 40 := by
  rcases h with h | ⟨j, hj, h⟩
  · subst h; exact absurd h0 (by decide)
  · subst h; exact vp_in_nI hj (by decide)
theorem nI_self (v : Int32) : v = nI v.toBitVec.toNat := by
  apply Int32.toBitVec_inj.1
  show v.toBitVec = BitVec.ofNat 32 v.toBitVec.toNat
  rw [BitVec.ofNat_toNat]
  simp
set_option maxHeartbeats 4000000 in
set_option maxRecDepth 100000 in
/-- a number below n out of an int -/
theorem c_L_low (l : Launch) (D : va_G) (cA cZ cL : ClassId)  (x : Int32) (N : Nat) (h0 : 0 < N) (hN : N < 2 ^ 31) : Met l yL_low wsL_low ({ frames := 0, cells := 0, slots := 0, locals := 0 } : Room) (va_Pc [.int x, .int (nI N)] (qPre D (qTy cA cZ cL) ([]))) (vp_Si (fun z => (∃ j : Nat, j < N ∧ z = nI j) ∧ (x = 0 → z = 0))) 0 0 (fun _ => False) := by
  refine Met.ofW (cc := cL_low) (maxL := 2) (ret := (some .int)) (by decide) rfl ?_
  intro p e s m args below meth c s₁ B hml hv
  obtain ⟨rfl, hP, hK⟩ := hv
  have hx := B.exec
  have hb := B.bytes
  have hr := B.returns
  have hlocks := B.notSynchronized
  have hl := lv_entry ([.int x, .int (nI N)]) (n := 2) (Nat.le_of_ble_eq_true rfl)
  rw [lg_entry_eq]
  generalize (lg_sl ([.int x, .int (nI N)]) ++ List.replicate (2 - (lg_sl ([.int x, .int (nI N)])).length) Slot.unset).toArray = ls at hl ⊢
  have hl : lv_has ls 2 [(0, .int x), (1, .int (nI N))] := hl
  refine lv_iload_n hx hb dL_low_0 rfl (lv_at hl 0 rfl) ?_
  refine lv_iconst (v := 1) hx hb dL_low_1 (by decide) ?_
  refine lv_iushr (v := (x.toUInt32 >>> ((1 : Int32).toUInt32 &&& Int32.toUInt32 31)).toInt32) hx hb dL_low_2 rfl ?_
  have hv := pk_ushr x 1 1 (by decide)
  generalize (x.toUInt32 >>> ((1 : Int32).toUInt32 &&& Int32.toUInt32 31)).toInt32 = v at hv ⊢
  have hlt : x.toBitVec.toNat < 2 ^ 32 := x.toBitVec.isLt
  have hve : v = nI (x.toBitVec.toNat / 2 ^ 1) := by rw [← hv]; exact nI_self v
  subst hve
  refine lv_iload_n hx hb dL_low_3 rfl (lv_at hl 1 rfl) ?_
  have hne : ¬ nI N = 0 := fun q => by
    have h7 := congrArg Int32.toInt q
    rw [nI_toInt hN] at h7
    have h8 : (0 : Int32).toInt = 0 := by decide
    omega
  refine lv_irem hx hb dL_low_4 hne ?_
  have hrem := pk_rem (a := x.toBitVec.toNat / 2 ^ 1) (d := N) (by omega) h0 hN
  refine lv_topi (fun y hy => ?_)
  have hy : y = nI (x.toBitVec.toNat / 2 ^ 1 % N) := hy.trans hrem
  subst hy
  exact W.iret (v := nI (x.toBitVec.toNat / 2 ^ 1 % N)) hx hb hr (fun t ht hW => ⟨_, rfl, ⟨⟨_, Nat.mod_lt _ h0, rfl⟩, fun h => by rw [h, show (0 : Int32).toBitVec.toNat / 2 ^ 1 = 0 by decide, Nat.zero_mod]; rfl⟩, ht⟩) (fun q h => nomatch h) dL_low_5
def qPreS (b L : Nat) (xs : Nat → Int32) : State → Prop := fun U => va_X b L xs U U.heap ∧ b < U.heap.size
theorem qPreS_blind {b L : Nat} {xs : Nat → Int32} {av : List Value} : FrameBlind (va_Pc av (qPreS b L xs)) := fun a U g mk q => ⟨q.1, va_X.moved (u := U) (U := U.calling g mk a) (Vm.Alike.refl U.vm) q.2.1, q.2.2⟩
theorem qPreS_at {b L : Nat} {xs : Nat → Int32} {av : List Value} {s : State} {H : Heap} {A : Nat → Prop} {locs : List Loc} (hX : va_X b L xs s s.heap) (hbl : b < s.heap.size) (hbA : ¬ A b) (hS : va_S A s.heap H locs) : ∀ U : State, U.heap = H → s.WarmedH U.vm → va_Pc av (qPreS b L xs) av.toArray U := fun U hU hW => ⟨rfl, by rw [hU]; exact (va_X.moved hW.alike hX).kept (hS.2.1 b hbl hbA), by rw [hU]; exact Nat.lt_of_lt_of_le hbl hS.1⟩
set_option maxHeartbeats 4000000 in
set_option maxRecDepth 100000 in
/-- a cell of the script -/
theorem c_L_cell (l : Launch) (b L : Nat) (xs : Nat → Int32) (k : Nat) (hk : k < L) (hL : L < 2 ^ 31) : Met l yL_cell wsL_cell ({ frames := 0, cells := 0, slots := 0, locals := 0 } : Room) (va_Pc [.ref b, .int (nI k)] (qPreS b L xs)) (vp_Si (fun z => z = xs k)) 0 0 (fun _ => False) := by
  refine Met.ofW (cc := cL_cell) (maxL := 2) (ret := (some .int)) (by decide) rfl ?_
  intro p e s m args below meth c s₁ B hml hv
  obtain ⟨rfl, hX, hbl⟩ := hv
  have hx := B.exec
  have hb := B.bytes
  have hr := B.returns
  have hlocks := B.notSynchronized
  have hS : va_S (fun _ => False) s.heap s.heap [] := va_S.rf
  have hl := lv_entry ([.ref b, .int (nI k)]) (n := 2) (Nat.le_of_ble_eq_true rfl)
  rw [lg_entry_eq]
  generalize (lg_sl ([.ref b, .int (nI k)]) ++ List.replicate (2 - (lg_sl ([.ref b, .int (nI k)])).length) Slot.unset).toArray = ls at hl ⊢
  have hl : lv_has ls 2 [(0, .ref b), (1, .int (nI k))] := hl
  refine lv_iload_n hx hb dL_cell_0 rfl (lv_at hl 1 rfl) ?_
  refine lv_aload_n hx hb dL_cell_1 rfl (lv_at hl 0 rfl) ?_
  refine va_slen hx hb hX hbl (fun h => h) hS dL_cell_2 ?_
  refine lv_icmp_ge (tgt := 12) hx hb dL_cell_3 (by decide) (fun c_3 => ?_) (fun c_3 => ?_)
  · exact absurd c_3 (nI_ge hk hL)
  · refine lv_aload_n hx hb dL_cell_6 rfl (lv_at hl 0 rfl) ?_
    refine lv_iload_n hx hb dL_cell_7 rfl (lv_at hl 1 rfl) ?_
    refine va_sld hx hb hX hbl (fun h => h) hS (vp_in_nI hk hL) dL_cell_8 ?_
    refine lv_goto (tgt := 19) hx hb dL_cell_9 (by decide) ?_
    exact W.iret (v := xs (nI k).toNatClampNeg) hx hb hr (fun t ht hW => ⟨_, rfl, by rw [nI_clamp (by omega)], ht⟩) (fun q h => nomatch h) dL_cell_19
set_option maxHeartbeats 4000000 in
set_option maxRecDepth 100000 in
/-- the place of a member -/
theorem c_L_member (l : Launch) (D : va_G) (cA cZ cL : ClassId) (am : Nat) (fm : Nat → Int32) (ag : Nat) (fg : Nat → Int32) (n : Nat) (hn : fg 0 = nI n) (hn4 : n ≤ 40) (k : Int32) : Met l yL_member wsL_member ({ frames := 0, cells := 0, slots := 0, locals := 0 } : Room) (va_Pc [.ref am, .ref ag, .int k] (qPre D (qTy cA cZ cL) ([(am, .inl (cA, 40, .inl (fm))), (ag, .inl (cA, 6, .inl (fg)))]))) (vp_Si (fun z => z = -1 ∨ ∃ j : Nat, j < 40 ∧ z = nI j)) 0 0 (fun _ => False) := by
  refine Met.ofW (cc := cL_member) (maxL := 4) (ret := (some .int)) (by decide) rfl ?_
  intro p e s m args below meth c s₁ B hml hv
  obtain ⟨rfl, hP, hK⟩ := hv
  have hx := B.exec
  have hb := B.bytes
  have hr := B.returns
  have hts := atoms_spec (ws := wsL_member) B.pre
  have hown : s.vm.findClass RL = some m.cls := findClass_of_methodNamed B.named
  have hlocks := B.notSynchronized
  have hl := lv_entry ([.ref am, .ref ag, .int k]) (n := 4) (Nat.le_of_ble_eq_true rfl)
  rw [lg_entry_eq]
  generalize (lg_sl ([.ref am, .ref ag, .int k]) ++ List.replicate (4 - (lg_sl ([.ref am, .ref ag, .int k])).length) Slot.unset).toArray = ls at hl ⊢
  have hl : lv_has ls 4 [(0, .ref am), (1, .ref ag), (2, .int k)] := hl
  refine lv_iconst (v := 0) hx hb dL_member_0 (by decide) ?_
  refine lv_istore_n (lv' := [(3, .int 0), (0, .ref am), (1, .ref ag), (2, .int k)]) hx hb dL_member_1 rfl hl (by decide) rfl (fun ls hl => ?_)
  have hloop_2 : ∀ (nme : Nat) (i : Nat), n - i = nme → (i ≤ n) → ∀ ls : Array Slot, lv_has ls 4 [(0, .ref am), (1, .ref ag), (2, .int k), (3, .int (nI i))] → W p l e (headSpec wsL_member ({ frames := 0, cells := 0, slots := 0, locals := 0 } : Room)).room s m ([.ref am, .ref ag, .int k] : List Value).toArray below meth c s.heap [] 0 0 (MQ below (vp_Si (fun z => z = -1 ∨ ∃ j : Nat, j < 40 ∧ z = nI j)) ([.ref am, .ref ag, .int k] : List Value).toArray s 0 0 (fun _ => False)) (F0 m 2 ls []) := by
    intro nme
    induction nme using Nat.strongRecOn with
    | ind nme ih_2 =>
      intro i hnme_2 hi ls hl
      refine lv_iload_n hx hb dL_member_2 rfl (lv_at hl 3 rfl) ?_
      refine lv_aload_n hx hb dL_member_3 rfl (lv_at hl 1 rfl) ?_
      refine lv_iconst (v := 0) hx hb dL_member_4 (by decide) ?_
      refine va_iald hx hb hK hP 1 0 rfl rfl (by unfold vp_in; decide) dL_member_5 ?_
      refine lv_topi (fun v_5 hv_5 => ?_)
      have hv_5 : v_5 = nI n := hv_5.trans (by rw [cl0]; exact hn)
      subst hv_5
      refine lv_icmp_ge (tgt := 27) hx hb dL_member_6 (by decide) (fun c_6 => ?_) (fun c_6 => ?_)
      · skip
        refine lv_iconst (v := (-1)) hx hb dL_member_27 (by decide) ?_
        exact W.iret (v := (-1)) hx hb hr (fun t ht hW => ⟨(-1), rfl, (Or.inl rfl), ht⟩) (fun q h => nomatch h) dL_member_28
      · skip
        have hlt : i < n := n_lt c_6 (by omega)
        refine lv_aload_n hx hb dL_member_9 rfl (lv_at hl 0 rfl) ?_
        refine lv_iload_n hx hb dL_member_10 rfl (lv_at hl 3 rfl) ?_
        refine va_iald hx hb hK hP 0 0 rfl rfl (vp_in_nI (by omega) (by decide)) dL_member_11 ?_
        refine lv_topi (fun y_11 _ => ?_)
        refine lv_bipush (v := 127) hx hb dL_member_12 (by decide) ?_
        refine lv_iand hx hb dL_member_14 ?_
        refine lv_topi (fun y_14 _ => ?_)
        refine lv_iload_n hx hb dL_member_15 rfl (lv_at hl 2 rfl) ?_
        refine lv_icmp_ne (tgt := 21) hx hb dL_member_16 (by decide) (fun c_16 => ?_) (fun c_16 => ?_)
        · skip
          refine lv_iinc (v := nI (i + 1)) (lv' := [(3, .int (nI (i + 1))), (0, .ref am), (1, .ref ag), (2, .int k)]) hx hb dL_member_21 hl (k := 3) rfl (nI_1 (i)) (by decide) rfl (fun ls hl => ?_)
          refine lv_goto (tgt := 2) hx hb dL_member_24 (by decide) ?_
          exact ih_2 _ (by omega) (i + 1) rfl (by omega) _ (lv_sub hl [1, 2, 3, 0] rfl)
        · skip
          refine lv_iload_n hx hb dL_member_19 rfl (lv_at hl 3 rfl) ?_
          exact W.iret (v := nI i) hx hb hr (fun t ht hW => ⟨nI i, rfl, (Or.inr ⟨i, by omega, rfl⟩), ht⟩) (fun q h => nomatch h) dL_member_20
  exact hloop_2 _ 0 rfl (Nat.zero_le _) _ (lv_sub hl [1, 2, 3, 0] rfl)
set_option maxHeartbeats 4000000 in
set_option maxRecDepth 100000 in
theorem c_L_range (l : Launch) (D : va_G) (cA cZ cL : ClassId) (ae : Nat) (fe : Nat → Int32) (h99 : fe 0 = 99) (k : Nat) (hk : k < 100) : Met l yL_range wsL_range ({ frames := 0, cells := 0, slots := 0, locals := 0 } : Room) (va_Pc [.ref ae, .int (nI k)] (qPre D (qTy cA cZ cL) ([(ae, .inl (cA, 9, .inl (fe)))]))) (vp_Si (fun z => True)) 0 0 (fun _ => False) := by
  refine Met.ofW (cc := cL_range) (maxL := 3) (ret := (some .int)) (by decide) rfl ?_
  intro p e s m args below meth c s₁ B hml hv
  obtain ⟨rfl, hP, hK⟩ := hv
  have hx := B.exec
  have hb := B.bytes
  have hr := B.returns
  have hts := atoms_spec (ws := wsL_range) B.pre
  have hown : s.vm.findClass RL = some m.cls := findClass_of_methodNamed B.named
  have hlocks := B.notSynchronized
  have hl := lv_entry ([.ref ae, .int (nI k)]) (n := 3) (Nat.le_of_ble_eq_true rfl)
  rw [lg_entry_eq]
  generalize (lg_sl ([.ref ae, .int (nI k)]) ++ List.replicate (3 - (lg_sl ([.ref ae, .int (nI k)])).length) Slot.unset).toArray = ls at hl ⊢
  have hl : lv_has ls 3 [(0, .ref ae), (1, .int (nI k))] := hl
  refine lv_iconst (v := 0) hx hb dL_range_0 (by decide) ?_
  refine lv_istore_n (lv' := [(2, .int 0), (0, .ref ae), (1, .int (nI k))]) hx hb dL_range_1 rfl hl (by decide) rfl (fun ls hl => ?_)
  refine lv_aload_n hx hb dL_range_2 rfl (lv_at hl 1 rfl) ?_
  refine lv_iload_n hx hb dL_range_3 rfl (lv_at hl 0 rfl) ?_
  refine va_iald hx hb hK hP 0 0 rfl rfl (by unfold vp_in; decide) dL_range_4 ?_
  refine lv_topi (fun v_4 hv_4 => ?_)
  have hv_4 : v_4 = 99 := hv_4.trans (by rw [cl0]; exact h99)
  subst hv_4
  refine lv_bipush (v := 127) hx hb dL_range_5 (by decide) ?_
  refine lv_iand hx hb dL_range_7 ?_
  refine lv_topi (fun v_7 hv_7 => ?_)
  have hv_7 : v_7 = 99 := hv_7.trans (by decide)
  subst hv_7
  refine lv_iload_n hx hb dL_range_8 rfl (lv_at hl 2 rfl) ?_
  refine lv_icmp_ge (tgt := 18) hx hb dL_range_9 (by decide) (fun c_9 => ?_) (fun c_9 => ?_)
  · skip
    refine lv_iload_n hx hb dL_range_18 rfl (lv_at hl 0 rfl) ?_
    exact W.iret (v := 0) hx hb hr (fun t ht hW => ⟨0, rfl, trivial, ht⟩) (fun q h => nomatch h) dL_range_19
  · skip
    exact absurd (show nI k ≤ (99 : Int32) from nI_le (b := 99) (by omega) (by decide)) c_9
set_option maxHeartbeats 4000000 in
set_option maxRecDepth 100000 in
theorem c_L_first (l : Launch) (D : va_G) (cA cZ cL : ClassId) (ae : Nat) (fe : Nat → Int32)  : Met l yL_first wsL_first ({ frames := 0, cells := 0, slots := 0, locals := 0 } : Room) (va_Pc [.ref ae, .int (nI 0)] (qPre D (qTy cA cZ cL) ([(ae, .inl (cA, 9, .inl (fe)))]))) (vp_Si (fun z => True)) 0 0 (fun _ => False) := by
  refine Met.ofW (cc := cL_first) (maxL := 2) (ret := (some .int)) (by decide) rfl ?_
  intro p e s m args below meth c s₁ B hml hv
  obtain ⟨rfl, hP, hK⟩ := hv
  have hx := B.exec
  have hb := B.bytes
  have hr := B.returns
  have hts := atoms_spec (ws := wsL_first) B.pre
  have hown : s.vm.findClass RL = some m.cls := findClass_of_methodNamed B.named
  have hlocks := B.notSynchronized
  have hl := lv_entry ([.ref ae, .int (nI 0)]) (n := 2) (Nat.le_of_ble_eq_true rfl)
  rw [lg_entry_eq]
  generalize (lg_sl ([.ref ae, .int (nI 0)]) ++ List.replicate (2 - (lg_sl ([.ref ae, .int (nI 0)])).length) Slot.unset).toArray = ls at hl ⊢
  have hl : lv_has ls 2 [(0, .ref ae), (1, .int (nI 0))] := hl
  refine lv_iload_n hx hb dL_first_0 rfl (lv_at hl 1 rfl) ?_
  refine lv_if_ne (tgt := 8) hx hb dL_first_1 (by decide) (fun c_1 => ?_) (fun c_1 => ?_)
  · skip
    exact absurd rfl c_1
  · skip
    refine lv_iconst (v := 0) hx hb dL_first_4 (by decide) ?_
    refine lv_goto (tgt := 18) hx hb dL_first_5 (by decide) ?_
    exact W.iret (v := 0) hx hb hr (fun t ht hW => ⟨0, rfl, trivial, ht⟩) (fun q h => nomatch h) dL_first_18
set_option maxHeartbeats 4000000 in
set_option maxRecDepth 100000 in
theorem c_L_ofRange (l : Launch) (D : va_G) (cA cZ cL : ClassId) (am : Nat) (fm : Nat → Int32) (ae : Nat) (fe : Nat → Int32) (ag : Nat) (fg : Nat → Int32) (n : Nat) (hn : fg 0 = nI n) (hn4 : n ≤ 40) (w : Int32) (hw : ¬ w = 2) : Met l yL_ofRange wsL_ofRange ({ frames := 1, cells := 0, slots := 0, locals := 21 } : Room) (va_Pc [.ref am, .ref ae, .ref ag, .int (nI 0), .int w] (qPre D (qTy cA cZ cL) ([(am, .inl (cA, 40, .inl (fm))), (ae, .inl (cA, 9, .inl (fe))), (ag, .inl (cA, 6, .inl (fg)))]))) (vp_Si (fun z => True)) 0 0 (fun _ => False) := by
  refine Met.ofW (cc := cL_ofRange) (maxL := 9) (ret := (some .int)) (by decide) rfl ?_
  intro p e s m args below meth c s₁ B hml hv
  obtain ⟨rfl, hP, hK⟩ := hv
  have hx := B.exec
  have hb := B.bytes
  have hr := B.returns
  have hts := atoms_spec (ws := wsL_ofRange) B.pre
  have hown : s.vm.findClass RL = some m.cls := findClass_of_methodNamed B.named
  have hlocks := B.notSynchronized
  have hl := lv_entry ([.ref am, .ref ae, .ref ag, .int (nI 0), .int w]) (n := 9) (Nat.le_of_ble_eq_true rfl)
  rw [lg_entry_eq]
  generalize (lg_sl ([.ref am, .ref ae, .ref ag, .int (nI 0), .int w]) ++ List.replicate (9 - (lg_sl ([.ref am, .ref ae, .ref ag, .int (nI 0), .int w])).length) Slot.unset).toArray = ls at hl ⊢
  have hl : lv_has ls 9 [(0, .ref am), (1, .ref ae), (2, .ref ag), (3, .int (nI 0)), (4, .int w)] := hl
  refine lv_iload hx hb dL_ofRange_0 (lv_at hl 4 rfl) ?_
  refine lv_iconst (v := 2) hx hb dL_ofRange_2 (by decide) ?_
  refine lv_icmp_ne (tgt := 12) hx hb dL_ofRange_3 (by decide) (fun c_3 => ?_) (fun c_3 => ?_)
  · skip
    refine lv_iconst (v := 0) hx hb dL_ofRange_12 (by decide) ?_
    refine lv_istore (lv' := [(5, .int 0), (0, .ref am), (1, .ref ae), (2, .ref ag), (3, .int (nI 0)), (4, .int w)]) hx hb dL_ofRange_13 hl (by decide) rfl (fun ls hl => ?_)
    refine lv_iconst (v := 0) hx hb dL_ofRange_15 (by decide) ?_
    refine lv_istore (lv' := [(6, .int 0), (5, .int 0), (0, .ref am), (1, .ref ae), (2, .ref ag), (3, .int (nI 0)), (4, .int w)]) hx hb dL_ofRange_16 hl (by decide) rfl (fun ls hl => ?_)
    have hloop_18 : ∀ (nme : Nat) (i : Nat) (acc : Int32), n - i = nme → (i ≤ n) → ∀ ls : Array Slot, lv_has ls 9 [(0, .ref am), (1, .ref ae), (2, .ref ag), (3, .int (nI 0)), (4, .int w), (5, .int acc), (6, .int (nI i))] → W p l e (headSpec wsL_ofRange ({ frames := 1, cells := 0, slots := 0, locals := 21 } : Room)).room s m ([.ref am, .ref ae, .ref ag, .int (nI 0), .int w] : List Value).toArray below meth c s.heap [] 0 0 (MQ below (vp_Si (fun z => True)) ([.ref am, .ref ae, .ref ag, .int (nI 0), .int w] : List Value).toArray s 0 0 (fun _ => False)) (F0 m 18 ls []) := by
      intro nme
      induction nme using Nat.strongRecOn with
      | ind nme ih_18 =>
        intro i acc hnme_18 hi ls hl
        refine lv_iload hx hb dL_ofRange_18 (lv_at hl 6 rfl) ?_
        refine lv_aload_n hx hb dL_ofRange_20 rfl (lv_at hl 2 rfl) ?_
        refine lv_iconst (v := 0) hx hb dL_ofRange_21 (by decide) ?_
        refine va_iald hx hb hK hP 2 0 rfl rfl (by unfold vp_in; decide) dL_ofRange_22 ?_
        refine lv_topi (fun v_22 hv_22 => ?_)
        have hv_22 : v_22 = nI n := hv_22.trans (by rw [cl0]; exact hn)
        subst hv_22
        refine lv_icmp_ge (tgt := 135) hx hb dL_ofRange_23 (by decide) (fun c_23 => ?_) (fun c_23 => ?_)
        · skip
          refine lv_iload hx hb dL_ofRange_135 (lv_at hl 5 rfl) ?_
          refine lv_sipush (v := 1000) hx hb dL_ofRange_137 (by decide) ?_
          refine lv_icmp_ne (tgt := 147) hx hb dL_ofRange_140 (by decide) (fun c_140 => ?_) (fun c_140 => ?_)
          · skip
            refine lv_iload hx hb dL_ofRange_147 (lv_at hl 5 rfl) ?_
            exact W.iret (v := acc) hx hb hr (fun t ht hW => ⟨acc, rfl, trivial, ht⟩) (fun q h => nomatch h) dL_ofRange_149
          · skip
            refine lv_iconst (v := (-1)) hx hb dL_ofRange_143 (by decide) ?_
            refine lv_goto (tgt := 149) hx hb dL_ofRange_144 (by decide) ?_
            exact W.iret (v := (-1)) hx hb hr (fun t ht hW => ⟨(-1), rfl, trivial, ht⟩) (fun q h => nomatch h) dL_ofRange_149
        · skip
          have hlt : i < n := n_lt c_23 (by omega)
          refine lv_aload_n hx hb dL_ofRange_26 rfl (lv_at hl 0 rfl) ?_
          refine lv_iload hx hb dL_ofRange_27 (lv_at hl 6 rfl) ?_
          refine va_iald hx hb hK hP 0 0 rfl rfl (vp_in_nI (by omega) (by decide)) dL_ofRange_29 ?_
          refine lv_topi (fun y_29 _ => ?_)
          refine lv_bipush (v := 127) hx hb dL_ofRange_30 (by decide) ?_
          refine lv_iand hx hb dL_ofRange_32 ?_
          refine lv_topi (fun y_32 _ => ?_)
          refine lv_istore (lv' := [(7, .int y_32), (0, .ref am), (1, .ref ae), (2, .ref ag), (3, .int (nI 0)), (4, .int w), (5, .int acc), (6, .int (nI i))]) hx hb dL_ofRange_33 hl (by decide) rfl (fun ls hl => ?_)
          refine lv_iload hx hb dL_ofRange_35 (lv_at hl 0 rfl) ?_
          refine lv_aload_n hx hb dL_ofRange_37 rfl (lv_at hl 2 rfl) ?_
          refine lv_iload_n hx hb dL_ofRange_38 rfl (lv_at hl 4 rfl) ?_
          have hPc := hP.sub (ws' := [(ae, .inl (cA, 9, .inl (fe)))]) [1] rfl
          refine vp_callSi (W.runS (As := [.ref ae, .int (nI 0)]) (rest := [.int y_32]) ⟨hx, hb, hml, hown, hts⟩ (c_L_first l D cA cZ cL ae fe ) (va_cwS 2 hts gL_ofRange_L_first rfl rfl rfl (by decide +kernel) ⟨Nat.le_of_ble_eq_true rfl, Nat.le_of_ble_eq_true rfl⟩) ⟨qPre_blind, qPre_at hPc hK⟩ rfl rfl hl.1 rfl (lv_room (Nat.le_of_ble_eq_true rfl)) dL_ofRange_39 ⟨by show 0 + 0 ≤ 0; omega, by show 0 + 0 ≤ 0; omega⟩) (fun z_39 hz_39 => ?_)
          refine lv_icmp_lt (tgt := 129) hx hb dL_ofRange_42 (by decide) (fun c_42 => ?_) (fun c_42 => ?_)
          · skip
            refine lv_iinc (v := nI (i + 1)) (lv' := [(6, .int (nI (i + 1))), (7, .int y_32), (0, .ref am), (1, .ref ae), (2, .ref ag), (3, .int (nI 0)), (4, .int w), (5, .int acc)]) hx hb dL_ofRange_129 hl (k := 7) rfl (nI_1 (i)) (by decide) rfl (fun ls hl => ?_)
            refine lv_goto (tgt := 18) hx hb dL_ofRange_132 (by decide) ?_
            exact ih_18 _ (by omega) (i + 1) acc rfl (by omega) _ (lv_sub hl [2, 3, 4, 5, 6, 7, 0] rfl)
          · skip
            refine lv_iload hx hb dL_ofRange_45 (lv_at hl 0 rfl) ?_
            refine lv_aload_n hx hb dL_ofRange_47 rfl (lv_at hl 2 rfl) ?_
            refine lv_iload_n hx hb dL_ofRange_48 rfl (lv_at hl 4 rfl) ?_
            refine va_iald hx hb hK hP 1 0 rfl rfl (vp_in_nI (by omega) (by decide)) dL_ofRange_49 ?_
            refine lv_topi (fun y_49 _ => ?_)
            refine lv_bipush (v := 127) hx hb dL_ofRange_50 (by decide) ?_
            refine lv_iand hx hb dL_ofRange_52 ?_
            refine lv_topi (fun y_52 _ => ?_)
            refine lv_icmp_le (tgt := 59) hx hb dL_ofRange_53 (by decide) (fun c_53 => ?_) (fun c_53 => ?_)
            · skip
              refine lv_aload_n hx hb dL_ofRange_59 rfl (lv_at hl 1 rfl) ?_
              refine lv_iload hx hb dL_ofRange_60 (lv_at hl 7 rfl) ?_
              refine va_iald hx hb hK hP 0 0 rfl rfl (vp_in_nI (by omega) (by decide)) dL_ofRange_62 ?_
              refine lv_topi (fun y_62 _ => ?_)
              refine lv_bipush (v := 13) hx hb dL_ofRange_63 (by decide) ?_
              refine lv_ishr hx hb dL_ofRange_65 ?_
              refine lv_topi (fun y_65 _ => ?_)
              refine lv_iconst (v := 1) hx hb dL_ofRange_66 (by decide) ?_
              refine lv_iand hx hb dL_ofRange_67 ?_
              refine lv_topi (fun y_67 _ => ?_)
              refine lv_iconst (v := 1) hx hb dL_ofRange_68 (by decide) ?_
              refine lv_icmp_ne (tgt := 76) hx hb dL_ofRange_69 (by decide) (fun c_69 => ?_) (fun c_69 => ?_)
              · skip
                refine lv_iconst (v := 0) hx hb dL_ofRange_76 (by decide) ?_
                refine lv_istore (lv' := [(8, .int 0), (7, .int y_32), (0, .ref am), (1, .ref ae), (2, .ref ag), (3, .int (nI 0)), (4, .int w), (5, .int acc), (6, .int (nI i))]) hx hb dL_ofRange_77 hl (by decide) rfl (fun ls hl => ?_)
                refine lv_iload hx hb dL_ofRange_79 (lv_at hl 6 rfl) ?_
                refine lv_iconst (v := 2) hx hb dL_ofRange_81 (by decide) ?_
                refine lv_icmp_ne (tgt := 109) hx hb dL_ofRange_82 (by decide) (fun c_82 => ?_) (fun c_82 => ?_)
                · skip
                  refine lv_iload hx hb dL_ofRange_109 (lv_at hl 7 rfl) ?_
                  refine lv_iload hx hb dL_ofRange_111 (lv_at hl 6 rfl) ?_
                  refine lv_if_eq (tgt := 121) hx hb dL_ofRange_113 (by decide) (fun c_113 => ?_) (fun c_113 => ?_)
                  · skip
                    refine lv_iconst (v := 1) hx hb dL_ofRange_121 (by decide) ?_
                    refine lv_goto (tgt := 126) hx hb dL_ofRange_122 (by decide) ?_
                    refine lv_iadd hx hb dL_ofRange_126 ?_
                    refine lv_topi (fun y_126 _ => ?_)
                    refine lv_istore (lv' := [(5, .int y_126), (8, .int 0), (7, .int y_32), (0, .ref am), (1, .ref ae), (2, .ref ag), (3, .int (nI 0)), (4, .int w), (6, .int (nI i))]) hx hb dL_ofRange_127 hl (by decide) rfl (fun ls hl => ?_)
                    refine lv_iinc (v := nI (i + 1)) (lv' := [(6, .int (nI (i + 1))), (5, .int y_126), (8, .int 0), (7, .int y_32), (0, .ref am), (1, .ref ae), (2, .ref ag), (3, .int (nI 0)), (4, .int w)]) hx hb dL_ofRange_129 hl (k := 8) rfl (nI_1 (i)) (by decide) rfl (fun ls hl => ?_)
                    refine lv_goto (tgt := 18) hx hb dL_ofRange_132 (by decide) ?_
                    exact ih_18 _ (by omega) (i + 1) y_126 rfl (by omega) _ (lv_sub hl [4, 5, 6, 7, 8, 1, 0] rfl)
                  · skip
                    refine lv_iload hx hb dL_ofRange_116 (lv_at hl 0 rfl) ?_
                    refine lv_if_eq (tgt := 125) hx hb dL_ofRange_118 (by decide) (fun c_118 => ?_) (fun c_118 => ?_)
                    · skip
                      refine lv_iconst (v := 0) hx hb dL_ofRange_125 (by decide) ?_
                      refine lv_iadd hx hb dL_ofRange_126 ?_
                      refine lv_topi (fun y_126 _ => ?_)
                      refine lv_istore (lv' := [(5, .int y_126), (8, .int 0), (7, .int y_32), (0, .ref am), (1, .ref ae), (2, .ref ag), (3, .int (nI 0)), (4, .int w), (6, .int (nI i))]) hx hb dL_ofRange_127 hl (by decide) rfl (fun ls hl => ?_)
                      refine lv_iinc (v := nI (i + 1)) (lv' := [(6, .int (nI (i + 1))), (5, .int y_126), (8, .int 0), (7, .int y_32), (0, .ref am), (1, .ref ae), (2, .ref ag), (3, .int (nI 0)), (4, .int w)]) hx hb dL_ofRange_129 hl (k := 8) rfl (nI_1 (i)) (by decide) rfl (fun ls hl => ?_)
                      refine lv_goto (tgt := 18) hx hb dL_ofRange_132 (by decide) ?_
                      exact ih_18 _ (by omega) (i + 1) y_126 rfl (by omega) _ (lv_sub hl [4, 5, 6, 7, 8, 1, 0] rfl)
                    · skip
                      refine lv_iconst (v := 1) hx hb dL_ofRange_121 (by decide) ?_
                      refine lv_goto (tgt := 126) hx hb dL_ofRange_122 (by decide) ?_
                      refine lv_iadd hx hb dL_ofRange_126 ?_
                      refine lv_topi (fun y_126 _ => ?_)
                      refine lv_istore (lv' := [(5, .int y_126), (8, .int 0), (7, .int y_32), (0, .ref am), (1, .ref ae), (2, .ref ag), (3, .int (nI 0)), (4, .int w), (6, .int (nI i))]) hx hb dL_ofRange_127 hl (by decide) rfl (fun ls hl => ?_)
                      refine lv_iinc (v := nI (i + 1)) (lv' := [(6, .int (nI (i + 1))), (5, .int y_126), (8, .int 0), (7, .int y_32), (0, .ref am), (1, .ref ae), (2, .ref ag), (3, .int (nI 0)), (4, .int w)]) hx hb dL_ofRange_129 hl (k := 8) rfl (nI_1 (i)) (by decide) rfl (fun ls hl => ?_)
                      refine lv_goto (tgt := 18) hx hb dL_ofRange_132 (by decide) ?_
                      exact ih_18 _ (by omega) (i + 1) y_126 rfl (by omega) _ (lv_sub hl [4, 5, 6, 7, 8, 1, 0] rfl)
                · skip
                  exact absurd c_82 hw
              · skip
                refine lv_iconst (v := 1) hx hb dL_ofRange_72 (by decide) ?_
                refine lv_goto (tgt := 77) hx hb dL_ofRange_73 (by decide) ?_
                refine lv_istore (lv' := [(8, .int 1), (7, .int y_32), (0, .ref am), (1, .ref ae), (2, .ref ag), (3, .int (nI 0)), (4, .int w), (5, .int acc), (6, .int (nI i))]) hx hb dL_ofRange_77 hl (by decide) rfl (fun ls hl => ?_)
                refine lv_iload hx hb dL_ofRange_79 (lv_at hl 6 rfl) ?_
                refine lv_iconst (v := 2) hx hb dL_ofRange_81 (by decide) ?_
                refine lv_icmp_ne (tgt := 109) hx hb dL_ofRange_82 (by decide) (fun c_82 => ?_) (fun c_82 => ?_)
                · skip
                  refine lv_iload hx hb dL_ofRange_109 (lv_at hl 7 rfl) ?_
                  refine lv_iload hx hb dL_ofRange_111 (lv_at hl 6 rfl) ?_
                  refine lv_if_eq (tgt := 121) hx hb dL_ofRange_113 (by decide) (fun c_113 => ?_) (fun c_113 => ?_)
                  · skip
                    refine lv_iconst (v := 1) hx hb dL_ofRange_121 (by decide) ?_
                    refine lv_goto (tgt := 126) hx hb dL_ofRange_122 (by decide) ?_
                    refine lv_iadd hx hb dL_ofRange_126 ?_
                    refine lv_topi (fun y_126 _ => ?_)
                    refine lv_istore (lv' := [(5, .int y_126), (8, .int 1), (7, .int y_32), (0, .ref am), (1, .ref ae), (2, .ref ag), (3, .int (nI 0)), (4, .int w), (6, .int (nI i))]) hx hb dL_ofRange_127 hl (by decide) rfl (fun ls hl => ?_)
                    refine lv_iinc (v := nI (i + 1)) (lv' := [(6, .int (nI (i + 1))), (5, .int y_126), (8, .int 1), (7, .int y_32), (0, .ref am), (1, .ref ae), (2, .ref ag), (3, .int (nI 0)), (4, .int w)]) hx hb dL_ofRange_129 hl (k := 8) rfl (nI_1 (i)) (by decide) rfl (fun ls hl => ?_)
                    refine lv_goto (tgt := 18) hx hb dL_ofRange_132 (by decide) ?_
                    exact ih_18 _ (by omega) (i + 1) y_126 rfl (by omega) _ (lv_sub hl [4, 5, 6, 7, 8, 1, 0] rfl)
                  · skip
                    refine lv_iload hx hb dL_ofRange_116 (lv_at hl 0 rfl) ?_
                    refine lv_if_eq (tgt := 125) hx hb dL_ofRange_118 (by decide) (fun c_118 => ?_) (fun c_118 => ?_)
                    · skip
                      refine lv_iconst (v := 0) hx hb dL_ofRange_125 (by decide) ?_
                      refine lv_iadd hx hb dL_ofRange_126 ?_
                      refine lv_topi (fun y_126 _ => ?_)
                      refine lv_istore (lv' := [(5, .int y_126), (8, .int 1), (7, .int y_32), (0, .ref am), (1, .ref ae), (2, .ref ag), (3, .int (nI 0)), (4, .int w), (6, .int (nI i))]) hx hb dL_ofRange_127 hl (by decide) rfl (fun ls hl => ?_)
                      refine lv_iinc (v := nI (i + 1)) (lv' := [(6, .int (nI (i + 1))), (5, .int y_126), (8, .int 1), (7, .int y_32), (0, .ref am), (1, .ref ae), (2, .ref ag), (3, .int (nI 0)), (4, .int w)]) hx hb dL_ofRange_129 hl (k := 8) rfl (nI_1 (i)) (by decide) rfl (fun ls hl => ?_)
                      refine lv_goto (tgt := 18) hx hb dL_ofRange_132 (by decide) ?_
                      exact ih_18 _ (by omega) (i + 1) y_126 rfl (by omega) _ (lv_sub hl [4, 5, 6, 7, 8, 1, 0] rfl)
                    · skip
                      refine lv_iconst (v := 1) hx hb dL_ofRange_121 (by decide) ?_
                      refine lv_goto (tgt := 126) hx hb dL_ofRange_122 (by decide) ?_
                      refine lv_iadd hx hb dL_ofRange_126 ?_
                      refine lv_topi (fun y_126 _ => ?_)
                      refine lv_istore (lv' := [(5, .int y_126), (8, .int 1), (7, .int y_32), (0, .ref am), (1, .ref ae), (2, .ref ag), (3, .int (nI 0)), (4, .int w), (6, .int (nI i))]) hx hb dL_ofRange_127 hl (by decide) rfl (fun ls hl => ?_)
                      refine lv_iinc (v := nI (i + 1)) (lv' := [(6, .int (nI (i + 1))), (5, .int y_126), (8, .int 1), (7, .int y_32), (0, .ref am), (1, .ref ae), (2, .ref ag), (3, .int (nI 0)), (4, .int w)]) hx hb dL_ofRange_129 hl (k := 8) rfl (nI_1 (i)) (by decide) rfl (fun ls hl => ?_)
                      refine lv_goto (tgt := 18) hx hb dL_ofRange_132 (by decide) ?_
                      exact ih_18 _ (by omega) (i + 1) y_126 rfl (by omega) _ (lv_sub hl [4, 5, 6, 7, 8, 1, 0] rfl)
                · skip
                  exact absurd c_82 hw
            · skip
              refine lv_goto (tgt := 129) hx hb dL_ofRange_56 (by decide) ?_
              refine lv_iinc (v := nI (i + 1)) (lv' := [(6, .int (nI (i + 1))), (7, .int y_32), (0, .ref am), (1, .ref ae), (2, .ref ag), (3, .int (nI 0)), (4, .int w), (5, .int acc)]) hx hb dL_ofRange_129 hl (k := 7) rfl (nI_1 (i)) (by decide) rfl (fun ls hl => ?_)
              refine lv_goto (tgt := 18) hx hb dL_ofRange_132 (by decide) ?_
              exact ih_18 _ (by omega) (i + 1) acc rfl (by omega) _ (lv_sub hl [2, 3, 4, 5, 6, 7, 0] rfl)
    exact hloop_18 _ 0 0 rfl (Nat.zero_le _) _ (lv_sub hl [2, 3, 4, 5, 6, 1, 0] rfl)
  · skip
    exact absurd c_3 hw
set_option maxHeartbeats 4000000 in
set_option maxRecDepth 100000 in
theorem c_L_rolled (l : Launch) (D : va_G) (cA cZ cL : ClassId) (ar : Nat) (fr : Nat → Int32) (ag : Nat) (fg : Nat → Int32) (h4 : fg 4 = nI 0) (k : Int32) : Met l yL_rolled wsL_rolled ({ frames := 0, cells := 0, slots := 0, locals := 0 } : Room) (va_Pc [.ref ar, .ref ag, .int k] (qPre D (qTy cA cZ cL) ([(ar, .inl (cA, 40, .inl (fr))), (ag, .inl (cA, 6, .inl (fg)))]))) (vp_Si (fun z => True)) 0 0 (fun _ => False) := by
  refine Met.ofW (cc := cL_rolled) (maxL := 4) (ret := (some .int)) (by decide) rfl ?_
  intro p e s m args below meth c s₁ B hml hv
  obtain ⟨rfl, hP, hK⟩ := hv
  have hx := B.exec
  have hb := B.bytes
  have hr := B.returns
  have hts := atoms_spec (ws := wsL_rolled) B.pre
  have hown : s.vm.findClass RL = some m.cls := findClass_of_methodNamed B.named
  have hlocks := B.notSynchronized
  have hl := lv_entry ([.ref ar, .ref ag, .int k]) (n := 4) (Nat.le_of_ble_eq_true rfl)
  rw [lg_entry_eq]
  generalize (lg_sl ([.ref ar, .ref ag, .int k]) ++ List.replicate (4 - (lg_sl ([.ref ar, .ref ag, .int k])).length) Slot.unset).toArray = ls at hl ⊢
  have hl : lv_has ls 4 [(0, .ref ar), (1, .ref ag), (2, .int k)] := hl
  refine lv_iconst (v := 0) hx hb dL_rolled_0 (by decide) ?_
  refine lv_istore_n (lv' := [(3, .int 0), (0, .ref ar), (1, .ref ag), (2, .int k)]) hx hb dL_rolled_1 rfl hl (by decide) rfl (fun ls hl => ?_)
  refine lv_iload_n hx hb dL_rolled_2 rfl (lv_at hl 0 rfl) ?_
  refine lv_aload_n hx hb dL_rolled_3 rfl (lv_at hl 2 rfl) ?_
  refine lv_iconst (v := 4) hx hb dL_rolled_4 (by decide) ?_
  refine va_iald hx hb hK hP 1 0 rfl rfl (by unfold vp_in; decide) dL_rolled_5 ?_
  refine lv_topi (fun v_5 hv_5 => ?_)
  have hv_5 : v_5 = nI 0 := hv_5.trans (by rw [cl4]; exact h4)
  subst hv_5
  refine lv_icmp_ge (tgt := 39) hx hb dL_rolled_6 (by decide) (fun c_6 => ?_) (fun c_6 => ?_)
  · skip
    refine lv_iconst (v := (-1)) hx hb dL_rolled_39 (by decide) ?_
    exact W.iret (v := (-1)) hx hb hr (fun t ht hW => ⟨(-1), rfl, trivial, ht⟩) (fun q h => nomatch h) dL_rolled_40
  · skip
    exact absurd (show nI 0 ≤ (0 : Int32) from by decide) c_6
end
section
set_option maxHeartbeats 4000000 in
set_option maxRecDepth 100000 in
/-- the law asks all that can be told: thirteen calls of it are refused -/
theorem c_L_isTold (l : Launch) (hl0 : l.stackTraces = false) (D : va_G) (cA cZ cL : ClassId) (ad q : Nat → Nat) (f : qFs) (g : qGs) (h : Nat → Nat → Int32) (y : Int32) (hR : RInv f h) : Met l yL_isTold wsL_isTold ({ frames := 9, cells := 60, slots := 360, locals := 158 } : Room) (va_Pc [.ref (ad 16), .int y, .ref (q 0), .ref (q 1), .ref (q 2), .ref (q 3), .ref (q 4), .ref (q 5)] (qPreN D (qTy cA cZ cL) (LW cA ad q f g h))) (qG (fun z n1 n2 => (z = 0 ∨ n1 + 13 ≤ n2))) 60 360 (fun _ => False) := by
  refine Met.ofW (cc := cL_isTold) (maxL := 12) (ret := (some .boolean)) (by decide) rfl ?_
  intro p e s m args below meth c s₁ B hml hv
  obtain ⟨rfl, hP, hK, hTH, hNC⟩ := hv
  have hx := B.exec
  have hb := B.bytes
  have hr := B.returns
  have hts := atoms_spec (ws := wsL_isTold) B.pre
  have hown : s.vm.findClass RL = some m.cls := findClass_of_methodNamed B.named
  have hlocks := B.notSynchronized
  have hS : va_S (fun _ => False) s.heap s.heap [] := va_S.rf
  have hg0 : s.heap.size + 0 ≤ s.heap.size := Nat.le_refl _
  have hl := lv_entry ([.ref (ad 16), .int y, .ref (q 0), .ref (q 1), .ref (q 2), .ref (q 3), .ref (q 4), .ref (q 5)]) (n := 12) (Nat.le_of_ble_eq_true rfl)
  rw [lg_entry_eq]
  generalize (lg_sl ([.ref (ad 16), .int y, .ref (q 0), .ref (q 1), .ref (q 2), .ref (q 3), .ref (q 4), .ref (q 5)]) ++ List.replicate (12 - (lg_sl ([.ref (ad 16), .int y, .ref (q 0), .ref (q 1), .ref (q 2), .ref (q 3), .ref (q 4), .ref (q 5)])).length) Slot.unset).toArray = ls at hl ⊢
  have hl : lv_has ls 12 [(0, .ref (ad 16)), (1, .int y), (2, .ref (q 0)), (3, .ref (q 1)), (4, .ref (q 2)), (5, .ref (q 3)), (6, .ref (q 4)), (7, .ref (q 5))] := hl
  obtain ⟨hI, h99, hm1, hm4, hm5, n, hn4, hn⟩ := hR
  refine W.widen (k := 0) (n := 6 * 0) (by omega) (by omega) ?_
  refine lv_iconst (v := 0) hx hb dL_isTold_0 (by decide) ?_
  refine lv_istore (lv' := [(8, .int 0), (0, .ref (ad 16)), (1, .int y), (2, .ref (q 0)), (3, .ref (q 1)), (4, .ref (q 2)), (5, .ref (q 3)), (6, .ref (q 4)), (7, .ref (q 5))]) hx hb dL_isTold_1 hl (by decide) rfl (fun ls hl => ?_)
  have hloop_3 : ∀ (nme : Nat) (sh : Nat), 4 - sh = nme → (sh ≤ 4) → ∀ (H : Heap) (locs : List Loc), va_P D vwCl (LW cA ad q f g h) H → va_S (fun _ => False) s.heap H locs → s.heap.size + 0 ≤ H.size → ∀ ls : Array Slot, lv_has ls 12 [(0, .ref (ad 16)), (1, .int y), (2, .ref (q 0)), (3, .ref (q 1)), (4, .ref (q 2)), (5, .ref (q 3)), (6, .ref (q 4)), (7, .ref (q 5)), (8, .int (nI sh))] → W p l e (headSpec wsL_isTold ({ frames := 9, cells := 60, slots := 360, locals := 158 } : Room)).room s m ([.ref (ad 16), .int y, .ref (q 0), .ref (q 1), .ref (q 2), .ref (q 3), .ref (q 4), .ref (q 5)] : List Value).toArray below meth c H locs (5 * sh) (6 * (5 * sh)) (MQ below (qG (fun z n1 n2 => (z = 0 ∨ n1 + 13 ≤ n2))) ([.ref (ad 16), .int y, .ref (q 0), .ref (q 1), .ref (q 2), .ref (q 3), .ref (q 4), .ref (q 5)] : List Value).toArray s 60 360 (fun _ => False)) (F0 m 3 ls []) := by
    intro nme
    induction nme using Nat.strongRecOn with
    | ind nme ih_3 =>
      intro sh hnme_3 hsh H locs hP hS hg0 ls hl
      refine lv_iload hx hb dL_isTold_3 (lv_at hl 8 rfl) ?_
      refine lv_iconst (v := 4) hx hb dL_isTold_5 (by decide) ?_
      refine lv_icmp_ge (tgt := 218) hx hb dL_isTold_6 (by decide) (fun c_6 => ?_) (fun c_6 => ?_)
      · skip
        refine lv_iconst (v := 0) hx hb dL_isTold_218 (by decide) ?_
        refine lv_istore (lv' := [(8, .int 0), (0, .ref (ad 16)), (1, .int y), (2, .ref (q 0)), (3, .ref (q 1)), (4, .ref (q 2)), (5, .ref (q 3)), (6, .ref (q 4)), (7, .ref (q 5))]) hx hb dL_isTold_219 hl (by decide) rfl (fun ls hl => ?_)
        have hloop_221 : ∀ (nme : Nat) (i : Nat), 1 - i = nme → (i ≤ 1) → ∀ (H : Heap) (locs : List Loc), va_P D vwCl (LW cA ad q f g h) H → va_S (fun _ => False) s.heap H locs → s.heap.size + 0 ≤ H.size → ∀ ls : Array Slot, lv_has ls 12 [(0, .ref (ad 16)), (1, .int y), (2, .ref (q 0)), (3, .ref (q 1)), (4, .ref (q 2)), (5, .ref (q 3)), (6, .ref (q 4)), (7, .ref (q 5)), (8, .int (nI i))] → W p l e (headSpec wsL_isTold ({ frames := 9, cells := 60, slots := 360, locals := 158 } : Room)).room s m ([.ref (ad 16), .int y, .ref (q 0), .ref (q 1), .ref (q 2), .ref (q 3), .ref (q 4), .ref (q 5)] : List Value).toArray below meth c H locs (20 + i) (6 * (20 + i)) (MQ below (qG (fun z n1 n2 => (z = 0 ∨ n1 + 13 ≤ n2))) ([.ref (ad 16), .int y, .ref (q 0), .ref (q 1), .ref (q 2), .ref (q 3), .ref (q 4), .ref (q 5)] : List Value).toArray s 60 360 (fun _ => False)) (F0 m 221 ls []) := by
          intro nme
          induction nme using Nat.strongRecOn with
          | ind nme ih_221 =>
            intro i hnme_221 hi2 H locs hP hS hg0 ls hl
            refine lv_iload hx hb dL_isTold_221 (lv_at hl 8 rfl) ?_
            refine lv_aload hx hb dL_isTold_223 (lv_at hl 7 rfl) ?_
            refine lv_iconst (v := 1) hx hb dL_isTold_225 (by decide) ?_
            refine va_iald hx hb hK hP 5 0 rfl rfl (by unfold vp_in; decide) dL_isTold_226 ?_
            refine lv_topi (fun v_226 hv_226 => ?_)
            have hv_226 : v_226 = nI 1 := hv_226.trans (by rw [cl1]; exact hm1)
            subst hv_226
            refine lv_icmp_ge (tgt := 258) hx hb dL_isTold_227 (by decide) (fun c_227 => ?_) (fun c_227 => ?_)
            · skip
              refine lv_iconst (v := 0) hx hb dL_isTold_258 (by decide) ?_
              refine lv_istore (lv' := [(8, .int 0), (0, .ref (ad 16)), (1, .int y), (2, .ref (q 0)), (3, .ref (q 1)), (4, .ref (q 2)), (5, .ref (q 3)), (6, .ref (q 4)), (7, .ref (q 5))]) hx hb dL_isTold_259 hl (by decide) rfl (fun ls hl => ?_)
              have hloop_261 : ∀ (nme : Nat) (k : Nat), 4 - k = nme → (k ≤ 4) → ∀ (H : Heap) (locs : List Loc), va_P D vwCl (LW cA ad q f g h) H → va_S (fun _ => False) s.heap H locs → s.heap.size + 0 ≤ H.size → ∀ ls : Array Slot, lv_has ls 12 [(0, .ref (ad 16)), (1, .int y), (2, .ref (q 0)), (3, .ref (q 1)), (4, .ref (q 2)), (5, .ref (q 3)), (6, .ref (q 4)), (7, .ref (q 5)), (8, .int (nI k))] → W p l e (headSpec wsL_isTold ({ frames := 9, cells := 60, slots := 360, locals := 158 } : Room)).room s m ([.ref (ad 16), .int y, .ref (q 0), .ref (q 1), .ref (q 2), .ref (q 3), .ref (q 4), .ref (q 5)] : List Value).toArray below meth c H locs (21 + 3 * k) (6 * (21 + 3 * k)) (MQ below (qG (fun z n1 n2 => (z = 0 ∨ n1 + 13 ≤ n2))) ([.ref (ad 16), .int y, .ref (q 0), .ref (q 1), .ref (q 2), .ref (q 3), .ref (q 4), .ref (q 5)] : List Value).toArray s 60 360 (fun _ => False)) (F0 m 261 ls []) := by
                intro nme
                induction nme using Nat.strongRecOn with
                | ind nme ih_261 =>
                  intro k hnme_261 hk4 H locs hP hS hg0 ls hl
                  refine lv_iload hx hb dL_isTold_261 (lv_at hl 8 rfl) ?_
                  refine lv_iconst (v := 4) hx hb dL_isTold_263 (by decide) ?_
                  refine lv_icmp_ge (tgt := 359) hx hb dL_isTold_264 (by decide) (fun c_264 => ?_) (fun c_264 => ?_)
                  · skip
                    refine W.widen (k := 33) (n := 6 * 33) (by omega) (by omega) ?_
                    refine lv_iconst (v := 0) hx hb dL_isTold_359 (by decide) ?_
                    refine lv_istore (lv' := [(8, .int 0), (0, .ref (ad 16)), (1, .int y), (2, .ref (q 0)), (3, .ref (q 1)), (4, .ref (q 2)), (5, .ref (q 3)), (6, .ref (q 4)), (7, .ref (q 5))]) hx hb dL_isTold_360 hl (by decide) rfl (fun ls hl => ?_)
                    refine lv_iload hx hb dL_isTold_362 (lv_at hl 0 rfl) ?_
                    refine lv_aload hx hb dL_isTold_364 (lv_at hl 8 rfl) ?_
                    refine lv_iconst (v := 5) hx hb dL_isTold_366 (by decide) ?_
                    refine va_iald hx hb hK hP 5 0 rfl rfl (by unfold vp_in; decide) dL_isTold_367 ?_
                    refine lv_topi (fun v_367 hv_367 => ?_)
                    have hv_367 : v_367 = nI 0 := hv_367.trans (by rw [cl5]; exact hm5)
                    subst hv_367
                    refine lv_icmp_ge (tgt := 418) hx hb dL_isTold_368 (by decide) (fun c_368 => ?_) (fun c_368 => ?_)
                    · skip
                      refine lv_aload_n hx hb dL_isTold_418 rfl (lv_at hl 1 rfl) ?_
                      have hPc := hP.sub (ws' := xW cA ad f g) [6, 7, 8, 9, 10, 11, 12, 13, 14, 15, 16, 17] rfl
                      refine vp_callSi (W.runV (As := []) (rest := []) ⟨hx, hb, hml, hown, hts⟩ (c_X0_ranges l D cA cZ cL ad f g) (cwV 0 hts gL_isTold_X0_ranges rfl rfl rfl (by decide +kernel) ⟨Nat.le_of_ble_eq_true rfl, Nat.le_of_ble_eq_true rfl⟩) ⟨qPre_blind, va_recv hK hPc (ci := 0) (q0 := 0) rfl rfl, qPre_at hPc hK⟩ rfl rfl hl.1 rfl (lv_room (Nat.le_of_ble_eq_true rfl)) dL_isTold_419 ⟨by show 33 + 0 ≤ 60; omega, by show 6 * (33) + 0 ≤ 360; omega⟩) (fun z _ => ?_)
                      refine lv_topi (fun y_419 _ => ?_)
                      refine lv_aload hx hb dL_isTold_422 (lv_at hl 8 rfl) ?_
                      refine lv_iconst (v := 1) hx hb dL_isTold_424 (by decide) ?_
                      refine va_iald hx hb hK hP 5 0 rfl rfl (by unfold vp_in; decide) dL_isTold_425 ?_
                      refine lv_topi (fun y_425 _ => ?_)
                      refine lv_icmp_ne (tgt := 586) hx hb dL_isTold_426 (by decide) (fun c_426 => ?_) (fun c_426 => ?_)
                      · skip
                        refine lv_iconst (v := 0) hx hb dL_isTold_586 (by decide) ?_
                        refine W.widen (k := 60) (n := 360) (by omega) (by omega) ?_
                        exact W.zret (v := 0) hx hb hr rfl (fun t ht hW => ⟨0, rfl, by first | (rw [ht]; done) | (rw [ht]; exact hS.1), fun q hq => by first | (rw [ht]; done) | (rw [ht]; exact hS.2.1 q hq (fun h => h)), by rw [ht]; exact (Or.inl rfl)⟩) hS.2.2 dL_isTold_587
                      · skip
                        refine lv_aload_n hx hb dL_isTold_429 rfl (lv_at hl 1 rfl) ?_
                        refine lv_iconst (v := 4) hx hb dL_isTold_430 (by decide) ?_
                        have hPc := hP.sub (ws' := xW cA ad f g) [6, 7, 8, 9, 10, 11, 12, 13, 14, 15, 16, 17] rfl
                        refine qb_grow (vx_runSW (As := [.ref (ad 16), .int 4]) (rest := []) ⟨hx, hb, hml, hown, hts⟩ (c_L_rows l hl0 D cA cZ cL ad f g 4) (vx_cwSW 2 hts gL_isTold_L_rows rfl rfl rfl (by decide +kernel) ⟨Nat.le_of_ble_eq_true rfl, Nat.le_of_ble_eq_true rfl⟩) ⟨qPreN_blind, qPreN_at hPc hK (qTH_grow hTH hNC hS)⟩ rfl rfl hl.1 rfl (lv_room (Nat.le_of_ble_eq_true rfl)) dL_isTold_431 ⟨by show 33 + 1 ≤ 60; omega, by show 6 * (33) + 6 ≤ 360; omega⟩) hP hS (fun z_431 H1 locs hu_431 hmo hP hS => ?_)
                        have hg1 : s.heap.size + 1 ≤ H1.size := by have h7 := hu_431 (by decide); have h8 := hg0; omega
                        clear hPc
                        refine W.widen (k := 34) (n := 6 * (34)) (by omega) (by omega) ?_
                        refine lv_sipush (v := (-7100)) hx hb dL_isTold_434 (by decide) ?_
                        refine lv_icmp_ne (tgt := 586) hx hb dL_isTold_437 (by decide) (fun c_437 => ?_) (fun c_437 => ?_)
                        · skip
                          refine lv_iconst (v := 0) hx hb dL_isTold_586 (by decide) ?_
                          refine W.widen (k := 60) (n := 360) (by omega) (by omega) ?_
                          exact W.zret (v := 0) hx hb hr rfl (fun t ht hW => ⟨0, rfl, by first | (rw [ht]; done) | (rw [ht]; exact hS.1), fun q hq => by first | (rw [ht]; done) | (rw [ht]; exact hS.2.1 q hq (fun h => h)), by rw [ht]; exact (Or.inl rfl)⟩) hS.2.2 dL_isTold_587
                        · skip
                          refine lv_aload_n hx hb dL_isTold_440 rfl (lv_at hl 1 rfl) ?_
                          refine lv_iconst (v := (-1)) hx hb dL_isTold_441 (by decide) ?_
                          have hPc := hP.sub (ws' := xW cA ad f g) [6, 7, 8, 9, 10, 11, 12, 13, 14, 15, 16, 17] rfl
                          refine qb_grow (vx_runSW (As := [.ref (ad 16), .int (-1)]) (rest := []) ⟨hx, hb, hml, hown, hts⟩ (c_L_rows l hl0 D cA cZ cL ad f g (-1)) (vx_cwSW 2 hts gL_isTold_L_rows rfl rfl rfl (by decide +kernel) ⟨Nat.le_of_ble_eq_true rfl, Nat.le_of_ble_eq_true rfl⟩) ⟨qPreN_blind, qPreN_at hPc hK (qTH_grow hTH hNC hS)⟩ rfl rfl hl.1 rfl (lv_room (Nat.le_of_ble_eq_true rfl)) dL_isTold_442 ⟨by show 34 + 1 ≤ 60; omega, by show 6 * (34) + 6 ≤ 360; omega⟩) hP hS (fun z_442 H1 locs hu_442 hmo hP hS => ?_)
                          have hg2 : s.heap.size + 2 ≤ H1.size := by have h7 := hu_442 (by decide); have h8 := hg1; omega
                          clear hPc
                          refine W.widen (k := 35) (n := 6 * (35)) (by omega) (by omega) ?_
                          refine lv_sipush (v := (-7100)) hx hb dL_isTold_445 (by decide) ?_
                          refine lv_icmp_ne (tgt := 586) hx hb dL_isTold_448 (by decide) (fun c_448 => ?_) (fun c_448 => ?_)
                          · skip
                            refine lv_iconst (v := 0) hx hb dL_isTold_586 (by decide) ?_
                            refine W.widen (k := 60) (n := 360) (by omega) (by omega) ?_
                            exact W.zret (v := 0) hx hb hr rfl (fun t ht hW => ⟨0, rfl, by first | (rw [ht]; done) | (rw [ht]; exact hS.1), fun q hq => by first | (rw [ht]; done) | (rw [ht]; exact hS.2.1 q hq (fun h => h)), by rw [ht]; exact (Or.inl rfl)⟩) hS.2.2 dL_isTold_587
                          · skip
                            refine lv_aload_n hx hb dL_isTold_451 rfl (lv_at hl 1 rfl) ?_
                            refine lv_iconst (v := 4) hx hb dL_isTold_452 (by decide) ?_
                            have hPc := hP.sub (ws' := xW cA ad f g) [6, 7, 8, 9, 10, 11, 12, 13, 14, 15, 16, 17] rfl
                            refine qb_grow (vx_runSW (As := [.ref (ad 16), .int 4]) (rest := []) ⟨hx, hb, hml, hown, hts⟩ (c_L_inDistrict l hl0 D cA cZ cL ad f g 4 1 0 hI) (vx_cwSW 2 hts gL_isTold_L_inDistrict rfl rfl rfl (by decide +kernel) ⟨Nat.le_of_ble_eq_true rfl, Nat.le_of_ble_eq_true rfl⟩) ⟨qPreN_blind, qPreN_at hPc hK (qTH_grow hTH hNC hS)⟩ rfl rfl hl.1 rfl (lv_room (Nat.le_of_ble_eq_true rfl)) dL_isTold_453 ⟨by show 35 + 1 ≤ 60; omega, by show 6 * (35) + 6 ≤ 360; omega⟩) hP hS (fun z_453 H1 locs hu_453 hmo hP hS => ?_)
                            have hg3 : s.heap.size + 3 ≤ H1.size := by have h7 := hu_453 (by decide); have h8 := hg2; omega
                            clear hPc
                            refine W.widen (k := 36) (n := 6 * (36)) (by omega) (by omega) ?_
                            refine lv_sipush (v := (-7100)) hx hb dL_isTold_456 (by decide) ?_
                            refine lv_icmp_ne (tgt := 586) hx hb dL_isTold_459 (by decide) (fun c_459 => ?_) (fun c_459 => ?_)
                            · skip
                              refine lv_iconst (v := 0) hx hb dL_isTold_586 (by decide) ?_
                              refine W.widen (k := 60) (n := 360) (by omega) (by omega) ?_
                              exact W.zret (v := 0) hx hb hr rfl (fun t ht hW => ⟨0, rfl, by first | (rw [ht]; done) | (rw [ht]; exact hS.1), fun q hq => by first | (rw [ht]; done) | (rw [ht]; exact hS.2.1 q hq (fun h => h)), by rw [ht]; exact (Or.inl rfl)⟩) hS.2.2 dL_isTold_587
                            · skip
                              refine lv_aload_n hx hb dL_isTold_462 rfl (lv_at hl 1 rfl) ?_
                              refine lv_iconst (v := 4) hx hb dL_isTold_463 (by decide) ?_
                              refine lv_iconst (v := 3) hx hb dL_isTold_464 (by decide) ?_
                              have hPc := hP.sub (ws' := xW cA ad f g) [6, 7, 8, 9, 10, 11, 12, 13, 14, 15, 16, 17] rfl
                              refine qb_grow (vx_runSW (As := [.ref (ad 16), .int 4, .int 3]) (rest := []) ⟨hx, hb, hml, hown, hts⟩ (c_L_counted l hl0 D cA cZ cL ad f g 4 3 1 0 hI) (vx_cwSW 3 hts gL_isTold_L_counted rfl rfl rfl (by decide +kernel) ⟨Nat.le_of_ble_eq_true rfl, Nat.le_of_ble_eq_true rfl⟩) ⟨qPreN_blind, qPreN_at hPc hK (qTH_grow hTH hNC hS)⟩ rfl rfl hl.1 rfl (lv_room (Nat.le_of_ble_eq_true rfl)) dL_isTold_465 ⟨by show 36 + 1 ≤ 60; omega, by show 6 * (36) + 6 ≤ 360; omega⟩) hP hS (fun z_465 H1 locs hu_465 hmo hP hS => ?_)
                              have hg4 : s.heap.size + 4 ≤ H1.size := by have h7 := hu_465 (by decide); have h8 := hg3; omega
                              clear hPc
                              refine W.widen (k := 37) (n := 6 * (37)) (by omega) (by omega) ?_
                              refine lv_sipush (v := (-7100)) hx hb dL_isTold_468 (by decide) ?_
                              refine lv_icmp_ne (tgt := 586) hx hb dL_isTold_471 (by decide) (fun c_471 => ?_) (fun c_471 => ?_)
                              · skip
                                refine lv_iconst (v := 0) hx hb dL_isTold_586 (by decide) ?_
                                refine W.widen (k := 60) (n := 360) (by omega) (by omega) ?_
                                exact W.zret (v := 0) hx hb hr rfl (fun t ht hW => ⟨0, rfl, by first | (rw [ht]; done) | (rw [ht]; exact hS.1), fun q hq => by first | (rw [ht]; done) | (rw [ht]; exact hS.2.1 q hq (fun h => h)), by rw [ht]; exact (Or.inl rfl)⟩) hS.2.2 dL_isTold_587
                              · skip
                                refine lv_aload_n hx hb dL_isTold_474 rfl (lv_at hl 1 rfl) ?_
                                refine lv_iconst (v := 0) hx hb dL_isTold_475 (by decide) ?_
                                refine lv_iconst (v := 3) hx hb dL_isTold_476 (by decide) ?_
                                have hPc := hP.sub (ws' := xW cA ad f g) [6, 7, 8, 9, 10, 11, 12, 13, 14, 15, 16, 17] rfl
                                refine qb_grow (vx_runSW (As := [.ref (ad 16), .int 0, .int 3]) (rest := []) ⟨hx, hb, hml, hown, hts⟩ (c_L_counted l hl0 D cA cZ cL ad f g 0 3 1 0 hI) (vx_cwSW 3 hts gL_isTold_L_counted rfl rfl rfl (by decide +kernel) ⟨Nat.le_of_ble_eq_true rfl, Nat.le_of_ble_eq_true rfl⟩) ⟨qPreN_blind, qPreN_at hPc hK (qTH_grow hTH hNC hS)⟩ rfl rfl hl.1 rfl (lv_room (Nat.le_of_ble_eq_true rfl)) dL_isTold_477 ⟨by show 37 + 1 ≤ 60; omega, by show 6 * (37) + 6 ≤ 360; omega⟩) hP hS (fun z_477 H1 locs hu_477 hmo hP hS => ?_)
                                have hg5 : s.heap.size + 5 ≤ H1.size := by have h7 := hu_477 (by decide); have h8 := hg4; omega
                                clear hPc
                                refine W.widen (k := 38) (n := 6 * (38)) (by omega) (by omega) ?_
                                refine lv_sipush (v := (-7200)) hx hb dL_isTold_480 (by decide) ?_
                                refine lv_icmp_ne (tgt := 586) hx hb dL_isTold_483 (by decide) (fun c_483 => ?_) (fun c_483 => ?_)
                                · skip
                                  refine lv_iconst (v := 0) hx hb dL_isTold_586 (by decide) ?_
                                  refine W.widen (k := 60) (n := 360) (by omega) (by omega) ?_
                                  exact W.zret (v := 0) hx hb hr rfl (fun t ht hW => ⟨0, rfl, by first | (rw [ht]; done) | (rw [ht]; exact hS.1), fun q hq => by first | (rw [ht]; done) | (rw [ht]; exact hS.2.1 q hq (fun h => h)), by rw [ht]; exact (Or.inl rfl)⟩) hS.2.2 dL_isTold_587
                                · skip
                                  refine lv_aload_n hx hb dL_isTold_486 rfl (lv_at hl 1 rfl) ?_
                                  refine lv_iconst (v := 0) hx hb dL_isTold_487 (by decide) ?_
                                  refine lv_iconst (v := (-1)) hx hb dL_isTold_488 (by decide) ?_
                                  have hPc := hP.sub (ws' := xW cA ad f g) [6, 7, 8, 9, 10, 11, 12, 13, 14, 15, 16, 17] rfl
                                  refine qb_grow (vx_runSW (As := [.ref (ad 16), .int 0, .int (-1)]) (rest := []) ⟨hx, hb, hml, hown, hts⟩ (c_L_counted l hl0 D cA cZ cL ad f g 0 (-1) 1 0 hI) (vx_cwSW 3 hts gL_isTold_L_counted rfl rfl rfl (by decide +kernel) ⟨Nat.le_of_ble_eq_true rfl, Nat.le_of_ble_eq_true rfl⟩) ⟨qPreN_blind, qPreN_at hPc hK (qTH_grow hTH hNC hS)⟩ rfl rfl hl.1 rfl (lv_room (Nat.le_of_ble_eq_true rfl)) dL_isTold_489 ⟨by show 38 + 1 ≤ 60; omega, by show 6 * (38) + 6 ≤ 360; omega⟩) hP hS (fun z_489 H1 locs hu_489 hmo hP hS => ?_)
                                  have hg6 : s.heap.size + 6 ≤ H1.size := by have h7 := hu_489 (by decide); have h8 := hg5; omega
                                  clear hPc
                                  refine W.widen (k := 39) (n := 6 * (39)) (by omega) (by omega) ?_
                                  refine lv_sipush (v := (-7200)) hx hb dL_isTold_492 (by decide) ?_
                                  refine lv_icmp_ne (tgt := 586) hx hb dL_isTold_495 (by decide) (fun c_495 => ?_) (fun c_495 => ?_)
                                  · skip
                                    refine lv_iconst (v := 0) hx hb dL_isTold_586 (by decide) ?_
                                    refine W.widen (k := 60) (n := 360) (by omega) (by omega) ?_
                                    exact W.zret (v := 0) hx hb hr rfl (fun t ht hW => ⟨0, rfl, by first | (rw [ht]; done) | (rw [ht]; exact hS.1), fun q hq => by first | (rw [ht]; done) | (rw [ht]; exact hS.2.1 q hq (fun h => h)), by rw [ht]; exact (Or.inl rfl)⟩) hS.2.2 dL_isTold_587
                                  · skip
                                    refine lv_aload_n hx hb dL_isTold_498 rfl (lv_at hl 1 rfl) ?_
                                    refine lv_bipush (v := 100) hx hb dL_isTold_499 (by decide) ?_
                                    have hPc := hP.sub (ws' := xW cA ad f g) [6, 7, 8, 9, 10, 11, 12, 13, 14, 15, 16, 17] rfl
                                    refine qb_grow (vx_runSW (As := [.ref (ad 16), .int 100]) (rest := []) ⟨hx, hb, hml, hown, hts⟩ (c_L_address l hl0 D cA cZ cL ad f g 100 1 0 hI) (vx_cwSW 2 hts gL_isTold_L_address rfl rfl rfl (by decide +kernel) ⟨Nat.le_of_ble_eq_true rfl, Nat.le_of_ble_eq_true rfl⟩) ⟨qPreN_blind, qPreN_at hPc hK (qTH_grow hTH hNC hS)⟩ rfl rfl hl.1 rfl (lv_room (Nat.le_of_ble_eq_true rfl)) dL_isTold_501 ⟨by show 39 + 1 ≤ 60; omega, by show 6 * (39) + 6 ≤ 360; omega⟩) hP hS (fun z_501 H1 locs hu_501 hmo hP hS => ?_)
                                    have hg7 : s.heap.size + 7 ≤ H1.size := by have h7 := hu_501 (by decide); have h8 := hg6; omega
                                    clear hPc
                                    refine W.widen (k := 40) (n := 6 * (40)) (by omega) (by omega) ?_
                                    refine lv_sipush (v := (-7100)) hx hb dL_isTold_504 (by decide) ?_
                                    refine lv_icmp_ne (tgt := 586) hx hb dL_isTold_507 (by decide) (fun c_507 => ?_) (fun c_507 => ?_)
                                    · skip
                                      refine lv_iconst (v := 0) hx hb dL_isTold_586 (by decide) ?_
                                      refine W.widen (k := 60) (n := 360) (by omega) (by omega) ?_
                                      exact W.zret (v := 0) hx hb hr rfl (fun t ht hW => ⟨0, rfl, by first | (rw [ht]; done) | (rw [ht]; exact hS.1), fun q hq => by first | (rw [ht]; done) | (rw [ht]; exact hS.2.1 q hq (fun h => h)), by rw [ht]; exact (Or.inl rfl)⟩) hS.2.2 dL_isTold_587
                                    · skip
                                      refine lv_aload_n hx hb dL_isTold_510 rfl (lv_at hl 1 rfl) ?_
                                      refine lv_iconst (v := (-1)) hx hb dL_isTold_511 (by decide) ?_
                                      have hPc := hP.sub (ws' := xW cA ad f g) [6, 7, 8, 9, 10, 11, 12, 13, 14, 15, 16, 17] rfl
                                      refine qb_grow (vx_runSW (As := [.ref (ad 16), .int (-1)]) (rest := []) ⟨hx, hb, hml, hown, hts⟩ (c_L_address l hl0 D cA cZ cL ad f g (-1) 1 0 hI) (vx_cwSW 2 hts gL_isTold_L_address rfl rfl rfl (by decide +kernel) ⟨Nat.le_of_ble_eq_true rfl, Nat.le_of_ble_eq_true rfl⟩) ⟨qPreN_blind, qPreN_at hPc hK (qTH_grow hTH hNC hS)⟩ rfl rfl hl.1 rfl (lv_room (Nat.le_of_ble_eq_true rfl)) dL_isTold_512 ⟨by show 40 + 1 ≤ 60; omega, by show 6 * (40) + 6 ≤ 360; omega⟩) hP hS (fun z_512 H1 locs hu_512 hmo hP hS => ?_)
                                      have hg8 : s.heap.size + 8 ≤ H1.size := by have h7 := hu_512 (by decide); have h8 := hg7; omega
                                      clear hPc
                                      refine W.widen (k := 41) (n := 6 * (41)) (by omega) (by omega) ?_
                                      refine lv_sipush (v := (-7100)) hx hb dL_isTold_515 (by decide) ?_
                                      refine lv_icmp_ne (tgt := 586) hx hb dL_isTold_518 (by decide) (fun c_518 => ?_) (fun c_518 => ?_)
                                      · skip
                                        refine lv_iconst (v := 0) hx hb dL_isTold_586 (by decide) ?_
                                        refine W.widen (k := 60) (n := 360) (by omega) (by omega) ?_
                                        exact W.zret (v := 0) hx hb hr rfl (fun t ht hW => ⟨0, rfl, by first | (rw [ht]; done) | (rw [ht]; exact hS.1), fun q hq => by first | (rw [ht]; done) | (rw [ht]; exact hS.2.1 q hq (fun h => h)), by rw [ht]; exact (Or.inl rfl)⟩) hS.2.2 dL_isTold_587
                                      · skip
                                        refine lv_aload_n hx hb dL_isTold_521 rfl (lv_at hl 1 rfl) ?_
                                        refine lv_bipush (v := 100) hx hb dL_isTold_522 (by decide) ?_
                                        have hPc := hP.sub (ws' := xW cA ad f g) [6, 7, 8, 9, 10, 11, 12, 13, 14, 15, 16, 17] rfl
                                        refine qb_grow (vx_runSW (As := [.ref (ad 16), .int 100]) (rest := []) ⟨hx, hb, hml, hown, hts⟩ (c_L_onRoll l hl0 D cA cZ cL ad f g 100) (vx_cwSW 2 hts gL_isTold_L_onRoll rfl rfl rfl (by decide +kernel) ⟨Nat.le_of_ble_eq_true rfl, Nat.le_of_ble_eq_true rfl⟩) ⟨qPreN_blind, qPreN_at hPc hK (qTH_grow hTH hNC hS)⟩ rfl rfl hl.1 rfl (lv_room (Nat.le_of_ble_eq_true rfl)) dL_isTold_524 ⟨by show 41 + 1 ≤ 60; omega, by show 6 * (41) + 6 ≤ 360; omega⟩) hP hS (fun z_524 H1 locs hu_524 hmo hP hS => ?_)
                                        have hg9 : s.heap.size + 9 ≤ H1.size := by have h7 := hu_524 (by decide); have h8 := hg8; omega
                                        clear hPc
                                        refine W.widen (k := 42) (n := 6 * (42)) (by omega) (by omega) ?_
                                        refine lv_sipush (v := (-7100)) hx hb dL_isTold_527 (by decide) ?_
                                        refine lv_icmp_ne (tgt := 586) hx hb dL_isTold_530 (by decide) (fun c_530 => ?_) (fun c_530 => ?_)
                                        · skip
                                          refine lv_iconst (v := 0) hx hb dL_isTold_586 (by decide) ?_
                                          refine W.widen (k := 60) (n := 360) (by omega) (by omega) ?_
                                          exact W.zret (v := 0) hx hb hr rfl (fun t ht hW => ⟨0, rfl, by first | (rw [ht]; done) | (rw [ht]; exact hS.1), fun q hq => by first | (rw [ht]; done) | (rw [ht]; exact hS.2.1 q hq (fun h => h)), by rw [ht]; exact (Or.inl rfl)⟩) hS.2.2 dL_isTold_587
                                        · skip
                                          refine lv_aload_n hx hb dL_isTold_533 rfl (lv_at hl 1 rfl) ?_
                                          refine lv_ldc (v := (-2147483648)) hx hb hown (hts _ (List.mem_cons_of_mem _ (List.mem_append_left _ (List.mem_append_left _ (List.mem_append_left _ (List.mem_append_left _ (List.mem_of_getElem? (i := 0) rfl))))))) dL_isTold_534 ?_
                                          have hPc := hP.sub (ws' := xW cA ad f g) [6, 7, 8, 9, 10, 11, 12, 13, 14, 15, 16, 17] rfl
                                          refine qb_grow (vx_runSW (As := [.ref (ad 16), .int (-2147483648)]) (rest := []) ⟨hx, hb, hml, hown, hts⟩ (c_L_rangeOf l hl0 D cA cZ cL ad f g (-2147483648) 1 0 hI) (vx_cwSW 2 hts gL_isTold_L_rangeOf rfl rfl rfl (by decide +kernel) ⟨Nat.le_of_ble_eq_true rfl, Nat.le_of_ble_eq_true rfl⟩) ⟨qPreN_blind, qPreN_at hPc hK (qTH_grow hTH hNC hS)⟩ rfl rfl hl.1 rfl (lv_room (Nat.le_of_ble_eq_true rfl)) dL_isTold_536 ⟨by show 42 + 1 ≤ 60; omega, by show 6 * (42) + 6 ≤ 360; omega⟩) hP hS (fun z_536 H1 locs hu_536 hmo hP hS => ?_)
                                          have hg10 : s.heap.size + 10 ≤ H1.size := by have h7 := hu_536 (by decide); have h8 := hg9; omega
                                          clear hPc
                                          refine W.widen (k := 43) (n := 6 * (43)) (by omega) (by omega) ?_
                                          refine lv_sipush (v := (-7100)) hx hb dL_isTold_539 (by decide) ?_
                                          refine lv_icmp_ne (tgt := 586) hx hb dL_isTold_542 (by decide) (fun c_542 => ?_) (fun c_542 => ?_)
                                          · skip
                                            refine lv_iconst (v := 0) hx hb dL_isTold_586 (by decide) ?_
                                            refine W.widen (k := 60) (n := 360) (by omega) (by omega) ?_
                                            exact W.zret (v := 0) hx hb hr rfl (fun t ht hW => ⟨0, rfl, by first | (rw [ht]; done) | (rw [ht]; exact hS.1), fun q hq => by first | (rw [ht]; done) | (rw [ht]; exact hS.2.1 q hq (fun h => h)), by rw [ht]; exact (Or.inl rfl)⟩) hS.2.2 dL_isTold_587
                                          · skip
                                            refine lv_aload_n hx hb dL_isTold_545 rfl (lv_at hl 1 rfl) ?_
                                            refine lv_ldc (v := 2147483647) hx hb hown (hts _ (List.mem_cons_of_mem _ (List.mem_append_left _ (List.mem_append_left _ (List.mem_append_left _ (List.mem_append_left _ (List.mem_of_getElem? (i := 1) rfl))))))) dL_isTold_546 ?_
                                            have hPc := hP.sub (ws' := xW cA ad f g) [6, 7, 8, 9, 10, 11, 12, 13, 14, 15, 16, 17] rfl
                                            refine qb_grow (vx_runSW (As := [.ref (ad 16), .int 2147483647]) (rest := []) ⟨hx, hb, hml, hown, hts⟩ (c_L_shardOf l hl0 D cA cZ cL ad f g 2147483647 1 0 hI) (vx_cwSW 2 hts gL_isTold_L_shardOf rfl rfl rfl (by decide +kernel) ⟨Nat.le_of_ble_eq_true rfl, Nat.le_of_ble_eq_true rfl⟩) ⟨qPreN_blind, qPreN_at hPc hK (qTH_grow hTH hNC hS)⟩ rfl rfl hl.1 rfl (lv_room (Nat.le_of_ble_eq_true rfl)) dL_isTold_548 ⟨by show 43 + 1 ≤ 60; omega, by show 6 * (43) + 6 ≤ 360; omega⟩) hP hS (fun z_548 H1 locs hu_548 hmo hP hS => ?_)
                                            have hg11 : s.heap.size + 11 ≤ H1.size := by have h7 := hu_548 (fun q => absurd q.2 (by rw [hI.1]; decide)); have h8 := hg10; omega
                                            clear hPc
                                            refine W.widen (k := 44) (n := 6 * (44)) (by omega) (by omega) ?_
                                            refine lv_sipush (v := (-7100)) hx hb dL_isTold_551 (by decide) ?_
                                            refine lv_icmp_ne (tgt := 586) hx hb dL_isTold_554 (by decide) (fun c_554 => ?_) (fun c_554 => ?_)
                                            · skip
                                              refine lv_iconst (v := 0) hx hb dL_isTold_586 (by decide) ?_
                                              refine W.widen (k := 60) (n := 360) (by omega) (by omega) ?_
                                              exact W.zret (v := 0) hx hb hr rfl (fun t ht hW => ⟨0, rfl, by first | (rw [ht]; done) | (rw [ht]; exact hS.1), fun q hq => by first | (rw [ht]; done) | (rw [ht]; exact hS.2.1 q hq (fun h => h)), by rw [ht]; exact (Or.inl rfl)⟩) hS.2.2 dL_isTold_587
                                            · skip
                                              refine lv_aload_n hx hb dL_isTold_557 rfl (lv_at hl 1 rfl) ?_
                                              refine lv_aload hx hb dL_isTold_558 (lv_at hl 8 rfl) ?_
                                              refine lv_iconst (v := 5) hx hb dL_isTold_560 (by decide) ?_
                                              refine va_iald hx hb hK hP 5 0 rfl rfl (by unfold vp_in; decide) dL_isTold_561 ?_
                                              refine lv_topi (fun v_561 hv_561 => ?_)
                                              have hv_561 : v_561 = nI 0 := hv_561.trans (by rw [cl5]; exact hm5)
                                              subst hv_561
                                              have hPc := hP.sub (ws' := xW cA ad f g) [6, 7, 8, 9, 10, 11, 12, 13, 14, 15, 16, 17] rfl
                                              refine qb_grow (vx_runSW (As := [.ref (ad 16), .int (nI 0)]) (rest := []) ⟨hx, hb, hml, hown, hts⟩ (c_L_stateOf l hl0 D cA cZ cL ad f g (nI 0) 1 0 hI) (vx_cwSW 2 hts gL_isTold_L_stateOf rfl rfl rfl (by decide +kernel) ⟨Nat.le_of_ble_eq_true rfl, Nat.le_of_ble_eq_true rfl⟩) ⟨qPreN_blind, qPreN_at hPc hK (qTH_grow hTH hNC hS)⟩ rfl rfl hl.1 rfl (lv_room (Nat.le_of_ble_eq_true rfl)) dL_isTold_562 ⟨by show 44 + 1 ≤ 60; omega, by show 6 * (44) + 6 ≤ 360; omega⟩) hP hS (fun z_562 H1 locs hu_562 hmo hP hS => ?_)
                                              have hg12 : s.heap.size + 12 ≤ H1.size := by have h7 := hu_562 (fun q => absurd q.2 (by rw [hI.2.2.2.1]; decide)); have h8 := hg11; omega
                                              clear hPc
                                              refine W.widen (k := 45) (n := 6 * (45)) (by omega) (by omega) ?_
                                              refine lv_sipush (v := (-7100)) hx hb dL_isTold_565 (by decide) ?_
                                              refine lv_icmp_ne (tgt := 586) hx hb dL_isTold_568 (by decide) (fun c_568 => ?_) (fun c_568 => ?_)
                                              · skip
                                                refine lv_iconst (v := 0) hx hb dL_isTold_586 (by decide) ?_
                                                refine W.widen (k := 60) (n := 360) (by omega) (by omega) ?_
                                                exact W.zret (v := 0) hx hb hr rfl (fun t ht hW => ⟨0, rfl, by first | (rw [ht]; done) | (rw [ht]; exact hS.1), fun q hq => by first | (rw [ht]; done) | (rw [ht]; exact hS.2.1 q hq (fun h => h)), by rw [ht]; exact (Or.inl rfl)⟩) hS.2.2 dL_isTold_587
                                              · skip
                                                refine lv_aload_n hx hb dL_isTold_571 rfl (lv_at hl 1 rfl) ?_
                                                refine lv_iconst (v := (-1)) hx hb dL_isTold_572 (by decide) ?_
                                                have hPc := hP.sub (ws' := xW cA ad f g) [6, 7, 8, 9, 10, 11, 12, 13, 14, 15, 16, 17] rfl
                                                refine qb_grow (vx_runSW (As := [.ref (ad 16), .int (-1)]) (rest := []) ⟨hx, hb, hml, hown, hts⟩ (c_L_sentTo l hl0 D cA cZ cL ad f g (-1) 1 0 hI) (vx_cwSW 2 hts gL_isTold_L_sentTo rfl rfl rfl (by decide +kernel) ⟨Nat.le_of_ble_eq_true rfl, Nat.le_of_ble_eq_true rfl⟩) ⟨qPreN_blind, qPreN_at hPc hK (qTH_grow hTH hNC hS)⟩ rfl rfl hl.1 rfl (lv_room (Nat.le_of_ble_eq_true rfl)) dL_isTold_573 ⟨by show 45 + 1 ≤ 60; omega, by show 6 * (45) + 6 ≤ 360; omega⟩) hP hS (fun z_573 H1 locs hu_573 hmo hP hS => ?_)
                                                have hg13 : s.heap.size + 13 ≤ H1.size := by have h7 := hu_573 (fun q => absurd q.1 (by decide)); have h8 := hg12; omega
                                                clear hPc
                                                refine W.widen (k := 46) (n := 6 * (46)) (by omega) (by omega) ?_
                                                refine lv_sipush (v := (-7100)) hx hb dL_isTold_576 (by decide) ?_
                                                refine lv_icmp_ne (tgt := 586) hx hb dL_isTold_579 (by decide) (fun c_579 => ?_) (fun c_579 => ?_)
                                                · skip
                                                  refine lv_iconst (v := 0) hx hb dL_isTold_586 (by decide) ?_
                                                  refine W.widen (k := 60) (n := 360) (by omega) (by omega) ?_
                                                  exact W.zret (v := 0) hx hb hr rfl (fun t ht hW => ⟨0, rfl, by first | (rw [ht]; done) | (rw [ht]; exact hS.1), fun q hq => by first | (rw [ht]; done) | (rw [ht]; exact hS.2.1 q hq (fun h => h)), by rw [ht]; exact (Or.inl rfl)⟩) hS.2.2 dL_isTold_587
                                                · skip
                                                  refine lv_iconst (v := 1) hx hb dL_isTold_582 (by decide) ?_
                                                  refine lv_goto (tgt := 587) hx hb dL_isTold_583 (by decide) ?_
                                                  refine W.widen (k := 60) (n := 360) (by omega) (by omega) ?_
                                                  exact W.zret (v := 1) hx hb hr rfl (fun t ht hW => ⟨1, rfl, by first | (rw [ht]; done) | (rw [ht]; exact hS.1), fun q hq => by first | (rw [ht]; done) | (rw [ht]; exact hS.2.1 q hq (fun h => h)), by rw [ht]; exact (Or.inr hg13)⟩) hS.2.2 dL_isTold_587
                    · skip
                      exact absurd (show nI 0 ≤ (0 : Int32) from by decide) c_368
                  · skip
                    have hlt4 : k < 4 := n_lt (b := 4) c_264 (by omega)
                    refine lv_iload_n hx hb dL_isTold_267 rfl (lv_at hl 1 rfl) ?_
                    refine lv_iconst (v := 3) hx hb dL_isTold_268 (by decide) ?_
                    refine lv_iload hx hb dL_isTold_269 (lv_at hl 8 rfl) ?_
                    refine lv_imul hx hb dL_isTold_271 ?_
                    refine lv_topi (fun y_271 _ => ?_)
                    refine lv_ishr hx hb dL_isTold_272 ?_
                    refine lv_topi (fun y_272 _ => ?_)
                    refine lv_bipush (v := 100) hx hb dL_isTold_273 (by decide) ?_
                    have hPc : va_P D vwCl [] _ := hP.sub (ws' := []) [] rfl
                    refine vp_callSi (W.runS (As := [.int y_272, .int 100]) (rest := []) ⟨hx, hb, hml, hown, hts⟩ (c_L_low l D cA cZ cL  y_272 100 (by decide) (by decide)) (va_cwS 2 hts gL_isTold_L_low rfl rfl rfl (by decide +kernel) ⟨Nat.le_of_ble_eq_true rfl, Nat.le_of_ble_eq_true rfl⟩) ⟨qPre_blind, qPre_at hPc hK⟩ rfl rfl hl.1 rfl (lv_room (Nat.le_of_ble_eq_true rfl)) dL_isTold_275 ⟨by show 21 + 3 * k + 0 ≤ 60; omega, by show 6 * (21 + 3 * k) + 0 ≤ 360; omega⟩) (fun z_275 hz_275 => ?_)
                    obtain ⟨⟨kk, hkk, hz9⟩, -⟩ := hz_275
                    subst hz9
                    refine lv_istore (lv' := [(9, .int (nI kk)), (0, .ref (ad 16)), (1, .int y), (2, .ref (q 0)), (3, .ref (q 1)), (4, .ref (q 2)), (5, .ref (q 3)), (6, .ref (q 4)), (7, .ref (q 5)), (8, .int (nI k))]) hx hb dL_isTold_278 hl (by decide) rfl (fun ls hl => ?_)
                    refine lv_aload_n hx hb dL_isTold_280 rfl (lv_at hl 3 rfl) ?_
                    refine lv_aload hx hb dL_isTold_281 (lv_at hl 8 rfl) ?_
                    refine lv_iload hx hb dL_isTold_283 (lv_at hl 0 rfl) ?_
                    have hPc := hP.sub (ws' := [(q 0, .inl (cA, 40, .inl (h 0))), (q 5, .inl (cA, 6, .inl (h 5)))]) [0, 5] rfl
                    refine vp_callSi (W.runS (As := [.ref (q 0), .ref (q 5), .int (nI kk)]) (rest := []) ⟨hx, hb, hml, hown, hts⟩ (c_L_member l D cA cZ cL (q 0) (h 0) (q 5) (h 5) n hn hn4 (nI kk)) (va_cwS 3 hts gL_isTold_L_member rfl rfl rfl (by decide +kernel) ⟨Nat.le_of_ble_eq_true rfl, Nat.le_of_ble_eq_true rfl⟩) ⟨qPre_blind, qPre_at hPc hK⟩ rfl rfl hl.1 rfl (lv_room (Nat.le_of_ble_eq_true rfl)) dL_isTold_285 ⟨by show 21 + 3 * k + 0 ≤ 60; omega, by show 6 * (21 + 3 * k) + 0 ≤ 360; omega⟩) (fun z_285 hz_285 => ?_)
                    refine lv_istore (lv' := [(10, .int z_285), (9, .int (nI kk)), (0, .ref (ad 16)), (1, .int y), (2, .ref (q 0)), (3, .ref (q 1)), (4, .ref (q 2)), (5, .ref (q 3)), (6, .ref (q 4)), (7, .ref (q 5)), (8, .int (nI k))]) hx hb dL_isTold_288 hl (by decide) rfl (fun ls hl => ?_)
                    refine lv_aload_n hx hb dL_isTold_290 rfl (lv_at hl 2 rfl) ?_
                    refine lv_iload hx hb dL_isTold_291 (lv_at hl 1 rfl) ?_
                    have hPc := hP.sub (ws' := xW cA ad f g) [6, 7, 8, 9, 10, 11, 12, 13, 14, 15, 16, 17] rfl
                    refine qb_grow (vx_runSW (As := [.ref (ad 16), .int (nI kk)]) (rest := []) ⟨hx, hb, hml, hown, hts⟩ (c_L_address l hl0 D cA cZ cL ad f g (nI kk) 1 0 hI) (vx_cwSW 2 hts gL_isTold_L_address rfl rfl rfl (by decide +kernel) ⟨Nat.le_of_ble_eq_true rfl, Nat.le_of_ble_eq_true rfl⟩) ⟨qPreN_blind, qPreN_at hPc hK (qTH_grow hTH hNC hS)⟩ rfl rfl hl.1 rfl (lv_room (Nat.le_of_ble_eq_true rfl)) dL_isTold_293 ⟨by show 21 + 3 * k + 1 ≤ 60; omega, by show 6 * (21 + 3 * k) + 6 ≤ 360; omega⟩) hP hS (fun z_293 H1 locs hu_293 hmo hP hS => ?_)
                    have hg0 : s.heap.size + 0 ≤ H1.size := Nat.le_trans hg0 hmo
                    clear hPc
                    refine W.widen (k := (21 + 3 * k) + 1) (n := 6 * ((21 + 3 * k) + 1)) (by omega) (by omega) ?_
                    refine lv_iload hx hb dL_isTold_296 (lv_at hl 0 rfl) ?_
                    refine lv_if_ge (tgt := 305) hx hb dL_isTold_298 (by decide) (fun c_298 => ?_) (fun c_298 => ?_)
                    · skip
                      refine lv_aload_n hx hb dL_isTold_305 rfl (lv_at hl 4 rfl) ?_
                      refine lv_iload hx hb dL_isTold_306 (lv_at hl 0 rfl) ?_
                      refine va_iald hx hb hK hP 0 0 rfl rfl (in40 hz_285 c_298) dL_isTold_308 ?_
                      refine lv_topi (fun y_308 _ => ?_)
                      refine lv_bipush (v := 7) hx hb dL_isTold_309 (by decide) ?_
                      refine lv_ishr hx hb dL_isTold_311 ?_
                      refine lv_topi (fun y_311 _ => ?_)
                      refine lv_bipush (v := 63) hx hb dL_isTold_312 (by decide) ?_
                      refine lv_iand hx hb dL_isTold_314 ?_
                      refine lv_topi (fun y_314 _ => ?_)
                      refine lv_icmp_ne (tgt := 351) hx hb dL_isTold_315 (by decide) (fun c_315 => ?_) (fun c_315 => ?_)
                      · skip
                        refine lv_iconst (v := 0) hx hb dL_isTold_351 (by decide) ?_
                        refine W.widen (k := 60) (n := 360) (by omega) (by omega) ?_
                        exact W.zret (v := 0) hx hb hr rfl (fun t ht hW => ⟨0, rfl, by first | (rw [ht]; done) | (rw [ht]; exact hS.1), fun q hq => by first | (rw [ht]; done) | (rw [ht]; exact hS.2.1 q hq (fun h => h)), by rw [ht]; exact (Or.inl rfl)⟩) hS.2.2 dL_isTold_352
                      · skip
                        refine lv_aload_n hx hb dL_isTold_318 rfl (lv_at hl 2 rfl) ?_
                        refine lv_iload hx hb dL_isTold_319 (lv_at hl 1 rfl) ?_
                        have hPc := hP.sub (ws' := xW cA ad f g) [6, 7, 8, 9, 10, 11, 12, 13, 14, 15, 16, 17] rfl
                        refine qb_grow (vx_runSW (As := [.ref (ad 16), .int (nI kk)]) (rest := []) ⟨hx, hb, hml, hown, hts⟩ (c_L_onRoll l hl0 D cA cZ cL ad f g (nI kk)) (vx_cwSW 2 hts gL_isTold_L_onRoll rfl rfl rfl (by decide +kernel) ⟨Nat.le_of_ble_eq_true rfl, Nat.le_of_ble_eq_true rfl⟩) ⟨qPreN_blind, qPreN_at hPc hK (qTH_grow hTH hNC hS)⟩ rfl rfl hl.1 rfl (lv_room (Nat.le_of_ble_eq_true rfl)) dL_isTold_321 ⟨by show (21 + 3 * k) + 1 + 1 ≤ 60; omega, by show 6 * ((21 + 3 * k) + 1) + 6 ≤ 360; omega⟩) hP hS (fun z_321 H1 locs hu_321 hmo hP hS => ?_)
                        have hg0 : s.heap.size + 0 ≤ H1.size := Nat.le_trans hg0 hmo
                        clear hPc
                        refine W.widen (k := ((21 + 3 * k) + 1) + 1) (n := 6 * (((21 + 3 * k) + 1) + 1)) (by omega) (by omega) ?_
                        refine lv_aload_n hx hb dL_isTold_324 rfl (lv_at hl 5 rfl) ?_
                        refine lv_aload hx hb dL_isTold_325 (lv_at hl 9 rfl) ?_
                        refine lv_iload hx hb dL_isTold_327 (lv_at hl 1 rfl) ?_
                        have hPc := hP.sub (ws' := [(q 1, .inl (cA, 40, .inl (h 1))), (q 5, .inl (cA, 6, .inl (h 5)))]) [1, 5] rfl
                        refine vp_callSi (W.runS (As := [.ref (q 1), .ref (q 5), .int (nI kk)]) (rest := [.int z_321]) ⟨hx, hb, hml, hown, hts⟩ (c_L_rolled l D cA cZ cL (q 1) (h 1) (q 5) (h 5) hm4 (nI kk)) (va_cwS 3 hts gL_isTold_L_rolled rfl rfl rfl (by decide +kernel) ⟨Nat.le_of_ble_eq_true rfl, Nat.le_of_ble_eq_true rfl⟩) ⟨qPre_blind, qPre_at hPc hK⟩ rfl rfl hl.1 rfl (lv_room (Nat.le_of_ble_eq_true rfl)) dL_isTold_329 ⟨by show ((21 + 3 * k) + 1) + 1 + 0 ≤ 60; omega, by show 6 * (((21 + 3 * k) + 1) + 1) + 0 ≤ 360; omega⟩) (fun z_329 hz_329 => ?_)
                        refine lv_icmp_ne (tgt := 351) hx hb dL_isTold_332 (by decide) (fun c_332 => ?_) (fun c_332 => ?_)
                        · skip
                          refine lv_iconst (v := 0) hx hb dL_isTold_351 (by decide) ?_
                          refine W.widen (k := 60) (n := 360) (by omega) (by omega) ?_
                          exact W.zret (v := 0) hx hb hr rfl (fun t ht hW => ⟨0, rfl, by first | (rw [ht]; done) | (rw [ht]; exact hS.1), fun q hq => by first | (rw [ht]; done) | (rw [ht]; exact hS.2.1 q hq (fun h => h)), by rw [ht]; exact (Or.inl rfl)⟩) hS.2.2 dL_isTold_352
                        · skip
                          refine lv_aload_n hx hb dL_isTold_335 rfl (lv_at hl 2 rfl) ?_
                          refine lv_iload hx hb dL_isTold_336 (lv_at hl 1 rfl) ?_
                          have hPc := hP.sub (ws' := xW cA ad f g) [6, 7, 8, 9, 10, 11, 12, 13, 14, 15, 16, 17] rfl
                          refine qb_grow (vx_runSW (As := [.ref (ad 16), .int (nI kk)]) (rest := []) ⟨hx, hb, hml, hown, hts⟩ (c_L_rangeOf l hl0 D cA cZ cL ad f g (nI kk) 1 0 hI) (vx_cwSW 2 hts gL_isTold_L_rangeOf rfl rfl rfl (by decide +kernel) ⟨Nat.le_of_ble_eq_true rfl, Nat.le_of_ble_eq_true rfl⟩) ⟨qPreN_blind, qPreN_at hPc hK (qTH_grow hTH hNC hS)⟩ rfl rfl hl.1 rfl (lv_room (Nat.le_of_ble_eq_true rfl)) dL_isTold_338 ⟨by show ((21 + 3 * k) + 1) + 1 + 1 ≤ 60; omega, by show 6 * (((21 + 3 * k) + 1) + 1) + 6 ≤ 360; omega⟩) hP hS (fun z_338 H1 locs hu_338 hmo hP hS => ?_)
                          have hg0 : s.heap.size + 0 ≤ H1.size := Nat.le_trans hg0 hmo
                          clear hPc
                          refine W.widen (k := (((21 + 3 * k) + 1) + 1) + 1) (n := 6 * ((((21 + 3 * k) + 1) + 1) + 1)) (by omega) (by omega) ?_
                          refine lv_aload hx hb dL_isTold_341 (lv_at hl 6 rfl) ?_
                          refine lv_iload hx hb dL_isTold_343 (lv_at hl 1 rfl) ?_
                          have hPc := hP.sub (ws' := [(q 2, .inl (cA, 9, .inl (h 2)))]) [2] rfl
                          refine vp_callSi (W.runS (As := [.ref (q 2), .int (nI kk)]) (rest := [.int z_338]) ⟨hx, hb, hml, hown, hts⟩ (c_L_range l D cA cZ cL (q 2) (h 2) h99 kk hkk) (va_cwS 2 hts gL_isTold_L_range rfl rfl rfl (by decide +kernel) ⟨Nat.le_of_ble_eq_true rfl, Nat.le_of_ble_eq_true rfl⟩) ⟨qPre_blind, qPre_at hPc hK⟩ rfl rfl hl.1 rfl (lv_room (Nat.le_of_ble_eq_true rfl)) dL_isTold_345 ⟨by show (((21 + 3 * k) + 1) + 1) + 1 + 0 ≤ 60; omega, by show 6 * ((((21 + 3 * k) + 1) + 1) + 1) + 0 ≤ 360; omega⟩) (fun z_345 hz_345 => ?_)
                          refine lv_icmp_eq (tgt := 353) hx hb dL_isTold_348 (by decide) (fun c_348 => ?_) (fun c_348 => ?_)
                          · skip
                            refine lv_iinc (v := nI (k + 1)) (lv' := [(8, .int (nI (k + 1))), (10, .int z_285), (9, .int (nI kk)), (0, .ref (ad 16)), (1, .int y), (2, .ref (q 0)), (3, .ref (q 1)), (4, .ref (q 2)), (5, .ref (q 3)), (6, .ref (q 4)), (7, .ref (q 5))]) hx hb dL_isTold_353 hl (k := 10) rfl (nI_1 (k)) (by decide) rfl (fun ls hl => ?_)
                            refine lv_goto (tgt := 261) hx hb dL_isTold_356 (by decide) ?_
                            refine W.widen (k := 21 + 3 * (k + 1)) (n := 6 * (21 + 3 * (k + 1))) (by omega) (by omega) ?_
                            exact ih_261 _ (by omega) (k + 1) rfl (by omega) _ _ hP hS (Nat.le_trans (by omega) hg0) _ (lv_sub hl [3, 4, 5, 6, 7, 8, 9, 10, 0] rfl)
                          · skip
                            refine lv_iconst (v := 0) hx hb dL_isTold_351 (by decide) ?_
                            refine W.widen (k := 60) (n := 360) (by omega) (by omega) ?_
                            exact W.zret (v := 0) hx hb hr rfl (fun t ht hW => ⟨0, rfl, by first | (rw [ht]; done) | (rw [ht]; exact hS.1), fun q hq => by first | (rw [ht]; done) | (rw [ht]; exact hS.2.1 q hq (fun h => h)), by rw [ht]; exact (Or.inl rfl)⟩) hS.2.2 dL_isTold_352
                    · skip
                      refine lv_iconst (v := (-1)) hx hb dL_isTold_301 (by decide) ?_
                      refine lv_goto (tgt := 315) hx hb dL_isTold_302 (by decide) ?_
                      refine lv_icmp_ne (tgt := 351) hx hb dL_isTold_315 (by decide) (fun c_315 => ?_) (fun c_315 => ?_)
                      · skip
                        refine lv_iconst (v := 0) hx hb dL_isTold_351 (by decide) ?_
                        refine W.widen (k := 60) (n := 360) (by omega) (by omega) ?_
                        exact W.zret (v := 0) hx hb hr rfl (fun t ht hW => ⟨0, rfl, by first | (rw [ht]; done) | (rw [ht]; exact hS.1), fun q hq => by first | (rw [ht]; done) | (rw [ht]; exact hS.2.1 q hq (fun h => h)), by rw [ht]; exact (Or.inl rfl)⟩) hS.2.2 dL_isTold_352
                      · skip
                        refine lv_aload_n hx hb dL_isTold_318 rfl (lv_at hl 2 rfl) ?_
                        refine lv_iload hx hb dL_isTold_319 (lv_at hl 1 rfl) ?_
                        have hPc := hP.sub (ws' := xW cA ad f g) [6, 7, 8, 9, 10, 11, 12, 13, 14, 15, 16, 17] rfl
                        refine qb_grow (vx_runSW (As := [.ref (ad 16), .int (nI kk)]) (rest := []) ⟨hx, hb, hml, hown, hts⟩ (c_L_onRoll l hl0 D cA cZ cL ad f g (nI kk)) (vx_cwSW 2 hts gL_isTold_L_onRoll rfl rfl rfl (by decide +kernel) ⟨Nat.le_of_ble_eq_true rfl, Nat.le_of_ble_eq_true rfl⟩) ⟨qPreN_blind, qPreN_at hPc hK (qTH_grow hTH hNC hS)⟩ rfl rfl hl.1 rfl (lv_room (Nat.le_of_ble_eq_true rfl)) dL_isTold_321 ⟨by show (21 + 3 * k) + 1 + 1 ≤ 60; omega, by show 6 * ((21 + 3 * k) + 1) + 6 ≤ 360; omega⟩) hP hS (fun z_321 H1 locs hu_321 hmo hP hS => ?_)
                        have hg0 : s.heap.size + 0 ≤ H1.size := Nat.le_trans hg0 hmo
                        clear hPc
                        refine W.widen (k := ((21 + 3 * k) + 1) + 1) (n := 6 * (((21 + 3 * k) + 1) + 1)) (by omega) (by omega) ?_
                        refine lv_aload_n hx hb dL_isTold_324 rfl (lv_at hl 5 rfl) ?_
                        refine lv_aload hx hb dL_isTold_325 (lv_at hl 9 rfl) ?_
                        refine lv_iload hx hb dL_isTold_327 (lv_at hl 1 rfl) ?_
                        have hPc := hP.sub (ws' := [(q 1, .inl (cA, 40, .inl (h 1))), (q 5, .inl (cA, 6, .inl (h 5)))]) [1, 5] rfl
                        refine vp_callSi (W.runS (As := [.ref (q 1), .ref (q 5), .int (nI kk)]) (rest := [.int z_321]) ⟨hx, hb, hml, hown, hts⟩ (c_L_rolled l D cA cZ cL (q 1) (h 1) (q 5) (h 5) hm4 (nI kk)) (va_cwS 3 hts gL_isTold_L_rolled rfl rfl rfl (by decide +kernel) ⟨Nat.le_of_ble_eq_true rfl, Nat.le_of_ble_eq_true rfl⟩) ⟨qPre_blind, qPre_at hPc hK⟩ rfl rfl hl.1 rfl (lv_room (Nat.le_of_ble_eq_true rfl)) dL_isTold_329 ⟨by show ((21 + 3 * k) + 1) + 1 + 0 ≤ 60; omega, by show 6 * (((21 + 3 * k) + 1) + 1) + 0 ≤ 360; omega⟩) (fun z_329 hz_329 => ?_)
                        refine lv_icmp_ne (tgt := 351) hx hb dL_isTold_332 (by decide) (fun c_332 => ?_) (fun c_332 => ?_)
                        · skip
                          refine lv_iconst (v := 0) hx hb dL_isTold_351 (by decide) ?_
                          refine W.widen (k := 60) (n := 360) (by omega) (by omega) ?_
                          exact W.zret (v := 0) hx hb hr rfl (fun t ht hW => ⟨0, rfl, by first | (rw [ht]; done) | (rw [ht]; exact hS.1), fun q hq => by first | (rw [ht]; done) | (rw [ht]; exact hS.2.1 q hq (fun h => h)), by rw [ht]; exact (Or.inl rfl)⟩) hS.2.2 dL_isTold_352
                        · skip
                          refine lv_aload_n hx hb dL_isTold_335 rfl (lv_at hl 2 rfl) ?_
                          refine lv_iload hx hb dL_isTold_336 (lv_at hl 1 rfl) ?_
                          have hPc := hP.sub (ws' := xW cA ad f g) [6, 7, 8, 9, 10, 11, 12, 13, 14, 15, 16, 17] rfl
                          refine qb_grow (vx_runSW (As := [.ref (ad 16), .int (nI kk)]) (rest := []) ⟨hx, hb, hml, hown, hts⟩ (c_L_rangeOf l hl0 D cA cZ cL ad f g (nI kk) 1 0 hI) (vx_cwSW 2 hts gL_isTold_L_rangeOf rfl rfl rfl (by decide +kernel) ⟨Nat.le_of_ble_eq_true rfl, Nat.le_of_ble_eq_true rfl⟩) ⟨qPreN_blind, qPreN_at hPc hK (qTH_grow hTH hNC hS)⟩ rfl rfl hl.1 rfl (lv_room (Nat.le_of_ble_eq_true rfl)) dL_isTold_338 ⟨by show ((21 + 3 * k) + 1) + 1 + 1 ≤ 60; omega, by show 6 * (((21 + 3 * k) + 1) + 1) + 6 ≤ 360; omega⟩) hP hS (fun z_338 H1 locs hu_338 hmo hP hS => ?_)
                          have hg0 : s.heap.size + 0 ≤ H1.size := Nat.le_trans hg0 hmo
                          clear hPc
                          refine W.widen (k := (((21 + 3 * k) + 1) + 1) + 1) (n := 6 * ((((21 + 3 * k) + 1) + 1) + 1)) (by omega) (by omega) ?_
                          refine lv_aload hx hb dL_isTold_341 (lv_at hl 6 rfl) ?_
                          refine lv_iload hx hb dL_isTold_343 (lv_at hl 1 rfl) ?_
                          have hPc := hP.sub (ws' := [(q 2, .inl (cA, 9, .inl (h 2)))]) [2] rfl
                          refine vp_callSi (W.runS (As := [.ref (q 2), .int (nI kk)]) (rest := [.int z_338]) ⟨hx, hb, hml, hown, hts⟩ (c_L_range l D cA cZ cL (q 2) (h 2) h99 kk hkk) (va_cwS 2 hts gL_isTold_L_range rfl rfl rfl (by decide +kernel) ⟨Nat.le_of_ble_eq_true rfl, Nat.le_of_ble_eq_true rfl⟩) ⟨qPre_blind, qPre_at hPc hK⟩ rfl rfl hl.1 rfl (lv_room (Nat.le_of_ble_eq_true rfl)) dL_isTold_345 ⟨by show (((21 + 3 * k) + 1) + 1) + 1 + 0 ≤ 60; omega, by show 6 * ((((21 + 3 * k) + 1) + 1) + 1) + 0 ≤ 360; omega⟩) (fun z_345 hz_345 => ?_)
                          refine lv_icmp_eq (tgt := 353) hx hb dL_isTold_348 (by decide) (fun c_348 => ?_) (fun c_348 => ?_)
                          · skip
                            refine lv_iinc (v := nI (k + 1)) (lv' := [(8, .int (nI (k + 1))), (10, .int z_285), (9, .int (nI kk)), (0, .ref (ad 16)), (1, .int y), (2, .ref (q 0)), (3, .ref (q 1)), (4, .ref (q 2)), (5, .ref (q 3)), (6, .ref (q 4)), (7, .ref (q 5))]) hx hb dL_isTold_353 hl (k := 10) rfl (nI_1 (k)) (by decide) rfl (fun ls hl => ?_)
                            refine lv_goto (tgt := 261) hx hb dL_isTold_356 (by decide) ?_
                            refine W.widen (k := 21 + 3 * (k + 1)) (n := 6 * (21 + 3 * (k + 1))) (by omega) (by omega) ?_
                            exact ih_261 _ (by omega) (k + 1) rfl (by omega) _ _ hP hS (Nat.le_trans (by omega) hg0) _ (lv_sub hl [3, 4, 5, 6, 7, 8, 9, 10, 0] rfl)
                          · skip
                            refine lv_iconst (v := 0) hx hb dL_isTold_351 (by decide) ?_
                            refine W.widen (k := 60) (n := 360) (by omega) (by omega) ?_
                            exact W.zret (v := 0) hx hb hr rfl (fun t ht hW => ⟨0, rfl, by first | (rw [ht]; done) | (rw [ht]; exact hS.1), fun q hq => by first | (rw [ht]; done) | (rw [ht]; exact hS.2.1 q hq (fun h => h)), by rw [ht]; exact (Or.inl rfl)⟩) hS.2.2 dL_isTold_352
              refine W.widen (k := 21 + 3 * 0) (n := 6 * (21 + 3 * 0)) (by omega) (by omega) ?_
              exact hloop_261 _ 0 rfl (Nat.zero_le _) _ _ hP hS hg0 _ (lv_sub hl [1, 2, 3, 4, 5, 6, 7, 8, 0] rfl)
            · skip
              obtain rfl : i = 0 := by have := n_lt c_227 (by omega); omega
              refine lv_aload_n hx hb dL_isTold_230 rfl (lv_at hl 0 rfl) ?_
              refine lv_iload hx hb dL_isTold_231 (lv_at hl 8 rfl) ?_
              have hPc := hP.sub (ws' := xW cA ad f g) [6, 7, 8, 9, 10, 11, 12, 13, 14, 15, 16, 17] rfl
              refine qb_grow (vx_runSW (As := [.ref (ad 16), .int (nI 0)]) (rest := []) ⟨hx, hb, hml, hown, hts⟩ (c_L_shardOf l hl0 D cA cZ cL ad f g (nI 0) 1 0 hI) (vx_cwSW 2 hts gL_isTold_L_shardOf rfl rfl rfl (by decide +kernel) ⟨Nat.le_of_ble_eq_true rfl, Nat.le_of_ble_eq_true rfl⟩) ⟨qPreN_blind, qPreN_at hPc hK (qTH_grow hTH hNC hS)⟩ rfl rfl hl.1 rfl (lv_room (Nat.le_of_ble_eq_true rfl)) dL_isTold_233 ⟨by show 20 + 0 + 1 ≤ 60; omega, by show 6 * (20 + 0) + 6 ≤ 360; omega⟩) hP hS (fun z_233 H1 locs hu_233 hmo hP hS => ?_)
              have hg0 : s.heap.size + 0 ≤ H1.size := Nat.le_trans hg0 hmo
              clear hPc
              refine W.widen (k := (20 + 0) + 1) (n := 6 * ((20 + 0) + 1)) (by omega) (by omega) ?_
              refine lv_aload hx hb dL_isTold_236 (lv_at hl 4 rfl) ?_
              refine lv_iload hx hb dL_isTold_238 (lv_at hl 8 rfl) ?_
              refine va_iald hx hb hK hP 2 0 rfl rfl (vp_in_nI (by omega) (by decide)) dL_isTold_240 ?_
              refine lv_topi (fun y_240 _ => ?_)
              refine lv_bipush (v := 7) hx hb dL_isTold_241 (by decide) ?_
              refine lv_ishr hx hb dL_isTold_243 ?_
              refine lv_topi (fun y_243 _ => ?_)
              refine lv_bipush (v := 7) hx hb dL_isTold_244 (by decide) ?_
              refine lv_iand hx hb dL_isTold_246 ?_
              refine lv_topi (fun y_246 _ => ?_)
              refine lv_icmp_eq (tgt := 252) hx hb dL_isTold_247 (by decide) (fun c_247 => ?_) (fun c_247 => ?_)
              · skip
                refine lv_iinc (v := nI (0 + 1)) (lv' := [(8, .int (nI (0 + 1))), (0, .ref (ad 16)), (1, .int y), (2, .ref (q 0)), (3, .ref (q 1)), (4, .ref (q 2)), (5, .ref (q 3)), (6, .ref (q 4)), (7, .ref (q 5))]) hx hb dL_isTold_252 hl (k := 8) rfl (nI_1 (0)) (by decide) rfl (fun ls hl => ?_)
                refine lv_goto (tgt := 221) hx hb dL_isTold_255 (by decide) ?_
                refine W.widen (k := 20 + 1) (n := 6 * (20 + 1)) (by omega) (by omega) ?_
                exact ih_221 _ (by omega) 1 rfl (by omega) _ _ hP hS (Nat.le_trans (by omega) hg0) _ (lv_sub hl [1, 2, 3, 4, 5, 6, 7, 8, 0] rfl)
              · skip
                refine lv_iconst (v := 0) hx hb dL_isTold_250 (by decide) ?_
                refine W.widen (k := 60) (n := 360) (by omega) (by omega) ?_
                exact W.zret (v := 0) hx hb hr rfl (fun t ht hW => ⟨0, rfl, by first | (rw [ht]; done) | (rw [ht]; exact hS.1), fun q hq => by first | (rw [ht]; done) | (rw [ht]; exact hS.2.1 q hq (fun h => h)), by rw [ht]; exact (Or.inl rfl)⟩) hS.2.2 dL_isTold_251
        refine W.widen (k := 20 + 0) (n := 6 * (20 + 0)) (by omega) (by omega) ?_
        exact hloop_221 _ 0 rfl (Nat.zero_le _) _ _ hP hS hg0 _ (lv_sub hl [1, 2, 3, 4, 5, 6, 7, 8, 0] rfl)
      · skip
        have hlt : sh < 4 := n_lt (b := 4) c_6 (by omega)
        refine lv_iconst (v := 0) hx hb dL_isTold_9 (by decide) ?_
        refine lv_istore (lv' := [(9, .int 0), (0, .ref (ad 16)), (1, .int y), (2, .ref (q 0)), (3, .ref (q 1)), (4, .ref (q 2)), (5, .ref (q 3)), (6, .ref (q 4)), (7, .ref (q 5)), (8, .int (nI sh))]) hx hb dL_isTold_10 hl (by decide) rfl (fun ls hl => ?_)
        refine lv_iconst (v := 0) hx hb dL_isTold_12 (by decide) ?_
        refine lv_istore (lv' := [(10, .int 0), (9, .int 0), (0, .ref (ad 16)), (1, .int y), (2, .ref (q 0)), (3, .ref (q 1)), (4, .ref (q 2)), (5, .ref (q 3)), (6, .ref (q 4)), (7, .ref (q 5)), (8, .int (nI sh))]) hx hb dL_isTold_13 hl (by decide) rfl (fun ls hl => ?_)
        refine lv_iconst (v := 0) hx hb dL_isTold_15 (by decide) ?_
        refine lv_istore (lv' := [(11, .int 0), (10, .int 0), (9, .int 0), (0, .ref (ad 16)), (1, .int y), (2, .ref (q 0)), (3, .ref (q 1)), (4, .ref (q 2)), (5, .ref (q 3)), (6, .ref (q 4)), (7, .ref (q 5)), (8, .int (nI sh))]) hx hb dL_isTold_16 hl (by decide) rfl (fun ls hl => ?_)
        have hloop_18 : ∀ (nme : Nat) (i : Nat) (a9 : Int32), 1 - i = nme → (i ≤ 1) → ∀ (H : Heap) (locs : List Loc), va_P D vwCl (LW cA ad q f g h) H → va_S (fun _ => False) s.heap H locs → s.heap.size + 0 ≤ H.size → ∀ ls : Array Slot, lv_has ls 12 [(0, .ref (ad 16)), (1, .int y), (2, .ref (q 0)), (3, .ref (q 1)), (4, .ref (q 2)), (5, .ref (q 3)), (6, .ref (q 4)), (7, .ref (q 5)), (8, .int (nI sh)), (9, .int a9), (10, .int 0), (11, .int (nI i))] → W p l e (headSpec wsL_isTold ({ frames := 9, cells := 60, slots := 360, locals := 158 } : Room)).room s m ([.ref (ad 16), .int y, .ref (q 0), .ref (q 1), .ref (q 2), .ref (q 3), .ref (q 4), .ref (q 5)] : List Value).toArray below meth c H locs (5 * sh) (6 * (5 * sh)) (MQ below (qG (fun z n1 n2 => (z = 0 ∨ n1 + 13 ≤ n2))) ([.ref (ad 16), .int y, .ref (q 0), .ref (q 1), .ref (q 2), .ref (q 3), .ref (q 4), .ref (q 5)] : List Value).toArray s 60 360 (fun _ => False)) (F0 m 18 ls []) := by
          intro nme
          induction nme using Nat.strongRecOn with
          | ind nme ih_18 =>
            intro i a9 hnme_18 hi H locs hP hS hg0 ls hl
            refine lv_iload hx hb dL_isTold_18 (lv_at hl 11 rfl) ?_
            refine lv_aload hx hb dL_isTold_20 (lv_at hl 7 rfl) ?_
            refine lv_iconst (v := 1) hx hb dL_isTold_22 (by decide) ?_
            refine va_iald hx hb hK hP 5 0 rfl rfl (by unfold vp_in; decide) dL_isTold_23 ?_
            refine lv_topi (fun v_23 hv_23 => ?_)
            have hv_23 : v_23 = nI 1 := hv_23.trans (by rw [cl1]; exact hm1)
            subst hv_23
            refine lv_icmp_ge (tgt := 104) hx hb dL_isTold_24 (by decide) (fun c_24 => ?_) (fun c_24 => ?_)
            · skip
              refine lv_iconst (v := 0) hx hb dL_isTold_104 (by decide) ?_
              refine lv_istore (lv' := [(11, .int 0), (0, .ref (ad 16)), (1, .int y), (2, .ref (q 0)), (3, .ref (q 1)), (4, .ref (q 2)), (5, .ref (q 3)), (6, .ref (q 4)), (7, .ref (q 5)), (8, .int (nI sh)), (9, .int a9), (10, .int 0)]) hx hb dL_isTold_105 hl (by decide) rfl (fun ls hl => ?_)
              have hloop_107 : ∀ (nme : Nat) (j : Nat) (a10 : Int32), n - j = nme → (j ≤ n) → ∀ (H : Heap) (locs : List Loc), va_P D vwCl (LW cA ad q f g h) H → va_S (fun _ => False) s.heap H locs → s.heap.size + 0 ≤ H.size → ∀ ls : Array Slot, lv_has ls 12 [(0, .ref (ad 16)), (1, .int y), (2, .ref (q 0)), (3, .ref (q 1)), (4, .ref (q 2)), (5, .ref (q 3)), (6, .ref (q 4)), (7, .ref (q 5)), (8, .int (nI sh)), (9, .int a9), (10, .int a10), (11, .int (nI j))] → W p l e (headSpec wsL_isTold ({ frames := 9, cells := 60, slots := 360, locals := 158 } : Room)).room s m ([.ref (ad 16), .int y, .ref (q 0), .ref (q 1), .ref (q 2), .ref (q 3), .ref (q 4), .ref (q 5)] : List Value).toArray below meth c H locs (5 * sh) (6 * (5 * sh)) (MQ below (qG (fun z n1 n2 => (z = 0 ∨ n1 + 13 ≤ n2))) ([.ref (ad 16), .int y, .ref (q 0), .ref (q 1), .ref (q 2), .ref (q 3), .ref (q 4), .ref (q 5)] : List Value).toArray s 60 360 (fun _ => False)) (F0 m 107 ls []) := by
                intro nme
                induction nme using Nat.strongRecOn with
                | ind nme ih_107 =>
                  intro j a10 hnme_107 hj H locs hP hS hg0 ls hl
                  refine lv_iload hx hb dL_isTold_107 (lv_at hl 11 rfl) ?_
                  refine lv_aload hx hb dL_isTold_109 (lv_at hl 7 rfl) ?_
                  refine lv_iconst (v := 0) hx hb dL_isTold_111 (by decide) ?_
                  refine va_iald hx hb hK hP 5 0 rfl rfl (by unfold vp_in; decide) dL_isTold_112 ?_
                  refine lv_topi (fun v_112 hv_112 => ?_)
                  have hv_112 : v_112 = nI n := hv_112.trans (by rw [cl0]; exact hn)
                  subst hv_112
                  refine lv_icmp_ge (tgt := 150) hx hb dL_isTold_113 (by decide) (fun c_113 => ?_) (fun c_113 => ?_)
                  · skip
                    refine lv_aload_n hx hb dL_isTold_150 rfl (lv_at hl 0 rfl) ?_
                    refine lv_iload hx hb dL_isTold_151 (lv_at hl 8 rfl) ?_
                    have hPc := hP.sub (ws' := xW cA ad f g) [6, 7, 8, 9, 10, 11, 12, 13, 14, 15, 16, 17] rfl
                    refine qb_grow (vx_runSW (As := [.ref (ad 16), .int (nI sh)]) (rest := []) ⟨hx, hb, hml, hown, hts⟩ (c_L_rows l hl0 D cA cZ cL ad f g (nI sh)) (vx_cwSW 2 hts gL_isTold_L_rows rfl rfl rfl (by decide +kernel) ⟨Nat.le_of_ble_eq_true rfl, Nat.le_of_ble_eq_true rfl⟩) ⟨qPreN_blind, qPreN_at hPc hK (qTH_grow hTH hNC hS)⟩ rfl rfl hl.1 rfl (lv_room (Nat.le_of_ble_eq_true rfl)) dL_isTold_153 ⟨by show 5 * sh + 1 ≤ 60; omega, by show 6 * (5 * sh) + 6 ≤ 360; omega⟩) hP hS (fun z_153 H1 locs hu_153 hmo hP hS => ?_)
                    have hg0 : s.heap.size + 0 ≤ H1.size := Nat.le_trans hg0 hmo
                    clear hPc
                    refine W.widen (k := (5 * sh) + 1) (n := 6 * ((5 * sh) + 1)) (by omega) (by omega) ?_
                    refine lv_iload hx hb dL_isTold_156 (lv_at hl 9 rfl) ?_
                    refine lv_icmp_ne (tgt := 172) hx hb dL_isTold_158 (by decide) (fun c_158 => ?_) (fun c_158 => ?_)
                    · skip
                      refine lv_iconst (v := 0) hx hb dL_isTold_172 (by decide) ?_
                      refine W.widen (k := 60) (n := 360) (by omega) (by omega) ?_
                      exact W.zret (v := 0) hx hb hr rfl (fun t ht hW => ⟨0, rfl, by first | (rw [ht]; done) | (rw [ht]; exact hS.1), fun q hq => by first | (rw [ht]; done) | (rw [ht]; exact hS.2.1 q hq (fun h => h)), by rw [ht]; exact (Or.inl rfl)⟩) hS.2.2 dL_isTold_173
                    · skip
                      refine lv_aload_n hx hb dL_isTold_161 rfl (lv_at hl 0 rfl) ?_
                      refine lv_iload hx hb dL_isTold_162 (lv_at hl 8 rfl) ?_
                      have hPc := hP.sub (ws' := xW cA ad f g) [6, 7, 8, 9, 10, 11, 12, 13, 14, 15, 16, 17] rfl
                      refine qb_grow (vx_runSW (As := [.ref (ad 16), .int (nI sh)]) (rest := []) ⟨hx, hb, hml, hown, hts⟩ (c_L_inDistrict l hl0 D cA cZ cL ad f g (nI sh) 1 0 hI) (vx_cwSW 2 hts gL_isTold_L_inDistrict rfl rfl rfl (by decide +kernel) ⟨Nat.le_of_ble_eq_true rfl, Nat.le_of_ble_eq_true rfl⟩) ⟨qPreN_blind, qPreN_at hPc hK (qTH_grow hTH hNC hS)⟩ rfl rfl hl.1 rfl (lv_room (Nat.le_of_ble_eq_true rfl)) dL_isTold_164 ⟨by show (5 * sh) + 1 + 1 ≤ 60; omega, by show 6 * ((5 * sh) + 1) + 6 ≤ 360; omega⟩) hP hS (fun z_164 H1 locs hu_164 hmo hP hS => ?_)
                      have hg0 : s.heap.size + 0 ≤ H1.size := Nat.le_trans hg0 hmo
                      clear hPc
                      refine W.widen (k := ((5 * sh) + 1) + 1) (n := 6 * (((5 * sh) + 1) + 1)) (by omega) (by omega) ?_
                      refine lv_iload hx hb dL_isTold_167 (lv_at hl 10 rfl) ?_
                      refine lv_icmp_eq (tgt := 174) hx hb dL_isTold_169 (by decide) (fun c_169 => ?_) (fun c_169 => ?_)
                      · skip
                        refine lv_iconst (v := 0) hx hb dL_isTold_174 (by decide) ?_
                        refine lv_istore (lv' := [(11, .int 0), (0, .ref (ad 16)), (1, .int y), (2, .ref (q 0)), (3, .ref (q 1)), (4, .ref (q 2)), (5, .ref (q 3)), (6, .ref (q 4)), (7, .ref (q 5)), (8, .int (nI sh)), (9, .int a9), (10, .int a10)]) hx hb dL_isTold_175 hl (by decide) rfl (fun ls hl => ?_)
                        have hloop_177 : ∀ (nme : Nat) (ch : Nat), 3 - ch = nme → (ch ≤ 3) → ∀ (H : Heap) (locs : List Loc), va_P D vwCl (LW cA ad q f g h) H → va_S (fun _ => False) s.heap H locs → s.heap.size + 0 ≤ H.size → ∀ ls : Array Slot, lv_has ls 12 [(0, .ref (ad 16)), (1, .int y), (2, .ref (q 0)), (3, .ref (q 1)), (4, .ref (q 2)), (5, .ref (q 3)), (6, .ref (q 4)), (7, .ref (q 5)), (8, .int (nI sh)), (11, .int (nI ch))] → W p l e (headSpec wsL_isTold ({ frames := 9, cells := 60, slots := 360, locals := 158 } : Room)).room s m ([.ref (ad 16), .int y, .ref (q 0), .ref (q 1), .ref (q 2), .ref (q 3), .ref (q 4), .ref (q 5)] : List Value).toArray below meth c H locs (5 * sh + 2 + ch) (6 * (5 * sh + 2 + ch)) (MQ below (qG (fun z n1 n2 => (z = 0 ∨ n1 + 13 ≤ n2))) ([.ref (ad 16), .int y, .ref (q 0), .ref (q 1), .ref (q 2), .ref (q 3), .ref (q 4), .ref (q 5)] : List Value).toArray s 60 360 (fun _ => False)) (F0 m 177 ls []) := by
                          intro nme
                          induction nme using Nat.strongRecOn with
                          | ind nme ih_177 =>
                            intro ch hnme_177 hch H locs hP hS hg0 ls hl
                            refine lv_iload hx hb dL_isTold_177 (lv_at hl 9 rfl) ?_
                            refine lv_iconst (v := 3) hx hb dL_isTold_179 (by decide) ?_
                            refine lv_icmp_ge (tgt := 212) hx hb dL_isTold_180 (by decide) (fun c_180 => ?_) (fun c_180 => ?_)
                            · skip
                              refine lv_iinc (v := nI (sh + 1)) (lv' := [(8, .int (nI (sh + 1))), (0, .ref (ad 16)), (1, .int y), (2, .ref (q 0)), (3, .ref (q 1)), (4, .ref (q 2)), (5, .ref (q 3)), (6, .ref (q 4)), (7, .ref (q 5)), (11, .int (nI ch))]) hx hb dL_isTold_212 hl (k := 8) rfl (nI_1 (sh)) (by decide) rfl (fun ls hl => ?_)
                              refine lv_goto (tgt := 3) hx hb dL_isTold_215 (by decide) ?_
                              refine W.widen (k := 5 * (sh + 1)) (n := 6 * (5 * (sh + 1))) (by omega) (by omega) ?_
                              exact ih_3 _ (by omega) (sh + 1) rfl (by omega) _ _ hP hS (Nat.le_trans (by omega) hg0) _ (lv_sub hl [1, 2, 3, 4, 5, 6, 7, 8, 0] rfl)
                            · skip
                              have hlt3 : ch < 3 := n_lt (b := 3) c_180 (by omega)
                              refine lv_aload_n hx hb dL_isTold_183 rfl (lv_at hl 0 rfl) ?_
                              refine lv_iload hx hb dL_isTold_184 (lv_at hl 8 rfl) ?_
                              refine lv_iload hx hb dL_isTold_186 (lv_at hl 9 rfl) ?_
                              have hPc := hP.sub (ws' := xW cA ad f g) [6, 7, 8, 9, 10, 11, 12, 13, 14, 15, 16, 17] rfl
                              refine qb_grow (vx_runSW (As := [.ref (ad 16), .int (nI sh), .int (nI ch)]) (rest := []) ⟨hx, hb, hml, hown, hts⟩ (c_L_counted l hl0 D cA cZ cL ad f g (nI sh) (nI ch) 1 0 hI) (vx_cwSW 3 hts gL_isTold_L_counted rfl rfl rfl (by decide +kernel) ⟨Nat.le_of_ble_eq_true rfl, Nat.le_of_ble_eq_true rfl⟩) ⟨qPreN_blind, qPreN_at hPc hK (qTH_grow hTH hNC hS)⟩ rfl rfl hl.1 rfl (lv_room (Nat.le_of_ble_eq_true rfl)) dL_isTold_188 ⟨by show 5 * sh + 2 + ch + 1 ≤ 60; omega, by show 6 * (5 * sh + 2 + ch) + 6 ≤ 360; omega⟩) hP hS (fun z_188 H1 locs hu_188 hmo hP hS => ?_)
                              have hg0 : s.heap.size + 0 ≤ H1.size := Nat.le_trans hg0 hmo
                              clear hPc
                              refine W.widen (k := (5 * sh + 2 + ch) + 1) (n := 6 * ((5 * sh + 2 + ch) + 1)) (by omega) (by omega) ?_
                              refine lv_aload hx hb dL_isTold_191 (lv_at hl 6 rfl) ?_
                              refine lv_iconst (v := 4) hx hb dL_isTold_193 (by decide) ?_
                              refine lv_iload hx hb dL_isTold_194 (lv_at hl 9 rfl) ?_
                              refine lv_imul hx hb dL_isTold_196 ?_
                              refine lv_topi (fun v_196 hv_196 => ?_)
                              have hv_196 : v_196 = nI (4 * ch) := hv_196.trans (pk_mul 4 ch)
                              subst hv_196
                              refine lv_iload hx hb dL_isTold_197 (lv_at hl 8 rfl) ?_
                              refine lv_iadd hx hb dL_isTold_199 ?_
                              refine lv_topi (fun v_199 hv_199 => ?_)
                              have hv_199 : v_199 = nI (4 * ch + sh) := hv_199.trans (nI_add _ _)
                              subst hv_199
                              refine va_iald hx hb hK hP 4 0 rfl rfl (vp_in_nI (by omega) (by decide)) dL_isTold_200 ?_
                              refine lv_topi (fun y_200 _ => ?_)
                              refine lv_icmp_eq (tgt := 206) hx hb dL_isTold_201 (by decide) (fun c_201 => ?_) (fun c_201 => ?_)
                              · skip
                                refine lv_iinc (v := nI (ch + 1)) (lv' := [(11, .int (nI (ch + 1))), (0, .ref (ad 16)), (1, .int y), (2, .ref (q 0)), (3, .ref (q 1)), (4, .ref (q 2)), (5, .ref (q 3)), (6, .ref (q 4)), (7, .ref (q 5)), (8, .int (nI sh))]) hx hb dL_isTold_206 hl (k := 9) rfl (nI_1 (ch)) (by decide) rfl (fun ls hl => ?_)
                                refine lv_goto (tgt := 177) hx hb dL_isTold_209 (by decide) ?_
                                refine W.widen (k := 5 * sh + 2 + (ch + 1)) (n := 6 * (5 * sh + 2 + (ch + 1))) (by omega) (by omega) ?_
                                exact ih_177 _ (by omega) (ch + 1) rfl (by omega) _ _ hP hS (Nat.le_trans (by omega) hg0) _ (lv_sub hl [1, 2, 3, 4, 5, 6, 7, 8, 9, 0] rfl)
                              · skip
                                refine lv_iconst (v := 0) hx hb dL_isTold_204 (by decide) ?_
                                refine W.widen (k := 60) (n := 360) (by omega) (by omega) ?_
                                exact W.zret (v := 0) hx hb hr rfl (fun t ht hW => ⟨0, rfl, by first | (rw [ht]; done) | (rw [ht]; exact hS.1), fun q hq => by first | (rw [ht]; done) | (rw [ht]; exact hS.2.1 q hq (fun h => h)), by rw [ht]; exact (Or.inl rfl)⟩) hS.2.2 dL_isTold_205
                        refine W.widen (k := 5 * sh + 2 + 0) (n := 6 * (5 * sh + 2 + 0)) (by omega) (by omega) ?_
                        exact hloop_177 _ 0 rfl (Nat.zero_le _) _ _ hP hS hg0 _ (lv_sub hl [1, 2, 3, 4, 5, 6, 7, 8, 9, 0] rfl)
                      · skip
                        refine lv_iconst (v := 0) hx hb dL_isTold_172 (by decide) ?_
                        refine W.widen (k := 60) (n := 360) (by omega) (by omega) ?_
                        exact W.zret (v := 0) hx hb hr rfl (fun t ht hW => ⟨0, rfl, by first | (rw [ht]; done) | (rw [ht]; exact hS.1), fun q hq => by first | (rw [ht]; done) | (rw [ht]; exact hS.2.1 q hq (fun h => h)), by rw [ht]; exact (Or.inl rfl)⟩) hS.2.2 dL_isTold_173
                  · skip
                    have hlt2 : j < n := n_lt c_113 (by omega)
                    refine lv_iload hx hb dL_isTold_116 (lv_at hl 10 rfl) ?_
                    refine lv_aload_n hx hb dL_isTold_118 rfl (lv_at hl 2 rfl) ?_
                    refine lv_iload hx hb dL_isTold_119 (lv_at hl 11 rfl) ?_
                    refine va_iald hx hb hK hP 0 0 rfl rfl (vp_in_nI (by omega) (by decide)) dL_isTold_121 ?_
                    refine lv_topi (fun y_121 _ => ?_)
                    refine lv_bipush (v := 7) hx hb dL_isTold_122 (by decide) ?_
                    refine lv_ishr hx hb dL_isTold_124 ?_
                    refine lv_topi (fun y_124 _ => ?_)
                    refine lv_bipush (v := 63) hx hb dL_isTold_125 (by decide) ?_
                    refine lv_iand hx hb dL_isTold_127 ?_
                    refine lv_topi (fun y_127 _ => ?_)
                    refine lv_bipush (v := 10) hx hb dL_isTold_128 (by decide) ?_
                    refine lv_idiv hx hb dL_isTold_130 (by decide) ?_
                    refine lv_topi (fun y_130 _ => ?_)
                    refine lv_iload hx hb dL_isTold_131 (lv_at hl 8 rfl) ?_
                    refine lv_icmp_ne (tgt := 140) hx hb dL_isTold_133 (by decide) (fun c_133 => ?_) (fun c_133 => ?_)
                    · skip
                      refine lv_iconst (v := 0) hx hb dL_isTold_140 (by decide) ?_
                      refine lv_iadd hx hb dL_isTold_141 ?_
                      refine lv_topi (fun y_141 _ => ?_)
                      refine lv_istore (lv' := [(10, .int y_141), (0, .ref (ad 16)), (1, .int y), (2, .ref (q 0)), (3, .ref (q 1)), (4, .ref (q 2)), (5, .ref (q 3)), (6, .ref (q 4)), (7, .ref (q 5)), (8, .int (nI sh)), (9, .int a9), (11, .int (nI j))]) hx hb dL_isTold_142 hl (by decide) rfl (fun ls hl => ?_)
                      refine lv_iinc (v := nI (j + 1)) (lv' := [(11, .int (nI (j + 1))), (10, .int y_141), (0, .ref (ad 16)), (1, .int y), (2, .ref (q 0)), (3, .ref (q 1)), (4, .ref (q 2)), (5, .ref (q 3)), (6, .ref (q 4)), (7, .ref (q 5)), (8, .int (nI sh)), (9, .int a9)]) hx hb dL_isTold_144 hl (k := 11) rfl (nI_1 (j)) (by decide) rfl (fun ls hl => ?_)
                      refine lv_goto (tgt := 107) hx hb dL_isTold_147 (by decide) ?_
                      refine W.widen (k := 5 * sh) (n := 6 * (5 * sh)) (by omega) (by omega) ?_
                      exact ih_107 _ (by omega) (j + 1) y_141 rfl (by omega) _ _ hP hS (Nat.le_trans (by omega) hg0) _ (lv_sub hl [2, 3, 4, 5, 6, 7, 8, 9, 10, 11, 1, 0] rfl)
                    · skip
                      refine lv_iconst (v := 1) hx hb dL_isTold_136 (by decide) ?_
                      refine lv_goto (tgt := 141) hx hb dL_isTold_137 (by decide) ?_
                      refine lv_iadd hx hb dL_isTold_141 ?_
                      refine lv_topi (fun y_141 _ => ?_)
                      refine lv_istore (lv' := [(10, .int y_141), (0, .ref (ad 16)), (1, .int y), (2, .ref (q 0)), (3, .ref (q 1)), (4, .ref (q 2)), (5, .ref (q 3)), (6, .ref (q 4)), (7, .ref (q 5)), (8, .int (nI sh)), (9, .int a9), (11, .int (nI j))]) hx hb dL_isTold_142 hl (by decide) rfl (fun ls hl => ?_)
                      refine lv_iinc (v := nI (j + 1)) (lv' := [(11, .int (nI (j + 1))), (10, .int y_141), (0, .ref (ad 16)), (1, .int y), (2, .ref (q 0)), (3, .ref (q 1)), (4, .ref (q 2)), (5, .ref (q 3)), (6, .ref (q 4)), (7, .ref (q 5)), (8, .int (nI sh)), (9, .int a9)]) hx hb dL_isTold_144 hl (k := 11) rfl (nI_1 (j)) (by decide) rfl (fun ls hl => ?_)
                      refine lv_goto (tgt := 107) hx hb dL_isTold_147 (by decide) ?_
                      refine W.widen (k := 5 * sh) (n := 6 * (5 * sh)) (by omega) (by omega) ?_
                      exact ih_107 _ (by omega) (j + 1) y_141 rfl (by omega) _ _ hP hS (Nat.le_trans (by omega) hg0) _ (lv_sub hl [2, 3, 4, 5, 6, 7, 8, 9, 10, 11, 1, 0] rfl)
              refine W.widen (k := 5 * sh) (n := 6 * (5 * sh)) (by omega) (by omega) ?_
              exact hloop_107 _ 0 0 rfl (Nat.zero_le _) _ _ hP hS hg0 _ (lv_sub hl [1, 2, 3, 4, 5, 6, 7, 8, 9, 10, 11, 0] rfl)
            · skip
              obtain rfl : i = 0 := by have := n_lt c_24 (by omega); omega
              refine lv_iload hx hb dL_isTold_27 (lv_at hl 9 rfl) ?_
              refine lv_aload hx hb dL_isTold_29 (lv_at hl 4 rfl) ?_
              refine lv_iload hx hb dL_isTold_31 (lv_at hl 11 rfl) ?_
              refine va_iald hx hb hK hP 2 0 rfl rfl (vp_in_nI (by omega) (by decide)) dL_isTold_33 ?_
              refine lv_topi (fun y_33 _ => ?_)
              refine lv_bipush (v := 7) hx hb dL_isTold_34 (by decide) ?_
              refine lv_ishr hx hb dL_isTold_36 ?_
              refine lv_topi (fun y_36 _ => ?_)
              refine lv_bipush (v := 7) hx hb dL_isTold_37 (by decide) ?_
              refine lv_iand hx hb dL_isTold_39 ?_
              refine lv_topi (fun y_39 _ => ?_)
              refine lv_iload hx hb dL_isTold_40 (lv_at hl 8 rfl) ?_
              refine lv_icmp_ne (tgt := 59) hx hb dL_isTold_42 (by decide) (fun c_42 => ?_) (fun c_42 => ?_)
              · skip
                refine lv_iconst (v := 0) hx hb dL_isTold_59 (by decide) ?_
                refine lv_iadd hx hb dL_isTold_60 ?_
                refine lv_topi (fun y_60 _ => ?_)
                refine lv_istore (lv' := [(9, .int y_60), (0, .ref (ad 16)), (1, .int y), (2, .ref (q 0)), (3, .ref (q 1)), (4, .ref (q 2)), (5, .ref (q 3)), (6, .ref (q 4)), (7, .ref (q 5)), (8, .int (nI sh)), (10, .int 0), (11, .int (nI 0))]) hx hb dL_isTold_61 hl (by decide) rfl (fun ls hl => ?_)
                refine lv_iload hx hb dL_isTold_63 (lv_at hl 0 rfl) ?_
                refine lv_aload hx hb dL_isTold_65 (lv_at hl 5 rfl) ?_
                refine lv_iload hx hb dL_isTold_67 (lv_at hl 11 rfl) ?_
                refine va_iald hx hb hK hP 2 0 rfl rfl (by unfold vp_in; decide) dL_isTold_69 ?_
                refine lv_topi (fun y_69 _ => ?_)
                refine lv_bipush (v := 10) hx hb dL_isTold_70 (by decide) ?_
                refine lv_ishr hx hb dL_isTold_72 ?_
                refine lv_topi (fun y_72 _ => ?_)
                refine lv_iload hx hb dL_isTold_73 (lv_at hl 9 rfl) ?_
                refine lv_iconst (v := 1) hx hb dL_isTold_75 (by decide) ?_
                refine lv_iadd hx hb dL_isTold_76 ?_
                refine lv_topi (fun y_76 _ => ?_)
                refine lv_icmp_ne (tgt := 94) hx hb dL_isTold_77 (by decide) (fun c_77 => ?_) (fun c_77 => ?_)
                · skip
                  refine lv_iconst (v := 0) hx hb dL_isTold_94 (by decide) ?_
                  refine lv_iadd hx hb dL_isTold_95 ?_
                  refine lv_topi (fun y_95 _ => ?_)
                  refine lv_istore (lv' := [(9, .int y_95), (0, .ref (ad 16)), (1, .int y), (2, .ref (q 0)), (3, .ref (q 1)), (4, .ref (q 2)), (5, .ref (q 3)), (6, .ref (q 4)), (7, .ref (q 5)), (8, .int (nI sh)), (10, .int 0), (11, .int (nI 0))]) hx hb dL_isTold_96 hl (by decide) rfl (fun ls hl => ?_)
                  refine lv_iinc (v := nI (0 + 1)) (lv' := [(11, .int (nI (0 + 1))), (9, .int y_95), (0, .ref (ad 16)), (1, .int y), (2, .ref (q 0)), (3, .ref (q 1)), (4, .ref (q 2)), (5, .ref (q 3)), (6, .ref (q 4)), (7, .ref (q 5)), (8, .int (nI sh)), (10, .int 0)]) hx hb dL_isTold_98 hl (k := 11) rfl (nI_1 (0)) (by decide) rfl (fun ls hl => ?_)
                  refine lv_goto (tgt := 18) hx hb dL_isTold_101 (by decide) ?_
                  refine W.widen (k := 5 * sh) (n := 6 * (5 * sh)) (by omega) (by omega) ?_
                  exact ih_18 _ (by omega) 1 y_95 rfl (by omega) _ _ hP hS (Nat.le_trans (by omega) hg0) _ (lv_sub hl [2, 3, 4, 5, 6, 7, 8, 9, 10, 1, 11, 0] rfl)
                · skip
                  refine lv_aload_n hx hb dL_isTold_80 rfl (lv_at hl 3 rfl) ?_
                  refine lv_aload hx hb dL_isTold_81 (lv_at hl 5 rfl) ?_
                  refine lv_aload hx hb dL_isTold_83 (lv_at hl 8 rfl) ?_
                  refine lv_iload hx hb dL_isTold_85 (lv_at hl 11 rfl) ?_
                  refine lv_iconst (v := 1) hx hb dL_isTold_87 (by decide) ?_
                  have hPc := hP.sub (ws' := [(q 0, .inl (cA, 40, .inl (h 0))), (q 2, .inl (cA, 9, .inl (h 2))), (q 5, .inl (cA, 6, .inl (h 5)))]) [0, 2, 5] rfl
                  refine vp_callSi (W.runS (As := [.ref (q 0), .ref (q 2), .ref (q 5), .int (nI 0), .int 1]) (rest := [.int y_60]) ⟨hx, hb, hml, hown, hts⟩ (c_L_ofRange l D cA cZ cL (q 0) (h 0) (q 2) (h 2) (q 5) (h 5) n hn hn4 1 (by decide)) (va_cwS 5 hts gL_isTold_L_ofRange rfl rfl rfl (by decide +kernel) ⟨Nat.le_of_ble_eq_true rfl, Nat.le_of_ble_eq_true rfl⟩) ⟨qPre_blind, qPre_at hPc hK⟩ rfl rfl hl.1 rfl (lv_room (Nat.le_of_ble_eq_true rfl)) dL_isTold_88 ⟨by show 5 * sh + 0 ≤ 60; omega, by show 6 * (5 * sh) + 0 ≤ 360; omega⟩) (fun z_88 hz_88 => ?_)
                  refine lv_goto (tgt := 95) hx hb dL_isTold_91 (by decide) ?_
                  refine lv_iadd hx hb dL_isTold_95 ?_
                  refine lv_topi (fun y_95 _ => ?_)
                  refine lv_istore (lv' := [(9, .int y_95), (0, .ref (ad 16)), (1, .int y), (2, .ref (q 0)), (3, .ref (q 1)), (4, .ref (q 2)), (5, .ref (q 3)), (6, .ref (q 4)), (7, .ref (q 5)), (8, .int (nI sh)), (10, .int 0), (11, .int (nI 0))]) hx hb dL_isTold_96 hl (by decide) rfl (fun ls hl => ?_)
                  refine lv_iinc (v := nI (0 + 1)) (lv' := [(11, .int (nI (0 + 1))), (9, .int y_95), (0, .ref (ad 16)), (1, .int y), (2, .ref (q 0)), (3, .ref (q 1)), (4, .ref (q 2)), (5, .ref (q 3)), (6, .ref (q 4)), (7, .ref (q 5)), (8, .int (nI sh)), (10, .int 0)]) hx hb dL_isTold_98 hl (k := 11) rfl (nI_1 (0)) (by decide) rfl (fun ls hl => ?_)
                  refine lv_goto (tgt := 18) hx hb dL_isTold_101 (by decide) ?_
                  refine W.widen (k := 5 * sh) (n := 6 * (5 * sh)) (by omega) (by omega) ?_
                  exact ih_18 _ (by omega) 1 y_95 rfl (by omega) _ _ hP hS (Nat.le_trans (by omega) hg0) _ (lv_sub hl [2, 3, 4, 5, 6, 7, 8, 9, 10, 1, 11, 0] rfl)
              · skip
                refine lv_aload_n hx hb dL_isTold_45 rfl (lv_at hl 2 rfl) ?_
                refine lv_aload hx hb dL_isTold_46 (lv_at hl 4 rfl) ?_
                refine lv_aload hx hb dL_isTold_48 (lv_at hl 7 rfl) ?_
                refine lv_iload hx hb dL_isTold_50 (lv_at hl 11 rfl) ?_
                refine lv_iconst (v := 0) hx hb dL_isTold_52 (by decide) ?_
                have hPc := hP.sub (ws' := [(q 0, .inl (cA, 40, .inl (h 0))), (q 2, .inl (cA, 9, .inl (h 2))), (q 5, .inl (cA, 6, .inl (h 5)))]) [0, 2, 5] rfl
                refine vp_callSi (W.runS (As := [.ref (q 0), .ref (q 2), .ref (q 5), .int (nI 0), .int 0]) (rest := [.int a9]) ⟨hx, hb, hml, hown, hts⟩ (c_L_ofRange l D cA cZ cL (q 0) (h 0) (q 2) (h 2) (q 5) (h 5) n hn hn4 0 (by decide)) (va_cwS 5 hts gL_isTold_L_ofRange rfl rfl rfl (by decide +kernel) ⟨Nat.le_of_ble_eq_true rfl, Nat.le_of_ble_eq_true rfl⟩) ⟨qPre_blind, qPre_at hPc hK⟩ rfl rfl hl.1 rfl (lv_room (Nat.le_of_ble_eq_true rfl)) dL_isTold_53 ⟨by show 5 * sh + 0 ≤ 60; omega, by show 6 * (5 * sh) + 0 ≤ 360; omega⟩) (fun z_53 hz_53 => ?_)
                refine lv_goto (tgt := 60) hx hb dL_isTold_56 (by decide) ?_
                refine lv_iadd hx hb dL_isTold_60 ?_
                refine lv_topi (fun y_60 _ => ?_)
                refine lv_istore (lv' := [(9, .int y_60), (0, .ref (ad 16)), (1, .int y), (2, .ref (q 0)), (3, .ref (q 1)), (4, .ref (q 2)), (5, .ref (q 3)), (6, .ref (q 4)), (7, .ref (q 5)), (8, .int (nI sh)), (10, .int 0), (11, .int (nI 0))]) hx hb dL_isTold_61 hl (by decide) rfl (fun ls hl => ?_)
                refine lv_iload hx hb dL_isTold_63 (lv_at hl 0 rfl) ?_
                refine lv_aload hx hb dL_isTold_65 (lv_at hl 5 rfl) ?_
                refine lv_iload hx hb dL_isTold_67 (lv_at hl 11 rfl) ?_
                refine va_iald hx hb hK hP 2 0 rfl rfl (by unfold vp_in; decide) dL_isTold_69 ?_
                refine lv_topi (fun y_69 _ => ?_)
                refine lv_bipush (v := 10) hx hb dL_isTold_70 (by decide) ?_
                refine lv_ishr hx hb dL_isTold_72 ?_
                refine lv_topi (fun y_72 _ => ?_)
                refine lv_iload hx hb dL_isTold_73 (lv_at hl 9 rfl) ?_
                refine lv_iconst (v := 1) hx hb dL_isTold_75 (by decide) ?_
                refine lv_iadd hx hb dL_isTold_76 ?_
                refine lv_topi (fun y_76 _ => ?_)
                refine lv_icmp_ne (tgt := 94) hx hb dL_isTold_77 (by decide) (fun c_77 => ?_) (fun c_77 => ?_)
                · skip
                  refine lv_iconst (v := 0) hx hb dL_isTold_94 (by decide) ?_
                  refine lv_iadd hx hb dL_isTold_95 ?_
                  refine lv_topi (fun y_95 _ => ?_)
                  refine lv_istore (lv' := [(9, .int y_95), (0, .ref (ad 16)), (1, .int y), (2, .ref (q 0)), (3, .ref (q 1)), (4, .ref (q 2)), (5, .ref (q 3)), (6, .ref (q 4)), (7, .ref (q 5)), (8, .int (nI sh)), (10, .int 0), (11, .int (nI 0))]) hx hb dL_isTold_96 hl (by decide) rfl (fun ls hl => ?_)
                  refine lv_iinc (v := nI (0 + 1)) (lv' := [(11, .int (nI (0 + 1))), (9, .int y_95), (0, .ref (ad 16)), (1, .int y), (2, .ref (q 0)), (3, .ref (q 1)), (4, .ref (q 2)), (5, .ref (q 3)), (6, .ref (q 4)), (7, .ref (q 5)), (8, .int (nI sh)), (10, .int 0)]) hx hb dL_isTold_98 hl (k := 11) rfl (nI_1 (0)) (by decide) rfl (fun ls hl => ?_)
                  refine lv_goto (tgt := 18) hx hb dL_isTold_101 (by decide) ?_
                  refine W.widen (k := 5 * sh) (n := 6 * (5 * sh)) (by omega) (by omega) ?_
                  exact ih_18 _ (by omega) 1 y_95 rfl (by omega) _ _ hP hS (Nat.le_trans (by omega) hg0) _ (lv_sub hl [2, 3, 4, 5, 6, 7, 8, 9, 10, 1, 11, 0] rfl)
                · skip
                  refine lv_aload_n hx hb dL_isTold_80 rfl (lv_at hl 3 rfl) ?_
                  refine lv_aload hx hb dL_isTold_81 (lv_at hl 5 rfl) ?_
                  refine lv_aload hx hb dL_isTold_83 (lv_at hl 8 rfl) ?_
                  refine lv_iload hx hb dL_isTold_85 (lv_at hl 11 rfl) ?_
                  refine lv_iconst (v := 1) hx hb dL_isTold_87 (by decide) ?_
                  have hPc := hP.sub (ws' := [(q 0, .inl (cA, 40, .inl (h 0))), (q 2, .inl (cA, 9, .inl (h 2))), (q 5, .inl (cA, 6, .inl (h 5)))]) [0, 2, 5] rfl
                  refine vp_callSi (W.runS (As := [.ref (q 0), .ref (q 2), .ref (q 5), .int (nI 0), .int 1]) (rest := [.int y_60]) ⟨hx, hb, hml, hown, hts⟩ (c_L_ofRange l D cA cZ cL (q 0) (h 0) (q 2) (h 2) (q 5) (h 5) n hn hn4 1 (by decide)) (va_cwS 5 hts gL_isTold_L_ofRange rfl rfl rfl (by decide +kernel) ⟨Nat.le_of_ble_eq_true rfl, Nat.le_of_ble_eq_true rfl⟩) ⟨qPre_blind, qPre_at hPc hK⟩ rfl rfl hl.1 rfl (lv_room (Nat.le_of_ble_eq_true rfl)) dL_isTold_88 ⟨by show 5 * sh + 0 ≤ 60; omega, by show 6 * (5 * sh) + 0 ≤ 360; omega⟩) (fun z_88 hz_88 => ?_)
                  refine lv_goto (tgt := 95) hx hb dL_isTold_91 (by decide) ?_
                  refine lv_iadd hx hb dL_isTold_95 ?_
                  refine lv_topi (fun y_95 _ => ?_)
                  refine lv_istore (lv' := [(9, .int y_95), (0, .ref (ad 16)), (1, .int y), (2, .ref (q 0)), (3, .ref (q 1)), (4, .ref (q 2)), (5, .ref (q 3)), (6, .ref (q 4)), (7, .ref (q 5)), (8, .int (nI sh)), (10, .int 0), (11, .int (nI 0))]) hx hb dL_isTold_96 hl (by decide) rfl (fun ls hl => ?_)
                  refine lv_iinc (v := nI (0 + 1)) (lv' := [(11, .int (nI (0 + 1))), (9, .int y_95), (0, .ref (ad 16)), (1, .int y), (2, .ref (q 0)), (3, .ref (q 1)), (4, .ref (q 2)), (5, .ref (q 3)), (6, .ref (q 4)), (7, .ref (q 5)), (8, .int (nI sh)), (10, .int 0)]) hx hb dL_isTold_98 hl (k := 11) rfl (nI_1 (0)) (by decide) rfl (fun ls hl => ?_)
                  refine lv_goto (tgt := 18) hx hb dL_isTold_101 (by decide) ?_
                  refine W.widen (k := 5 * sh) (n := 6 * (5 * sh)) (by omega) (by omega) ?_
                  exact ih_18 _ (by omega) 1 y_95 rfl (by omega) _ _ hP hS (Nat.le_trans (by omega) hg0) _ (lv_sub hl [2, 3, 4, 5, 6, 7, 8, 9, 10, 1, 11, 0] rfl)
        refine W.widen (k := 5 * sh) (n := 6 * (5 * sh)) (by omega) (by omega) ?_
        exact hloop_18 _ 0 0 rfl (Nat.zero_le _) _ _ hP hS hg0 _ (lv_sub hl [3, 4, 5, 6, 7, 8, 9, 10, 11, 2, 1, 0] rfl)
  refine W.widen (k := 5 * 0) (n := 6 * (5 * 0)) (by omega) (by omega) ?_
  exact hloop_3 _ 0 rfl (Nat.zero_le _) _ _ hP hS hg0 _ (lv_sub hl [1, 2, 3, 4, 5, 6, 7, 8, 0] rfl)
end
section
theorem n_ne40 {n : Nat} (h : n ≤ 40) (c : ¬ nI n = 40) : n < 40 := by
  rcases Nat.lt_or_ge n 40 with q9 | q9
  · exact q9
  · exact absurd (by rw [show n = 40 by omega]; rfl) c
set_option maxHeartbeats 4000000 in
set_option maxRecDepth 100000 in
/-- a turn of writes on the script of zeros: four calls of it are refused -/
theorem c_L_writes (l : Launch) (hl0 : l.stackTraces = false) (D : va_G) (cA cZ cL : ClassId) (ad q : Nat → Nat) (f : qFs) (g : qGs) (h : Nat → Nat → Int32) (z0 sz : Nat) (hR : RInv f h) : Met l yL_writes wsL_writes ({ frames := 9, cells := 10, slots := 60, locals := 156 } : Room) (va_Pc [.ref (ad 16), .int 0, .int 0, .int 0, .ref (q 0), .ref (q 5)] (qPreZ z0 D (qTy cA cZ cL) (LW cA ad q f g h) sz)) (va_Qi (fun (z : Int32) (u : ((qFs × qGs) × (Nat → Nat → Int32)) × Nat) => RInv u.1.1.1 u.1.2 ∧ (z = 0 ∨ sz + 4 ≤ u.2)) (qAtN D (fun q : Nat => z0 ≤ q) (fun u : (qFs × qGs) × (Nat → Nat → Int32) => LW cA ad q u.1.1 u.1.2 u.2)) (fun q : Nat => z0 ≤ q)) 10 60 (fun q : Nat => z0 ≤ q) := by
  refine Met.ofW (cc := cL_writes) (maxL := 11) (ret := (some .boolean)) (by decide) rfl ?_
  intro p e s m args below meth c s₁ B hml hv
  obtain ⟨rfl, hsz, hz0, hP, hK, hD, hTZ⟩ := hv
  have hx := B.exec
  have hb := B.bytes
  have hr := B.returns
  have hts := atoms_spec (ws := wsL_writes) B.pre
  have hown : s.vm.findClass RL = some m.cls := findClass_of_methodNamed B.named
  have hlocks := B.notSynchronized
  subst hsz
  have hA : ∀ q : Nat, s.heap.size ≤ q → (fun q : Nat => z0 ≤ q) q := fun q h => Nat.le_trans hz0 h
  have hS : va_S (fun q : Nat => z0 ≤ q) s.heap s.heap [] := va_S.rf
  have hg0 : s.heap.size + 0 ≤ s.heap.size := Nat.le_refl _
  have hl := lv_entry ([.ref (ad 16), .int 0, .int 0, .int 0, .ref (q 0), .ref (q 5)]) (n := 11) (Nat.le_of_ble_eq_true rfl)
  rw [lg_entry_eq]
  generalize (lg_sl ([.ref (ad 16), .int 0, .int 0, .int 0, .ref (q 0), .ref (q 5)]) ++ List.replicate (11 - (lg_sl ([.ref (ad 16), .int 0, .int 0, .int 0, .ref (q 0), .ref (q 5)])).length) Slot.unset).toArray = ls at hl ⊢
  have hl : lv_has ls 11 [(0, .ref (ad 16)), (1, .int 0), (2, .int 0), (3, .int 0), (4, .ref (q 0)), (5, .ref (q 5))] := hl
  obtain ⟨hI, h99, hm1, hm4, hm5, n, hn4, hn⟩ := hR
  refine W.widen (k := 0) (n := 6 * 0) (by omega) (by omega) ?_
  refine lv_iload_n hx hb dL_writes_0 rfl (lv_at hl 2 rfl) ?_
  refine lv_bipush (v := 96) hx hb dL_writes_1 (by decide) ?_
  refine lv_iand hx hb dL_writes_3 ?_
  refine lv_topi (fun v_3 hv_3 => ?_)
  have hv_3 : v_3 = 0 := hv_3.trans (by decide)
  subst hv_3
  refine lv_if_eq (tgt := 14) hx hb dL_writes_4 (by decide) (fun c_4 => ?_) (fun c_4 => ?_)
  · skip
    refine lv_iload_n hx hb dL_writes_14 rfl (lv_at hl 2 rfl) ?_
    refine lv_bipush (v := 7) hx hb dL_writes_15 (by decide) ?_
    refine lv_ishr hx hb dL_writes_17 ?_
    refine lv_topi (fun y_17 _ => ?_)
    refine lv_bipush (v := 100) hx hb dL_writes_18 (by decide) ?_
    have hPc : va_P D vwCl [] _ := hP.sub (ws' := []) [] rfl
    refine vp_callSi (W.runS (As := [.int y_17, .int 100]) (rest := []) ⟨hx, hb, hml, hown, hts⟩ (c_L_low l D cA cZ cL  y_17 100 (by decide) (by decide)) (va_cwS 2 hts gL_writes_L_low rfl rfl rfl (by decide +kernel) ⟨Nat.le_of_ble_eq_true rfl, Nat.le_of_ble_eq_true rfl⟩) ⟨qPre_blind, qPre_at hPc hK⟩ rfl rfl hl.1 rfl (lv_room (Nat.le_of_ble_eq_true rfl)) dL_writes_20 ⟨by show 0 + 0 ≤ 10; omega, by show 6 * (0) + 0 ≤ 60; omega⟩) (fun z_20 hz_20 => ?_)
    obtain ⟨⟨kk, hkk, hz9⟩, -⟩ := hz_20
    subst hz9
    refine lv_goto (tgt := 50) hx hb dL_writes_23 (by decide) ?_
    refine lv_istore (lv' := [(6, .int (nI kk)), (0, .ref (ad 16)), (1, .int 0), (2, .int 0), (3, .int 0), (4, .ref (q 0)), (5, .ref (q 5))]) hx hb dL_writes_50 hl (by decide) rfl (fun ls hl => ?_)
    refine lv_iload hx hb dL_writes_52 (lv_at hl 0 rfl) ?_
    refine lv_bipush (v := 99) hx hb dL_writes_54 (by decide) ?_
    refine lv_icmp_le (tgt := 64) hx hb dL_writes_56 (by decide) (fun c_56 => ?_) (fun c_56 => ?_)
    · skip
      refine lv_iload hx hb dL_writes_64 (lv_at hl 0 rfl) ?_
      refine lv_istore (lv' := [(6, .int (nI kk)), (0, .ref (ad 16)), (1, .int 0), (2, .int 0), (3, .int 0), (4, .ref (q 0)), (5, .ref (q 5))]) hx hb dL_writes_66 hl (by decide) rfl (fun ls hl => ?_)
      refine lv_iload_n hx hb dL_writes_68 rfl (lv_at hl 4 rfl) ?_
      refine lv_bipush (v := 40) hx hb dL_writes_69 (by decide) ?_
      have hPc : va_P D vwCl [] _ := hP.sub (ws' := []) [] rfl
      refine vp_callSi (W.runS (As := [.int 0, .int 40]) (rest := []) ⟨hx, hb, hml, hown, hts⟩ (c_L_low l D cA cZ cL  0 40 (by decide) (by decide)) (va_cwS 2 hts gL_writes_L_low rfl rfl rfl (by decide +kernel) ⟨Nat.le_of_ble_eq_true rfl, Nat.le_of_ble_eq_true rfl⟩) ⟨qPre_blind, qPre_at hPc hK⟩ rfl rfl hl.1 rfl (lv_room (Nat.le_of_ble_eq_true rfl)) dL_writes_71 ⟨by show 0 + 0 ≤ 10; omega, by show 6 * (0) + 0 ≤ 60; omega⟩) (fun z_71 hz_71 => ?_)
      obtain ⟨⟨aa, haa, hz8⟩, -⟩ := hz_71
      subst hz8
      refine lv_istore (lv' := [(7, .int (nI aa)), (6, .int (nI kk)), (0, .ref (ad 16)), (1, .int 0), (2, .int 0), (3, .int 0), (4, .ref (q 0)), (5, .ref (q 5))]) hx hb dL_writes_74 hl (by decide) rfl (fun ls hl => ?_)
      refine lv_aload hx hb dL_writes_76 (lv_at hl 6 rfl) ?_
      refine lv_aload hx hb dL_writes_78 (lv_at hl 7 rfl) ?_
      refine lv_iload hx hb dL_writes_80 (lv_at hl 1 rfl) ?_
      have hPc := hP.sub (ws' := [(q 0, .inl (cA, 40, .inl (h 0))), (q 5, .inl (cA, 6, .inl (h 5)))]) [0, 5] rfl
      refine vp_callSi (W.runS (As := [.ref (q 0), .ref (q 5), .int (nI kk)]) (rest := []) ⟨hx, hb, hml, hown, hts⟩ (c_L_member l D cA cZ cL (q 0) (h 0) (q 5) (h 5) n hn hn4 (nI kk)) (va_cwS 3 hts gL_writes_L_member rfl rfl rfl (by decide +kernel) ⟨Nat.le_of_ble_eq_true rfl, Nat.le_of_ble_eq_true rfl⟩) ⟨qPre_blind, qPre_at hPc hK⟩ rfl rfl hl.1 rfl (lv_room (Nat.le_of_ble_eq_true rfl)) dL_writes_82 ⟨by show 0 + 0 ≤ 10; omega, by show 6 * (0) + 0 ≤ 60; omega⟩) (fun z_82 hz_82 => ?_)
      refine lv_istore (lv' := [(8, .int z_82), (7, .int (nI aa)), (6, .int (nI kk)), (0, .ref (ad 16)), (1, .int 0), (2, .int 0), (3, .int 0), (4, .ref (q 0)), (5, .ref (q 5))]) hx hb dL_writes_85 hl (by decide) rfl (fun ls hl => ?_)
      refine lv_iload_n hx hb dL_writes_87 rfl (lv_at hl 4 rfl) ?_
      refine lv_iconst (v := 4) hx hb dL_writes_88 (by decide) ?_
      refine lv_icmp_ge (tgt := 230) hx hb dL_writes_89 (by decide) (fun c_89 => ?_) (fun c_89 => ?_)
      · skip
        exact absurd c_89 (by decide)
      · skip
        refine lv_aload_n hx hb dL_writes_92 rfl (lv_at hl 3 rfl) ?_
        refine lv_bipush (v := 100) hx hb dL_writes_93 (by decide) ?_
        refine lv_bipush (v := 40) hx hb dL_writes_95 (by decide) ?_
        have hPc := hP.sub (ws' := xW cA ad f g) [6, 7, 8, 9, 10, 11, 12, 13, 14, 15, 16, 17] rfl
        have hDc := hD.sub (ws' := xW cA ad f g) [6, 7, 8, 9, 10, 11, 12, 13, 14, 15, 16, 17] (by decide) rfl
        refine qb_calliPN (wc := xW cA ad f g) (wr := rW cA q h) [6, 7, 8, 9, 10, 11, 12, 13, 14, 15, 16, 17] [0, 1, 2, 3, 4, 5] rfl rfl (by decide) (by decide) hP (vx_runSW (As := [.ref (ad 16), .int 100, .int 40]) (rest := []) ⟨hx, hb, hml, hown, hts⟩ (c_L_join l hl0 D cA cZ cL ad f g s.heap.size 100 40 1 0 hI) (vx_cwSW 3 hts gL_writes_L_join rfl rfl rfl (by decide +kernel) ⟨Nat.le_of_ble_eq_true rfl, Nat.le_of_ble_eq_true rfl⟩) ⟨qPreL_blind, qPreL_at hPc hK hDc (fun U hU hW => qTZ_th (qTZ_at hTZ hS (fun _ h => h) U hU hW))⟩ rfl rfl hl.1 rfl (lv_room (Nat.le_of_ble_eq_true rfl)) dL_writes_97 ⟨by show 0 + 1 ≤ 10; omega, by show 6 * (0) + 6 ≤ 60; omega⟩) hD hS hA (fun z_97 u_97 H1 locs hu_97 hmo hP hD hS => ?_)
        obtain ⟨⟨hq5, hq15⟩, hbad⟩ := hu_97
        obtain ⟨uf_97, ug_97⟩ := u_97
        have hq5 : uf_97 5 = f 5 := hq5
        have hq15 : uf_97 15 = f 15 := hq15
        have hI : xI 1 0 uf_97 := ⟨hq5.trans hI.1, hI.2.1, hI.2.2.1, hq15.trans hI.2.2.2.1, hI.2.2.2.2⟩
        have hg1 : s.heap.size + 1 ≤ H1.size := by have h7 := hbad (by decide); have h7 : _ + 1 ≤ H1.size := h7; have h8 := hg0; omega
        have hP : va_P D vwCl (LW cA ad q uf_97 ug_97 h) H1 := hP
        have hD : va_D (fun q : Nat => z0 ≤ q) (LW cA ad q uf_97 ug_97 h) := hD
        clear hDc
        clear hPc
        refine W.widen (k := 1) (n := 6 * (1)) (by omega) (by omega) ?_
        refine lv_sipush (v := (-7100)) hx hb dL_writes_100 (by decide) ?_
        refine lv_icmp_ne (tgt := 145) hx hb dL_writes_103 (by decide) (fun c_103 => ?_) (fun c_103 => ?_)
        · skip
          refine lv_iconst (v := 0) hx hb dL_writes_145 (by decide) ?_
          refine W.widen (k := 10) (n := 60) (by omega) (by omega) ?_
          exact W.zret (v := 0) hx hb hr rfl (fun t ht hW => ⟨⟨0, (((uf_97, ug_97), h), t.heap.size), rfl, by show _ ∧ _; rw [ht]; exact ⟨⟨hI, h99, hm1, hm4, hm5, n, hn4, hn⟩, Or.inl rfl⟩, ⟨⟨by rw [ht]; exact hP, hD⟩, rfl⟩⟩, hS.F ht⟩) hS.2.2 dL_writes_146
        · skip
          refine lv_aload_n hx hb dL_writes_106 rfl (lv_at hl 3 rfl) ?_
          refine lv_iconst (v := (-1)) hx hb dL_writes_107 (by decide) ?_
          refine lv_iconst (v := 0) hx hb dL_writes_108 (by decide) ?_
          have hPc := hP.sub (ws' := xW cA ad uf_97 ug_97) [6, 7, 8, 9, 10, 11, 12, 13, 14, 15, 16, 17] rfl
          have hDc := hD.sub (ws' := xW cA ad uf_97 ug_97) [6, 7, 8, 9, 10, 11, 12, 13, 14, 15, 16, 17] (by decide) rfl
          refine qb_calliPN (wc := xW cA ad uf_97 ug_97) (wr := rW cA q h) [6, 7, 8, 9, 10, 11, 12, 13, 14, 15, 16, 17] [0, 1, 2, 3, 4, 5] rfl rfl (by decide) (by decide) hP (vx_runSW (As := [.ref (ad 16), .int (-1), .int 0]) (rest := []) ⟨hx, hb, hml, hown, hts⟩ (c_L_join l hl0 D cA cZ cL ad uf_97 ug_97 H1.size (-1) 0 1 0 hI) (vx_cwSW 3 hts gL_writes_L_join rfl rfl rfl (by decide +kernel) ⟨Nat.le_of_ble_eq_true rfl, Nat.le_of_ble_eq_true rfl⟩) ⟨qPreL_blind, qPreL_at hPc hK hDc (fun U hU hW => qTZ_th (qTZ_at hTZ hS (fun _ h => h) U hU hW))⟩ rfl rfl hl.1 rfl (lv_room (Nat.le_of_ble_eq_true rfl)) dL_writes_109 ⟨by show 1 + 1 ≤ 10; omega, by show 6 * (1) + 6 ≤ 60; omega⟩) hD hS hA (fun z_109 u_109 H1 locs hu_109 hmo hP hD hS => ?_)
          obtain ⟨⟨hq5, hq15⟩, hbad⟩ := hu_109
          obtain ⟨uf_109, ug_109⟩ := u_109
          have hq5 : uf_109 5 = uf_97 5 := hq5
          have hq15 : uf_109 15 = uf_97 15 := hq15
          have hI : xI 1 0 uf_109 := ⟨hq5.trans hI.1, hI.2.1, hI.2.2.1, hq15.trans hI.2.2.2.1, hI.2.2.2.2⟩
          have hg2 : s.heap.size + 2 ≤ H1.size := by have h7 := hbad (by decide); have h7 : _ + 1 ≤ H1.size := h7; have h8 := hg1; omega
          have hP : va_P D vwCl (LW cA ad q uf_109 ug_109 h) H1 := hP
          have hD : va_D (fun q : Nat => z0 ≤ q) (LW cA ad q uf_109 ug_109 h) := hD
          clear hDc
          clear hPc
          refine W.widen (k := 2) (n := 6 * (2)) (by omega) (by omega) ?_
          refine lv_sipush (v := (-7100)) hx hb dL_writes_112 (by decide) ?_
          refine lv_icmp_ne (tgt := 145) hx hb dL_writes_115 (by decide) (fun c_115 => ?_) (fun c_115 => ?_)
          · skip
            refine lv_iconst (v := 0) hx hb dL_writes_145 (by decide) ?_
            refine W.widen (k := 10) (n := 60) (by omega) (by omega) ?_
            exact W.zret (v := 0) hx hb hr rfl (fun t ht hW => ⟨⟨0, (((uf_109, ug_109), h), t.heap.size), rfl, by show _ ∧ _; rw [ht]; exact ⟨⟨hI, h99, hm1, hm4, hm5, n, hn4, hn⟩, Or.inl rfl⟩, ⟨⟨by rw [ht]; exact hP, hD⟩, rfl⟩⟩, hS.F ht⟩) hS.2.2 dL_writes_146
          · skip
            refine lv_aload_n hx hb dL_writes_118 rfl (lv_at hl 3 rfl) ?_
            refine lv_iload hx hb dL_writes_119 (lv_at hl 2 rfl) ?_
            refine lv_bipush (v := 40) hx hb dL_writes_121 (by decide) ?_
            have hPc := hP.sub (ws' := xW cA ad uf_109 ug_109) [6, 7, 8, 9, 10, 11, 12, 13, 14, 15, 16, 17] rfl
            have hDc := hD.sub (ws' := xW cA ad uf_109 ug_109) [6, 7, 8, 9, 10, 11, 12, 13, 14, 15, 16, 17] (by decide) rfl
            refine qb_calliPN (wc := xW cA ad uf_109 ug_109) (wr := rW cA q h) [6, 7, 8, 9, 10, 11, 12, 13, 14, 15, 16, 17] [0, 1, 2, 3, 4, 5] rfl rfl (by decide) (by decide) hP (vx_runSW (As := [.ref (ad 16), .int (nI kk), .int 40]) (rest := []) ⟨hx, hb, hml, hown, hts⟩ (c_L_join l hl0 D cA cZ cL ad uf_109 ug_109 H1.size (nI kk) 40 1 0 hI) (vx_cwSW 3 hts gL_writes_L_join rfl rfl rfl (by decide +kernel) ⟨Nat.le_of_ble_eq_true rfl, Nat.le_of_ble_eq_true rfl⟩) ⟨qPreL_blind, qPreL_at hPc hK hDc (fun U hU hW => qTZ_th (qTZ_at hTZ hS (fun _ h => h) U hU hW))⟩ rfl rfl hl.1 rfl (lv_room (Nat.le_of_ble_eq_true rfl)) dL_writes_123 ⟨by show 2 + 1 ≤ 10; omega, by show 6 * (2) + 6 ≤ 60; omega⟩) hD hS hA (fun z_123 u_123 H1 locs hu_123 hmo hP hD hS => ?_)
            obtain ⟨⟨hq5, hq15⟩, hbad⟩ := hu_123
            obtain ⟨uf_123, ug_123⟩ := u_123
            have hq5 : uf_123 5 = uf_109 5 := hq5
            have hq15 : uf_123 15 = uf_109 15 := hq15
            have hI : xI 1 0 uf_123 := ⟨hq5.trans hI.1, hI.2.1, hI.2.2.1, hq15.trans hI.2.2.2.1, hI.2.2.2.2⟩
            have hg3 : s.heap.size + 3 ≤ H1.size := by have h7 := hbad ((fun q => absurd q.2 (by decide))); have h7 : _ + 1 ≤ H1.size := h7; have h8 := hg2; omega
            have hP : va_P D vwCl (LW cA ad q uf_123 ug_123 h) H1 := hP
            have hD : va_D (fun q : Nat => z0 ≤ q) (LW cA ad q uf_123 ug_123 h) := hD
            clear hDc
            clear hPc
            refine W.widen (k := 3) (n := 6 * (3)) (by omega) (by omega) ?_
            refine lv_sipush (v := (-7200)) hx hb dL_writes_126 (by decide) ?_
            refine lv_icmp_ne (tgt := 145) hx hb dL_writes_129 (by decide) (fun c_129 => ?_) (fun c_129 => ?_)
            · skip
              refine lv_iconst (v := 0) hx hb dL_writes_145 (by decide) ?_
              refine W.widen (k := 10) (n := 60) (by omega) (by omega) ?_
              exact W.zret (v := 0) hx hb hr rfl (fun t ht hW => ⟨⟨0, (((uf_123, ug_123), h), t.heap.size), rfl, by show _ ∧ _; rw [ht]; exact ⟨⟨hI, h99, hm1, hm4, hm5, n, hn4, hn⟩, Or.inl rfl⟩, ⟨⟨by rw [ht]; exact hP, hD⟩, rfl⟩⟩, hS.F ht⟩) hS.2.2 dL_writes_146
            · skip
              refine lv_aload_n hx hb dL_writes_132 rfl (lv_at hl 3 rfl) ?_
              refine lv_iload hx hb dL_writes_133 (lv_at hl 2 rfl) ?_
              refine lv_iconst (v := (-1)) hx hb dL_writes_135 (by decide) ?_
              have hPc := hP.sub (ws' := xW cA ad uf_123 ug_123) [6, 7, 8, 9, 10, 11, 12, 13, 14, 15, 16, 17] rfl
              have hDc := hD.sub (ws' := xW cA ad uf_123 ug_123) [6, 7, 8, 9, 10, 11, 12, 13, 14, 15, 16, 17] (by decide) rfl
              refine qb_calliPN (wc := xW cA ad uf_123 ug_123) (wr := rW cA q h) [6, 7, 8, 9, 10, 11, 12, 13, 14, 15, 16, 17] [0, 1, 2, 3, 4, 5] rfl rfl (by decide) (by decide) hP (vx_runSW (As := [.ref (ad 16), .int (nI kk), .int (-1)]) (rest := []) ⟨hx, hb, hml, hown, hts⟩ (c_L_join l hl0 D cA cZ cL ad uf_123 ug_123 H1.size (nI kk) (-1) 1 0 hI) (vx_cwSW 3 hts gL_writes_L_join rfl rfl rfl (by decide +kernel) ⟨Nat.le_of_ble_eq_true rfl, Nat.le_of_ble_eq_true rfl⟩) ⟨qPreL_blind, qPreL_at hPc hK hDc (fun U hU hW => qTZ_th (qTZ_at hTZ hS (fun _ h => h) U hU hW))⟩ rfl rfl hl.1 rfl (lv_room (Nat.le_of_ble_eq_true rfl)) dL_writes_136 ⟨by show 3 + 1 ≤ 10; omega, by show 6 * (3) + 6 ≤ 60; omega⟩) hD hS hA (fun z_136 u_136 H1 locs hu_136 hmo hP hD hS => ?_)
              obtain ⟨⟨hq5, hq15⟩, hbad⟩ := hu_136
              obtain ⟨uf_136, ug_136⟩ := u_136
              have hq5 : uf_136 5 = uf_123 5 := hq5
              have hq15 : uf_136 15 = uf_123 15 := hq15
              have hI : xI 1 0 uf_136 := ⟨hq5.trans hI.1, hI.2.1, hI.2.2.1, hq15.trans hI.2.2.2.1, hI.2.2.2.2⟩
              have hg4 : s.heap.size + 4 ≤ H1.size := by have h7 := hbad ((fun q => absurd q.2 (by decide))); have h7 : _ + 1 ≤ H1.size := h7; have h8 := hg3; omega
              have hP : va_P D vwCl (LW cA ad q uf_136 ug_136 h) H1 := hP
              have hD : va_D (fun q : Nat => z0 ≤ q) (LW cA ad q uf_136 ug_136 h) := hD
              clear hDc
              clear hPc
              refine W.widen (k := 4) (n := 6 * (4)) (by omega) (by omega) ?_
              refine lv_sipush (v := (-7200)) hx hb dL_writes_139 (by decide) ?_
              refine lv_icmp_eq (tgt := 147) hx hb dL_writes_142 (by decide) (fun c_142 => ?_) (fun c_142 => ?_)
              · skip
                refine lv_iload hx hb dL_writes_147 (lv_at hl 0 rfl) ?_
                refine lv_if_ge (tgt := 161) hx hb dL_writes_149 (by decide) (fun c_149 => ?_) (fun c_149 => ?_)
                · skip
                  refine lv_aload_n hx hb dL_writes_161 rfl (lv_at hl 3 rfl) ?_
                  refine lv_iload hx hb dL_writes_162 (lv_at hl 2 rfl) ?_
                  refine lv_iload hx hb dL_writes_164 (lv_at hl 1 rfl) ?_
                  have hPc := hP.sub (ws' := xW cA ad uf_136 ug_136) [6, 7, 8, 9, 10, 11, 12, 13, 14, 15, 16, 17] rfl
                  have hDc := hD.sub (ws' := xW cA ad uf_136 ug_136) [6, 7, 8, 9, 10, 11, 12, 13, 14, 15, 16, 17] (by decide) rfl
                  refine qb_calliPN (wc := xW cA ad uf_136 ug_136) (wr := rW cA q h) [6, 7, 8, 9, 10, 11, 12, 13, 14, 15, 16, 17] [0, 1, 2, 3, 4, 5] rfl rfl (by decide) (by decide) hP (vx_runSW (As := [.ref (ad 16), .int (nI kk), .int (nI aa)]) (rest := []) ⟨hx, hb, hml, hown, hts⟩ (c_L_join l hl0 D cA cZ cL ad uf_136 ug_136 H1.size (nI kk) (nI aa) 1 0 hI) (vx_cwSW 3 hts gL_writes_L_join rfl rfl rfl (by decide +kernel) ⟨Nat.le_of_ble_eq_true rfl, Nat.le_of_ble_eq_true rfl⟩) ⟨qPreL_blind, qPreL_at hPc hK hDc (fun U hU hW => qTZ_th (qTZ_at hTZ hS (fun _ h => h) U hU hW))⟩ rfl rfl hl.1 rfl (lv_room (Nat.le_of_ble_eq_true rfl)) dL_writes_166 ⟨by show 4 + 1 ≤ 10; omega, by show 6 * (4) + 6 ≤ 60; omega⟩) hD hS hA (fun z_166 u_166 H1 locs hu_166 hmo hP hD hS => ?_)
                  obtain ⟨⟨hq5, hq15⟩, hbad⟩ := hu_166
                  obtain ⟨uf_166, ug_166⟩ := u_166
                  have hq5 : uf_166 5 = uf_136 5 := hq5
                  have hq15 : uf_166 15 = uf_136 15 := hq15
                  have hI : xI 1 0 uf_166 := ⟨hq5.trans hI.1, hI.2.1, hI.2.2.1, hq15.trans hI.2.2.2.1, hI.2.2.2.2⟩
                  have hg4 : s.heap.size + 4 ≤ H1.size := Nat.le_trans hg4 hmo
                  have hP : va_P D vwCl (LW cA ad q uf_166 ug_166 h) H1 := hP
                  have hD : va_D (fun q : Nat => z0 ≤ q) (LW cA ad q uf_166 ug_166 h) := hD
                  clear hDc
                  clear hPc
                  refine W.widen (k := 5) (n := 6 * (5)) (by omega) (by omega) ?_
                  refine lv_sipush (v := (-7300)) hx hb dL_writes_169 (by decide) ?_
                  refine lv_icmp_ne (tgt := 179) hx hb dL_writes_172 (by decide) (fun c_172 => ?_) (fun c_172 => ?_)
                  · skip
                    refine lv_iconst (v := 0) hx hb dL_writes_179 (by decide) ?_
                    refine W.widen (k := 10) (n := 60) (by omega) (by omega) ?_
                    exact W.zret (v := 0) hx hb hr rfl (fun t ht hW => ⟨⟨0, (((uf_166, ug_166), h), t.heap.size), rfl, by show _ ∧ _; rw [ht]; exact ⟨⟨hI, h99, hm1, hm4, hm5, n, hn4, hn⟩, Or.inl rfl⟩, ⟨⟨by rw [ht]; exact hP, hD⟩, rfl⟩⟩, hS.F ht⟩) hS.2.2 dL_writes_180
                  · skip
                    refine lv_iconst (v := 1) hx hb dL_writes_175 (by decide) ?_
                    refine lv_goto (tgt := 180) hx hb dL_writes_176 (by decide) ?_
                    refine W.widen (k := 10) (n := 60) (by omega) (by omega) ?_
                    exact W.zret (v := 1) hx hb hr rfl (fun t ht hW => ⟨⟨1, (((uf_166, ug_166), h), t.heap.size), rfl, by show _ ∧ _; rw [ht]; exact ⟨⟨hI, h99, hm1, hm4, hm5, n, hn4, hn⟩, Or.inr hg4⟩, ⟨⟨by rw [ht]; exact hP, hD⟩, rfl⟩⟩, hS.F ht⟩) hS.2.2 dL_writes_180
                · skip
                  refine lv_aload hx hb dL_writes_152 (lv_at hl 8 rfl) ?_
                  refine lv_iconst (v := 0) hx hb dL_writes_154 (by decide) ?_
                  refine va_iald hx hb hK hP 5 0 rfl rfl (by unfold vp_in; decide) dL_writes_155 ?_
                  refine lv_topi (fun v_155 hv_155 => ?_)
                  have hv_155 : v_155 = nI n := hv_155.trans (by rw [cl0]; exact hn)
                  subst hv_155
                  refine lv_bipush (v := 40) hx hb dL_writes_156 (by decide) ?_
                  refine lv_icmp_ne (tgt := 181) hx hb dL_writes_158 (by decide) (fun c_158 => ?_) (fun c_158 => ?_)
                  · skip
                    have hlt : n < 40 := n_ne40 hn4 c_158
                    refine lv_aload hx hb dL_writes_181 (lv_at hl 7 rfl) ?_
                    refine lv_aload hx hb dL_writes_183 (lv_at hl 8 rfl) ?_
                    refine lv_iconst (v := 0) hx hb dL_writes_185 (by decide) ?_
                    refine va_iald hx hb hK hP 5 0 rfl rfl (by unfold vp_in; decide) dL_writes_186 ?_
                    refine lv_topi (fun v_186 hv_186 => ?_)
                    have hv_186 : v_186 = nI n := hv_186.trans (by rw [cl0]; exact hn)
                    subst hv_186
                    refine lv_iload hx hb dL_writes_187 (lv_at hl 2 rfl) ?_
                    refine lv_sipush (v := 128) hx hb dL_writes_189 (by decide) ?_
                    refine lv_iload hx hb dL_writes_192 (lv_at hl 1 rfl) ?_
                    refine lv_imul hx hb dL_writes_194 ?_
                    refine lv_topi (fun y_194 _ => ?_)
                    refine lv_iadd hx hb dL_writes_195 ?_
                    refine lv_topi (fun y_195 _ => ?_)
                    refine lv_sipush (v := 8192) hx hb dL_writes_196 (by decide) ?_
                    refine lv_iadd hx hb dL_writes_199 ?_
                    refine lv_topi (fun y_199 _ => ?_)
                    refine rb_iast hx hb hK hP hD hS 0 0 rfl rfl (vp_in_nI hlt (by decide)) dL_writes_200 (fun H1 locs hzz hP hD hS => ?_)
                    have hix : (nI n).toNatClampNeg = n := nI_clamp (by omega)
                    rw [hix] at hP hD
                    have hP : va_P D vwCl (LW cA ad q uf_136 ug_136 (va_up h 0 (upd (h 0) n y_199))) H1 := hP
                    have hD : va_D (fun q : Nat => z0 ≤ q) (LW cA ad q uf_136 ug_136 (va_up h 0 (upd (h 0) n y_199))) := hD
                    have hg4 : s.heap.size + 4 ≤ H1.size := by rw [hzz]; exact hg4
                    refine lv_aload hx hb dL_writes_201 (lv_at hl 8 rfl) ?_
                    refine lv_iconst (v := 0) hx hb dL_writes_203 (by decide) ?_
                    refine lv_dup2_11 hx hb dL_writes_204 rfl rfl ?_
                    refine va_iald hx hb hK hP 5 0 rfl rfl (by unfold vp_in; decide) dL_writes_205 ?_
                    refine lv_topi (fun v_205 hv_205 => ?_)
                    have hv_205 : v_205 = nI n := hv_205.trans (by rw [cl0]; exact hn)
                    subst hv_205
                    refine lv_iconst (v := 1) hx hb dL_writes_206 (by decide) ?_
                    refine lv_iadd hx hb dL_writes_207 ?_
                    refine lv_topi (fun v_207 hv_207 => ?_)
                    have hv_207 : v_207 = nI (n + 1) := hv_207.trans (nI_1 n)
                    subst hv_207
                    refine rb_iast hx hb hK hP hD hS 5 0 rfl rfl (by unfold vp_in; decide) dL_writes_208 (fun H1 locs hzz hP hD hS => ?_)
                    have hix : (0 : Int32).toNatClampNeg = 0 := cl0
                    rw [hix] at hP hD
                    have hP : va_P D vwCl (LW cA ad q uf_136 ug_136 (va_up (va_up h 0 (upd (h 0) n y_199)) 5 (upd ((va_up h 0 (upd (h 0) n y_199)) 5) 0 (nI (n + 1))))) H1 := hP
                    have hD : va_D (fun q : Nat => z0 ≤ q) (LW cA ad q uf_136 ug_136 (va_up (va_up h 0 (upd (h 0) n y_199)) 5 (upd ((va_up h 0 (upd (h 0) n y_199)) 5) 0 (nI (n + 1))))) := hD
                    have hg4 : s.heap.size + 4 ≤ H1.size := by rw [hzz]; exact hg4
                    refine lv_aload_n hx hb dL_writes_209 rfl (lv_at hl 3 rfl) ?_
                    refine lv_iload hx hb dL_writes_210 (lv_at hl 2 rfl) ?_
                    refine lv_iload hx hb dL_writes_212 (lv_at hl 1 rfl) ?_
                    have hPc := hP.sub (ws' := xW cA ad uf_136 ug_136) [6, 7, 8, 9, 10, 11, 12, 13, 14, 15, 16, 17] rfl
                    have hDc := hD.sub (ws' := xW cA ad uf_136 ug_136) [6, 7, 8, 9, 10, 11, 12, 13, 14, 15, 16, 17] (by decide) rfl
                    refine qb_calliPN (wc := xW cA ad uf_136 ug_136) (wr := rW cA q (va_up (va_up h 0 (upd (h 0) n y_199)) 5 (upd ((va_up h 0 (upd (h 0) n y_199)) 5) 0 (nI (n + 1))))) [6, 7, 8, 9, 10, 11, 12, 13, 14, 15, 16, 17] [0, 1, 2, 3, 4, 5] rfl rfl (by decide) (by decide) hP (vx_runSW (As := [.ref (ad 16), .int (nI kk), .int (nI aa)]) (rest := []) ⟨hx, hb, hml, hown, hts⟩ (c_L_join l hl0 D cA cZ cL ad uf_136 ug_136 H1.size (nI kk) (nI aa) 1 0 hI) (vx_cwSW 3 hts gL_writes_L_join rfl rfl rfl (by decide +kernel) ⟨Nat.le_of_ble_eq_true rfl, Nat.le_of_ble_eq_true rfl⟩) ⟨qPreL_blind, qPreL_at hPc hK hDc (fun U hU hW => qTZ_th (qTZ_at hTZ hS (fun _ h => h) U hU hW))⟩ rfl rfl hl.1 rfl (lv_room (Nat.le_of_ble_eq_true rfl)) dL_writes_214 ⟨by show 4 + 1 ≤ 10; omega, by show 6 * (4) + 6 ≤ 60; omega⟩) hD hS hA (fun z_214 u_214 H1 locs hu_214 hmo hP hD hS => ?_)
                    obtain ⟨⟨hq5, hq15⟩, hbad⟩ := hu_214
                    obtain ⟨uf_214, ug_214⟩ := u_214
                    have hq5 : uf_214 5 = uf_136 5 := hq5
                    have hq15 : uf_214 15 = uf_136 15 := hq15
                    have hI : xI 1 0 uf_214 := ⟨hq5.trans hI.1, hI.2.1, hI.2.2.1, hq15.trans hI.2.2.2.1, hI.2.2.2.2⟩
                    have hg4 : s.heap.size + 4 ≤ H1.size := Nat.le_trans hg4 hmo
                    have hP : va_P D vwCl (LW cA ad q uf_214 ug_214 (va_up (va_up h 0 (upd (h 0) n y_199)) 5 (upd ((va_up h 0 (upd (h 0) n y_199)) 5) 0 (nI (n + 1))))) H1 := hP
                    have hD : va_D (fun q : Nat => z0 ≤ q) (LW cA ad q uf_214 ug_214 (va_up (va_up h 0 (upd (h 0) n y_199)) 5 (upd ((va_up h 0 (upd (h 0) n y_199)) 5) 0 (nI (n + 1))))) := hD
                    clear hDc
                    clear hPc
                    refine W.widen (k := 5) (n := 6 * (5)) (by omega) (by omega) ?_
                    refine lv_aload hx hb dL_writes_217 (lv_at hl 8 rfl) ?_
                    refine lv_iconst (v := 0) hx hb dL_writes_219 (by decide) ?_
                    refine va_iald hx hb hK hP 5 0 rfl rfl (by unfold vp_in; decide) dL_writes_220 ?_
                    refine lv_topi (fun y_220 _ => ?_)
                    refine lv_icmp_ne (tgt := 228) hx hb dL_writes_221 (by decide) (fun c_221 => ?_) (fun c_221 => ?_)
                    · skip
                      refine lv_iconst (v := 0) hx hb dL_writes_228 (by decide) ?_
                      refine W.widen (k := 10) (n := 60) (by omega) (by omega) ?_
                      exact W.zret (v := 0) hx hb hr rfl (fun t ht hW => ⟨⟨0, (((uf_214, ug_214), va_up (va_up h 0 (upd (h 0) n y_199)) 5 (upd ((va_up h 0 (upd (h 0) n y_199)) 5) 0 (nI (n + 1)))), t.heap.size), rfl, by show _ ∧ _; rw [ht]; exact ⟨⟨hI, h99, hm1, hm4, hm5, n + 1, hlt, rfl⟩, Or.inl rfl⟩, ⟨⟨by rw [ht]; exact hP, hD⟩, rfl⟩⟩, hS.F ht⟩) hS.2.2 dL_writes_229
                    · skip
                      refine lv_iconst (v := 1) hx hb dL_writes_224 (by decide) ?_
                      refine lv_goto (tgt := 229) hx hb dL_writes_225 (by decide) ?_
                      refine W.widen (k := 10) (n := 60) (by omega) (by omega) ?_
                      exact W.zret (v := 1) hx hb hr rfl (fun t ht hW => ⟨⟨1, (((uf_214, ug_214), va_up (va_up h 0 (upd (h 0) n y_199)) 5 (upd ((va_up h 0 (upd (h 0) n y_199)) 5) 0 (nI (n + 1)))), t.heap.size), rfl, by show _ ∧ _; rw [ht]; exact ⟨⟨hI, h99, hm1, hm4, hm5, n + 1, hlt, rfl⟩, Or.inr hg4⟩, ⟨⟨by rw [ht]; exact hP, hD⟩, rfl⟩⟩, hS.F ht⟩) hS.2.2 dL_writes_229
                  · skip
                    refine lv_aload_n hx hb dL_writes_161 rfl (lv_at hl 3 rfl) ?_
                    refine lv_iload hx hb dL_writes_162 (lv_at hl 2 rfl) ?_
                    refine lv_iload hx hb dL_writes_164 (lv_at hl 1 rfl) ?_
                    have hPc := hP.sub (ws' := xW cA ad uf_136 ug_136) [6, 7, 8, 9, 10, 11, 12, 13, 14, 15, 16, 17] rfl
                    have hDc := hD.sub (ws' := xW cA ad uf_136 ug_136) [6, 7, 8, 9, 10, 11, 12, 13, 14, 15, 16, 17] (by decide) rfl
                    refine qb_calliPN (wc := xW cA ad uf_136 ug_136) (wr := rW cA q h) [6, 7, 8, 9, 10, 11, 12, 13, 14, 15, 16, 17] [0, 1, 2, 3, 4, 5] rfl rfl (by decide) (by decide) hP (vx_runSW (As := [.ref (ad 16), .int (nI kk), .int (nI aa)]) (rest := []) ⟨hx, hb, hml, hown, hts⟩ (c_L_join l hl0 D cA cZ cL ad uf_136 ug_136 H1.size (nI kk) (nI aa) 1 0 hI) (vx_cwSW 3 hts gL_writes_L_join rfl rfl rfl (by decide +kernel) ⟨Nat.le_of_ble_eq_true rfl, Nat.le_of_ble_eq_true rfl⟩) ⟨qPreL_blind, qPreL_at hPc hK hDc (fun U hU hW => qTZ_th (qTZ_at hTZ hS (fun _ h => h) U hU hW))⟩ rfl rfl hl.1 rfl (lv_room (Nat.le_of_ble_eq_true rfl)) dL_writes_166 ⟨by show 4 + 1 ≤ 10; omega, by show 6 * (4) + 6 ≤ 60; omega⟩) hD hS hA (fun z_166 u_166 H1 locs hu_166 hmo hP hD hS => ?_)
                    obtain ⟨⟨hq5, hq15⟩, hbad⟩ := hu_166
                    obtain ⟨uf_166, ug_166⟩ := u_166
                    have hq5 : uf_166 5 = uf_136 5 := hq5
                    have hq15 : uf_166 15 = uf_136 15 := hq15
                    have hI : xI 1 0 uf_166 := ⟨hq5.trans hI.1, hI.2.1, hI.2.2.1, hq15.trans hI.2.2.2.1, hI.2.2.2.2⟩
                    have hg4 : s.heap.size + 4 ≤ H1.size := Nat.le_trans hg4 hmo
                    have hP : va_P D vwCl (LW cA ad q uf_166 ug_166 h) H1 := hP
                    have hD : va_D (fun q : Nat => z0 ≤ q) (LW cA ad q uf_166 ug_166 h) := hD
                    clear hDc
                    clear hPc
                    refine W.widen (k := 5) (n := 6 * (5)) (by omega) (by omega) ?_
                    refine lv_sipush (v := (-7300)) hx hb dL_writes_169 (by decide) ?_
                    refine lv_icmp_ne (tgt := 179) hx hb dL_writes_172 (by decide) (fun c_172 => ?_) (fun c_172 => ?_)
                    · skip
                      refine lv_iconst (v := 0) hx hb dL_writes_179 (by decide) ?_
                      refine W.widen (k := 10) (n := 60) (by omega) (by omega) ?_
                      exact W.zret (v := 0) hx hb hr rfl (fun t ht hW => ⟨⟨0, (((uf_166, ug_166), h), t.heap.size), rfl, by show _ ∧ _; rw [ht]; exact ⟨⟨hI, h99, hm1, hm4, hm5, n, hn4, hn⟩, Or.inl rfl⟩, ⟨⟨by rw [ht]; exact hP, hD⟩, rfl⟩⟩, hS.F ht⟩) hS.2.2 dL_writes_180
                    · skip
                      refine lv_iconst (v := 1) hx hb dL_writes_175 (by decide) ?_
                      refine lv_goto (tgt := 180) hx hb dL_writes_176 (by decide) ?_
                      refine W.widen (k := 10) (n := 60) (by omega) (by omega) ?_
                      exact W.zret (v := 1) hx hb hr rfl (fun t ht hW => ⟨⟨1, (((uf_166, ug_166), h), t.heap.size), rfl, by show _ ∧ _; rw [ht]; exact ⟨⟨hI, h99, hm1, hm4, hm5, n, hn4, hn⟩, Or.inr hg4⟩, ⟨⟨by rw [ht]; exact hP, hD⟩, rfl⟩⟩, hS.F ht⟩) hS.2.2 dL_writes_180
              · skip
                refine lv_iconst (v := 0) hx hb dL_writes_145 (by decide) ?_
                refine W.widen (k := 10) (n := 60) (by omega) (by omega) ?_
                exact W.zret (v := 0) hx hb hr rfl (fun t ht hW => ⟨⟨0, (((uf_136, ug_136), h), t.heap.size), rfl, by show _ ∧ _; rw [ht]; exact ⟨⟨hI, h99, hm1, hm4, hm5, n, hn4, hn⟩, Or.inl rfl⟩, ⟨⟨by rw [ht]; exact hP, hD⟩, rfl⟩⟩, hS.F ht⟩) hS.2.2 dL_writes_146
    · skip
      exact absurd (show nI kk ≤ (99 : Int32) from nI_le (b := 99) (by omega) (by decide)) c_56
  · skip
    exact absurd rfl c_4
end
section
def R_law : String := "ShardBallotsLaw"
def lw_P (b : Addr) (xs : List Int32) (args : Array Value) (s : State) : Prop := args = #[.ref b] ∧ s.IntsAt b xs ∧ xs.length ≤ 260 ∧ (Jvm.Cond.and given_1 narrow_1).before args s = true
def lw_Q (_ : Array Value) (s : State) (o : Outcome) (t : State) : Prop := o = .returned (some (.int 1)) ∧ Framed s o t [] 216 2599
def lw_Z (below : List Frame) (a : Array Value) (s : State) : State → Prop := fun t => ∃ o, t.status = .running ∧ Ended t below o ∧ lw_Q a s o t
/-- what holds at the law's entry: the machine, the code, the tables' words (any of lw_tbl by 'hts w (by decide +kernel)'), the script of L ints xs at the cell b, what the Statement gives of the start (any of its parts by flat_of_before) -/
def lw_At (p : Program) (s : State) (m : MethodId) (meth : Method) (c : Code) (b L : Nat) (xs : Nat → Int32) : Prop :=
  p.tables.exec = Jvm.exec ∧ c.code = code ∧ meth.sig.returnType = ret ∧ c.maxLocals = 13 ∧ s.vm.findClass R_law = some m.cls ∧ (∀ w ∈ lw_tbl, w.before #[Value.ref b] s = true) ∧ va_X b L xs s s.heap ∧ b < s.heap.size ∧ meth.locks = false ∧ (Jvm.Cond.and given_1 narrow_1).before #[Value.ref b] s = true
theorem lw_pre_spec {args : Array Value} {s : State} (h : (Jvm.Cond.and given_1 narrow_1).before args s = true) (hr : rest_1_c.before args s = true) : ∃ (b : Addr) (xs : List Int32), lw_P b xs args s := by
  have hs := flat_of_before _ h
  have hq := flat_of_before _ hr
  have hc : (Cond.count 1).before args s = true := hs _ (by decide +kernel)
  have harr : (Cond.arrayOf (.arg 0) .int).before args s = true := hs _ (by decide +kernel)
  have hle : (Cond.le (.length (.arg 0)) (.int 260)).before args s = true := hs _ (by decide +kernel)
  have hlen : (Cond.isInt (.length (.arg 0))).before args s = true := hq _ (by decide +kernel)
  have hall : (Cond.all (.arg 0) (.isInt (.elem (.arg 0) (.index 0)))).before args s = true := hq _ (by decide +kernel)
  obtain ⟨b, xs, hb, hx⟩ := State.ints_of_pre rfl harr hlen hall
  have hsm : xs.length < 2 ^ 31 := hx.choose_spec.2.2.2
  have hev : (Term.length (.arg 0)).eval args s none [] s = some (.int xs.length.toInt32) := hx.length_eval hb
  have hv := Cond.le_ints hev (show (Term.int 260).eval args s none [] s = some (.int 260) from rfl)
  have hd : xs.length.toInt32 ≤ 260 := by
    simpa [Cond.before, Cond.holds, hv] using hle
  have hN : xs.length ≤ 260 := (Int32.ofNat_le_ofNat hsm (by decide)).mp (show Int32.ofNat xs.length ≤ Int32.ofNat 260 from hd)
  exact ⟨b, xs, Cond.one_arg hc (show args[0]? = some (.ref b) from hb), hx, hN, h⟩
set_option maxRecDepth 20000 in
theorem tn_sR : ∀ q ∈ qStr, Cond.stringRef RX0 q.1 q.2 ∈ lw_tbl := by decide +kernel
set_option maxRecDepth 20000 in
theorem tn_sE : ∀ q ∈ qStr, Cond.exactly (Term.string RX0 q.1) "java/lang/String" ∈ flatC (Jvm.Cond.and given_1 narrow_1) := by decide +kernel
set_option maxRecDepth 20000 in
theorem tn_ca : ∀ E ∈ qEx, Cond.castable E E ∈ lw_tbl := by decide +kernel
set_option maxRecDepth 20000 in
theorem tn_de : ∀ Y ∈ qDe, Cond.declares (Bundle.initS Y) ∈ lw_tbl := by decide +kernel
set_option maxRecDepth 20000 in
theorem tn_is : ∀ w ∈ [Cond.isRef (.static Bundle.tN "UNASSIGNED_STACK" Bundle.steD), Cond.isRef (.static Bundle.tN "SUPPRESSED_SENTINEL" Bundle.listD), Cond.not (.castable eIA eIO), Cond.not (.castable eIS eIO), Cond.not (.castable eIS eIA)], w ∈ flatC (Jvm.Cond.and given_1 narrow_1) := by decide +kernel
set_option maxRecDepth 20000 in
theorem tn_la : ∀ w ∈ [Cond.laysStatic Bundle.tN "UNASSIGNED_STACK" Bundle.steD, Cond.laysStatic Bundle.tN "SUPPRESSED_SENTINEL" Bundle.listD, Cond.initialized Bundle.tN, Cond.arrayClass .int, Cond.instantiable RX0 16, Cond.classLink R_law 9 RX0, Cond.initialized RX0, Cond.methodLink R_law 157 yX0_init, Cond.instanceMethod yX0_init], w ∈ lw_tbl := by decide +kernel
theorem tn_of {s : State} {b : Nat} (hts : ∀ w ∈ lw_tbl, w.before #[Value.ref b] s = true) (hgv : (Jvm.Cond.and given_1 narrow_1).before #[Value.ref b] s = true) : qTZ s.heap.size s := by
  have hs := flat_of_before _ hgv
  have hI := fun w h => hs w (tn_is w h)
  have hL := fun w h => hts w (tn_la w h)
  refine ⟨vx_Zqof (hL _ (List.mem_of_getElem? (i := 0) rfl)) (hL _ (List.mem_of_getElem? (i := 2) rfl)) (hI _ (List.mem_of_getElem? (i := 0) rfl)) (fun a h q => absurd q (Nat.not_le.mpr h)), vx_Zqof (hL _ (List.mem_of_getElem? (i := 1) rfl)) (hL _ (List.mem_of_getElem? (i := 2) rfl)) (hI _ (List.mem_of_getElem? (i := 1) rfl)) (fun a h q => absurd q (Nat.not_le.mpr h)), fun q hq => ?_, fun E hE => va_Nw.of rfl (hts _ (tn_ca E hE)), fun Y hY => va_Nw.of rfl (hts _ (tn_de Y hY)), va_Nc.of (hI _ (List.mem_of_getElem? (i := 2) rfl)), va_Nc.of (hI _ (List.mem_of_getElem? (i := 3) rfl)), va_Nc.of (hI _ (List.mem_of_getElem? (i := 4) rfl))⟩
  obtain ⟨a, c, cell, k, q1, _⟩ := Cond.exactly_spec (args := #[Value.ref b]) (first := s) (o := none) (s := s) (idx := []) (t := .string RX0 q.1) (cls := "java/lang/String") (hs _ (tn_sE q hq))
  exact ⟨a, vk_R.of (hts _ (tn_sR q hq)) q1⟩
/-- more room than the statement gives -/
def room_B : Room := { frames := 12, cells := 1000, slots := 8000, locals := 452 }
/-- two hundred and seventeen new cells, or an end that isn't 1 -/
def rZ (below : List Frame) (s : State) : State → Prop := fun t => s.heap.size + 217 ≤ t.heap.size ∨ ∃ o, Ended t below o ∧ o ≠ .returned (some (.int 1))
section RZ
variable {p : Program} {l : Launch} {e : Env} {R : Room} {s : State} {m : MethodId} {args : Array Value} {below : List Frame} {meth : Method} {c : Code} {H : Heap} {locs : List Loc} {cells slots : Nat} {g : JFrame}
theorem rZ_big (h : s.heap.size + 217 ≤ H.size) : W p l e R s m args below meth c H locs cells slots (rZ below s) g := fun T hT _ => ⟨T.setTop g, Steps.refl _, Or.inl (by rw [show (T.setTop g).heap = T.heap from rfl, hT]; exact h)⟩
theorem rZ_0 {pc : Nat} {ls : Array Slot} (hx : p.tables.exec = Jvm.exec) (hb : c.code = code) (hr : meth.sig.returnType = ret) (hlocks : meth.locks = false) (hdg : decode code pc = .ok (.ireturn, 1)) : W p l e R s m args below meth c H locs cells slots (rZ below s) (F0 m pc ls [.int 0]) := by
  have k : W p l e R s m args below meth c H locs cells slots (MQ below (fun _ _ o _ => o ≠ .returned (some (.int 1))) args s cells slots (fun _ => True)) (F0 m pc ls [.int 0]) := W.zret (ty := .boolean) hx hb (hr.trans rfl) rfl (fun t _ _ => by intro q; cases q) (fun _ _ => trivial) hdg hlocks
  intro T hT X
  obtain ⟨t, a, o, b1, b2, b3, b4⟩ := k T hT X
  exact ⟨t, a, Or.inr ⟨o, b2, b3⟩⟩
end RZ
set_option maxHeartbeats 4000000 in
set_option maxRecDepth 100000 in
theorem rlaw_loop {p : Program} {l : Launch} {e : Env} {s : State} {m : MethodId} {below : List Frame} {meth : Method} {c : Code} {b L : Nat} {xs : Nat → Int32} (hl0 : l.stackTraces = false) (hL : 36 ≤ L) (hL2 : L ≤ 260) (hzx : ∀ j, j < 36 → xs j = 0) (C0 : lw_At p s m meth c b L xs) {D : va_G} {cA cZ cL : ClassId} (hK : va_K D vwCl (qTy cA cZ cL) s) (hTZ : qTZ s.heap.size s) {ad q : Nat → Nat} : ∀ (nme t : Nat), 12 - t = nme → t ≤ 12 → ∀ (f : qFs) (g : qGs) (h : Nat → Nat → Int32) (H : Heap) (locs : List Loc) (ls : Array Slot), RInv f h → va_P D vwCl (LW cA ad q f g h) H → va_D (fun q : Nat => s.heap.size ≤ q) (LW cA ad q f g h) → va_S (fun q : Nat => s.heap.size ≤ q) s.heap H locs → s.heap.size + (13 + 17 * t) ≤ H.size → lv_has ls 13 [(0, .ref b), (1, .ref (ad 16)), (2, .ref (q 0)), (3, .ref (q 1)), (4, .ref (q 2)), (5, .ref (q 3)), (6, .ref (q 4)), (7, .ref (q 5)), (8, .int (nI t))] → W p l e room_B s m #[Value.ref b] below meth c H locs (78 + 70 * t) (1427 + 420 * t) (rZ below s) (F0 m 76 ls []) := by
  intro nme
  induction nme using Nat.strongRecOn with
  | ind nme ih =>
    intro t hnme ht f g h H locs ls hR hP hD hS hsz hl
    by_cases h12 : t = 12
    · subst h12; exact rZ_big (by omega)
    have htl : t < 12 := by omega
    obtain ⟨hx, hb, hr, hml, hown, htsT, hX, hbl, hlocks, hgv⟩ := id C0
    have hts := fun w h => htsT w (wsL_law_in w h)
    have hbA : ¬ (fun q : Nat => s.heap.size ≤ q) b := Nat.not_le.mpr hbl
    refine lv_iload hx hb dL_law_76 (lv_at hl 8 rfl) ?_
    refine lv_sipush (v := 150) hx hb dL_law_78 (by decide) ?_
    refine lv_icmp_ge (tgt := 251) hx hb dL_law_81 (by decide) (fun c_81 => ?_) (fun c_81 => ?_)
    · exact absurd (show nI 150 ≤ nI t from c_81) (nI_ge (by omega) (by decide))
    refine lv_aload_n hx hb dL_law_84 rfl (lv_at hl 0 rfl) ?_
    refine lv_iconst (v := 3) hx hb dL_law_85 (by decide) ?_
    refine lv_iload hx hb dL_law_86 (lv_at hl 8 rfl) ?_
    refine lv_imul hx hb dL_law_88 ?_
    refine lv_topi (fun v_88 hv_88 => ?_)
    have hv_88 : v_88 = nI (3 * t) := hv_88.trans (pk_mul 3 t)
    subst hv_88
    refine vp_callSi (W.runS (As := [.ref b, .int (nI (3 * t))]) (rest := []) ⟨hx, hb, hml, hown, hts⟩ (c_L_cell l b L xs (3 * t) (by omega) (by omega)) (va_cwS 2 hts gL_law_L_cell rfl rfl rfl (by decide +kernel) ⟨Nat.le_of_ble_eq_true rfl, Nat.le_of_ble_eq_true rfl⟩) ⟨qPreS_blind, qPreS_at hX hbl hbA hS⟩ rfl rfl hl.1 rfl (lv_room (Nat.le_of_ble_eq_true rfl)) dL_law_89 ⟨by show 78 + 70 * t + 0 ≤ 1000; omega, by show 1427 + 420 * t + 0 ≤ 8000; omega⟩) (fun z_89 hz_89 => ?_)
    have hz_89 : z_89 = 0 := hz_89.trans (hzx _ (by omega))
    subst hz_89
    refine lv_istore (lv' := [(9, .int 0), (0, .ref b), (1, .ref (ad 16)), (2, .ref (q 0)), (3, .ref (q 1)), (4, .ref (q 2)), (5, .ref (q 3)), (6, .ref (q 4)), (7, .ref (q 5)), (8, .int (nI t))]) hx hb dL_law_92 hl (by decide) rfl (fun ls hl => ?_)
    refine lv_aload_n hx hb dL_law_94 rfl (lv_at hl 1 rfl) ?_
    refine lv_iconst (v := 3) hx hb dL_law_95 (by decide) ?_
    refine lv_iload hx hb dL_law_96 (lv_at hl 9 rfl) ?_
    refine lv_imul hx hb dL_law_98 ?_
    refine lv_topi (fun v_98 hv_98 => ?_)
    have hv_98 : v_98 = nI (3 * t) := hv_98.trans (pk_mul 3 t)
    subst hv_98
    refine lv_iconst (v := 1) hx hb dL_law_99 (by decide) ?_
    refine lv_iadd hx hb dL_law_100 ?_
    refine lv_topi (fun v_100 hv_100 => ?_)
    have hv_100 : v_100 = nI (3 * t + 1) := hv_100.trans (nI_add (3 * t) 1)
    subst hv_100
    refine vp_callSi (W.runS (As := [.ref b, .int (nI (3 * t + 1))]) (rest := []) ⟨hx, hb, hml, hown, hts⟩ (c_L_cell l b L xs (3 * t + 1) (by omega) (by omega)) (va_cwS 2 hts gL_law_L_cell rfl rfl rfl (by decide +kernel) ⟨Nat.le_of_ble_eq_true rfl, Nat.le_of_ble_eq_true rfl⟩) ⟨qPreS_blind, qPreS_at hX hbl hbA hS⟩ rfl rfl hl.1 rfl (lv_room (Nat.le_of_ble_eq_true rfl)) dL_law_101 ⟨by show 78 + 70 * t + 0 ≤ 1000; omega, by show 1427 + 420 * t + 0 ≤ 8000; omega⟩) (fun z_101 hz_101 => ?_)
    have hz_101 : z_101 = 0 := hz_101.trans (hzx _ (by omega))
    subst hz_101
    refine lv_istore (lv' := [(10, .int 0), (9, .int 0), (0, .ref b), (1, .ref (ad 16)), (2, .ref (q 0)), (3, .ref (q 1)), (4, .ref (q 2)), (5, .ref (q 3)), (6, .ref (q 4)), (7, .ref (q 5)), (8, .int (nI t))]) hx hb dL_law_104 hl (by decide) rfl (fun ls hl => ?_)
    refine lv_aload_n hx hb dL_law_106 rfl (lv_at hl 2 rfl) ?_
    refine lv_iconst (v := 3) hx hb dL_law_107 (by decide) ?_
    refine lv_iload hx hb dL_law_108 (lv_at hl 10 rfl) ?_
    refine lv_imul hx hb dL_law_110 ?_
    refine lv_topi (fun v_110 hv_110 => ?_)
    have hv_110 : v_110 = nI (3 * t) := hv_110.trans (pk_mul 3 t)
    subst hv_110
    refine lv_iconst (v := 2) hx hb dL_law_111 (by decide) ?_
    refine lv_iadd hx hb dL_law_112 ?_
    refine lv_topi (fun v_112 hv_112 => ?_)
    have hv_112 : v_112 = nI (3 * t + 2) := hv_112.trans (nI_add (3 * t) 2)
    subst hv_112
    refine vp_callSi (W.runS (As := [.ref b, .int (nI (3 * t + 2))]) (rest := []) ⟨hx, hb, hml, hown, hts⟩ (c_L_cell l b L xs (3 * t + 2) (by omega) (by omega)) (va_cwS 2 hts gL_law_L_cell rfl rfl rfl (by decide +kernel) ⟨Nat.le_of_ble_eq_true rfl, Nat.le_of_ble_eq_true rfl⟩) ⟨qPreS_blind, qPreS_at hX hbl hbA hS⟩ rfl rfl hl.1 rfl (lv_room (Nat.le_of_ble_eq_true rfl)) dL_law_113 ⟨by show 78 + 70 * t + 0 ≤ 1000; omega, by show 1427 + 420 * t + 0 ≤ 8000; omega⟩) (fun z_113 hz_113 => ?_)
    have hz_113 : z_113 = 0 := hz_113.trans (hzx _ (by omega))
    subst hz_113
    refine lv_istore (lv' := [(11, .int 0), (10, .int 0), (9, .int 0), (0, .ref b), (1, .ref (ad 16)), (2, .ref (q 0)), (3, .ref (q 1)), (4, .ref (q 2)), (5, .ref (q 3)), (6, .ref (q 4)), (7, .ref (q 5)), (8, .int (nI t))]) hx hb dL_law_116 hl (by decide) rfl (fun ls hl => ?_)
    have K : ∀ ls : Array Slot, lv_has ls 13 [(11, .int 0), (10, .int 0), (9, .int 0), (0, .ref b), (1, .ref (ad 16)), (2, .ref (q 0)), (3, .ref (q 1)), (4, .ref (q 2)), (5, .ref (q 3)), (6, .ref (q 4)), (7, .ref (q 5)), (8, .int (nI t))] → W p l e room_B s m #[Value.ref b] below meth c H locs (78 + 70 * t) (1427 + 420 * t) (rZ below s) (F0 m 136 ls [.int 0]) := by
      intro ls hl
      refine lv_istore (lv' := [(12, .int 0), (11, .int 0), (10, .int 0), (9, .int 0), (0, .ref b), (1, .ref (ad 16)), (2, .ref (q 0)), (3, .ref (q 1)), (4, .ref (q 2)), (5, .ref (q 3)), (6, .ref (q 4)), (7, .ref (q 5)), (8, .int (nI t))]) hx hb dL_law_136 hl (by decide) rfl (fun ls hl => ?_)
      refine lv_iload hx hb dL_law_138 (lv_at hl 0 rfl) ?_
      refine lv_bipush (v := 8) hx hb dL_law_140 (by decide) ?_
      refine lv_icmp_ge (tgt := 164) hx hb dL_law_142 (by decide) (fun c_142 => ?_) (fun c_142 => ?_)
      · exact absurd c_142 (by decide)
      refine lv_aload_n hx hb dL_law_145 rfl (lv_at hl 5 rfl) ?_
      refine lv_iload hx hb dL_law_146 (lv_at hl 0 rfl) ?_
      refine lv_iload hx hb dL_law_148 (lv_at hl 2 rfl) ?_
      refine lv_iload hx hb dL_law_150 (lv_at hl 1 rfl) ?_
      refine lv_aload_n hx hb dL_law_152 rfl (lv_at hl 6 rfl) ?_
      refine lv_aload hx hb dL_law_153 (lv_at hl 11 rfl) ?_
      refine qb_calliN (va_runS (As := [.ref (ad 16), .int 0, .int 0, .int 0, .ref (q 0), .ref (q 5)]) (rest := []) ⟨hx, hb, hml, hown, hts⟩ (c_L_writes l hl0 D cA cZ cL ad q f g h s.heap.size H.size hR) (va_cwS 6 hts gL_law_L_writes rfl rfl rfl (by decide +kernel) ⟨Nat.le_of_ble_eq_true rfl, Nat.le_of_ble_eq_true rfl⟩) ⟨qPreZ_blind, qPreZ_at hS.1 hP hK hD (qTZ_at hTZ hS (fun _ h => h))⟩ rfl rfl hl.1 rfl (lv_room (Nat.le_of_ble_eq_true rfl)) dL_law_155 ⟨by show 78 + 70 * t + 10 ≤ 1000; omega, by show 1427 + 420 * t + 60 ≤ 8000; omega⟩) hS (fun z_155 u_155 H1 locs hu_155 hmo hP hD hS => ?_)
      obtain ⟨⟨uf, ug⟩, uh⟩ := u_155
      obtain ⟨hR, hw⟩ := hu_155
      have hR : RInv uf uh := hR
      have hw : z_155 = 0 ∨ H.size + 4 ≤ H1.size := hw
      refine lv_if_eq (tgt := 243) hx hb dL_law_158 (by decide) (fun c_158 => ?_) (fun c_158 => ?_)
      · refine lv_iconst (v := 0) hx hb dL_law_243 (by decide) ?_
        exact rZ_0 hx hb hr hlocks dL_law_244
      have hw : H.size + 4 ≤ H1.size := hw.elim (fun h => absurd h c_158) (fun h => h)
      have hP : va_P D vwCl (LW cA ad q uf ug uh) H1 := hP
      have hD : va_D (fun q : Nat => s.heap.size ≤ q) (LW cA ad q uf ug uh) := hD
      refine lv_goto (tgt := 219) hx hb dL_law_161 (by decide) ?_
      refine lv_aload_n hx hb dL_law_219 rfl (lv_at hl 5 rfl) ?_
      refine lv_iload hx hb dL_law_220 (lv_at hl 3 rfl) ?_
      refine lv_iconst (v := 5) hx hb dL_law_222 (by decide) ?_
      refine lv_ishr hx hb dL_law_223 ?_
      refine lv_topi (fun y_223 _ => ?_)
      refine lv_iload hx hb dL_law_224 (lv_at hl 2 rfl) ?_
      refine lv_ixor hx hb dL_law_226 ?_
      refine lv_topi (fun y_226 _ => ?_)
      refine lv_aload_n hx hb dL_law_227 rfl (lv_at hl 6 rfl) ?_
      refine lv_aload_n hx hb dL_law_228 rfl (lv_at hl 7 rfl) ?_
      refine lv_aload hx hb dL_law_229 (lv_at hl 8 rfl) ?_
      refine lv_aload hx hb dL_law_231 (lv_at hl 9 rfl) ?_
      refine lv_aload hx hb dL_law_233 (lv_at hl 10 rfl) ?_
      refine lv_aload hx hb dL_law_235 (lv_at hl 11 rfl) ?_
      refine qb_grow (va_runS (As := [.ref (ad 16), .int y_226, .ref (q 0), .ref (q 1), .ref (q 2), .ref (q 3), .ref (q 4), .ref (q 5)]) (rest := []) ⟨hx, hb, hml, hown, hts⟩ (c_L_isTold l hl0 D cA cZ cL ad q uf ug uh y_226 hR) (va_cwS 8 hts gL_law_L_isTold rfl rfl rfl (by decide +kernel) ⟨Nat.le_of_ble_eq_true rfl, Nat.le_of_ble_eq_true rfl⟩) ⟨qPreN_blind, qPreN_at hP hK (fun U hU hW => qTZ_th (qTZ_at hTZ hS (fun _ h => h) U hU hW))⟩ rfl rfl hl.1 rfl (lv_room (Nat.le_of_ble_eq_true rfl)) dL_law_237 ⟨by show (78 + 70 * t + 10) + 60 ≤ 1000; omega, by show (1427 + 420 * t + 60) + 360 ≤ 8000; omega⟩) hP hS (fun z_237 H2 locs hu_237 hmo hP hS => ?_)
      have hu : z_237 = 0 ∨ H1.size + 13 ≤ H2.size := hu_237
      refine lv_if_ne (tgt := 245) hx hb dL_law_240 (by decide) (fun c_240 => ?_) (fun c_240 => ?_)
      · have hu : H1.size + 13 ≤ H2.size := hu.elim (fun h => absurd h c_240) (fun h => h)
        refine lv_iinc (v := nI (t + 1)) (lv' := [(8, .int (nI (t + 1))), (12, .int 0), (11, .int 0), (10, .int 0), (9, .int 0), (0, .ref b), (1, .ref (ad 16)), (2, .ref (q 0)), (3, .ref (q 1)), (4, .ref (q 2)), (5, .ref (q 3)), (6, .ref (q 4)), (7, .ref (q 5))]) hx hb dL_law_245 hl (k := 12) rfl (nI_1 t) (by decide) rfl (fun ls hl => ?_)
        refine lv_goto (tgt := 76) hx hb dL_law_248 (by decide) ?_
        refine W.widen (k := 78 + 70 * (t + 1)) (n := 1427 + 420 * (t + 1)) (by omega) (by omega) ?_
        exact ih _ (by omega) (t + 1) rfl (by omega) uf ug uh _ _ _ hR hP hD hS (by omega) (lv_sub hl [5, 6, 7, 8, 9, 10, 11, 12, 0] rfl)
      · refine lv_iconst (v := 0) hx hb dL_law_243 (by decide) ?_
        exact rZ_0 hx hb hr hlocks dL_law_244
    refine lv_iload hx hb dL_law_118 (lv_at hl 11 rfl) ?_
    refine lv_bipush (v := 8) hx hb dL_law_120 (by decide) ?_
    refine lv_icmp_ge (tgt := 129) hx hb dL_law_122 (by decide) (fun c_122 => ?_) (fun c_122 => ?_)
    · refine lv_iload hx hb dL_law_129 (lv_at hl 2 rfl) ?_
      refine lv_bipush (v := 30) hx hb dL_law_131 (by decide) ?_
      have hPc : va_P D vwCl [] _ := hP.sub (ws' := []) [] rfl
      refine vp_callSi (W.runS (As := [.int 0, .int 30]) (rest := []) ⟨hx, hb, hml, hown, hts⟩ (c_L_low l D cA cZ cL 0 30 (by decide) (by decide)) (va_cwS 2 hts gL_law_L_low rfl rfl rfl (by decide +kernel) ⟨Nat.le_of_ble_eq_true rfl, Nat.le_of_ble_eq_true rfl⟩) ⟨qPre_blind, qPre_at hPc hK⟩ rfl rfl hl.1 rfl (lv_room (Nat.le_of_ble_eq_true rfl)) dL_law_133 ⟨by show 78 + 70 * t + 0 ≤ 1000; omega, by show 1427 + 420 * t + 0 ≤ 8000; omega⟩) (fun z_133 hz_133 => ?_)
      have hz := hz_133.2 rfl
      subst hz
      exact K _ hl
    · refine lv_iconst (v := 0) hx hb dL_law_125 (by decide) ?_
      refine lv_goto (tgt := 136) hx hb dL_law_126 (by decide) ?_
      exact K _ hl
set_option maxHeartbeats 4000000 in
set_option maxRecDepth 100000 in
theorem rlaw_start {p : Program} {l : Launch} {e : Env} {s : State} {m : MethodId} {below : List Frame} {meth : Method} {c : Code} {b L : Nat} {xs : Nat → Int32} (hflags : l.flags = flags0) (hL : 36 ≤ L) (hL2 : L ≤ 260) (hzx : ∀ j, j < 36 → xs j = 0) (C0 : lw_At p s m meth c b L xs) : W p l e room_B s m #[Value.ref b] below meth c s.heap [] 0 0 (rZ below s) (entryFrame m ([Value.ref b] : List Value).toArray 13) := by
  have hl0 : l.stackTraces = false := by unfold Launch.stackTraces; rw [hflags]; decide
  obtain ⟨hx, hb, hr, hml, hown, htsT, hX, hbl, hlocks, hgv⟩ := id C0
  have hTZ : qTZ s.heap.size s := tn_of htsT hgv
  have hW := fun w h => htsT w (tn_la w h)
  have hts := fun w h => htsT w (wsL_law_in w h)
  have hA : ∀ q : Nat, s.heap.size ≤ q → (fun q : Nat => s.heap.size ≤ q) q := fun _ h => h
  have w_iX0 := hW _ (List.mem_of_getElem? (i := 4) rfl)
  have w_cX0 := hW _ (List.mem_of_getElem? (i := 5) rfl)
  have w_nX0 := hW _ (List.mem_of_getElem? (i := 6) rfl)
  have w_mX0 := hW _ (List.mem_of_getElem? (i := 7) rfl)
  have w_sX0 := hW _ (List.mem_of_getElem? (i := 8) rfl)
  have w_arr := hW _ (List.mem_of_getElem? (i := 3) rfl)
  obtain ⟨c0, iS0, hKn0⟩ := u_known (C := RX0) (T := TX0) (N := 16) (n := 16) htsT inX0 w_iX0
  obtain ⟨dC, dI, hKc⟩ : ∃ (dC : Nat → ClassId) (dI : Nat → Nat → Nat), ∀ (k : Nat) (q : vw_C), vwCl[k]? = some q → u_Kn s q.1 q.2.1 q.2.2 (dC k) (dI k) := by
    refine ⟨fun _ => c0, fun _ => iS0, ?_⟩
    intro k q hq
    match k, hq with
    | 0, hq => cases hq; exact hKn0
    | k + 1, hq => simp [vwCl] at hq
  obtain ⟨cA, hA1, hA2⟩ := q_arr w_arr
  have hS : va_S (fun q : Nat => s.heap.size ≤ q) s.heap s.heap [] := va_S.rf
  have hK : va_K (dC, dI) vwCl (qTy cA cA cA) s := by
    refine ⟨hKc, fun k q h => ?_⟩
    match k, h with
    | 0, h => cases h; exact ⟨hA1, hA2⟩
    | k + 1, h => simp [qTy] at h
  have hP : va_P (dC, dI) vwCl [] s.heap := fun k q h => by simp at h
  have hD : va_D (fun q : Nat => s.heap.size ≤ q) [] := ⟨fun i j p q h => by simp at h, fun k q h => by simp at h⟩
  have hl := lv_entry ([.ref b]) (n := 13) (Nat.le_of_ble_eq_true rfl)
  rw [lg_entry_eq]
  generalize (lg_sl ([.ref b]) ++ List.replicate (13 - (lg_sl ([.ref b])).length) Slot.unset).toArray = ls at hl ⊢
  have hl : lv_has ls 13 [(0, .ref b)] := hl
  refine va_new (ci := 0) (fs := [.null, .int 0, .null, .null, .null, .int 0, .null, .int 0, .int 0, .null, .null, .null, .null, .null, .null, .int 0]) (C := RX0) (T := TX0) (N := 16) hx hb htsT inX0 tyX0 tyX0_ok hown w_cX0 w_iX0 w_nX0 hK hP hD hS hA rfl (fun j hj => by rcases (show j = 0 ∨ j = 1 ∨ j = 2 ∨ j = 3 ∨ j = 4 ∨ j = 5 ∨ j = 6 ∨ j = 7 ∨ j = 8 ∨ j = 9 ∨ j = 10 ∨ j = 11 ∨ j = 12 ∨ j = 13 ∨ j = 14 ∨ j = 15 by omega) with rfl | rfl | rfl | rfl | rfl | rfl | rfl | rfl | rfl | rfl | rfl | rfl | rfl | rfl | rfl | rfl <;> rfl) (Nat.le_of_ble_eq_true rfl) (Nat.le_of_ble_eq_true rfl) dL_law_0 (fun q0 H hP hD hS => ?_)
  have hP : va_P (dC, dI) vwCl [(q0, .inr (0, [.null, .int 0, .null, .null, .null, .int 0, .null, .int 0, .int 0, .null, .null, .null, .null, .null, .null, .int 0]))] H := hP
  have hD : va_D (fun q : Nat => s.heap.size ≤ q) [(q0, .inr (0, [.null, .int 0, .null, .null, .null, .int 0, .null, .int 0, .int 0, .null, .null, .null, .null, .null, .null, .int 0]))] := hD
  refine W.widen (k := 1) (n := 16) (by omega) (by omega) ?_
  refine lv_dup hx hb dL_law_3 rfl ?_
  refine qb_callvP (wc := [(q0, .inr (0, [.null, .int 0, .null, .null, .null, .int 0, .null, .int 0, .int 0, .null, .null, .null, .null, .null, .null, .int 0]))]) (wr := []) [0] [] rfl rfl (by decide) (by decide) hP (va_runI (As := []) (rest := [.ref q0]) ⟨hx, hb, hml, hown, hts⟩ (c_X0_init l (dC, dI) cA cA cA q0 H.size) (cwI 0 hts gL_law_X0_init rfl rfl rfl w_nX0 w_mX0 w_sX0 rfl (by decide +kernel) ⟨Nat.le_of_ble_eq_true rfl, Nat.le_of_ble_eq_true rfl⟩) ⟨qPreW_blind, qPreW_at hP hK hD⟩ rfl rfl hl.1 rfl (lv_room (Nat.le_of_ble_eq_true rfl)) dL_law_4 ⟨Nat.le_of_ble_eq_true rfl, Nat.le_of_ble_eq_true rfl⟩) hD hS hA (fun ad H locs hu hP1 hD1 hS => ?_)
  subst hu
  have hP : va_P (dC, dI) vwCl (xW cA ad xF0 xG0) H := hP1
  have hD : va_D (fun q : Nat => s.heap.size ≤ q) (xW cA ad xF0 xG0) := hD1
  refine W.widen (k := 12) (n := 900) (by omega) (by omega) ?_
  refine lv_astore_n (lv' := [(1, .ref (ad 16)), (0, .ref b)]) hx hb dL_law_7 rfl hl (by decide) rfl (fun ls hl => ?_)
  refine lv_bipush (v := 40) hx hb dL_law_8 (by decide) ?_
  refine qb_newa (atype := .int) (a0 := (40, .inl (fun _ => 0))) hx hb w_arr rfl hK hP hD hS hA 0 rfl (fun _ h => h) (fun _ => rfl) (by decide) (by decide) (Nat.le_of_ble_eq_true rfl) (Nat.le_of_ble_eq_true rfl) (Nat.le_of_ble_eq_true rfl) dL_law_10 (fun r0 H hP hD hS => ?_)
  have hP : va_P (dC, dI) vwCl (xW cA ad xF0 xG0 ++ [(r0, .inl (cA, 40, .inl (fun _ => 0)))]) H := hP
  have hD : va_D (fun q : Nat => s.heap.size ≤ q) (xW cA ad xF0 xG0 ++ [(r0, .inl (cA, 40, .inl (fun _ => 0)))]) := hD
  refine W.widen (k := 13) (n := 940) (by omega) (by omega) ?_
  refine lv_astore_n (lv' := [(2, .ref r0), (1, .ref (ad 16)), (0, .ref b)]) hx hb dL_law_12 rfl hl (by decide) rfl (fun ls hl => ?_)
  refine lv_bipush (v := 40) hx hb dL_law_13 (by decide) ?_
  refine qb_newa (atype := .int) (a0 := (40, .inl (fun _ => 0))) hx hb w_arr rfl hK hP hD hS hA 0 rfl (fun _ h => h) (fun _ => rfl) (by decide) (by decide) (Nat.le_of_ble_eq_true rfl) (Nat.le_of_ble_eq_true rfl) (Nat.le_of_ble_eq_true rfl) dL_law_15 (fun r1 H hP hD hS => ?_)
  have hP : va_P (dC, dI) vwCl (xW cA ad xF0 xG0 ++ [(r0, .inl (cA, 40, .inl (fun _ => 0))), (r1, .inl (cA, 40, .inl (fun _ => 0)))]) H := hP
  have hD : va_D (fun q : Nat => s.heap.size ≤ q) (xW cA ad xF0 xG0 ++ [(r0, .inl (cA, 40, .inl (fun _ => 0))), (r1, .inl (cA, 40, .inl (fun _ => 0)))]) := hD
  refine W.widen (k := 14) (n := 980) (by omega) (by omega) ?_
  refine lv_astore_n (lv' := [(3, .ref r1), (2, .ref r0), (1, .ref (ad 16)), (0, .ref b)]) hx hb dL_law_17 rfl hl (by decide) rfl (fun ls hl => ?_)
  refine lv_bipush (v := 9) hx hb dL_law_18 (by decide) ?_
  refine qb_newa (atype := .int) (a0 := (9, .inl (fun _ => 0))) hx hb w_arr rfl hK hP hD hS hA 0 rfl (fun _ h => h) (fun _ => rfl) (by decide) (by decide) (Nat.le_of_ble_eq_true rfl) (Nat.le_of_ble_eq_true rfl) (Nat.le_of_ble_eq_true rfl) dL_law_20 (fun r2 H hP hD hS => ?_)
  have hP : va_P (dC, dI) vwCl (xW cA ad xF0 xG0 ++ [(r0, .inl (cA, 40, .inl (fun _ => 0))), (r1, .inl (cA, 40, .inl (fun _ => 0))), (r2, .inl (cA, 9, .inl (fun _ => 0)))]) H := hP
  have hD : va_D (fun q : Nat => s.heap.size ≤ q) (xW cA ad xF0 xG0 ++ [(r0, .inl (cA, 40, .inl (fun _ => 0))), (r1, .inl (cA, 40, .inl (fun _ => 0))), (r2, .inl (cA, 9, .inl (fun _ => 0)))]) := hD
  refine W.widen (k := 15) (n := 989) (by omega) (by omega) ?_
  refine lv_astore (lv' := [(4, .ref r2), (3, .ref r1), (2, .ref r0), (1, .ref (ad 16)), (0, .ref b)]) hx hb dL_law_22 hl (by decide) rfl (fun ls hl => ?_)
  refine lv_bipush (v := 60) hx hb dL_law_24 (by decide) ?_
  refine qb_newa (atype := .int) (a0 := (60, .inl (fun _ => 0))) hx hb w_arr rfl hK hP hD hS hA 0 rfl (fun _ h => h) (fun _ => rfl) (by decide) (by decide) (Nat.le_of_ble_eq_true rfl) (Nat.le_of_ble_eq_true rfl) (Nat.le_of_ble_eq_true rfl) dL_law_26 (fun r3 H hP hD hS => ?_)
  have hP : va_P (dC, dI) vwCl (xW cA ad xF0 xG0 ++ [(r0, .inl (cA, 40, .inl (fun _ => 0))), (r1, .inl (cA, 40, .inl (fun _ => 0))), (r2, .inl (cA, 9, .inl (fun _ => 0))), (r3, .inl (cA, 60, .inl (fun _ => 0)))]) H := hP
  have hD : va_D (fun q : Nat => s.heap.size ≤ q) (xW cA ad xF0 xG0 ++ [(r0, .inl (cA, 40, .inl (fun _ => 0))), (r1, .inl (cA, 40, .inl (fun _ => 0))), (r2, .inl (cA, 9, .inl (fun _ => 0))), (r3, .inl (cA, 60, .inl (fun _ => 0)))]) := hD
  refine W.widen (k := 16) (n := 1049) (by omega) (by omega) ?_
  refine lv_astore (lv' := [(5, .ref r3), (4, .ref r2), (3, .ref r1), (2, .ref r0), (1, .ref (ad 16)), (0, .ref b)]) hx hb dL_law_28 hl (by decide) rfl (fun ls hl => ?_)
  refine lv_bipush (v := 12) hx hb dL_law_30 (by decide) ?_
  refine qb_newa (atype := .int) (a0 := (12, .inl (fun _ => 0))) hx hb w_arr rfl hK hP hD hS hA 0 rfl (fun _ h => h) (fun _ => rfl) (by decide) (by decide) (Nat.le_of_ble_eq_true rfl) (Nat.le_of_ble_eq_true rfl) (Nat.le_of_ble_eq_true rfl) dL_law_32 (fun r4 H hP hD hS => ?_)
  have hP : va_P (dC, dI) vwCl (xW cA ad xF0 xG0 ++ [(r0, .inl (cA, 40, .inl (fun _ => 0))), (r1, .inl (cA, 40, .inl (fun _ => 0))), (r2, .inl (cA, 9, .inl (fun _ => 0))), (r3, .inl (cA, 60, .inl (fun _ => 0))), (r4, .inl (cA, 12, .inl (fun _ => 0)))]) H := hP
  have hD : va_D (fun q : Nat => s.heap.size ≤ q) (xW cA ad xF0 xG0 ++ [(r0, .inl (cA, 40, .inl (fun _ => 0))), (r1, .inl (cA, 40, .inl (fun _ => 0))), (r2, .inl (cA, 9, .inl (fun _ => 0))), (r3, .inl (cA, 60, .inl (fun _ => 0))), (r4, .inl (cA, 12, .inl (fun _ => 0)))]) := hD
  refine W.widen (k := 17) (n := 1061) (by omega) (by omega) ?_
  refine lv_astore (lv' := [(6, .ref r4), (5, .ref r3), (4, .ref r2), (3, .ref r1), (2, .ref r0), (1, .ref (ad 16)), (0, .ref b)]) hx hb dL_law_34 hl (by decide) rfl (fun ls hl => ?_)
  refine lv_bipush (v := 6) hx hb dL_law_36 (by decide) ?_
  refine qb_newa (atype := .int) (a0 := (6, .inl (fun _ => 0))) hx hb w_arr rfl hK hP hD hS hA 0 rfl (fun _ h => h) (fun _ => rfl) (by decide) (by decide) (Nat.le_of_ble_eq_true rfl) (Nat.le_of_ble_eq_true rfl) (Nat.le_of_ble_eq_true rfl) dL_law_38 (fun r5 H hP hD hS => ?_)
  have hP : va_P (dC, dI) vwCl (xW cA ad xF0 xG0 ++ [(r0, .inl (cA, 40, .inl (fun _ => 0))), (r1, .inl (cA, 40, .inl (fun _ => 0))), (r2, .inl (cA, 9, .inl (fun _ => 0))), (r3, .inl (cA, 60, .inl (fun _ => 0))), (r4, .inl (cA, 12, .inl (fun _ => 0))), (r5, .inl (cA, 6, .inl (fun _ => 0)))]) H := hP
  have hD : va_D (fun q : Nat => s.heap.size ≤ q) (xW cA ad xF0 xG0 ++ [(r0, .inl (cA, 40, .inl (fun _ => 0))), (r1, .inl (cA, 40, .inl (fun _ => 0))), (r2, .inl (cA, 9, .inl (fun _ => 0))), (r3, .inl (cA, 60, .inl (fun _ => 0))), (r4, .inl (cA, 12, .inl (fun _ => 0))), (r5, .inl (cA, 6, .inl (fun _ => 0)))]) := hD
  refine W.widen (k := 18) (n := 1067) (by omega) (by omega) ?_
  refine lv_astore (lv' := [(7, .ref r5), (6, .ref r4), (5, .ref r3), (4, .ref r2), (3, .ref r1), (2, .ref r0), (1, .ref (ad 16)), (0, .ref b)]) hx hb dL_law_40 hl (by decide) rfl (fun ls hl => ?_)
  obtain ⟨q, hq⟩ : ∃ q : Nat → Nat, q = fun k => match k with | 0 => r0 | 1 => r1 | 2 => r2 | 3 => r3 | 4 => r4 | _ => r5 := ⟨_, rfl⟩
  have hq0 : r0 = q 0 := by subst hq; rfl
  have hq1 : r1 = q 1 := by subst hq; rfl
  have hq2 : r2 = q 2 := by subst hq; rfl
  have hq3 : r3 = q 3 := by subst hq; rfl
  have hq4 : r4 = q 4 := by subst hq; rfl
  have hq5 : r5 = q 5 := by subst hq; rfl
  rw [hq0, hq1, hq2, hq3, hq4, hq5] at hl hP hD
  clear hq0 hq1 hq2 hq3 hq4 hq5 hq
  have hP := hP.sub (ws' := LW cA ad q xF0 xG0 (fun _ _ => 0)) [12, 13, 14, 15, 16, 17, 0, 1, 2, 3, 4, 5, 6, 7, 8, 9, 10, 11] rfl
  have hD := hD.sub (ws' := LW cA ad q xF0 xG0 (fun _ _ => 0)) [12, 13, 14, 15, 16, 17, 0, 1, 2, 3, 4, 5, 6, 7, 8, 9, 10, 11] (by decide) rfl
  have hl : lv_has ls 13 [(7, .ref (q 5)), (6, .ref (q 4)), (5, .ref (q 3)), (4, .ref (q 2)), (3, .ref (q 1)), (2, .ref (q 0)), (1, .ref (ad 16)), (0, .ref b)] := hl
  refine lv_aload hx hb dL_law_42 (lv_at hl 3 rfl) ?_
  refine lv_iconst (v := 0) hx hb dL_law_44 (by decide) ?_
  refine lv_bipush (v := 99) hx hb dL_law_45 (by decide) ?_
  refine rb_iast hx hb hK hP hD hS 2 0 rfl rfl (by unfold vp_in; decide) dL_law_47 (fun H locs hzz hP hD hS => ?_)
  rw [cl0] at hP hD
  have hP : va_P (dC, dI) vwCl (LW cA ad q xF0 xG0 (va_up (fun _ _ => 0) 2 (upd (fun _ => 0) 0 99))) H := hP
  have hD : va_D (fun q : Nat => s.heap.size ≤ q) (LW cA ad q xF0 xG0 (va_up (fun _ _ => 0) 2 (upd (fun _ => 0) 0 99))) := hD
  refine lv_aload hx hb dL_law_48 (lv_at hl 0 rfl) ?_
  refine lv_iconst (v := 1) hx hb dL_law_50 (by decide) ?_
  refine lv_iconst (v := 1) hx hb dL_law_51 (by decide) ?_
  refine rb_iast hx hb hK hP hD hS 5 0 rfl rfl (by unfold vp_in; decide) dL_law_52 (fun H locs hzz hP hD hS => ?_)
  rw [cl1] at hP hD
  have hP : va_P (dC, dI) vwCl (LW cA ad q xF0 xG0 (va_up (va_up (fun _ _ => 0) 2 (upd (fun _ => 0) 0 99)) 5 (upd (fun _ => 0) 1 1))) H := hP
  have hD : va_D (fun q : Nat => s.heap.size ≤ q) (LW cA ad q xF0 xG0 (va_up (va_up (fun _ _ => 0) 2 (upd (fun _ => 0) 0 99)) 5 (upd (fun _ => 0) 1 1))) := hD
  have hR : RInv xF0 (va_up (va_up (fun _ _ => 0) 2 (upd (fun _ => 0) 0 99)) 5 (upd (fun _ => 0) 1 1)) := ⟨⟨rfl, by decide, by decide, rfl, by decide⟩, rfl, rfl, rfl, rfl, 0, by decide, rfl⟩
  generalize (va_up (va_up (fun _ _ => 0) 2 (upd (fun _ => 0) 0 99)) 5 (upd (fun _ => 0) 1 1)) = h at hP hD hR
  generalize xF0 = f at hP hD hR
  generalize xG0 = g at hP hD
  refine lv_aload_n hx hb dL_law_53 rfl (lv_at hl 6 rfl) ?_
  refine lv_iconst (v := 0) hx hb dL_law_54 (by decide) ?_
  refine lv_aload_n hx hb dL_law_55 rfl (lv_at hl 5 rfl) ?_
  refine lv_aload_n hx hb dL_law_56 rfl (lv_at hl 4 rfl) ?_
  refine lv_aload hx hb dL_law_57 (lv_at hl 3 rfl) ?_
  refine lv_aload hx hb dL_law_59 (lv_at hl 2 rfl) ?_
  refine lv_aload hx hb dL_law_61 (lv_at hl 1 rfl) ?_
  refine lv_aload hx hb dL_law_63 (lv_at hl 0 rfl) ?_
  have hbase : s.heap.size ≤ H.size := hS.1
  refine qb_grow (va_runS (As := [.ref (ad 16), .int 0, .ref (q 0), .ref (q 1), .ref (q 2), .ref (q 3), .ref (q 4), .ref (q 5)]) (rest := []) ⟨hx, hb, hml, hown, hts⟩ (c_L_isTold l hl0 (dC, dI) cA cA cA ad q f g h 0 hR) (va_cwS 8 hts gL_law_L_isTold rfl rfl rfl (by decide +kernel) ⟨Nat.le_of_ble_eq_true rfl, Nat.le_of_ble_eq_true rfl⟩) ⟨qPreN_blind, qPreN_at hP hK (fun U hU hW => qTZ_th (qTZ_at hTZ hS (fun _ h => h) U hU hW))⟩ rfl rfl hl.1 rfl (lv_room (Nat.le_of_ble_eq_true rfl)) dL_law_65 ⟨by show 18 + 60 ≤ 1000; omega, by show 1067 + 360 ≤ 8000; omega⟩) hP hS (fun z_65 H1 locs hu_65 hmo hP hS => ?_)
  have hu : z_65 = 0 ∨ H.size + 13 ≤ H1.size := hu_65
  refine lv_if_ne (tgt := 73) hx hb dL_law_68 (by decide) (fun c_68 => ?_) (fun c_68 => ?_)
  · have hu : H.size + 13 ≤ H1.size := hu.elim (fun h => absurd h c_68) (fun h => h)
    refine lv_iconst (v := 0) hx hb dL_law_73 (by decide) ?_
    refine lv_istore (lv' := [(8, .int 0), (7, .ref (q 5)), (6, .ref (q 4)), (5, .ref (q 3)), (4, .ref (q 2)), (3, .ref (q 1)), (2, .ref (q 0)), (1, .ref (ad 16)), (0, .ref b)]) hx hb dL_law_74 hl (by decide) rfl (fun ls hl => ?_)
    refine W.widen (k := 78 + 70 * 0) (n := 1427 + 420 * 0) (by omega) (by omega) ?_
    exact rlaw_loop hl0 hL hL2 hzx C0 hK hTZ _ 0 rfl (by omega) f g h _ _ _ hR hP hD hS (by omega) (lv_sub hl [8, 7, 6, 5, 4, 3, 2, 1, 0] rfl)
  · refine lv_iconst (v := 0) hx hb dL_law_71 (by decide) ?_
    exact rZ_0 hx hb hr hlocks dL_law_72
end
section
/-- the walk from the invocation: on a script that begins with thirty-six zeros, in a state that has more room than the statement asks, the law comes to two hundred and seventeen new cells, or ends without 1 -/
theorem rf_run (l : Launch) (hflags : l.flags = flags0) {p : Program} {e : Env} {s : State} {m : MethodId} {args : Array Value} {below : List Frame} {b : Addr} {xs : List Int32} (ha : l.admits e) (hc : FairCas e.choices) (hk : FairClock e.choices) (hf : s.frames = .invoking m args :: below)
    (happ : (headSpec (Jvm.Cond.code x code maxLocals ret :: tables_1) room_B).appliesLoose x e.platform s = true) (hP : lw_P b xs args s) (h36 : 36 ≤ xs.length) (hz : ∀ j, j < 36 → xs.getD j 0 = 0) : ∃ t, Steps p.tables e below s t ∧ rZ below s t := by
  obtain ⟨meth, c, B, hcode, hml0, hfirst⟩ := BodyLoose.of_appliesLoose (code := code) (maxLocals := maxLocals) (ret := ret) (by decide) (fun args s h => atoms_spec (ws := Jvm.Cond.code x code maxLocals ret :: tables_1) h _ List.mem_cons_self) p ha hc hk hf happ
  obtain ⟨rfl, hxx, hbd, hgv⟩ := hP
  obtain ⟨scr, harrAt, hlist, hof, hsmall⟩ := hxx
  obtain ⟨hcb, hkn, -, -⟩ := State.arrayAt?_spec harrAt
  have hown : s.vm.findClass R_law = some m.cls := findClass_of_methodNamed B.named
  have hts0 : ∀ c ∈ (Jvm.Cond.code x code maxLocals ret :: tables_1), c.before #[Value.ref b] s = true := atoms_spec (ws := Jvm.Cond.code x code maxLocals ret :: tables_1) B.pre
  have hts : ∀ w ∈ lw_tbl, w.before #[Value.ref b] s = true := k2_hts_sels lw_privs (fun w hw => hts0 w (List.mem_cons_of_mem _ hw)) lw_privs_ok
  have hml : c.maxLocals = 13 := hml0
  have X₀ := Stand.of_body B
  have hsz : scr.slots.size = xs.length := by rw [← Array.length_toList, hlist, List.length_map]
  have hval : ∀ j : Nat, j < xs.length → scr.slots[j]? = some (.int (xs.getD j 0)) := fun j hj => by
    rw [← Array.getElem?_toList, hlist]
    simp [hj]
  have hbl : b < s.heap.size := (Array.getElem?_eq_some_iff.mp hcb).1
  have hX : va_X b xs.length (fun j => xs.getD j 0) s s.heap := ⟨scr, hcb, hof, hkn, hsz, hval⟩
  have K : W p l e room_B s m #[Value.ref b] below meth c s.heap [] 0 0 (rZ below s) (entryFrame m ([Value.ref b] : List Value).toArray 13) := rlaw_start hflags h36 hbd hz ⟨B.exec, B.bytes, B.returns, hml, hown, hts, hX, hbl, B.notSynchronized, hgv⟩
  obtain ⟨t, a1, h1⟩ := K (s.setFrames (.java (entryFrame m #[Value.ref b] maxLocals) :: below)) rfl X₀
  exact ⟨t, hfirst.trans a1, h1⟩
/-- no run that makes two hundred and seventeen cells, or ends without 1, is one that the claim allows -/
theorem rf_claim (l : Launch) (hflags : l.flags = flags0) {p : Program} {e : Env} {s : State} {m : MethodId} {args : Array Value} {below : List Frame} (hA : AtStart classFile x code maxLocals ret World_1 tables_1 room_1 Calls_1 rest_1 Pre_1 l p e s m args below)
    (hr : ∃ t, Steps p.tables e below s t ∧ rZ below s t) : ¬ Claimed_1_2 := by
  intro hC
  obtain ⟨hLists, hWorld, ha, -, hc, hk, hf, hfit, hheap, happ, hcalls, hrest, hpre⟩ := hA
  obtain ⟨n, o, hw, hrun, hend, hpost, hfr⟩ := hC l hflags hLists hWorld p e ha hc hk s m args below hf hfit hheap happ ⟨hcalls, hrest, hpre⟩
  obtain ⟨t, ⟨k, hkk, hwk⟩, hq⟩ := hr
  have hsz : (stepsAlone p.tables e n s).heap.size ≤ s.heap.size + 216 := hfr.2.2.2.2.1
  rcases hq with hbig | ⟨o2, he2, hne⟩
  · rcases Nat.lt_or_ge n k with h | h
    · exact hend.not_within (hwk n h)
    · have h3 := stepsAlone_heap_le p.tables e (n - k) (stepsAlone p.tables e k s)
      rw [← stepsAlone_add, show k + (n - k) = n by omega, hkk] at h3
      omega
  · have hnk : n = k := by
      rcases Nat.lt_trichotomy n k with h | h | h
      · exact absurd (hwk n h) hend.not_within
      · exact h
      · exact absurd (hw k h) (by rw [hkk]; exact he2.not_within)
    subst hnk
    rw [hkk] at hend hpost
    have ho := hend.outcome_unique he2
    subst ho
    obtain ⟨v, rfl⟩ := hfr.1
    refine hne ?_
    have h4 : limb_1_2.after args s (.returned v) t = true := hpost
    cases v with
    | none => simp [limb_1_2, Cond.after, Cond.holds, Cond.value, Term.eval] at h4
    | some w =>
      cases w with
      | int z =>
        simp [limb_1_2, Cond.after, Cond.holds, Cond.value, Term.eval] at h4
        rw [h4]
      | _ => simp [limb_1_2, Cond.after, Cond.holds, Cond.value, Term.eval] at h4
end
section
/-! the statement refuted: from the witness's own start with a script of thirty-six zeros. The names start1.. stand in a whole round alone -/
def rz_zeros : Array Value := ⟨List.replicate 36 (.int 0)⟩
def rz_s : State := start1.aboutOf rz_zeros
set_option maxRecDepth 16384 in
theorem rz_all : (Cond.code x code maxLocals ret :: tables_1).all (fun c => c.onTables || c.before start1.args0 rz_s) = true := by decide +kernel
theorem rz_words : ∀ c ∈ (Cond.code x code maxLocals ret :: tables_1), c.before start1.args0 rz_s = true := fun c hc => by
  have h := List.all_eq_true.mp rz_all c hc
  cases hq : c.onTables with
  | true => exact va_tabs (A := start1.args0) hq (u := start1.about) (U := rz_s) rfl (start1.words c hc)
  | false => simpa [hq] using h
theorem rz_rest : rest_1_c.before start1.args0 rz_s = true := by decide +kernel
theorem rz_pre : (Cond.and given_1 narrow_1).before start1.args0 rz_s = true := by decide +kernel
set_option maxRecDepth 16384 in
theorem rz_start : AtStart classFile x code maxLocals ret World_1 tables_1 room_1 Calls_1 rest_1 Pre_1 launch0 start1.p0 start1.e0 rz_s ⟨0, 0⟩ start1.args0 Lib.HandBits.below0 :=
  ⟨lists_1, trivial, launch0.admits_env _ _ _, launch0.least_env, fairChoices_fair.cas, fairChoices_fair.clock, rfl, by decide +kernel, by decide +kernel,
    (Spec.applies_iff rfl).mpr ⟨rfl, rfl, rfl, by decide +kernel, by decide +kernel, by decide +kernel, launch0.hasRoom_least _ room_1 (by decide +kernel) (by decide +kernel) (by decide +kernel) (by decide +kernel) (by decide +kernel) (by decide +kernel), atoms_intro rz_words⟩,
    trivial, rz_rest, rz_pre⟩
set_option maxRecDepth 16384 in
theorem rz_app : (headSpec (Jvm.Cond.code x code maxLocals ret :: tables_1) room_B).applies x start1.e0.platform rz_s = true :=
  (Spec.applies_iff (m := ⟨0, 0⟩) (args := start1.args0) (below := Lib.HandBits.below0) rfl).mpr ⟨rfl, rfl, rfl, by decide +kernel, by decide +kernel, by decide +kernel, launch0.hasRoom_least _ room_B (by decide +kernel) (by decide +kernel) (by decide +kernel) (by decide +kernel) (by decide +kernel) (by decide +kernel), atoms_intro rz_words⟩
theorem rz_loose : (headSpec (Jvm.Cond.code x code maxLocals ret :: tables_1) room_B).appliesLoose x start1.e0.platform rz_s = true :=
  ((Spec.applies_iff_loose (S := headSpec (Jvm.Cond.code x code maxLocals ret :: tables_1) room_B) (x := x) (pl := start1.e0.platform) (s := rz_s) (m := ⟨0, 0⟩) (args := start1.args0) (below := Lib.HandBits.below0) rfl).mp rz_app).1
def rz_int : Value → Int32 := fun v => match v with
  | .int z => z
  | _ => 0
theorem rz_ints (xs : List Int32) : (xs.map Value.int).map rz_int = xs := by
  rw [List.map_map]
  exact List.map_id xs
theorem rz_script : ∃ (b : Addr) (xs : List Int32), lw_P b xs start1.args0 rz_s ∧ 36 ≤ xs.length ∧ ∀ j, j < 36 → xs.getD j 0 = 0 := by
  obtain ⟨b, xs, hP⟩ := lw_pre_spec rz_pre rz_rest
  have hxs : xs = List.replicate 36 0 := by
    obtain ⟨h1, ⟨scr, harr, hlist, -, -⟩, -, -⟩ := hP
    have hb : b = 0 := by
      have h2 : (#[Value.ref 0] : Array Value) = #[.ref b] := h1
      simp at h2
      exact h2.symm
    subst hb
    obtain ⟨hc, -, -, -⟩ := State.arrayAt?_spec harr
    have h3 : rz_s.heap[0]? = some { cls := 13, slots := rz_zeros, vm := .none } := rfl
    rw [h3] at hc
    have h4 : scr.slots = rz_zeros := by rw [← Option.some.inj hc]
    rw [h4] at hlist
    have h5 := congrArg (List.map rz_int) hlist
    rw [rz_ints] at h5
    rw [← h5]
    rfl
  refine ⟨b, xs, hP, ?_, ?_⟩
  · rw [hxs, List.length_replicate]; exact Nat.le_refl _
  · intro j hj
    rw [hxs, List.getD_eq_getElem?_getD, List.getElem?_replicate, if_pos hj]
    rfl
/-- THE STATEMENT IS FALSE: the law's run makes more cells than the room that it is printed with -/
theorem p25_refuted : ¬ (Claimed_1_1 ∧ Claimed_1_2) := by
  intro h
  obtain ⟨b, xs, hP, h1, h2⟩ := rz_script
  exact rf_claim launch0 rfl rz_start (rf_run launch0 rfl (launch0.admits_env _ _ _) fairChoices_fair.cas fairChoices_fair.clock rfl rz_loose hP h1 h2) h.2
end
