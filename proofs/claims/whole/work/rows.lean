section
-- ===== PART A: goes FIRST, ahead of the names: the tables' words, and 'selects' of the private methods out of them =====
/-- a private method of a class that the tables say can be made, by its rows of tables_1 -/
def lw_okq (q : MethodName × Nat) : Prop := (q.1.cls ≠ "java/lang/invoke/MethodHandle" ∧ q.1.cls ≠ "java/lang/invoke/VarHandle") ∧ Cond.instantiable q.1.cls q.2 ∈ tables_1 ∧ Cond.privateMethod q.1 ∈ tables_1 ∧ Cond.instanceMethod q.1 ∈ tables_1
theorem lw_p0 : lw_okq (⟨"java/lang/Throwable", "fillInStackTrace", "(I)Ljava/lang/Throwable;"⟩, 6) := ⟨⟨by decide +kernel, by decide +kernel⟩, List.mem_of_getElem? (i := 130) (by decide +kernel), List.mem_of_getElem? (i := 128) (by decide +kernel), List.mem_of_getElem? (i := 129) (by decide +kernel)⟩
theorem lw_p1 : lw_okq (⟨"ShardBallots", "isMember", "(I)Z"⟩, 16) := ⟨⟨by decide +kernel, by decide +kernel⟩, List.mem_of_getElem? (i := 11) (by decide +kernel), List.mem_of_getElem? (i := 179) (by decide +kernel), List.mem_of_getElem? (i := 180) (by decide +kernel)⟩
theorem lw_p2 : lw_okq (⟨"ShardBallots", "read", "(I)I"⟩, 16) := ⟨⟨by decide +kernel, by decide +kernel⟩, List.mem_of_getElem? (i := 11) (by decide +kernel), List.mem_of_getElem? (i := 183) (by decide +kernel), List.mem_of_getElem? (i := 184) (by decide +kernel)⟩
theorem lw_p3 : lw_okq (⟨"ShardBallots", "rangeHolding", "(I)I"⟩, 16) := ⟨⟨by decide +kernel, by decide +kernel⟩, List.mem_of_getElem? (i := 11) (by decide +kernel), List.mem_of_getElem? (i := 187) (by decide +kernel), List.mem_of_getElem? (i := 188) (by decide +kernel)⟩
theorem lw_p4 : lw_okq (⟨"ShardBallots", "homeOf", "(I)I"⟩, 16) := ⟨⟨by decide +kernel, by decide +kernel⟩, List.mem_of_getElem? (i := 11) (by decide +kernel), List.mem_of_getElem? (i := 191) (by decide +kernel), List.mem_of_getElem? (i := 192) (by decide +kernel)⟩
theorem lw_p5 : lw_okq (⟨"ShardBallots", "isRange", "(I)Z"⟩, 16) := ⟨⟨by decide +kernel, by decide +kernel⟩, List.mem_of_getElem? (i := 11) (by decide +kernel), List.mem_of_getElem? (i := 195) (by decide +kernel), List.mem_of_getElem? (i := 196) (by decide +kernel)⟩
theorem lw_p6 : lw_okq (⟨"ShardBallots", "rowOf", "(II)I"⟩, 16) := ⟨⟨by decide +kernel, by decide +kernel⟩, List.mem_of_getElem? (i := 11) (by decide +kernel), List.mem_of_getElem? (i := 199) (by decide +kernel), List.mem_of_getElem? (i := 200) (by decide +kernel)⟩
theorem lw_p7 : lw_okq (⟨"ShardBallots", "write", "(II)V"⟩, 16) := ⟨⟨by decide +kernel, by decide +kernel⟩, List.mem_of_getElem? (i := 11) (by decide +kernel), List.mem_of_getElem? (i := 223) (by decide +kernel), List.mem_of_getElem? (i := 224) (by decide +kernel)⟩
theorem lw_p8 : lw_okq (⟨"ShardBallots", "putRow", "(III)V"⟩, 16) := ⟨⟨by decide +kernel, by decide +kernel⟩, List.mem_of_getElem? (i := 11) (by decide +kernel), List.mem_of_getElem? (i := 227) (by decide +kernel), List.mem_of_getElem? (i := 228) (by decide +kernel)⟩
theorem lw_p9 : lw_okq (⟨"ShardBallots", "targetOf", "(I)I"⟩, 16) := ⟨⟨by decide +kernel, by decide +kernel⟩, List.mem_of_getElem? (i := 11) (by decide +kernel), List.mem_of_getElem? (i := 231) (by decide +kernel), List.mem_of_getElem? (i := 232) (by decide +kernel)⟩
theorem lw_p10 : lw_okq (⟨"ShardBallots", "checkMember", "(I)V"⟩, 16) := ⟨⟨by decide +kernel, by decide +kernel⟩, List.mem_of_getElem? (i := 11) (by decide +kernel), List.mem_of_getElem? (i := 242) (by decide +kernel), List.mem_of_getElem? (i := 243) (by decide +kernel)⟩
theorem lw_p11 : lw_okq (⟨"ShardBallots", "lastKeyOf", "(I)I"⟩, 16) := ⟨⟨by decide +kernel, by decide +kernel⟩, List.mem_of_getElem? (i := 11) (by decide +kernel), List.mem_of_getElem? (i := 282) (by decide +kernel), List.mem_of_getElem? (i := 283) (by decide +kernel)⟩
theorem lw_p12 : lw_okq (⟨"ShardBallots", "isMoved", "(I)Z"⟩, 16) := ⟨⟨by decide +kernel, by decide +kernel⟩, List.mem_of_getElem? (i := 11) (by decide +kernel), List.mem_of_getElem? (i := 287) (by decide +kernel), List.mem_of_getElem? (i := 288) (by decide +kernel)⟩
theorem lw_p13 : lw_okq (⟨"ShardBallots", "insertCopyBehind", "(I)V"⟩, 16) := ⟨⟨by decide +kernel, by decide +kernel⟩, List.mem_of_getElem? (i := 11) (by decide +kernel), List.mem_of_getElem? (i := 293) (by decide +kernel), List.mem_of_getElem? (i := 294) (by decide +kernel)⟩
theorem lw_p14 : lw_okq (⟨"ShardBallots", "copyRange", "(II)V"⟩, 16) := ⟨⟨by decide +kernel, by decide +kernel⟩, List.mem_of_getElem? (i := 11) (by decide +kernel), List.mem_of_getElem? (i := 297) (by decide +kernel), List.mem_of_getElem? (i := 298) (by decide +kernel)⟩
theorem lw_p15 : lw_okq (⟨"ShardBallots", "checkRange", "(I)V"⟩, 16) := ⟨⟨by decide +kernel, by decide +kernel⟩, List.mem_of_getElem? (i := 11) (by decide +kernel), List.mem_of_getElem? (i := 308) (by decide +kernel), List.mem_of_getElem? (i := 309) (by decide +kernel)⟩
def lw_privs_1 : List (MethodName × Nat) := [(⟨"java/lang/Throwable", "fillInStackTrace", "(I)Ljava/lang/Throwable;"⟩, 6), (⟨"ShardBallots", "isMember", "(I)Z"⟩, 16), (⟨"ShardBallots", "read", "(I)I"⟩, 16), (⟨"ShardBallots", "rangeHolding", "(I)I"⟩, 16), (⟨"ShardBallots", "homeOf", "(I)I"⟩, 16), (⟨"ShardBallots", "isRange", "(I)Z"⟩, 16), (⟨"ShardBallots", "rowOf", "(II)I"⟩, 16), (⟨"ShardBallots", "write", "(II)V"⟩, 16), (⟨"ShardBallots", "putRow", "(III)V"⟩, 16), (⟨"ShardBallots", "targetOf", "(I)I"⟩, 16), (⟨"ShardBallots", "checkMember", "(I)V"⟩, 16), (⟨"ShardBallots", "lastKeyOf", "(I)I"⟩, 16), (⟨"ShardBallots", "isMoved", "(I)Z"⟩, 16), (⟨"ShardBallots", "insertCopyBehind", "(I)V"⟩, 16), (⟨"ShardBallots", "copyRange", "(II)V"⟩, 16), (⟨"ShardBallots", "checkRange", "(I)V"⟩, 16)]
theorem lw_r1 : ∀ q ∈ lw_privs_1, lw_okq q := List.forall_mem_cons.mpr ⟨lw_p0, List.forall_mem_cons.mpr ⟨lw_p1, List.forall_mem_cons.mpr ⟨lw_p2, List.forall_mem_cons.mpr ⟨lw_p3, List.forall_mem_cons.mpr ⟨lw_p4, List.forall_mem_cons.mpr ⟨lw_p5, List.forall_mem_cons.mpr ⟨lw_p6, List.forall_mem_cons.mpr ⟨lw_p7, List.forall_mem_cons.mpr ⟨lw_p8, List.forall_mem_cons.mpr ⟨lw_p9, List.forall_mem_cons.mpr ⟨lw_p10, List.forall_mem_cons.mpr ⟨lw_p11, List.forall_mem_cons.mpr ⟨lw_p12, List.forall_mem_cons.mpr ⟨lw_p13, List.forall_mem_cons.mpr ⟨lw_p14, List.forall_mem_cons.mpr ⟨lw_p15, fun _ h => absurd h List.not_mem_nil⟩⟩⟩⟩⟩⟩⟩⟩⟩⟩⟩⟩⟩⟩⟩⟩
theorem lw_p16 : lw_okq (⟨"ShardBallots", "remove", "(I)V"⟩, 16) := ⟨⟨by decide +kernel, by decide +kernel⟩, List.mem_of_getElem? (i := 11) (by decide +kernel), List.mem_of_getElem? (i := 316) (by decide +kernel), List.mem_of_getElem? (i := 317) (by decide +kernel)⟩
theorem lw_p17 : lw_okq (⟨"ShardBallots", "firstKeyOf", "(I)I"⟩, 16) := ⟨⟨by decide +kernel, by decide +kernel⟩, List.mem_of_getElem? (i := 11) (by decide +kernel), List.mem_of_getElem? (i := 333) (by decide +kernel), List.mem_of_getElem? (i := 334) (by decide +kernel)⟩
theorem lw_p18 : lw_okq (⟨"ShardBallots", "countRows", "(III)I"⟩, 16) := ⟨⟨by decide +kernel, by decide +kernel⟩, List.mem_of_getElem? (i := 11) (by decide +kernel), List.mem_of_getElem? (i := 337) (by decide +kernel), List.mem_of_getElem? (i := 338) (by decide +kernel)⟩
theorem lw_p19 : lw_okq (⟨"ShardBallots", "checkMoved", "(I)V"⟩, 16) := ⟨⟨by decide +kernel, by decide +kernel⟩, List.mem_of_getElem? (i := 11) (by decide +kernel), List.mem_of_getElem? (i := 348) (by decide +kernel), List.mem_of_getElem? (i := 349) (by decide +kernel)⟩
theorem lw_p20 : lw_okq (⟨"ShardBallots", "lowestKeyNotBrought", "(I)I"⟩, 16) := ⟨⟨by decide +kernel, by decide +kernel⟩, List.mem_of_getElem? (i := 11) (by decide +kernel), List.mem_of_getElem? (i := 353) (by decide +kernel), List.mem_of_getElem? (i := 354) (by decide +kernel)⟩
theorem lw_p21 : lw_okq (⟨"ShardBallots", "dropRows", "(II)V"⟩, 16) := ⟨⟨by decide +kernel, by decide +kernel⟩, List.mem_of_getElem? (i := 11) (by decide +kernel), List.mem_of_getElem? (i := 357) (by decide +kernel), List.mem_of_getElem? (i := 358) (by decide +kernel)⟩
theorem lw_p22 : lw_okq (⟨"ShardBallots", "latestBallotTo", "(I)I"⟩, 16) := ⟨⟨by decide +kernel, by decide +kernel⟩, List.mem_of_getElem? (i := 11) (by decide +kernel), List.mem_of_getElem? (i := 412) (by decide +kernel), List.mem_of_getElem? (i := 413) (by decide +kernel)⟩
theorem lw_p23 : lw_okq (⟨"ShardBallots", "isOfOpenVote", "(I)Z"⟩, 16) := ⟨⟨by decide +kernel, by decide +kernel⟩, List.mem_of_getElem? (i := 11) (by decide +kernel), List.mem_of_getElem? (i := 416) (by decide +kernel), List.mem_of_getElem? (i := 417) (by decide +kernel)⟩
theorem lw_p24 : lw_okq (⟨"ShardBallots", "isBallot", "(I)Z"⟩, 16) := ⟨⟨by decide +kernel, by decide +kernel⟩, List.mem_of_getElem? (i := 11) (by decide +kernel), List.mem_of_getElem? (i := 420) (by decide +kernel), List.mem_of_getElem? (i := 421) (by decide +kernel)⟩
theorem lw_p25 : lw_okq (⟨"ShardBallots", "checkBallot", "(I)V"⟩, 16) := ⟨⟨by decide +kernel, by decide +kernel⟩, List.mem_of_getElem? (i := 11) (by decide +kernel), List.mem_of_getElem? (i := 433) (by decide +kernel), List.mem_of_getElem? (i := 434) (by decide +kernel)⟩
theorem lw_p26 : lw_okq (⟨"ShardBallotsModel", "isThere", "(I)Z"⟩, 18) := ⟨⟨by decide +kernel, by decide +kernel⟩, List.mem_of_getElem? (i := 473) (by decide +kernel), List.mem_of_getElem? (i := 549) (by decide +kernel), List.mem_of_getElem? (i := 550) (by decide +kernel)⟩
theorem lw_p27 : lw_okq (⟨"ShardBallotsModel", "asksKey", "(I)Z"⟩, 18) := ⟨⟨by decide +kernel, by decide +kernel⟩, List.mem_of_getElem? (i := 473) (by decide +kernel), List.mem_of_getElem? (i := 565) (by decide +kernel), List.mem_of_getElem? (i := 566) (by decide +kernel)⟩
theorem lw_p28 : lw_okq (⟨"ShardBallotsModel", "rangeAt", "(I)I"⟩, 18) := ⟨⟨by decide +kernel, by decide +kernel⟩, List.mem_of_getElem? (i := 473) (by decide +kernel), List.mem_of_getElem? (i := 580) (by decide +kernel), List.mem_of_getElem? (i := 581) (by decide +kernel)⟩
theorem lw_p29 : lw_okq (⟨"ShardBallotsModel", "behind", "(I)I"⟩, 18) := ⟨⟨by decide +kernel, by decide +kernel⟩, List.mem_of_getElem? (i := 473) (by decide +kernel), List.mem_of_getElem? (i := 584) (by decide +kernel), List.mem_of_getElem? (i := 585) (by decide +kernel)⟩
theorem lw_p30 : lw_okq (⟨"ShardBallotsModel", "copies", "(II)V"⟩, 18) := ⟨⟨by decide +kernel, by decide +kernel⟩, List.mem_of_getElem? (i := 473) (by decide +kernel), List.mem_of_getElem? (i := 588) (by decide +kernel), List.mem_of_getElem? (i := 589) (by decide +kernel)⟩
theorem lw_p31 : lw_okq (⟨"ShardBallotsModel", "isRange", "(I)Z"⟩, 18) := ⟨⟨by decide +kernel, by decide +kernel⟩, List.mem_of_getElem? (i := 473) (by decide +kernel), List.mem_of_getElem? (i := 596) (by decide +kernel), List.mem_of_getElem? (i := 597) (by decide +kernel)⟩
def lw_privs_2 : List (MethodName × Nat) := [(⟨"ShardBallots", "remove", "(I)V"⟩, 16), (⟨"ShardBallots", "firstKeyOf", "(I)I"⟩, 16), (⟨"ShardBallots", "countRows", "(III)I"⟩, 16), (⟨"ShardBallots", "checkMoved", "(I)V"⟩, 16), (⟨"ShardBallots", "lowestKeyNotBrought", "(I)I"⟩, 16), (⟨"ShardBallots", "dropRows", "(II)V"⟩, 16), (⟨"ShardBallots", "latestBallotTo", "(I)I"⟩, 16), (⟨"ShardBallots", "isOfOpenVote", "(I)Z"⟩, 16), (⟨"ShardBallots", "isBallot", "(I)Z"⟩, 16), (⟨"ShardBallots", "checkBallot", "(I)V"⟩, 16), (⟨"ShardBallotsModel", "isThere", "(I)Z"⟩, 18), (⟨"ShardBallotsModel", "asksKey", "(I)Z"⟩, 18), (⟨"ShardBallotsModel", "rangeAt", "(I)I"⟩, 18), (⟨"ShardBallotsModel", "behind", "(I)I"⟩, 18), (⟨"ShardBallotsModel", "copies", "(II)V"⟩, 18), (⟨"ShardBallotsModel", "isRange", "(I)Z"⟩, 18)]
theorem lw_r2 : ∀ q ∈ lw_privs_2, lw_okq q := List.forall_mem_cons.mpr ⟨lw_p16, List.forall_mem_cons.mpr ⟨lw_p17, List.forall_mem_cons.mpr ⟨lw_p18, List.forall_mem_cons.mpr ⟨lw_p19, List.forall_mem_cons.mpr ⟨lw_p20, List.forall_mem_cons.mpr ⟨lw_p21, List.forall_mem_cons.mpr ⟨lw_p22, List.forall_mem_cons.mpr ⟨lw_p23, List.forall_mem_cons.mpr ⟨lw_p24, List.forall_mem_cons.mpr ⟨lw_p25, List.forall_mem_cons.mpr ⟨lw_p26, List.forall_mem_cons.mpr ⟨lw_p27, List.forall_mem_cons.mpr ⟨lw_p28, List.forall_mem_cons.mpr ⟨lw_p29, List.forall_mem_cons.mpr ⟨lw_p30, List.forall_mem_cons.mpr ⟨lw_p31, fun _ h => absurd h List.not_mem_nil⟩⟩⟩⟩⟩⟩⟩⟩⟩⟩⟩⟩⟩⟩⟩⟩
theorem lw_p32 : lw_okq (⟨"ShardBallotsModel", "many", "(IZ)I"⟩, 18) := ⟨⟨by decide +kernel, by decide +kernel⟩, List.mem_of_getElem? (i := 473) (by decide +kernel), List.mem_of_getElem? (i := 604) (by decide +kernel), List.mem_of_getElem? (i := 605) (by decide +kernel)⟩
theorem lw_p33 : lw_okq (⟨"ShardBallotsModel", "asksMoved", "(I)Z"⟩, 18) := ⟨⟨by decide +kernel, by decide +kernel⟩, List.mem_of_getElem? (i := 473) (by decide +kernel), List.mem_of_getElem? (i := 612) (by decide +kernel), List.mem_of_getElem? (i := 613) (by decide +kernel)⟩
theorem lw_p34 : lw_okq (⟨"ShardBallotsModel", "asksBallot", "(I)Z"⟩, 18) := ⟨⟨by decide +kernel, by decide +kernel⟩, List.mem_of_getElem? (i := 473) (by decide +kernel), List.mem_of_getElem? (i := 652) (by decide +kernel), List.mem_of_getElem? (i := 653) (by decide +kernel)⟩
def lw_privs_3 : List (MethodName × Nat) := [(⟨"ShardBallotsModel", "many", "(IZ)I"⟩, 18), (⟨"ShardBallotsModel", "asksMoved", "(I)Z"⟩, 18), (⟨"ShardBallotsModel", "asksBallot", "(I)Z"⟩, 18)]
theorem lw_r3 : ∀ q ∈ lw_privs_3, lw_okq q := List.forall_mem_cons.mpr ⟨lw_p32, List.forall_mem_cons.mpr ⟨lw_p33, List.forall_mem_cons.mpr ⟨lw_p34, fun _ h => absurd h List.not_mem_nil⟩⟩⟩
def lw_privs : List (MethodName × Nat) := lw_privs_1 ++ (lw_privs_2 ++ (lw_privs_3))
def lw_tbl : List Cond := k2_sels lw_privs ++ tables_1
theorem lw_privs_ok : ∀ q ∈ lw_privs, lw_okq q := by
  show ∀ q ∈ lw_privs_1 ++ (lw_privs_2 ++ (lw_privs_3)), lw_okq q
  exact List.forall_mem_append.mpr ⟨lw_r1, List.forall_mem_append.mpr ⟨lw_r2, lw_r3⟩⟩
-- ===== end of PART A; then your names; then what follows =====
end
section
/-! ===== BEGIN words of one list among another's, by their places ===== -/
theorem goodIn_r {big : List Cond} (ws : List Cond) (ps : List Nat) (hp : ws = ps.filterMap (fun i => big[i]?)) (h : ws.all goodWord = true) : GoodIn big ws := by
  intro w hw
  have h1 := List.all_eq_true.mp h w hw
  rw [hp] at hw
  obtain ⟨i, -, hi⟩ := List.mem_filterMap.mp hw
  have hm : w ∈ big := by first | exact List.mem_of_getElem? hi | exact List.getElem?_mem hi
  exact ⟨hm, good_of_word h1⟩
theorem goodIn_app {big a b : List Cond} (ha : GoodIn big a) (hb : GoodIn big b) : GoodIn big (a ++ b) := fun w h => (List.mem_append.mp h).elim (ha w) (hb w)
theorem goodIn_ca {big a b : List Cond} {c : Cond} (ha : GoodIn big (c :: a)) (hb : GoodIn big b) : GoodIn big (c :: (a ++ b)) := fun w h => (List.mem_cons.mp h).elim (fun e => ha w (List.mem_cons.mpr (Or.inl e))) (fun h => (List.mem_append.mp h).elim (fun h => ha w (List.mem_cons.mpr (Or.inr h))) (hb w))
theorem goodIn_sub {big ws : List Cond} (hm : ∀ w ∈ ws, w ∈ big) (h : ws.all goodWord = true) : GoodIn big ws := fun w hw => ⟨hm w hw, good_of_word (List.all_eq_true.mp h w hw)⟩
/-! ===== END ===== -/

/-! ===== BEGIN exceptions that leave a method, and their catching by the caller (launches without stack traces) ===== -/
section VXA
/-! The laws vx_back, vx_callV, vx_callS, vx_callSW, vx_throw0, vx_throwS follow proofs of the library, with one case more: JvmDerived/Free/Laws.lean (Back.of_free), Shelf42/LK1.lean (callV, callS), Shelf/KitTraced.lean (throwNew0V, throwNewS). -/
/-- where a method has thrown q: the class by its name, the cell, what was written, the world -/
def vx_T (XC : String → State → State → Prop) (st : State) (q : Addr) (t : State) (mc ms : Nat) (free : Addr → Prop) : Prop :=
  ∃ (E : String) (ce : Cell) (L : List Loc), XC E st t ∧ t.heap[q]? = some ce ∧ ce.vm = .none ∧ st.vm.findClass E = some ce.cls ∧ st.WarmedH t.vm ∧ st.sameButNew ({ t with vm := st.vm } : State) L mc ms ∧ ∀ z ∈ L, free z.base
def vx_Q (Qc : Array Value → State → Outcome → State → Prop) (XC : String → State → State → Prop) (mc ms : Nat) (free : Addr → Prop) : Array Value → State → Outcome → State → Prop := fun a st o t =>
  (Qc a st o t ∧ ∃ L, FrameEnd st o t L mc ms ∧ ∀ q ∈ L, free q.base) ∨ ∃ q, o = .threw q ∧ vx_T XC st q t mc ms free
/-- a callee that returns or throws -/
def vx_Met (l : Launch) (y : MethodName) (ws : List Cond) (rm : Room) (Pc : Array Value → State → Prop) (Qc : Array Value → State → Outcome → State → Prop) (XC : String → State → State → Prop) (mc ms : Nat) (free : Addr → Prop) : Prop :=
  MetFree l y (headSpec ws rm) Pc (fun _ _ _ _ _ => True) (vx_Q Qc XC mc ms free)
def vx_Post (XC : String → State → State → Prop) (mc ms : Nat) (free : Addr → Prop) : Pt → Array Value → Addr → Pt → Prop := fun A a q B =>
  ∃ (g : JFrame) (mk : MethodId) (t : State) (L : List Loc) (E : String) (ce : Cell), B.U.heap = t.heap ∧ B.U.vm = t.vm ∧ XC E (A.U.calling g mk a) t ∧ t.heap[q]? = some ce ∧ ce.vm = .none ∧ A.U.vm.findClass E = some ce.cls ∧ B.locs = A.locs ++ L ∧ (∀ z ∈ L, free z.base) ∧ B.cells = A.cells + mc ∧ B.slots = A.slots + ms
def vx_Back (l : Launch) (R : Room) (p : Program) (e : Env) (below : List Frame) (s : State) (sargs : Array Value) (y : MethodName) (len W9 : Nat)
    (Pre : Pt → Array Value → Prop) (Post : Pt → Array Value → Option Value → Pt → Prop) (PostX : Pt → Array Value → Addr → Pt → Prop) : Prop :=
  ∀ (m : MethodId) (meth : Method) (c : Code) (A : Pt) (g : JFrame) (ig : Instr) (mk : MethodId) (a : Array Value),
    Stand p l e R s m sargs below meth c A.U A.locs A.cells A.slots → g.method = m → g.locals.size = c.maxLocals → decode c.code g.pc = .ok (ig, len) →
    2 * g.monitorRoom + (g.stack.map fun v => v.category).sum ≤ W9 → A.U.methodNamed? y = some mk → Pre A a →
    (∃ (v : Option Value) (B : Pt), Stand p l e R s m sargs below meth c B.U B.locs B.cells B.slots ∧ Post A a v B ∧
      Steps p.tables e below (doInvoke e (A.U.setTop g) [] mk a).1 (B.U.setTop { g with pc := g.pc + len, stack := v.toList ++ g.stack })) ∨
    (∃ (q : Addr) (B : Pt), Stand p l e R s m sargs below meth c B.U B.locs B.cells B.slots ∧ PostX A a q B ∧
      Steps p.tables e below (doInvoke e (A.U.setTop g) [] mk a).1 ((B.U.setTop g).pushFrame (.throwing q)))
section Payer
variable {l : Launch} {R : Room} {p : Program} {e : Env} {below : List Frame} {s : State} {sargs : Array Value} {y : MethodName} {len W9 : Nat}
theorem vx_back {ws : List Cond} {rm : Room} {Pc : Array Value → State → Prop} {Qc : Array Value → State → Outcome → State → Prop} {XC : String → State → State → Prop} {mc ms : Nat} {free : Addr → Prop} {bytes : ByteArray} {maxL : Nat} {ret : Option FieldType}
    (hM : vx_Met l y ws rm Pc Qc XC mc ms free) (hblind : FrameBlind Pc) (hrc : rm.cells = mc) (hrs : rm.slots = ms)
    (hframes : rm.frames + 1 ≤ R.frames) (hlocals : W9 + (maxL + 11) + rm.locals ≤ R.locals)
    (hws : ∀ w ∈ ws, ∀ a' U, s.WarmedH U.vm → w.before a' U = true) (hcode : Cond.code y bytes maxL ret ∈ ws) (hinit : ∀ a' U, s.WarmedH U.vm → (Cond.initialized y.cls).before a' U = true) :
    vx_Back l R p e below s sargs y len W9 (PreOf R mc ms Pc) (PostOf Qc mc ms free) (vx_Post XC mc ms free) := by
  intro m meth c A g ig mk a X hg hsize hdg hW hn hp
  have h1 : (headSpec ws rm).pre.before a A.U = true := atoms_intro fun w hw => hws w hw _ _ X.warmed
  have h2 : (Cond.code y bytes maxL ret).before a A.U = true := hws _ hcode _ _ X.warmed
  have h3 : (Cond.initialized y.cls).before a A.U = true := hinit _ _ X.warmed
  have h4 : A.cells + (headSpec ws rm).room.cells ≤ R.cells := by rw [show (headSpec ws rm).room.cells = mc from hrc]; exact hp.1
  have h5 : A.slots + (headSpec ws rm).room.slots ≤ R.slots := by rw [show (headSpec ws rm).room.slots = ms from hrs]; exact hp.2.1
  have hPc : Pc a (A.U.calling g mk a) := hblind _ _ _ _ hp.2.2
  obtain ⟨U, Ls, c0, s0⟩ := A
  dsimp only [Pt.U, Pt.locs, Pt.cells, Pt.slots] at h1 h2 h3 h4 h5 X hn hPc ⊢
  obtain ⟨methY, cY, hmY, hcY, -, hlY, -, -, -, -⟩ := Cond.code_spec hn h2
  obtain ⟨kY, hkY, -⟩ := className_of_methodNamed hn
  have hinitY : kY.init = .initialized := Cond.initialized_spec (findClass_of_methodNamed hn) hkY h3
  have h : At U g.method c below := by rw [hg]; exact X.here
  have hlocals9 : W9 + (maxL + 11) + (headSpec ws rm).room.locals ≤ R.locals := hlocals
  have happ : (headSpec ws rm).appliesLoose y e.platform (U.calling g mk a) = true :=
    Spec.appliesLoose_calling (g := g) h hdg hn hkY hinitY
      (X.room_calling (g := g) (R' := (headSpec ws rm).room) hsize hmY hcY hframes (by rw [hlY]; omega) h4 h5) h1
  obtain ⟨mid, hmid⟩ := h.above
  have hfr : (U.setTop g).frames = (.java g :: mid) ++ below := by rw [State.frames_setTop' g h.top, hmid]; rfl
  obtain ⟨o, s₂, hsteps, -, hend, hq⟩ := Steps.callFree hM p X.admits X.cas X.clock (acts := []) hfr happ hPc trivial
  have hq' : vx_Q Qc XC mc ms free a (U.calling g mk a) o s₂ := hq
  rw [State.frames_setTop' g h.top] at hend
  obtain ⟨g₀, hg0⟩ := Option.isSome_iff_exists.mp h.top
  obtain ⟨r, hr⟩ := State.topJava?_eq_some.mp hg0
  have hr' : (({ U with heap := s₂.heap, slotsUsed := s₂.slotsUsed } : State).setVm s₂.vm).frames = .java g₀ :: r := hr
  rcases hq' with ⟨hqc, L, hfe, hL⟩ | ⟨q, rfl, E, ce, L, hx, hce, hcv, hcl, hW₂, hsm, hL⟩
  · obtain ⟨⟨v, rfl⟩, hW₂, e2, q2, q3, q4, q5, q6⟩ := id hfe
    have e3 : s₂ = ({ (U.calling g mk a).setFrames s₂.frames with heap := s₂.heap, slotsUsed := s₂.slotsUsed } : State).setVm s₂.vm := by
      have : s₂ = ({ s₂ with vm := (U.calling g mk a).vm } : State).setVm s₂.vm := rfl
      rw [e2] at this
      exact this
    obtain ⟨c₂, i₂, len₂, hc₂, hd₂, hf₂⟩ := hend
    have hW' : U.WarmedH s₂.vm := hW₂
    have hcc : c₂ = c := by
      have h1 : s₂.code? g.method = U.code? g.method := by
        rw [State.code?_eq, State.code?_eq, hW'.alike.method?]
      exact Option.some.inj (hc₂.symm.trans (h1.trans h.code))
    subst hcc
    have hlen : len₂ = len := by rw [hdg] at hd₂; cases hd₂; rfl
    subst hlen
    have hs₂ : s₂ = (({ U with heap := s₂.heap, slotsUsed := s₂.slotsUsed } : State).setVm s₂.vm).setTop { g with pc := g.pc + len₂, stack := v.toList ++ g.stack } := by
      refine e3.trans ?_
      rw [hf₂, State.calling_eq h.top, State.setFrames_setFrames, State.setTop_of_frames _ hr', hr]
      rfl
    have hsame : U.sameButNew ({ U with heap := s₂.heap, slotsUsed := s₂.slotsUsed } : State) L mc ms := by
      refine ⟨?_, q2, q3, q4, q5, q6⟩
      obtain ⟨t, ht, -⟩ := State.frames_cons hr
      show ({ U with heap := s₂.heap, slotsUsed := s₂.slotsUsed } : State) = { U.setFrames U.frames with heap := s₂.heap, slotsUsed := s₂.slotsUsed }
      rw [State.setFrames_self ht]
    subst hg
    refine Or.inl ⟨v, ⟨(({ U with heap := s₂.heap, slotsUsed := s₂.slotsUsed } : State).setVm s₂.vm), Ls ++ L, c0 + mc, s0 + ms⟩,
      ⟨X.admits, X.cas, X.clock, X.frames, X.room, X.hears, X.method, X.code, (X.here.setHeapUsed s₂.heap s₂.slotsUsed).setVm hW'.alike, X.tail, State.WarmedH.trans X.warmed hW', X.limits, X.bytes, X.same.trans (hsame.setVm s.vm)⟩,
      ⟨g, mk, s₂, L, rfl, rfl, hqc, rfl, hL, rfl, rfl⟩, ?_⟩
    show Steps p.tables e below _ ((({ U with heap := s₂.heap, slotsUsed := s₂.slotsUsed } : State).setVm s₂.vm).setTop { g with pc := g.pc + len₂, stack := v.toList ++ g.stack })
    rw [← hs₂]
    exact hsteps
  · obtain ⟨e2, q2, q3, q4, q5, q6⟩ := id hsm
    have e3 : s₂ = ({ (U.calling g mk a).setFrames s₂.frames with heap := s₂.heap, slotsUsed := s₂.slotsUsed } : State).setVm s₂.vm := by
      have : s₂ = ({ s₂ with vm := (U.calling g mk a).vm } : State).setVm s₂.vm := rfl
      rw [e2] at this
      exact this
    have hf₂ : s₂.frames = .throwing q :: .java g :: U.frames.tail := hend
    have hW' : U.WarmedH s₂.vm := hW₂
    have hs₂ : s₂ = ((({ U with heap := s₂.heap, slotsUsed := s₂.slotsUsed } : State).setVm s₂.vm).setTop g).pushFrame (.throwing q) := by
      refine e3.trans ?_
      rw [hf₂, State.calling_eq h.top, State.setFrames_setFrames, State.pushFrame, State.frames_setTop _ hr', State.setTop_of_frames _ hr', State.setFrames_setFrames, hr]
      rfl
    have hsame : U.sameButNew ({ U with heap := s₂.heap, slotsUsed := s₂.slotsUsed } : State) L mc ms := by
      refine ⟨?_, q2, q3, q4, q5, q6⟩
      obtain ⟨t, ht, -⟩ := State.frames_cons hr
      show ({ U with heap := s₂.heap, slotsUsed := s₂.slotsUsed } : State) = { U.setFrames U.frames with heap := s₂.heap, slotsUsed := s₂.slotsUsed }
      rw [State.setFrames_self ht]
    subst hg
    refine Or.inr ⟨q, ⟨(({ U with heap := s₂.heap, slotsUsed := s₂.slotsUsed } : State).setVm s₂.vm), Ls ++ L, c0 + mc, s0 + ms⟩,
      ⟨X.admits, X.cas, X.clock, X.frames, X.room, X.hears, X.method, X.code, (X.here.setHeapUsed s₂.heap s₂.slotsUsed).setVm hW'.alike, X.tail, State.WarmedH.trans X.warmed hW', X.limits, X.bytes, X.same.trans (hsame.setVm s.vm)⟩,
      ⟨g, mk, s₂, L, E, ce, rfl, rfl, hx, hce, hcv, hcl, rfl, hL, rfl, rfl⟩, ?_⟩
    show Steps p.tables e below _ (((({ U with heap := s₂.heap, slotsUsed := s₂.slotsUsed } : State).setVm s₂.vm).setTop g).pushFrame (.throwing q))
    rw [← hs₂]
    exact hsteps
end Payer
section Calls
variable {p : Program} {l : Launch} {e : Env} {R : Room} {s : State} {m : MethodId} {args : Array Value} {below : List Frame} {meth : Method} {c : Code} {T : State} {locs : List Loc} {cells slots : Nat}
theorem vx_callV (X : Stand p l e R s m args below meth c T locs cells slots) (hexec : p.tables.exec = Jvm.exec) {own C : String} {index : Nat} {y : MethodName} {bytes : ByteArray} {maxL : Nat} {ret : Option FieldType}
    (hown : s.vm.findClass own = some m.cls) (hlink : (Cond.methodLink own index y).before args s = true) (hinst : (Cond.instanceMethod y).before args s = true) (hsel : (Cond.selects C y y).before args s = true)
    (hcode : (Cond.code y bytes maxL ret).before args s = true) (hy : y.cls ≠ "java/lang/invoke/MethodHandle" ∧ y.cls ≠ "java/lang/invoke/VarHandle")
    {W9 : Nat} {Pre : Pt → Array Value → Prop} {Post : Pt → Array Value → Option Value → Pt → Prop} {PostX : Pt → Array Value → Addr → Pt → Prop} (hK : vx_Back l R p e below s args y 3 W9 Pre Post PostX)
    {b : Addr} {cellB : Cell} (hcell : T.heap[b]? = some cellB) (hobj : cellB.vm.isStatics = false) (hcls : s.vm.findClass C = some cellB.cls)
    {g : JFrame} (hg : g.method = m) (hsize : g.locals.size = c.maxLocals) {argsL rest : List Value} (hlen : ∀ sig, parseMethodDescriptor y.desc = some sig → argsL.length = sig.parameters.length)
    (hstack : g.stack = argsL.reverse ++ .ref b :: rest) (hW : 2 * g.monitorRoom + (rest.map fun v => v.category).sum ≤ W9) (hdg : decode c.code g.pc = .ok (.invokevirtual index, 3))
    (hpre : ∀ vm₁, s.WarmedH vm₁ → Pre ⟨T.setVm vm₁, locs, cells, slots⟩ (Value.ref b :: argsL).toArray) :
    (∃ (v : Option Value) (vm₁ : Vm) (B : Pt), s.WarmedH vm₁ ∧ Stand p l e R s m args below meth c B.U B.locs B.cells B.slots ∧ Post ⟨T.setVm vm₁, locs, cells, slots⟩ (Value.ref b :: argsL).toArray v B ∧
      ∀ target, Steps p.tables e below (B.U.setTop { g with pc := g.pc + 3, stack := v.toList ++ rest }) target → Steps p.tables e below (T.setTop g) target) ∨
    (∃ (q : Addr) (vm₁ : Vm) (B : Pt), s.WarmedH vm₁ ∧ Stand p l e R s m args below meth c B.U B.locs B.cells B.slots ∧ PostX ⟨T.setVm vm₁, locs, cells, slots⟩ (Value.ref b :: argsL).toArray q B ∧
      Steps p.tables e below (T.setTop g) ((B.U.setTop { g with stack := rest }).pushFrame (.throwing q))) := by
  obtain ⟨mk, methM, hnamed, hmethM, hstM, habM⟩ := Cond.instanceMethod_spec hinst
  obtain ⟨methM', cM, hmethM', -, -, -, -, -, -, hsigM⟩ := Cond.code_spec hnamed hcode
  cases hmethM.symm.trans hmethM'
  obtain ⟨c2, r2, m2, q1, q2, q3, q4, kP, hkP, hkPi⟩ := Cond.selects_spec hsel
  cases hcls.symm.trans q1
  cases (State.methodFound?_of_named hnamed hy).symm.trans q2
  cases hnamed.symm.trans q3
  have hselP : selectMethod e.platform s.vm cellB.cls mk = .method mk := by rw [Launch.admits_selectMethod X.admits]; exact q4
  obtain ⟨vm₁, X₁, hstep₁⟩ := X.invokevirtual hexec hown hlink hnamed hmethM hstM hkP hkPi hy (a := b) (cell := cellB) hcell
    (fun z h => by rw [h] at hobj; cases hobj) hselP hmethM habM hkP hkPi (g := g) hg (argsL := argsL) (rest := rest) (hlen _ hsigM) hstack hdg
  rcases hK m meth c ⟨T.setVm vm₁, locs, cells, slots⟩ { g with stack := rest } (.invokevirtual index) mk (Value.ref b :: argsL).toArray X₁ hg hsize hdg hW (X₁.named hnamed) (hpre vm₁ X₁.warmed) with ⟨v, B, X', hpost, hsteps⟩ | ⟨q, B, X', hpost, hsteps⟩
  · exact Or.inl ⟨v, vm₁, B, X₁.warmed, X', hpost, fun target h => hstep₁ _ fun acts => by rw [doInvoke_state]; exact hsteps.trans h⟩
  · exact Or.inr ⟨q, vm₁, B, X₁.warmed, X', hpost, hstep₁ _ fun acts => by rw [doInvoke_state]; exact hsteps⟩
theorem vx_callS (X : Stand p l e R s m args below meth c T locs cells slots) (hexec : p.tables.exec = Jvm.exec) {own : String} {index : Nat} {y : MethodName} {bytes : ByteArray} {maxL : Nat} {ret : Option FieldType}
    (hown : s.vm.findClass own = some m.cls) (hlink : (Cond.methodLink own index y).before args s = true) (hstat : (Cond.static y).before args s = true) (hinit : (Cond.initialized y.cls).before args s = true)
    (hcode : (Cond.code y bytes maxL ret).before args s = true) (hy : y.cls ≠ "java/lang/invoke/MethodHandle" ∧ y.cls ≠ "java/lang/invoke/VarHandle")
    {W9 : Nat} {Pre : Pt → Array Value → Prop} {Post : Pt → Array Value → Option Value → Pt → Prop} {PostX : Pt → Array Value → Addr → Pt → Prop} (hK : vx_Back l R p e below s args y 3 W9 Pre Post PostX)
    {g : JFrame} (hg : g.method = m) (hsize : g.locals.size = c.maxLocals) {argsL rest : List Value} (hlen : ∀ sig, parseMethodDescriptor y.desc = some sig → argsL.length = sig.parameters.length)
    (hstack : g.stack = argsL.reverse ++ rest) (hW : 2 * g.monitorRoom + (rest.map fun v => v.category).sum ≤ W9) (hdg : decode c.code g.pc = .ok (.invokestatic index, 3))
    (hpre : ∀ vm₁, s.WarmedH vm₁ → Pre ⟨T.setVm vm₁, locs, cells, slots⟩ argsL.toArray) :
    (∃ (v : Option Value) (vm₁ : Vm) (B : Pt), s.WarmedH vm₁ ∧ Stand p l e R s m args below meth c B.U B.locs B.cells B.slots ∧ Post ⟨T.setVm vm₁, locs, cells, slots⟩ argsL.toArray v B ∧
      ∀ target, Steps p.tables e below (B.U.setTop { g with pc := g.pc + 3, stack := v.toList ++ rest }) target → Steps p.tables e below (T.setTop g) target) ∨
    (∃ (q : Addr) (vm₁ : Vm) (B : Pt), s.WarmedH vm₁ ∧ Stand p l e R s m args below meth c B.U B.locs B.cells B.slots ∧ PostX ⟨T.setVm vm₁, locs, cells, slots⟩ argsL.toArray q B ∧
      Steps p.tables e below (T.setTop g) ((B.U.setTop { g with stack := rest }).pushFrame (.throwing q))) := by
  obtain ⟨mk, hnamed⟩ := Cond.code_named hcode
  obtain ⟨methM, cM, hmethM, -, -, -, -, -, -, hsigM⟩ := Cond.code_spec hnamed hcode
  have hstatic : methM.isStatic = true := Cond.static_spec hnamed hmethM hstat
  obtain ⟨kP, hkP, -⟩ := className_of_methodNamed hnamed
  have hinitP : kP.init = .initialized := Cond.initialized_spec (findClass_of_methodNamed hnamed) hkP hinit
  obtain ⟨vm₁, X₁, hstep₁⟩ := X.invokestatic hexec hown hlink hnamed hmethM hstatic hkP hinitP hy (g := g) hg (argsL := argsL) (rest := rest) (hlen _ hsigM) hstack hdg
  rcases hK m meth c ⟨T.setVm vm₁, locs, cells, slots⟩ { g with stack := rest } (.invokestatic index) mk argsL.toArray X₁ hg hsize hdg hW (X₁.named hnamed) (hpre vm₁ X₁.warmed) with ⟨v, B, X', hpost, hsteps⟩ | ⟨q, B, X', hpost, hsteps⟩
  · exact Or.inl ⟨v, vm₁, B, X₁.warmed, X', hpost, fun target h => hstep₁ _ fun acts => by rw [doInvoke_state]; exact hsteps.trans h⟩
  · exact Or.inr ⟨q, vm₁, B, X₁.warmed, X', hpost, hstep₁ _ fun acts => by rw [doInvoke_state]; exact hsteps⟩
end Calls
theorem vx_cls {s : State} {T : State} {vm₁ : Vm} {E : String} {k : ClassId} (hW : s.WarmedH vm₁) (h : (T.setVm vm₁).vm.findClass E = some k) : s.vm.findClass E = some k := by
  have h1 : vm₁.findClass E = some k := h
  rw [hW.alike.findClass] at h1
  exact h1
/-- the method's frame g, with q thrown over it -/
def vx_W (p : Program) (l : Launch) (e : Env) (R : Room) (s : State) (m : MethodId) (args : Array Value) (below : List Frame) (meth : Method) (c : Code) (H : Heap) (locs : List Loc) (cells slots : Nat) (Q : State → Prop) (g : JFrame) (q : Addr) : Prop :=
  ∀ T : State, T.heap = H → Stand p l e R s m args below meth c T locs cells slots → ∃ t, Steps p.tables e below ((T.setTop g).pushFrame (.throwing q)) t ∧ Q t
def vx_Run (p : Program) (l : Launch) (e : Env) (R : Room) (s : State) (m : MethodId) (args : Array Value) (below : List Frame) (meth : Method) (c : Code) (H : Heap) (locs : List Loc) (cells slots mc ms : Nat) (g : JFrame) (rest : List Value) (Qa : State → Outcome → State → Prop) (XC : String → State → State → Prop) (free : Addr → Prop) : Prop :=
  ∀ T : State, T.heap = H → Stand p l e R s m args below meth c T locs cells slots →
    (∃ (v : Option Value) (st₀ t T' : State) (L : List Loc), st₀.heap = H ∧ Stand p l e R s m args below meth c T' (locs ++ L) (cells + mc) (slots + ms) ∧ (∀ q ∈ L, free q.base) ∧ T'.heap = t.heap ∧ T'.vm = t.vm ∧ Qa st₀ (.returned v) t ∧
      Goes p e below T g T' { g with pc := g.pc + 3, stack := v.toList ++ rest }) ∨
    (∃ (q : Addr) (st₀ t T' : State) (L : List Loc) (E : String) (ce : Cell), st₀.heap = H ∧ Stand p l e R s m args below meth c T' (locs ++ L) (cells + mc) (slots + ms) ∧ (∀ z ∈ L, free z.base) ∧ T'.heap = t.heap ∧ T'.vm = t.vm ∧ XC E st₀ t ∧ t.heap[q]? = some ce ∧ ce.vm = .none ∧ s.vm.findClass E = some ce.cls ∧
      Steps p.tables e below (T.setTop g) ((T'.setTop { g with stack := rest }).pushFrame (.throwing q)))
def vx_X {S : Type} (px : S → Prop) (B : String → S → State → Prop) (A : Nat → Prop) : String → State → State → Prop := fun E st t => ∃ u : S, px u ∧ B E u t ∧ va_F A st t
section Runs
variable {p : Program} {l : Launch} {e : Env} {R : Room} {s : State} {m : MethodId} {args : Array Value} {below : List Frame} {meth : Method} {c : Code} {H : Heap} {locs : List Loc} {cells slots : Nat}
variable {y : MethodName} {bytes cc : ByteArray} {maxL nL mc ms n index : Nat} {ret : Option FieldType} {ws : List Cond} {rm : Room} {Pc : Array Value → State → Prop} {Qc : Array Value → State → Outcome → State → Prop} {XC : String → State → State → Prop} {free : Addr → Prop} {Ts : List Cond} {own C : String} {b : Addr} {As rest : List Value} {g : JFrame}
theorem vx_callBack (cb : CallB R s args own index y bytes maxL ret ws rm mc ms n) (hM : vx_Met l y ws rm Pc Qc XC mc ms free) (hbl : FrameBlind Pc) : vx_Back l R p e below s args y 3 8 (PreOf R mc ms Pc) (PostOf Qc mc ms free) (vx_Post XC mc ms free) := by
  obtain ⟨hrc, hrs, hfr, hlo, hws, hcw, -, hini, -⟩ := cb
  exact vx_back (bytes := bytes) (maxL := maxL) (ret := ret) hM hbl hrc hrs hfr hlo hws hcw (fun a' U hW => word_at hW (Or.inl (by first | rfl | simp [Cond.onTables, Cond.keeps, Cond.steady])) hini)
theorem vx_runV (S : CallFix p m c cc nL s args Ts own) (hM : vx_Met l y ws rm Pc Qc XC mc ms free) (cw : CallW R s args own C index y bytes maxL ret ws rm mc ms n) (hp : PreV s H C b Pc As)
    (hg : g.method = m) (hn : As.length = n) (hsize : g.locals.size = nL) (hstack : g.stack = As.reverse ++ .ref b :: rest) (hW : 2 * g.monitorRoom + (rest.map fun v => v.category).sum ≤ 8) (hdg : decode cc g.pc = .ok (.invokevirtual index, 3)) (hf : cells + mc ≤ R.cells ∧ slots + ms ≤ R.slots) :
    vx_Run p l e R s m args below meth c H locs cells slots mc ms g rest (Qc (Value.ref b :: As).toArray) XC free := by
  have hK : vx_Back l R p e below s args y 3 8 (PreOf R mc ms Pc) (PostOf Qc mc ms free) (vx_Post XC mc ms free) := vx_callBack cw.1 hM hp.1
  obtain ⟨⟨-, -, -, -, -, -, hcode, -, hy, hlen, hl⟩, hin, hse⟩ := cw
  obtain ⟨hx, hb, hml, ho, -⟩ := S
  obtain ⟨-, ⟨cellB, hcB, hoB, hclB⟩, hPc⟩ := hp
  intro T hT X
  rcases vx_callV X hx (C := C) (bytes := bytes) (maxL := maxL) (ret := ret) ho hl hin hse hcode hy hK (by rw [hT]; exact hcB) hoB hclB hg (hsize.trans hml.symm) (argsL := As) (rest := rest) (fun sig h => hn.trans (hlen sig h)) hstack hW (by rw [hb]; exact hdg)
    (fun vm₁ hW₁ => ⟨hf.1, hf.2, hPc (T.setVm vm₁) hT hW₁⟩) with ⟨v, vm₁, ⟨U', l2, c2, s2⟩, hW₁, X', ⟨g', mk, t, L, e1, e2, hq, h1, hL, h2, h3⟩, st⟩ | ⟨q, vm₁, ⟨U', l2, c2, s2⟩, hW₁, X', ⟨g', mk, t, L, E, ce, e1, e2, hq, hce, hcv, hcl, h1, hL, h2, h3⟩, st⟩
  · dsimp only [Pt.U, Pt.locs, Pt.cells, Pt.slots] at X' e1 e2 h1 h2 h3 st
    subst h1; subst h2; subst h3
    exact Or.inl ⟨v, (T.setVm vm₁).calling g' mk (Value.ref b :: As).toArray, t, U', L, hT, X', hL, e1, e2, hq, st⟩
  · dsimp only [Pt.U, Pt.locs, Pt.cells, Pt.slots] at X' e1 e2 h1 h2 h3 st hcl
    subst h1; subst h2; subst h3
    exact Or.inr ⟨q, (T.setVm vm₁).calling g' mk (Value.ref b :: As).toArray, t, U', L, E, ce, hT, X', hL, e1, e2, hq, hce, hcv, vx_cls hW₁ hcl, st⟩
theorem vx_runS (S : CallFix p m c cc nL s args Ts own) (hM : vx_Met l y ws rm Pc Qc XC mc ms free) (cw : CallB R s args own index y bytes maxL ret ws rm mc ms n ∧ (Cond.static y).before args s = true) (hp : PreS s H Pc As)
    (hg : g.method = m) (hn : As.length = n) (hsize : g.locals.size = nL) (hstack : g.stack = As.reverse ++ rest) (hW : 2 * g.monitorRoom + (rest.map fun v => v.category).sum ≤ 8) (hdg : decode cc g.pc = .ok (.invokestatic index, 3)) (hf : cells + mc ≤ R.cells ∧ slots + ms ≤ R.slots) :
    vx_Run p l e R s m args below meth c H locs cells slots mc ms g rest (Qc As.toArray) XC free := by
  have hK : vx_Back l R p e below s args y 3 8 (PreOf R mc ms Pc) (PostOf Qc mc ms free) (vx_Post XC mc ms free) := vx_callBack cw.1 hM hp.1
  obtain ⟨⟨-, -, -, -, -, -, hcode, hini, hy, hlen, hl⟩, hstt⟩ := cw
  obtain ⟨hx, hb, hml, ho, -⟩ := S
  intro T hT X
  rcases vx_callS X hx (bytes := bytes) (maxL := maxL) (ret := ret) ho hl hstt hini hcode hy hK hg (hsize.trans hml.symm) (argsL := As) (rest := rest) (fun sig h => hn.trans (hlen sig h)) hstack hW (by rw [hb]; exact hdg)
    (fun vm₁ hW₁ => ⟨hf.1, hf.2, hp.2 (T.setVm vm₁) hT hW₁⟩) with ⟨v, vm₁, ⟨U', l2, c2, s2⟩, hW₁, X', ⟨g', mk, t, L, e1, e2, hq, h1, hL, h2, h3⟩, st⟩ | ⟨q, vm₁, ⟨U', l2, c2, s2⟩, hW₁, X', ⟨g', mk, t, L, E, ce, e1, e2, hq, hce, hcv, hcl, h1, hL, h2, h3⟩, st⟩
  · dsimp only [Pt.U, Pt.locs, Pt.cells, Pt.slots] at X' e1 e2 h1 h2 h3 st
    subst h1; subst h2; subst h3
    exact Or.inl ⟨v, (T.setVm vm₁).calling g' mk As.toArray, t, U', L, hT, X', hL, e1, e2, hq, st⟩
  · dsimp only [Pt.U, Pt.locs, Pt.cells, Pt.slots] at X' e1 e2 h1 h2 h3 st hcl
    subst h1; subst h2; subst h3
    exact Or.inr ⟨q, (T.setVm vm₁).calling g' mk As.toArray, t, U', L, E, ce, hT, X', hL, e1, e2, hq, hce, hcv, vx_cls hW₁ hcl, st⟩
end Runs
section Rows
variable {p : Program} {l : Launch} {e : Env} {R : Room} {s : State} {m : MethodId} {args : Array Value} {below : List Frame} {meth : Method} {c : Code} {H : Heap} {locs : List Loc} {cells slots : Nat} {Q : State → Prop}
variable {mc ms : Nat} {free : Addr → Prop} {A0 A1 : Nat → Prop} {H0 : Heap} {a : Array Value} {pc : Nat} {ls : Array Slot} {st0 rest : List Value}
theorem vx_keep {st₀ t T' : State} {L : List Loc} (h0 : st₀.heap = H) (e1 : T'.heap = t.heap) (hS : va_S A0 H0 H locs) (hA : ∀ q, q < H.size → A1 q → A0 q) (hf : ∀ q, free q → A0 q) (hL : ∀ q ∈ L, free q.base) (hF : va_F A1 st₀ t) :
    H.size ≤ T'.heap.size ∧ (∀ q : Nat, q < H.size → ¬ A1 q → T'.heap[q]? = H[q]?) ∧ va_S A0 H0 T'.heap (locs ++ L) := by
  obtain ⟨hz, hk⟩ := hF
  rw [h0] at hz hk
  exact ⟨by rw [e1]; exact hz, fun q h1 h2 => by rw [e1]; exact hk q h1 h2,
    ⟨Nat.le_trans hS.1 (by rw [e1]; exact hz), fun q h1 h2 => by rw [e1, hk q (Nat.lt_of_lt_of_le h1 hS.1) (fun z => h2 (hA q (Nat.lt_of_lt_of_le h1 hS.1) z))]; exact hS.2.1 q h1 h2, fun q hq => by
      rcases List.mem_append.mp hq with h | h
      · exact hS.2.2 q h
      · exact hf _ (hL q h)⟩⟩
theorem vx_calli {S SX : Type} {post : Int32 → S → Prop} {px : SX → Prop} {B : S → State → Prop} {BX : String → SX → State → Prop} {AX : Nat → Prop} (hr : vx_Run p l e R s m args below meth c H locs cells slots mc ms (F0 m pc ls st0) rest (va_Qi post B A1 a) (vx_X px BX AX) free) (hS : va_S A0 H0 H locs) (hA : ∀ q, q < H.size → A1 q → A0 q) (hf : ∀ q, free q → A0 q) (hAX : ∀ q, q < H.size → AX q → A0 q)
    (kx : ∀ (E : String) (ce : Cell) (q9 : Addr) (u : SX) (t : State) (H1 : Heap) (locs1 : List Loc), t.heap = H1 → s.vm.Alike t.vm → px u → BX E u t → H.size ≤ H1.size → (∀ q : Nat, q < H.size → ¬ AX q → H1[q]? = H[q]?) → va_S A0 H0 H1 locs1 → H1[q9]? = some ce → ce.vm = .none → s.vm.findClass E = some ce.cls → vx_W p l e R s m args below meth c H1 locs1 (cells + mc) (slots + ms) Q (F0 m pc ls rest) q9)
    (kk : ∀ (r : Int32) (u : S) (t : State) (H1 : Heap) (locs1 : List Loc), t.heap = H1 → s.vm.Alike t.vm → post r u → B u t → H.size ≤ H1.size → (∀ q : Nat, q < H.size → ¬ A1 q → H1[q]? = H[q]?) → va_S A0 H0 H1 locs1 → W p l e R s m args below meth c H1 locs1 (cells + mc) (slots + ms) Q (F0 m (pc + 3) ls (.int r :: rest))) : W p l e R s m args below meth c H locs cells slots Q (F0 m pc ls st0) := by
  intro T hT X
  rcases hr T hT X with ⟨v, st₀, t, T', L, h0, X', hL, e1, e2, ⟨⟨r, u, hv, hp, hb⟩, hF⟩, st⟩ | ⟨q, st₀, t, T', L, E, ce, h0, X', hL, e1, e2, ⟨u, hp, hb, hF⟩, hce, hcv, hcl, st⟩
  · cases hv
    obtain ⟨k1, k2, k3⟩ := vx_keep h0 e1 hS hA hf hL hF
    obtain ⟨t2, a1, b1⟩ := kk r u t T'.heap (locs ++ L) e1.symm (by rw [← e2]; exact X'.warmed.alike) hp hb k1 k2 k3 T' rfl X'
    exact ⟨t2, st t2 a1, b1⟩
  · obtain ⟨k1, k2, k3⟩ := vx_keep h0 e1 hS hAX hf hL hF
    obtain ⟨t2, a1, b1⟩ := kx E ce q u t T'.heap (locs ++ L) e1.symm (by rw [← e2]; exact X'.warmed.alike) hp hb k1 k2 k3 (by rw [e1]; exact hce) hcv hcl T' rfl X'
    exact ⟨t2, st.trans a1, b1⟩
theorem vx_calll {S SX : Type} {post : Int64 → S → Prop} {px : SX → Prop} {B : S → State → Prop} {BX : String → SX → State → Prop} {AX : Nat → Prop} (hr : vx_Run p l e R s m args below meth c H locs cells slots mc ms (F0 m pc ls st0) rest (va_Ql post B A1 a) (vx_X px BX AX) free) (hS : va_S A0 H0 H locs) (hA : ∀ q, q < H.size → A1 q → A0 q) (hf : ∀ q, free q → A0 q) (hAX : ∀ q, q < H.size → AX q → A0 q)
    (kx : ∀ (E : String) (ce : Cell) (q9 : Addr) (u : SX) (t : State) (H1 : Heap) (locs1 : List Loc), t.heap = H1 → s.vm.Alike t.vm → px u → BX E u t → H.size ≤ H1.size → (∀ q : Nat, q < H.size → ¬ AX q → H1[q]? = H[q]?) → va_S A0 H0 H1 locs1 → H1[q9]? = some ce → ce.vm = .none → s.vm.findClass E = some ce.cls → vx_W p l e R s m args below meth c H1 locs1 (cells + mc) (slots + ms) Q (F0 m pc ls rest) q9)
    (kk : ∀ (r : Int64) (u : S) (t : State) (H1 : Heap) (locs1 : List Loc), t.heap = H1 → s.vm.Alike t.vm → post r u → B u t → H.size ≤ H1.size → (∀ q : Nat, q < H.size → ¬ A1 q → H1[q]? = H[q]?) → va_S A0 H0 H1 locs1 → W p l e R s m args below meth c H1 locs1 (cells + mc) (slots + ms) Q (F0 m (pc + 3) ls (.long r :: rest))) : W p l e R s m args below meth c H locs cells slots Q (F0 m pc ls st0) := by
  intro T hT X
  rcases hr T hT X with ⟨v, st₀, t, T', L, h0, X', hL, e1, e2, ⟨⟨r, u, hv, hp, hb⟩, hF⟩, st⟩ | ⟨q, st₀, t, T', L, E, ce, h0, X', hL, e1, e2, ⟨u, hp, hb, hF⟩, hce, hcv, hcl, st⟩
  · cases hv
    obtain ⟨k1, k2, k3⟩ := vx_keep h0 e1 hS hA hf hL hF
    obtain ⟨t2, a1, b1⟩ := kk r u t T'.heap (locs ++ L) e1.symm (by rw [← e2]; exact X'.warmed.alike) hp hb k1 k2 k3 T' rfl X'
    exact ⟨t2, st t2 a1, b1⟩
  · obtain ⟨k1, k2, k3⟩ := vx_keep h0 e1 hS hAX hf hL hF
    obtain ⟨t2, a1, b1⟩ := kx E ce q u t T'.heap (locs ++ L) e1.symm (by rw [← e2]; exact X'.warmed.alike) hp hb k1 k2 k3 (by rw [e1]; exact hce) hcv hcl T' rfl X'
    exact ⟨t2, st.trans a1, b1⟩
theorem vx_callf {S SX : Type} {post : UInt32 → S → Prop} {px : SX → Prop} {B : S → State → Prop} {BX : String → SX → State → Prop} {AX : Nat → Prop} (hr : vx_Run p l e R s m args below meth c H locs cells slots mc ms (F0 m pc ls st0) rest (va_Qf post B A1 a) (vx_X px BX AX) free) (hS : va_S A0 H0 H locs) (hA : ∀ q, q < H.size → A1 q → A0 q) (hf : ∀ q, free q → A0 q) (hAX : ∀ q, q < H.size → AX q → A0 q)
    (kx : ∀ (E : String) (ce : Cell) (q9 : Addr) (u : SX) (t : State) (H1 : Heap) (locs1 : List Loc), t.heap = H1 → s.vm.Alike t.vm → px u → BX E u t → H.size ≤ H1.size → (∀ q : Nat, q < H.size → ¬ AX q → H1[q]? = H[q]?) → va_S A0 H0 H1 locs1 → H1[q9]? = some ce → ce.vm = .none → s.vm.findClass E = some ce.cls → vx_W p l e R s m args below meth c H1 locs1 (cells + mc) (slots + ms) Q (F0 m pc ls rest) q9)
    (kk : ∀ (r : UInt32) (u : S) (t : State) (H1 : Heap) (locs1 : List Loc), t.heap = H1 → s.vm.Alike t.vm → post r u → B u t → H.size ≤ H1.size → (∀ q : Nat, q < H.size → ¬ A1 q → H1[q]? = H[q]?) → va_S A0 H0 H1 locs1 → W p l e R s m args below meth c H1 locs1 (cells + mc) (slots + ms) Q (F0 m (pc + 3) ls (.float r :: rest))) : W p l e R s m args below meth c H locs cells slots Q (F0 m pc ls st0) := by
  intro T hT X
  rcases hr T hT X with ⟨v, st₀, t, T', L, h0, X', hL, e1, e2, ⟨⟨r, u, hv, hp, hb⟩, hF⟩, st⟩ | ⟨q, st₀, t, T', L, E, ce, h0, X', hL, e1, e2, ⟨u, hp, hb, hF⟩, hce, hcv, hcl, st⟩
  · cases hv
    obtain ⟨k1, k2, k3⟩ := vx_keep h0 e1 hS hA hf hL hF
    obtain ⟨t2, a1, b1⟩ := kk r u t T'.heap (locs ++ L) e1.symm (by rw [← e2]; exact X'.warmed.alike) hp hb k1 k2 k3 T' rfl X'
    exact ⟨t2, st t2 a1, b1⟩
  · obtain ⟨k1, k2, k3⟩ := vx_keep h0 e1 hS hAX hf hL hF
    obtain ⟨t2, a1, b1⟩ := kx E ce q u t T'.heap (locs ++ L) e1.symm (by rw [← e2]; exact X'.warmed.alike) hp hb k1 k2 k3 (by rw [e1]; exact hce) hcv hcl T' rfl X'
    exact ⟨t2, st.trans a1, b1⟩
theorem vx_calld {S SX : Type} {post : UInt64 → S → Prop} {px : SX → Prop} {B : S → State → Prop} {BX : String → SX → State → Prop} {AX : Nat → Prop} (hr : vx_Run p l e R s m args below meth c H locs cells slots mc ms (F0 m pc ls st0) rest (va_Qd post B A1 a) (vx_X px BX AX) free) (hS : va_S A0 H0 H locs) (hA : ∀ q, q < H.size → A1 q → A0 q) (hf : ∀ q, free q → A0 q) (hAX : ∀ q, q < H.size → AX q → A0 q)
    (kx : ∀ (E : String) (ce : Cell) (q9 : Addr) (u : SX) (t : State) (H1 : Heap) (locs1 : List Loc), t.heap = H1 → s.vm.Alike t.vm → px u → BX E u t → H.size ≤ H1.size → (∀ q : Nat, q < H.size → ¬ AX q → H1[q]? = H[q]?) → va_S A0 H0 H1 locs1 → H1[q9]? = some ce → ce.vm = .none → s.vm.findClass E = some ce.cls → vx_W p l e R s m args below meth c H1 locs1 (cells + mc) (slots + ms) Q (F0 m pc ls rest) q9)
    (kk : ∀ (r : UInt64) (u : S) (t : State) (H1 : Heap) (locs1 : List Loc), t.heap = H1 → s.vm.Alike t.vm → post r u → B u t → H.size ≤ H1.size → (∀ q : Nat, q < H.size → ¬ A1 q → H1[q]? = H[q]?) → va_S A0 H0 H1 locs1 → W p l e R s m args below meth c H1 locs1 (cells + mc) (slots + ms) Q (F0 m (pc + 3) ls (.double r :: rest))) : W p l e R s m args below meth c H locs cells slots Q (F0 m pc ls st0) := by
  intro T hT X
  rcases hr T hT X with ⟨v, st₀, t, T', L, h0, X', hL, e1, e2, ⟨⟨r, u, hv, hp, hb⟩, hF⟩, st⟩ | ⟨q, st₀, t, T', L, E, ce, h0, X', hL, e1, e2, ⟨u, hp, hb, hF⟩, hce, hcv, hcl, st⟩
  · cases hv
    obtain ⟨k1, k2, k3⟩ := vx_keep h0 e1 hS hA hf hL hF
    obtain ⟨t2, a1, b1⟩ := kk r u t T'.heap (locs ++ L) e1.symm (by rw [← e2]; exact X'.warmed.alike) hp hb k1 k2 k3 T' rfl X'
    exact ⟨t2, st t2 a1, b1⟩
  · obtain ⟨k1, k2, k3⟩ := vx_keep h0 e1 hS hAX hf hL hF
    obtain ⟨t2, a1, b1⟩ := kx E ce q u t T'.heap (locs ++ L) e1.symm (by rw [← e2]; exact X'.warmed.alike) hp hb k1 k2 k3 (by rw [e1]; exact hce) hcv hcl T' rfl X'
    exact ⟨t2, st.trans a1, b1⟩
theorem vx_callv {S SX : Type} {post : S → Prop} {px : SX → Prop} {B : S → State → Prop} {BX : String → SX → State → Prop} {AX : Nat → Prop} (hr : vx_Run p l e R s m args below meth c H locs cells slots mc ms (F0 m pc ls st0) rest (va_Qv post B A1 a) (vx_X px BX AX) free) (hS : va_S A0 H0 H locs) (hA : ∀ q, q < H.size → A1 q → A0 q) (hf : ∀ q, free q → A0 q) (hAX : ∀ q, q < H.size → AX q → A0 q)
    (kx : ∀ (E : String) (ce : Cell) (q9 : Addr) (u : SX) (t : State) (H1 : Heap) (locs1 : List Loc), t.heap = H1 → s.vm.Alike t.vm → px u → BX E u t → H.size ≤ H1.size → (∀ q : Nat, q < H.size → ¬ AX q → H1[q]? = H[q]?) → va_S A0 H0 H1 locs1 → H1[q9]? = some ce → ce.vm = .none → s.vm.findClass E = some ce.cls → vx_W p l e R s m args below meth c H1 locs1 (cells + mc) (slots + ms) Q (F0 m pc ls rest) q9)
    (kk : ∀ (u : S) (t : State) (H1 : Heap) (locs1 : List Loc), t.heap = H1 → s.vm.Alike t.vm → post u → B u t → H.size ≤ H1.size → (∀ q : Nat, q < H.size → ¬ A1 q → H1[q]? = H[q]?) → va_S A0 H0 H1 locs1 → W p l e R s m args below meth c H1 locs1 (cells + mc) (slots + ms) Q (F0 m (pc + 3) ls (rest))) : W p l e R s m args below meth c H locs cells slots Q (F0 m pc ls st0) := by
  intro T hT X
  rcases hr T hT X with ⟨v, st₀, t, T', L, h0, X', hL, e1, e2, ⟨⟨u, hv, hp, hb⟩, hF⟩, st⟩ | ⟨q, st₀, t, T', L, E, ce, h0, X', hL, e1, e2, ⟨u, hp, hb, hF⟩, hce, hcv, hcl, st⟩
  · cases hv
    obtain ⟨k1, k2, k3⟩ := vx_keep h0 e1 hS hA hf hL hF
    obtain ⟨t2, a1, b1⟩ := kk u t T'.heap (locs ++ L) e1.symm (by rw [← e2]; exact X'.warmed.alike) hp hb k1 k2 k3 T' rfl X'
    exact ⟨t2, st t2 a1, b1⟩
  · obtain ⟨k1, k2, k3⟩ := vx_keep h0 e1 hS hAX hf hL hF
    obtain ⟨t2, a1, b1⟩ := kx E ce q u t T'.heap (locs ++ L) e1.symm (by rw [← e2]; exact X'.warmed.alike) hp hb k1 k2 k3 (by rw [e1]; exact hce) hcv hcl T' rfl X'
    exact ⟨t2, st.trans a1, b1⟩
/-- caught by the row x of this method's table; the rows ahead don't take it -/
theorem vx_catch {own name : String} {E : String} {ce : Cell} {q : Addr} (hown : s.vm.findClass own = some m.cls) (pre : List ExceptionTableEntry) (x : ExceptionTableEntry) (suf : List ExceptionTableEntry) (hsplit : c.exceptionTable.toList = pre ++ x :: suf)
    (hpass : ∀ z ∈ pre, covers z pc = false ∨ (z.catchType ≠ 0 ∧ ∃ nm : String, (Cond.classLink own z.catchType nm).before args s = true ∧ va_Nc E nm s)) (hx : covers x pc = true) (h0 : x.catchType ≠ 0)
    (hlink : (Cond.classLink own x.catchType name).before args s = true) (hcast : (Cond.castable E name).before args s = true) (hcell : H[q]? = some ce) (hv : ce.vm = .none) (hcl : s.vm.findClass E = some ce.cls)
    (kk : W p l e R s m args below meth c H locs cells slots Q (F0 m x.handlerPc ls [.ref q])) : vx_W p l e R s m args below meth c H locs cells slots Q (F0 m pc ls rest) q := by
  intro T hT X
  have hpl : e.platform.magicAccessors = ({} : Platform).magicAccessors := by rw [X.admits.platform]
  obtain ⟨c3, c4, hc3, hc4, hasg⟩ := Cond.castable_spec hcast
  cases Option.some.inj (hc3.symm.trans hcl)
  obtain ⟨c5, hc5, hcl5⟩ := Cond.classLink_spec hown hlink e.platform hpl
  cases Option.some.inj (hc4.symm.trans hc5)
  obtain ⟨vm', X', st⟩ := X.thenCaughtThrough q (g := F0 m pc ls rest) rfl (Steps.refl _) (by rw [hT]; exact hcell) (by rw [hv]; rfl) (by obtain ⟨k9, h9, -⟩ := Vm.findClass_spec hcl; exact ⟨k9, h9⟩) pre x suf hsplit
    (fun z hz => by
      rcases hpass z hz with h | ⟨hz0, nm, hl1, hn1⟩
      · exact Or.inl h
      · obtain ⟨c6, hc6, hcl6⟩ := Cond.classLink_spec hown hl1 e.platform hpl
        obtain ⟨a8, b8, h1, h2, h3⟩ := hn1
        cases Option.some.inj (h1.symm.trans hcl)
        cases Option.some.inj (h2.symm.trans hc6)
        exact Or.inr ⟨hz0, _, hcl6, h3⟩) hx (Or.inr ⟨h0, c4, hcl5, hasg⟩)
  obtain ⟨t, a1, b1⟩ := kk (T.setVm vm') hT X'
  exact ⟨t, st.trans a1, b1⟩
end Rows
section Ends
variable {p : Program} {l : Launch} {e : Env} {R : Room} {s : State} {m : MethodId} {args : Array Value} {below : List Frame} {meth : Method} {c : Code} {H : Heap} {locs : List Loc} {cells slots : Nat} {Q : State → Prop}
variable {mc ms : Nat} {free : Addr → Prop} {A0 A1 : Nat → Prop} {H0 : Heap} {a : Array Value} {ls : Array Slot} {st0 rest : List Value}
variable {Qc : Array Value → State → Outcome → State → Prop} {XC : String → State → State → Prop}
/-- what a body that may throw owes at its end -/
def vx_MQ (below : List Frame) (Qc : Array Value → State → Outcome → State → Prop) (XC : String → State → State → Prop) (a : Array Value) (s : State) (mc ms : Nat) (free : Addr → Prop) : State → Prop := fun t =>
  ∃ o, t.status = .running ∧ Ended t below o ∧ vx_Q Qc XC mc ms free a s o t
theorem vx_ret {g : JFrame} {mc ms : Nat} (k : W p l e R s m args below meth c H locs cells slots (MQ below Qc args s mc ms free) g) : W p l e R s m args below meth c H locs cells slots (vx_MQ below Qc XC args s mc ms free) g := by
  intro T hT X
  obtain ⟨t, a1, o, b1, b2, b3, b4⟩ := k T hT X
  exact ⟨t, a1, o, b1, b2, Or.inl ⟨b3, b4⟩⟩
/-- not caught here: it goes on to the caller -/
theorem vx_widen {g : JFrame} {q : Addr} {k n : Nat} (h1 : cells ≤ k) (h2 : slots ≤ n) (kk : vx_W p l e R s m args below meth c H locs k n Q g q) : vx_W p l e R s m args below meth c H locs cells slots Q g q := fun T hT X => kk T hT (stand_widen X h1 h2)
theorem vx_out {pc : Nat} {E : String} {ce : Cell} {q : Addr} {mc ms : Nat} (hout : ∀ x ∈ c.exceptionTable.toList, covers x pc = false) (hlocks : meth.locks = false) (hcell : H[q]? = some ce) (hv : ce.vm = .none) (hcl : s.vm.findClass E = some ce.cls)
    (hx : ∀ t : State, t.heap = H → s.vm.Alike t.vm → XC E s t) (hf : ∀ z ∈ locs, free z.base) (hc : cells ≤ mc) (hs : slots ≤ ms) :
    vx_W p l e R s m args below meth c H locs cells slots (vx_MQ below Qc XC args s mc ms free) (F0 m pc ls rest) q := by
  intro T hT X
  obtain ⟨st1, hrun, hend, hW, hsm⟩ := X.leaveThrown q (g := F0 m pc ls rest) rfl rfl rfl hout hlocks
  have hcell9 : (T.setFrames (.throwing q :: below)).heap[q]? = some ce := by
    show T.heap[q]? = some ce
    rw [hT]; exact hcell
  exact ⟨_, st1, .threw q, hrun, hend, Or.inr ⟨q, rfl, E, ce, locs, hx _ hT hW.alike, hcell9, hv, hcl, hW, hsm.mono hc hs, hf⟩⟩
theorem vx_frame {U : State} {k n : Nat} (h : s.sameButNew ({ U with vm := s.vm } : State) locs k n) : s.heap.size ≤ U.heap.size ∧ ∀ q : Nat, q < s.heap.size → (∀ z ∈ locs, z.base ≠ q) → U.heap[q]? = s.heap[q]? := by
  obtain ⟨-, h2, -, -, -, h6⟩ := h
  refine ⟨h2, fun q hq hz => ?_⟩
  obtain ⟨c9, e1, e2, e3, e4⟩ := h6 q _ (Array.getElem?_eq_getElem hq)
  have hs : c9.slots = (s.heap[q]).slots := Array.ext_getElem? fun i => e4 i fun hm => hz _ hm rfl
  have h9 : c9 = s.heap[q] := by
    rw [hs] at e2
    exact e2
  have e5 : U.heap[q]? = some c9 := e1
  rw [e5, h9, Array.getElem?_eq_getElem hq]
/-- the words of a throw but the four that speak of the heap -/
def vx_no (w : Cond) : Bool := decide (w ≠ .isRef (.static Bundle.tN "UNASSIGNED_STACK" Bundle.steD)) && decide (w ≠ .isRef (.static Bundle.tN "SUPPRESSED_SENTINEL" Bundle.listD)) && decide (w ≠ .laysStatic Bundle.tN "UNASSIGNED_STACK" Bundle.steD) && decide (w ≠ .laysStatic Bundle.tN "SUPPRESSED_SENTINEL" Bundle.listD)
def vx_at0 (own : String) (ic : Nat) (X : String) (names : List String) : List Cond := (Bundle.ownAtoms0 own ic X names).filter vx_no
def vx_atS (own : String) (ic : Nat) (X : String) (names : List String) : List Cond := (Bundle.ownAtoms own ic X names).filter vx_no
/-- a word that the tables alone decide, or a good one -/
def vx_ot (w : Cond) : Bool := w.onTables || goodWord w
theorem vx_ot_at {args a' : Array Value} {s U : State} {w : Cond} (hW : s.WarmedH U.vm) (hvm : s.vm = U.vm) (hg : vx_ot w = true) (h : w.before args s = true) : w.before a' U = true := by
  simp only [vx_ot, Bool.or_eq_true] at hg
  rcases hg with hg | hg
  · exact va_tabs hg hvm h
  · exact word_at hW (good_of_word hg) h
/-- a list's words: the good ones out of the method's own list, the others by premises of their own -/
theorem vx_hat {args : Array Value} {s : State} {L B : List Cond} (h1 : ∀ w ∈ L.filter goodWord, w.before args s = true) (h2 : ∀ w ∈ L.filter (fun w => !goodWord w), w ∈ B) (h3 : ∀ w ∈ B, w.before args s = true) : ∀ w ∈ L, w.before args s = true := by
  intro w hw
  by_cases g : goodWord w = true
  · exact h1 w (List.mem_filter.mpr ⟨hw, g⟩)
  · refine h3 w (h2 w (List.mem_filter.mpr ⟨hw, ?_⟩))
    show (!goodWord w) = true
    cases hgw : goodWord w
    · rfl
    · exact absurd hgw g
theorem vx_c {args : Array Value} {s : State} {w : Cond} {B : List Cond} (h : w.before args s = true) (t : ∀ w ∈ B, w.before args s = true) : ∀ w' ∈ w :: B, w'.before args s = true := fun w' h' => (List.mem_cons.mp h').elim (fun e => by rw [e]; exact h) (t w')
theorem vx_n {args : Array Value} {s : State} : ∀ w ∈ ([] : List Cond), w.before args s = true := fun _ h => nomatch h
theorem vx_own {args : Array Value} {s : State} {L : List Cond} (h1 : ∀ w ∈ L.filter vx_no, w.before args s = true)
    (hU : (Cond.isRef (.static Bundle.tN "UNASSIGNED_STACK" Bundle.steD)).before args s = true) (hN : (Cond.isRef (.static Bundle.tN "SUPPRESSED_SENTINEL" Bundle.listD)).before args s = true)
    (lU : (Cond.laysStatic Bundle.tN "UNASSIGNED_STACK" Bundle.steD).before args s = true) (lN : (Cond.laysStatic Bundle.tN "SUPPRESSED_SENTINEL" Bundle.listD).before args s = true) : ∀ w ∈ L, w.before args s = true := by
  intro w hw
  by_cases e1 : w = .isRef (.static Bundle.tN "UNASSIGNED_STACK" Bundle.steD)
  · rw [e1]; exact hU
  · by_cases e2 : w = .isRef (.static Bundle.tN "SUPPRESSED_SENTINEL" Bundle.listD)
    · rw [e2]; exact hN
    · by_cases e3 : w = .laysStatic Bundle.tN "UNASSIGNED_STACK" Bundle.steD
      · rw [e3]; exact lU
      · by_cases e4 : w = .laysStatic Bundle.tN "SUPPRESSED_SENTINEL" Bundle.listD
        · rw [e4]; exact lN
        · exact h1 w (List.mem_filter.mpr ⟨hw, by unfold vx_no; rw [decide_eq_true e1, decide_eq_true e2, decide_eq_true e3, decide_eq_true e4]; rfl⟩)
/-- where a static field lies, its class's statics cell in H -/
def vx_L (C n d : String) (A : Nat → Prop) (U : State) (H : Heap) : Prop := ∃ (c : ClassId) (k : Class) (i : Nat) (f : Field) (a : Nat) (cell : Cell), U.vm.findClass C = some c ∧ U.fieldFound? C n d = some (c, k, i, f) ∧ f.isStatic = true ∧ k.statics = some a ∧ H[a]? = some cell ∧ cell.vm.isStatics = true ∧ cell.cls = c ∧ f.slot < cell.slots.size ∧ k.staticTypes[f.slot]? = some f.type ∧ ¬ A a
theorem vx_L.moved {C n d : String} {A : Nat → Prop} {u U : State} {H : Heap} (hvm : u.vm.Alike U.vm) (h : vx_L C n d A u H) : vx_L C n d A U H := by
  obtain ⟨c, k, i, f, a, cell, h1, h2, h3, h4, h5, h6, h7, h8, h9, h10⟩ := h
  obtain ⟨k', hi', he⟩ := State.fieldFound?_setVm hvm h2
  exact ⟨c, k', i, f, a, cell, by rw [hvm.findClass]; exact h1, hi', h3, by rw [he]; exact h4, h5, h6, h7, h8, by rw [he]; exact h9, h10⟩
theorem vx_L.kept {C n d : String} {A : Nat → Prop} {U : State} {H H1 : Heap} (h : vx_L C n d A U H) (hq : ∀ a : Nat, a < H.size → ¬ A a → H1[a]? = H[a]?) : vx_L C n d A U H1 := by
  obtain ⟨c, k, i, f, a, cell, h1, h2, h3, h4, h5, h6, h7, h8, h9, h10⟩ := h
  exact ⟨c, k, i, f, a, cell, h1, h2, h3, h4, by rw [hq a (Array.getElem?_eq_some_iff.mp h5).1 h10]; exact h5, h6, h7, h8, h9, h10⟩
theorem vx_L.narrow {C n d : String} {A B : Nat → Prop} {U : State} {H : Heap} (h : vx_L C n d A U H) (hAB : ∀ q, B q → A q) : vx_L C n d B U H := by
  obtain ⟨c, k, i, f, a, cell, h1, h2, h3, h4, h5, h6, h7, h8, h9, h10⟩ := h
  exact ⟨c, k, i, f, a, cell, h1, h2, h3, h4, h5, h6, h7, h8, h9, fun z => h10 (hAB _ z)⟩
theorem vx_L.word {C n d : String} {A : Nat → Prop} {s : State} {args : Array Value} (h : vx_L C n d A s s.heap) : (Cond.laysStatic C n d).before args s = true := by
  obtain ⟨c, k, i, f, a, cell, h1, h2, h3, h4, h5, h6, h7, h8, h9, -⟩ := h
  show (Cond.laysStatic C n d).holds args s none s [] = true
  exact Cond.laysStatic_of h1 h2 h3 h4 h5 h6 h7 h8 h9
/-- .. and what it holds: null or some reference -/
def vx_Zq (C n d : String) (A : Nat → Prop) (U : State) (H : Heap) : Prop := va_Zq C n d A U H ∧ vx_L C n d A U H
theorem vx_Zq.moved {C n d : String} {A : Nat → Prop} {u U : State} {H : Heap} (hvm : u.vm.Alike U.vm) (h : vx_Zq C n d A u H) : vx_Zq C n d A U H := ⟨va_Zq.moved hvm h.1, vx_L.moved hvm h.2⟩
theorem vx_Zq.kept {C n d : String} {A : Nat → Prop} {U : State} {H H1 : Heap} (h : vx_Zq C n d A U H) (hq : ∀ a : Nat, a < H.size → ¬ A a → H1[a]? = H[a]?) : vx_Zq C n d A U H1 := ⟨va_Zq.kept h.1 hq, vx_L.kept h.2 hq⟩
theorem vx_Zq.narrow {C n d : String} {A B : Nat → Prop} {U : State} {H : Heap} (h : vx_Zq C n d A U H) (hAB : ∀ q, B q → A q) : vx_Zq C n d B U H := ⟨va_Zq.narrow h.1 hAB, vx_L.narrow h.2 hAB⟩
theorem vx_Zqof {args : Array Value} {s : State} {C n d : String} {A : Nat → Prop} (hl : (Cond.laysStatic C n d).before args s = true) (hini : (Cond.initialized C).before args s = true) (h : (Cond.isRef (.static C n d)).before args s = true) (hA : ∀ a : Nat, a < s.heap.size → ¬ A a) : vx_Zq C n d A s s.heap := by
  refine ⟨va_Zqof hl hini h hA, ?_⟩
  obtain ⟨c, k, i, f, a, cell, h1, h2, h3, h4, h5, h6, h7, h8, h9⟩ := Cond.laysStatic_spec hl
  exact ⟨c, k, i, f, a, cell, h1, h2, h3, h4, h5, h6, h7, h8, h9, hA a (Array.getElem?_eq_some_iff.mp h5).1⟩
theorem vx_isRef {C n d : String} {v : Value} {A : Nat → Prop} {s : State} {args : Array Value} (h : va_Z C n d v A s s.heap) (hv : v.isRef = true) : (Cond.isRef (.static C n d)).before args s = true := by
  obtain ⟨cf, kf, fi, f, a, cell, h1, h2, h3, h4, h5, h6, h7, -⟩ := h
  have he : (Term.static C n d).eval args s none [] s = some v := by
    simp [Term.eval, State.fieldNamed?, h1, h2, h4, h5, h6, h7]
  simp only [Cond.before, Cond.holds, Cond.value, he]
  cases v <;> simp_all [Value.isRef]
theorem vx_isRefq {C n d : String} {A : Nat → Prop} {s : State} {args : Array Value} (h : va_Zq C n d A s s.heap) : (Cond.isRef (.static C n d)).before args s = true := by
  rcases h with h | ⟨t, h⟩
  · exact vx_isRef h rfl
  · exact vx_isRef h rfl
/-- the same frame, seen from here: as if the method were called anew in this heap -/
theorem vx_rebase {T : State} (X : Stand p l e R s m args below meth c T locs cells slots) {R' : Room} (hf : R'.frames ≤ R.frames) (hl : R'.locals ≤ R.locals) (hc : cells + R'.cells ≤ R.cells) (hs : slots + R'.slots ≤ R.slots) :
    Stand p l e R' ((T.setVm s.vm).setFrames (.invoking m args :: below)) m args below meth c T [] 0 0 := by
  have htop : (T.setVm s.vm).topJava?.isSome := X.here.top
  have hF : ((T.setVm s.vm).setFrames (.invoking m args :: below)).frames = .invoking m args :: below := State.frames_setFrames _ (State.cur_lt_of_top htop)
  obtain ⟨g₀, hg0⟩ := Option.isSome_iff_exists.mp htop
  obtain ⟨r, hr⟩ := State.topJava?_eq_some.mp hg0
  have hl9 : e.platform.stackLimits (T.setVm s.vm).me = e.platform.stackLimits s.me := X.limits
  have hb9 : (T.setVm s.vm).me.stackBytes = s.me.stackBytes := X.bytes
  refine ⟨X.admits, X.cas, X.clock, hF, ?_, X.hears, X.method, X.code, X.here, X.tail, X.warmed, ?_, ?_, ?_⟩
  · have h := X.room
    have hU : ((T.setVm s.vm).setFrames (.invoking m args :: below)).localsInUse = s.localsInUse := by
      rw [State.localsInUse_invoking hF (meth := meth) (c := c) X.method X.code, State.localsInUse_invoking X.frames X.method X.code]
    simp only [State.hasRoom, Bool.and_eq_true, decide_eq_true_eq] at h ⊢
    obtain ⟨⟨⟨⟨h1, h2, h3, h4, h5, h6⟩, h7⟩, h8⟩, h9⟩ := h
    rw [X.frames, List.length_cons] at h2 h3
    have q1 := X.heapSize
    have q2 := X.used
    simp only [hF, hU, List.length_cons, State.stackLimits_setFrames, State.stackBytes_setFrames, hl9, hb9]
    refine ⟨⟨⟨⟨by omega, by omega, by omega, by omega, by omega, h6⟩, ?_⟩, ?_⟩, X.book⟩
    · show T.heap.size + R'.cells ≤ e.platform.maxCells
      omega
    · show T.slotsUsed + R'.slots ≤ e.platform.maxSlots
      omega
  · rw [State.stackLimits_setFrames]; rfl
  · rw [State.stackBytes_setFrames]; rfl
  · refine ⟨?_, Nat.le_refl _, Nat.le_refl _, ?_, ?_, fun a c9 h9 => ⟨c9, h9, rfl, rfl, fun _ _ => rfl⟩⟩
    · obtain ⟨t, ht, -⟩ := State.frames_cons hr
      show T.setVm s.vm = { ((T.setVm s.vm).setFrames (.invoking m args :: below)).setFrames (T.setVm s.vm).frames with heap := T.heap, slotsUsed := T.slotsUsed }
      rw [State.setFrames_setFrames, State.setFrames_self ht]
      rfl
    · show T.slotsUsed = T.slotsUsed + ((T.heap.toList.drop T.heap.size).map (·.slots.size)).sum
      rw [List.drop_eq_nil_of_le (Nat.le_of_eq Array.length_toList)]
      rfl
    · show ((T.heap.toList.drop T.heap.size).map (·.slots.size)).sum ≤ 0
      rw [List.drop_eq_nil_of_le (Nat.le_of_eq Array.length_toList)]
      exact Nat.le_refl _
/-- 'throw new E()': new; dup; invokespecial; athrow -/
theorem vx_throw0 {cc : ByteArray} {pc : Nat} (hexec : p.tables.exec = Jvm.exec) (hb : c.code = cc) (hl : l.stackTraces = false) {own cls : String} {names : List String} {ik ic mc ms : Nat} {A : Nat → Prop}
    (hown : s.vm.findClass own = some m.cls) (hcls : Bundle.fit cls = true) (hnames : ∀ n ∈ names, Bundle.fit n = true)
    (hk : (Cond.classLink own ik cls).before args s = true) (hini : (Cond.initialized cls).before args s = true) (hat : ∀ w ∈ vx_at0 own ic cls names, w.before args s = true)
    (hgood : ∀ w ∈ Cond.classLink own ik cls :: Cond.initialized cls :: vx_at0 own ic cls names, vx_ot w = true)
    (hU : vx_Zq Bundle.tN "UNASSIGNED_STACK" Bundle.steD A s s.heap) (hN : vx_Zq Bundle.tN "SUPPRESSED_SENTINEL" Bundle.listD A s s.heap) (hS : va_S A s.heap H locs) (hsize : ls.size = c.maxLocals)
    (d0 : decode cc pc = .ok (.new ik, 3)) (d3 : decode cc (pc + 3) = .ok (.dup, 1)) (d4 : decode cc (pc + 4) = .ok (.invokespecial ic, 3)) (d7 : decode cc (pc + 7) = .ok (.athrow, 1))
    (hout : ∀ x ∈ c.exceptionTable.toList, covers x (pc + 7) = false)
    (hRframes : names.length + 3 < R.frames) (hRlocals : (rest.map fun v => v.category).sum + (13 * (names.length + 1) + 42) ≤ R.locals) (hRcells : cells + 1 ≤ R.cells) (hRslots : slots + 6 ≤ R.slots) (hlocks : meth.locks = false)
    (hx : ∀ t : State, s.vm.Alike t.vm → H.size ≤ t.heap.size → (∀ q : Nat, q < H.size → t.heap[q]? = H[q]?) → XC cls s t)
    (hf : ∀ z ∈ locs, free z.base) (hc : cells + 1 ≤ mc) (hs : slots + 6 ≤ ms) :
    W p l e R s m args below meth c H locs cells slots (vx_MQ below Qc XC args s mc ms free) (F0 m pc ls rest) := by
  intro T hT X
  have htr : e.platform.stackTraces = false := (show e.platform.stackTraces = l.stackTraces by rw [X.admits.platform]).trans hl
  have Y := vx_rebase X (R' := { frames := R.frames, locals := R.locals, cells := 1, slots := 6 }) (Nat.le_refl _) (Nat.le_refl _) hRcells hRslots
  obtain ⟨s', hA⟩ : ∃ z, z = (T.setVm s.vm).setFrames (.invoking m args :: below) := ⟨_, rfl⟩
  rw [← hA] at Y
  have hvm : s'.vm = s.vm := by rw [hA]; rfl
  have hhp : s'.heap = H := by rw [hA]; exact hT
  have hW0 : s.WarmedH s'.vm := by rw [hvm]; exact State.WarmedH.refl s
  have hat' : ∀ w ∈ vx_at0 own ic cls names, w.before args s' = true := fun w hw => vx_ot_at hW0 hvm.symm (hgood w (List.mem_cons_of_mem _ (List.mem_cons_of_mem _ hw))) (hat w hw)
  have hk' : (Cond.classLink own ik cls).before args s' = true := vx_ot_at hW0 hvm.symm (hgood _ List.mem_cons_self) hk
  have hini' : (Cond.initialized cls).before args s' = true := vx_ot_at hW0 hvm.symm (hgood _ (List.mem_cons_of_mem _ List.mem_cons_self)) hini
  have hU' : vx_Zq Bundle.tN "UNASSIGNED_STACK" Bundle.steD A s' s'.heap := by rw [hhp]; exact vx_Zq.moved hW0.alike (hU.kept hS.2.1)
  have hN' : vx_Zq Bundle.tN "SUPPRESSED_SENTINEL" Bundle.listD A s' s'.heap := by rw [hhp]; exact vx_Zq.moved hW0.alike (hN.kept hS.2.1)
  have h : ∀ w ∈ Bundle.ownAtoms0 own ic cls names, w.before args s' = true := vx_own hat' (vx_isRefq hU'.1) (vx_isRefq hN'.1) hU'.2.word hN'.2.word
  have hown' : s'.vm.findClass own = some m.cls := by rw [hvm]; exact hown
  have hins : (Cond.instantiable cls 6).before args s' = true := h _ (by simp [Bundle.ownAtoms0])
  obtain ⟨vm₁, cX, kX, hfX, hkX, -, -, X₁, st1⟩ := Y.newCold hexec (own := own) (C := cls) (index := ik) (n := 6) hown' hk' hins hini'
    (g := F0 m pc ls rest) rfl (by rw [hb]; exact d0) (Nat.le_refl _) (Nat.le_refl _)
  generalize hT1 : (T.setVm vm₁).pushCell { cls := cX, slots := kX.instanceTypes.map defaultValue, vm := .none } = T1 at X₁ st1
  have hcat : (Value.ref T.heap.size).category = 1 := rfl
  have hcellA : T1.heap[T.heap.size]? = some (freshCell cX kX) := by rw [← hT1]; exact State.heap_pushCell_size _ _
  have d3' : decode c.code (pc + 3) = .ok (.dup, 1) := by rw [hb]; exact d3
  obtain ⟨U, hsteps, hrun, hend, hW, hsame, ce, hce, hO⟩ := X₁.ctorThrow0 hexec htr (own := own) (cls := cls) (names := names) (ic := ic) hown' hcls hnames h (fun x hx => nomatch hx) hfX hkX hcellA (by rw [hhp, hT]; exact Nat.le_refl _)
    (g := { method := m, pc := pc + 4, locals := ls, stack := .ref T.heap.size :: .ref T.heap.size :: rest, locked := none }) rfl hsize rfl rfl (rest := rest) rfl
    (by rw [hb]; exact d4) (by rw [hb]; exact d7) hout hRframes (by simp only [List.map_cons, List.sum_cons, hcat]; omega) hlocks
  obtain ⟨f1, f2⟩ := vx_frame hsame
  rw [hhp] at f1 f2
  have hWs : s.WarmedH U.vm := State.WarmedH.trans hW0 hW
  have hcl : s.vm.findClass cls = some ce.cls := by
    have h9 := hO.cls
    rw [hvm] at h9
    exact h9
  have hall : s.sameButNew ({ U with vm := s.vm } : State) locs mc ms := by
    subst hA
    obtain ⟨e1, e2⟩ := hsame
    rw [State.setFrames_setFrames] at e1
    have h2 : (T.setVm s.vm).sameButNew ({ U with vm := s.vm } : State) [] (0 + 1) (0 + 6) := ⟨e1, e2⟩
    have h3 := X.same.trans h2
    rw [List.append_nil] at h3
    exact h3.mono hc hs
  refine ⟨U, ?_, .threw T.heap.size, hrun, hend, Or.inr ⟨T.heap.size, rfl, cls, ce, locs, hx U hWs.alike f1 (fun q hq => f2 q hq (fun z hz => nomatch hz)), hce, hO.vm, hcl, hWs, hall, hf⟩⟩
  refine st1 _ ?_
  show Steps p.tables e below (T1.setTop { method := m, pc := pc + 3, locals := ls, stack := .ref T.heap.size :: rest, locked := none }) _
  jvm_step X₁.here [X₁.here.top, hexec, d3', Value.category]
  exact hsteps
/-- 'throw new E("text")': new; dup; ldc; invokespecial; athrow -/
theorem vx_throwS {cc : ByteArray} {pc : Nat} (hexec : p.tables.exec = Jvm.exec) (hb : c.code = cc) (hl : l.stackTraces = false) {own cls text : String} {names : List String} {ik is ic mc ms sa : Nat} {A : Nat → Prop}
    (hown : s.vm.findClass own = some m.cls) (hcls : Bundle.fit cls = true) (hnames : ∀ n ∈ names, Bundle.fit n = true)
    (hk : (Cond.classLink own ik cls).before args s = true) (hini : (Cond.initialized cls).before args s = true) (hstr : vk_R own is text sa s) (hat : ∀ w ∈ vx_atS own ic cls names, w.before args s = true)
    (hgood : ∀ w ∈ Cond.classLink own ik cls :: Cond.initialized cls :: vx_atS own ic cls names, vx_ot w = true)
    (hU : vx_Zq Bundle.tN "UNASSIGNED_STACK" Bundle.steD A s s.heap) (hN : vx_Zq Bundle.tN "SUPPRESSED_SENTINEL" Bundle.listD A s s.heap) (hS : va_S A s.heap H locs) (hsize : ls.size = c.maxLocals)
    (d0 : decode cc pc = .ok (.new ik, 3)) (d3 : decode cc (pc + 3) = .ok (.dup, 1)) (d4 : decode cc (pc + 4) = .ok (.ldc is, 2)) (d6 : decode cc (pc + 6) = .ok (.invokespecial ic, 3)) (d9 : decode cc (pc + 9) = .ok (.athrow, 1))
    (hout : ∀ x ∈ c.exceptionTable.toList, covers x (pc + 9) = false)
    (hRframes : names.length + 3 < R.frames) (hRlocals : (rest.map fun v => v.category).sum + (13 * (names.length + 1) + 43) ≤ R.locals) (hRcells : cells + 1 ≤ R.cells) (hRslots : slots + 6 ≤ R.slots) (hlocks : meth.locks = false)
    (hx : ∀ t : State, s.vm.Alike t.vm → H.size ≤ t.heap.size → (∀ q : Nat, q < H.size → t.heap[q]? = H[q]?) → XC cls s t)
    (hf : ∀ z ∈ locs, free z.base) (hc : cells + 1 ≤ mc) (hs : slots + 6 ≤ ms) :
    W p l e R s m args below meth c H locs cells slots (vx_MQ below Qc XC args s mc ms free) (F0 m pc ls rest) := by
  intro T hT X
  have htr : e.platform.stackTraces = false := (show e.platform.stackTraces = l.stackTraces by rw [X.admits.platform]).trans hl
  have Y := vx_rebase X (R' := { frames := R.frames, locals := R.locals, cells := 1, slots := 6 }) (Nat.le_refl _) (Nat.le_refl _) hRcells hRslots
  obtain ⟨s', hA⟩ : ∃ z, z = (T.setVm s.vm).setFrames (.invoking m args :: below) := ⟨_, rfl⟩
  rw [← hA] at Y
  have hvm : s'.vm = s.vm := by rw [hA]; rfl
  have hhp : s'.heap = H := by rw [hA]; exact hT
  have hW0 : s.WarmedH s'.vm := by rw [hvm]; exact State.WarmedH.refl s
  have hat' : ∀ w ∈ vx_atS own ic cls names, w.before args s' = true := fun w hw => vx_ot_at hW0 hvm.symm (hgood w (List.mem_cons_of_mem _ (List.mem_cons_of_mem _ hw))) (hat w hw)
  have hk' : (Cond.classLink own ik cls).before args s' = true := vx_ot_at hW0 hvm.symm (hgood _ List.mem_cons_self) hk
  have hini' : (Cond.initialized cls).before args s' = true := vx_ot_at hW0 hvm.symm (hgood _ (List.mem_cons_of_mem _ List.mem_cons_self)) hini
  have hU' : vx_Zq Bundle.tN "UNASSIGNED_STACK" Bundle.steD A s' s'.heap := by rw [hhp]; exact vx_Zq.moved hW0.alike (hU.kept hS.2.1)
  have hN' : vx_Zq Bundle.tN "SUPPRESSED_SENTINEL" Bundle.listD A s' s'.heap := by rw [hhp]; exact vx_Zq.moved hW0.alike (hN.kept hS.2.1)
  have h : ∀ w ∈ Bundle.ownAtoms own ic cls names, w.before args s' = true := vx_own hat' (vx_isRefq hU'.1) (vx_isRefq hN'.1) hU'.2.word hN'.2.word
  have hown' : s'.vm.findClass own = some m.cls := by rw [hvm]; exact hown
  have hins : (Cond.instantiable cls 6).before args s' = true := h _ (by simp [Bundle.ownAtoms])
  obtain ⟨vm₁, cX, kX, hfX, hkX, -, -, X₁, st1⟩ := Y.newCold hexec (own := own) (C := cls) (index := ik) (n := 6) hown' hk' hins hini'
    (g := F0 m pc ls rest) rfl (by rw [hb]; exact d0) (Nat.le_refl _) (Nat.le_refl _)
  generalize hT1 : (T.setVm vm₁).pushCell { cls := cX, slots := kX.instanceTypes.map defaultValue, vm := .none } = T1 at X₁ st1
  have hcat : (Value.ref T.heap.size).category = 1 := rfl
  have hcellA : T1.heap[T.heap.size]? = some (freshCell cX kX) := by rw [← hT1]; exact State.heap_pushCell_size _ _
  have d3' : decode c.code (pc + 3) = .ok (.dup, 1) := by rw [hb]; exact d3
  have d4' : decode c.code (pc + 4) = .ok (.ldc is, 2) := by rw [hb]; exact d4
  have hstr' : vk_R own is text sa s' := vk_R.warm hW0 hstr
  obtain ⟨U, hsteps, hrun, hend, hW, hsame, ce, hce, hO⟩ := X₁.ctorThrowS hexec htr (own := own) (cls := cls) (names := names) (ic := ic) hown' hcls hnames h (fun x hx => nomatch hx) hfX hkX hcellA (by rw [hhp, hT]; exact Nat.le_refl _) (msg := .ref sa) rfl
    (g := { method := m, pc := pc + 6, locals := ls, stack := .ref sa :: .ref T.heap.size :: .ref T.heap.size :: rest, locked := none }) rfl hsize rfl rfl (rest := rest) rfl
    (by rw [hb]; exact d6) (by rw [hb]; exact d9) hout hRframes (by simp only [List.map_cons, List.sum_cons, hcat]; omega) hlocks
  obtain ⟨f1, f2⟩ := vx_frame hsame
  rw [hhp] at f1 f2
  have hWs : s.WarmedH U.vm := State.WarmedH.trans hW0 hW
  have hcl : s.vm.findClass cls = some ce.cls := by
    have h9 := hO.cls
    rw [hvm] at h9
    exact h9
  have hall : s.sameButNew ({ U with vm := s.vm } : State) locs mc ms := by
    subst hA
    obtain ⟨e1, e2⟩ := hsame
    rw [State.setFrames_setFrames] at e1
    have h2 : (T.setVm s.vm).sameButNew ({ U with vm := s.vm } : State) [] (0 + 1) (0 + 6) := ⟨e1, e2⟩
    have h3 := X.same.trans h2
    rw [List.append_nil] at h3
    exact h3.mono hc hs
  refine ⟨U, ?_, .threw T.heap.size, hrun, hend, Or.inr ⟨T.heap.size, rfl, cls, ce, locs, hx U hWs.alike f1 (fun q hq => f2 q hq (fun z hz => nomatch hz)), hce, hO.vm, hcl, hWs, hall, hf⟩⟩
  refine st1 _ ?_
  show Steps p.tables e below (T1.setTop { method := m, pc := pc + 3, locals := ls, stack := .ref T.heap.size :: rest, locked := none }) _
  jvm_step X₁.here [X₁.here.top, hexec, d3', Value.category]
  exact X₁.ldcString hexec (own := own) (text := text) (index := is) (a := sa) hown' hstr'.1 hstr'.2
    (g := { method := m, pc := pc + 4, locals := ls, stack := .ref T.heap.size :: .ref T.heap.size :: rest, locked := none }) rfl d4' _ hsteps
/-- 'throw new E("text")', the text by a wide index -/
theorem vx_throwSW {cc : ByteArray} {pc : Nat} (hexec : p.tables.exec = Jvm.exec) (hb : c.code = cc) (hl : l.stackTraces = false) {own cls text : String} {names : List String} {ik is ic mc ms sa : Nat} {A : Nat → Prop}
    (hown : s.vm.findClass own = some m.cls) (hcls : Bundle.fit cls = true) (hnames : ∀ n ∈ names, Bundle.fit n = true)
    (hk : (Cond.classLink own ik cls).before args s = true) (hini : (Cond.initialized cls).before args s = true) (hstr : vk_R own is text sa s) (hat : ∀ w ∈ vx_atS own ic cls names, w.before args s = true)
    (hgood : ∀ w ∈ Cond.classLink own ik cls :: Cond.initialized cls :: vx_atS own ic cls names, vx_ot w = true)
    (hU : vx_Zq Bundle.tN "UNASSIGNED_STACK" Bundle.steD A s s.heap) (hN : vx_Zq Bundle.tN "SUPPRESSED_SENTINEL" Bundle.listD A s s.heap) (hS : va_S A s.heap H locs) (hsize : ls.size = c.maxLocals)
    (d0 : decode cc pc = .ok (.new ik, 3)) (d3 : decode cc (pc + 3) = .ok (.dup, 1)) (d4 : decode cc (pc + 4) = .ok (.ldc_w is, 3)) (d7 : decode cc (pc + 7) = .ok (.invokespecial ic, 3)) (d10 : decode cc (pc + 10) = .ok (.athrow, 1))
    (hout : ∀ x ∈ c.exceptionTable.toList, covers x (pc + 10) = false)
    (hRframes : names.length + 3 < R.frames) (hRlocals : (rest.map fun v => v.category).sum + (13 * (names.length + 1) + 43) ≤ R.locals) (hRcells : cells + 1 ≤ R.cells) (hRslots : slots + 6 ≤ R.slots) (hlocks : meth.locks = false)
    (hx : ∀ t : State, s.vm.Alike t.vm → H.size ≤ t.heap.size → (∀ q : Nat, q < H.size → t.heap[q]? = H[q]?) → XC cls s t)
    (hf : ∀ z ∈ locs, free z.base) (hc : cells + 1 ≤ mc) (hs : slots + 6 ≤ ms) :
    W p l e R s m args below meth c H locs cells slots (vx_MQ below Qc XC args s mc ms free) (F0 m pc ls rest) := by
  intro T hT X
  have htr : e.platform.stackTraces = false := (show e.platform.stackTraces = l.stackTraces by rw [X.admits.platform]).trans hl
  have Y := vx_rebase X (R' := { frames := R.frames, locals := R.locals, cells := 1, slots := 6 }) (Nat.le_refl _) (Nat.le_refl _) hRcells hRslots
  obtain ⟨s', hA⟩ : ∃ z, z = (T.setVm s.vm).setFrames (.invoking m args :: below) := ⟨_, rfl⟩
  rw [← hA] at Y
  have hvm : s'.vm = s.vm := by rw [hA]; rfl
  have hhp : s'.heap = H := by rw [hA]; exact hT
  have hW0 : s.WarmedH s'.vm := by rw [hvm]; exact State.WarmedH.refl s
  have hat' : ∀ w ∈ vx_atS own ic cls names, w.before args s' = true := fun w hw => vx_ot_at hW0 hvm.symm (hgood w (List.mem_cons_of_mem _ (List.mem_cons_of_mem _ hw))) (hat w hw)
  have hk' : (Cond.classLink own ik cls).before args s' = true := vx_ot_at hW0 hvm.symm (hgood _ List.mem_cons_self) hk
  have hini' : (Cond.initialized cls).before args s' = true := vx_ot_at hW0 hvm.symm (hgood _ (List.mem_cons_of_mem _ List.mem_cons_self)) hini
  have hU' : vx_Zq Bundle.tN "UNASSIGNED_STACK" Bundle.steD A s' s'.heap := by rw [hhp]; exact vx_Zq.moved hW0.alike (hU.kept hS.2.1)
  have hN' : vx_Zq Bundle.tN "SUPPRESSED_SENTINEL" Bundle.listD A s' s'.heap := by rw [hhp]; exact vx_Zq.moved hW0.alike (hN.kept hS.2.1)
  have h : ∀ w ∈ Bundle.ownAtoms own ic cls names, w.before args s' = true := vx_own hat' (vx_isRefq hU'.1) (vx_isRefq hN'.1) hU'.2.word hN'.2.word
  have hown' : s'.vm.findClass own = some m.cls := by rw [hvm]; exact hown
  have hins : (Cond.instantiable cls 6).before args s' = true := h _ (by simp [Bundle.ownAtoms])
  obtain ⟨vm₁, cX, kX, hfX, hkX, -, -, X₁, st1⟩ := Y.newCold hexec (own := own) (C := cls) (index := ik) (n := 6) hown' hk' hins hini'
    (g := F0 m pc ls rest) rfl (by rw [hb]; exact d0) (Nat.le_refl _) (Nat.le_refl _)
  generalize hT1 : (T.setVm vm₁).pushCell { cls := cX, slots := kX.instanceTypes.map defaultValue, vm := .none } = T1 at X₁ st1
  have hcat : (Value.ref T.heap.size).category = 1 := rfl
  have hcellA : T1.heap[T.heap.size]? = some (freshCell cX kX) := by rw [← hT1]; exact State.heap_pushCell_size _ _
  have d3' : decode c.code (pc + 3) = .ok (.dup, 1) := by rw [hb]; exact d3
  have d4' : decode c.code (pc + 4) = .ok (.ldc_w is, 3) := by rw [hb]; exact d4
  have hstr' : vk_R own is text sa s' := vk_R.warm hW0 hstr
  obtain ⟨U, hsteps, hrun, hend, hW, hsame, ce, hce, hO⟩ := X₁.ctorThrowS hexec htr (own := own) (cls := cls) (names := names) (ic := ic) hown' hcls hnames h (fun x hx => nomatch hx) hfX hkX hcellA (by rw [hhp, hT]; exact Nat.le_refl _) (msg := .ref sa) rfl
    (g := { method := m, pc := pc + 7, locals := ls, stack := .ref sa :: .ref T.heap.size :: .ref T.heap.size :: rest, locked := none }) rfl hsize rfl rfl (rest := rest) rfl
    (by rw [hb]; exact d7) (by rw [hb]; exact d10) hout hRframes (by simp only [List.map_cons, List.sum_cons, hcat]; omega) hlocks
  obtain ⟨f1, f2⟩ := vx_frame hsame
  rw [hhp] at f1 f2
  have hWs : s.WarmedH U.vm := State.WarmedH.trans hW0 hW
  have hcl : s.vm.findClass cls = some ce.cls := by
    have h9 := hO.cls
    rw [hvm] at h9
    exact h9
  have hall : s.sameButNew ({ U with vm := s.vm } : State) locs mc ms := by
    subst hA
    obtain ⟨e1, e2⟩ := hsame
    rw [State.setFrames_setFrames] at e1
    have h2 : (T.setVm s.vm).sameButNew ({ U with vm := s.vm } : State) [] (0 + 1) (0 + 6) := ⟨e1, e2⟩
    have h3 := X.same.trans h2
    rw [List.append_nil] at h3
    exact h3.mono hc hs
  refine ⟨U, ?_, .threw T.heap.size, hrun, hend, Or.inr ⟨T.heap.size, rfl, cls, ce, locs, hx U hWs.alike f1 (fun q hq => f2 q hq (fun z hz => nomatch hz)), hce, hO.vm, hcl, hWs, hall, hf⟩⟩
  refine st1 _ ?_
  show Steps p.tables e below (T1.setTop { method := m, pc := pc + 3, locals := ls, stack := .ref T.heap.size :: rest, locked := none }) _
  jvm_step X₁.here [X₁.here.top, hexec, d3', Value.category]
  exact X₁.ldcStringW hexec (own := own) (text := text) (index := is) (a := sa) hown' hstr'.1 hstr'.2
    (g := { method := m, pc := pc + 4, locals := ls, stack := .ref T.heap.size :: .ref T.heap.size :: rest, locked := none }) rfl d4' _ hsteps
end Ends
section Bodies
variable {l : Launch}
theorem vx_ofW {y : MethodName} {ws ws' : List Cond} {rm : Room} {Pc : Array Value → State → Prop} {Qc : Array Value → State → Outcome → State → Prop} {XC : String → State → State → Prop} {mc ms : Nat} {free : Addr → Prop} {cc : ByteArray} {maxL : Nat} {ret : Option FieldType}
    (hy : plainName y.cls = true) (hw : ws = Cond.code y cc maxL ret :: ws')
    (body : ∀ p e s m args below meth c s₁, BodyLoose p l y (headSpec ws rm) cc maxL ret e s m args below meth c s₁ → c.maxLocals = maxL → (∀ x ∈ c.exceptionTable.toList, False) → Pc args s →
      W p l e (headSpec ws rm).room s m args below meth c s.heap [] 0 0 (vx_MQ below Qc XC args s mc ms free) (entryFrame m args maxL)) : vx_Met l y ws rm Pc Qc XC mc ms free := by
  refine MetFree.of_bodyS (code := cc) (maxLocals := maxL) (ret := ret) hy ?_ ?_
  · intro args s m h hn
    obtain ⟨meth, c, h1, h2, h3, h4, h5, h6, -, -⟩ := Cond.code_spec hn (atoms_spec (ws := ws) h _ (by rw [hw]; exact List.mem_cons_self))
    exact ⟨meth, c, h1, h2, h3, h4, h5, h6⟩
  · intro p e s m args below meth c s₁ B hml hP _
    have hh0 : s₁.heap = s.heap := by rw [B.state]; rfl
    have ht : ∀ x ∈ c.exceptionTable.toList, False := by
      obtain ⟨meth9, c9, h1, h2, -, -, -, -, h7, -⟩ := Cond.code_spec B.named (atoms_spec (ws := ws) B.pre _ (by rw [hw]; exact List.mem_cons_self))
      cases Option.some.inj (h1.symm.trans B.method)
      cases Option.some.inj (h2.symm.trans (Stand.of_body B).code)
      intro x hx
      rw [Array.isEmpty_iff.mp h7] at hx
      cases hx
    obtain ⟨t, a1, o, b1, b2, b3⟩ := body p e s m args below meth c s₁ B hml ht hP s₁ hh0 (Stand.of_body B)
    exact ⟨t, o, a1, b1, b2, b3⟩
/-- the table of a body with handlers -/
theorem vx_table {p : Program} {x y : MethodName} {S : Spec} {cc bytes : ByteArray} {maxL maxL' : Nat} {ret ret' : Option FieldType} {e : Env} {s s₁ : State} {m : MethodId} {args : Array Value} {below : List Frame} {meth : Method} {c : Code} {hh : List (Nat × Nat × Nat × Nat)}
    (B : BodyLoose p l y S cc maxL ret e s m args below meth c s₁) (h : (Cond.codeWith y bytes maxL' ret' hh).before args s = true) : c.exceptionTable.toList = tableOf hh := by
  obtain ⟨m9, meth9, c9, hn9, h1, h2, -, -, h6, -⟩ := Cond.codeWith_spec h
  cases Option.some.inj (hn9.symm.trans B.named)
  cases Option.some.inj (h1.symm.trans B.method)
  cases Option.some.inj (h2.symm.trans (Stand.of_body B).code)
  rw [← h6, table_eq]
end Bodies
end VXA
/-! ===== END ===== -/
/-! ===== BEGIN a static call of a method with an exception table ===== -/
section VXS
variable {p : Program} {l : Launch} {e : Env} {R : Room} {s : State} {m : MethodId} {args : Array Value} {below : List Frame} {meth : Method} {c : Code} {T : State} {H : Heap} {locs : List Loc} {cells slots : Nat}
abbrev vx_CSW (R : Room) (s : State) (args : Array Value) (own : String) (index : Nat) (y : MethodName) (bytes : ByteArray) (maxL : Nat) (ret : Option FieldType) (hh : List (Nat × Nat × Nat × Nat)) (ws : List Cond) (rm : Room) (mc ms n : Nat) : Prop :=
  (rm.cells = mc ∧ rm.slots = ms ∧ rm.frames + 1 ≤ R.frames ∧ 8 + (maxL + 11) + rm.locals ≤ R.locals ∧ (∀ w ∈ ws, ∀ (a' : Array Value) (U : State), s.WarmedH U.vm → w.before a' U = true) ∧ Cond.codeWith y bytes maxL ret hh ∈ ws) ∧
  (Cond.codeWith y bytes maxL ret hh).before args s = true ∧ (Cond.initialized y.cls).before args s = true ∧ (y.cls ≠ "java/lang/invoke/MethodHandle" ∧ y.cls ≠ "java/lang/invoke/VarHandle") ∧
  (∀ sig, parseMethodDescriptor y.desc = some sig → n = sig.parameters.length) ∧ (Cond.methodLink own index y).before args s = true ∧ (Cond.static y).before args s = true
theorem vx_cwSW {own : String} {index maxL mc ms : Nat} {y : MethodName} {bytes : ByteArray} {ret : Option FieldType} {hh : List (Nat × Nat × Nat × Nat)} {Ts ws ws' : List Cond} {rm : Room} (n : Nat) (ht : ∀ w ∈ Ts, w.before args s = true) (hT : GoodIn Ts (va_wsS own index y ws)) (hw : ws = Cond.codeWith y bytes maxL ret hh :: ws') (hrc : rm.cells = mc) (hrs : rm.slots = ms)
    (hd : y.cls ≠ "java/lang/invoke/MethodHandle" ∧ y.cls ≠ "java/lang/invoke/VarHandle" ∧ (parseMethodDescriptor y.desc).map (fun d => d.parameters.length) = some n) (hR : rm.frames + 1 ≤ R.frames ∧ 8 + (maxL + 11) + rm.locals ≤ R.locals) :
    vx_CSW R s args own index y bytes maxL ret hh ws rm mc ms n := by
  have ok : ∀ w ∈ va_wsS own index y ws, w.before args s = true := fun w h => ht w (hT w h).1
  have hG : GoodIn Ts ws := fun w h => hT w (by unfold va_wsS; exact List.mem_append_right _ h)
  have hc : Cond.codeWith y bytes maxL ret hh ∈ ws := by rw [hw]; exact List.mem_cons_self
  refine ⟨⟨hrc, hrs, hR.1, hR.2, pay_in ht hG, hc⟩, ht _ (hG _ hc).1, ok _ (by simp [va_wsS]), ⟨hd.1, hd.2.1⟩, fun sig h => ?_, ok _ (by simp [va_wsS]), ok _ (by simp [va_wsS])⟩
  have h2 := hd.2.2
  rw [h] at h2
  exact (Option.some.inj h2).symm
theorem vx_callSW (X : Stand p l e R s m args below meth c T locs cells slots) (hexec : p.tables.exec = Jvm.exec) {own : String} {index : Nat} {y : MethodName} {bytes : ByteArray} {maxL : Nat} {ret : Option FieldType} {hh : List (Nat × Nat × Nat × Nat)}
    (hown : s.vm.findClass own = some m.cls) (hlink : (Cond.methodLink own index y).before args s = true) (hstat : (Cond.static y).before args s = true) (hinit : (Cond.initialized y.cls).before args s = true)
    (hcode : (Cond.codeWith y bytes maxL ret hh).before args s = true) (hy : y.cls ≠ "java/lang/invoke/MethodHandle" ∧ y.cls ≠ "java/lang/invoke/VarHandle")
    {W9 : Nat} {Pre : Pt → Array Value → Prop} {Post : Pt → Array Value → Option Value → Pt → Prop} (hK : Back l R p e below s args y 3 W9 Pre Post)
    {g : JFrame} (hg : g.method = m) (hsize : g.locals.size = c.maxLocals) {argsL rest : List Value} (hlen : ∀ sig, parseMethodDescriptor y.desc = some sig → argsL.length = sig.parameters.length)
    (hstack : g.stack = argsL.reverse ++ rest) (hW : 2 * g.monitorRoom + (rest.map fun v => v.category).sum ≤ W9) (hdg : decode c.code g.pc = .ok (.invokestatic index, 3))
    (hpre : ∀ vm₁, s.WarmedH vm₁ → Pre ⟨T.setVm vm₁, locs, cells, slots⟩ argsL.toArray) :
    ∃ (v : Option Value) (vm₁ : Vm) (B : Pt), s.WarmedH vm₁ ∧ Stand p l e R s m args below meth c B.U B.locs B.cells B.slots ∧ Post ⟨T.setVm vm₁, locs, cells, slots⟩ argsL.toArray v B ∧
      ∀ target, Steps p.tables e below (B.U.setTop { g with pc := g.pc + 3, stack := v.toList ++ rest }) target → Steps p.tables e below (T.setTop g) target := by
  obtain ⟨mk, methM, cM, hnamed, hmethM, -, -, -, -, -, -, hsigM⟩ := Cond.codeWith_spec hcode
  have hstatic : methM.isStatic = true := Cond.static_spec hnamed hmethM hstat
  obtain ⟨kP, hkP, -⟩ := className_of_methodNamed hnamed
  have hinitP : kP.init = .initialized := Cond.initialized_spec (findClass_of_methodNamed hnamed) hkP hinit
  obtain ⟨vm₁, X₁, hstep₁⟩ := X.invokestatic hexec hown hlink hnamed hmethM hstatic hkP hinitP hy (g := g) hg (argsL := argsL) (rest := rest) (hlen _ hsigM) hstack hdg
  obtain ⟨v, B, X', hpost, hsteps⟩ := hK m meth c ⟨T.setVm vm₁, locs, cells, slots⟩ { g with stack := rest } (.invokestatic index) mk argsL.toArray X₁ hg hsize hdg hW (X₁.named hnamed) (hpre vm₁ X₁.warmed)
  exact ⟨v, vm₁, B, X₁.warmed, X', hpost, fun target h => hstep₁ _ fun acts => by rw [doInvoke_state]; exact hsteps.trans h⟩
theorem vx_runSW {y : MethodName} {bytes cc : ByteArray} {maxL nL mc ms n index : Nat} {ret : Option FieldType} {hh : List (Nat × Nat × Nat × Nat)} {ws : List Cond} {rm : Room} {Pc : Array Value → State → Prop} {Qc : Array Value → State → Outcome → State → Prop} {free : Addr → Prop} {Ts : List Cond} {own : String} {As rest : List Value} {g : JFrame}
    (S : CallFix p m c cc nL s args Ts own) (hM : Met l y ws rm Pc Qc mc ms free) (cw : vx_CSW R s args own index y bytes maxL ret hh ws rm mc ms n) (hp : PreS s H Pc As)
    (hg : g.method = m) (hn : As.length = n) (hsize : g.locals.size = nL) (hstack : g.stack = As.reverse ++ rest) (hW : 2 * g.monitorRoom + (rest.map fun v => v.category).sum ≤ 8) (hdg : decode cc g.pc = .ok (.invokestatic index, 3)) (hf : cells + mc ≤ R.cells ∧ slots + ms ≤ R.slots) :
    va_Run p l e R s m args below meth c H locs cells slots mc ms g rest (Qc As.toArray) (free) := by
  obtain ⟨⟨hrc, hrs, hfr, hlo, hws, hcw⟩, hcode, hini, hy, hlen, hl, hstt⟩ := cw
  have hK : Back l R p e below s args y 3 8 (PreOf R mc ms Pc) (PostOf Qc mc ms free) := va_backW (hh := hh) (bytes := bytes) (maxL := maxL) (ret := ret) hM hp.1 hrc hrs hfr hlo hws hcw (fun a' U hW => word_at hW (Or.inl (by first | rfl | simp [Cond.onTables, Cond.keeps, Cond.steady])) hini)
  obtain ⟨hx, hb, hml, ho, -⟩ := S
  intro T hT X
  obtain ⟨v, vm₁, ⟨U', l2, c2, s2⟩, hW₁, X', ⟨g', mk, t, L, e1, e2, hq, h1, hL, h2, h3⟩, st⟩ := vx_callSW X hx (hh := hh) (bytes := bytes) (maxL := maxL) (ret := ret) ho hl hstt hini hcode hy hK hg (hsize.trans hml.symm) (argsL := As) (rest := rest) (fun sig h => hn.trans (hlen sig h)) hstack hW (by rw [hb]; exact hdg)
    (fun vm₁ hW₁ => ⟨hf.1, hf.2, hp.2 (T.setVm vm₁) hT hW₁⟩)
  dsimp only [Pt.U, Pt.locs, Pt.cells, Pt.slots] at X' e1 e2 h1 h2 h3 st
  subst h1; subst h2; subst h3
  exact ⟨v, (T.setVm vm₁).calling g' mk As.toArray, t, U', L, hT, X', hL, e1, e2, hq, st⟩
/-- not caught here, past rows that name other classes: it goes on to the caller -/
theorem vx_outP {p : Program} {l : Launch} {e : Env} {R : Room} {s : State} {m : MethodId} {args : Array Value} {below : List Frame} {meth : Method} {c : Code} {H : Heap} {locs : List Loc} {cells slots : Nat} {free : Addr → Prop} {ls : Array Slot} {rest : List Value} {Qc : Array Value → State → Outcome → State → Prop} {XC : String → State → State → Prop}
    {pc : Nat} {own E : String} {ce : Cell} {q : Addr} {mc ms : Nat} (hown : s.vm.findClass own = some m.cls) (hlocks : meth.locks = false)
    (hpass : ∀ z ∈ c.exceptionTable.toList, covers z pc = false ∨ (z.catchType ≠ 0 ∧ ∃ nm : String, (Cond.classLink own z.catchType nm).before args s = true ∧ va_Nc E nm s)) (hcell : H[q]? = some ce) (hv : ce.vm = .none) (hcl : s.vm.findClass E = some ce.cls)
    (hx : ∀ t : State, t.heap = H → s.vm.Alike t.vm → XC E s t) (hf : ∀ z ∈ locs, free z.base) (hc : cells ≤ mc) (hs : slots ≤ ms) :
    vx_W p l e R s m args below meth c H locs cells slots (vx_MQ below Qc XC args s mc ms free) (F0 m pc ls rest) q := by
  intro T hT X
  have hpl : e.platform.magicAccessors = ({} : Platform).magicAccessors := by rw [X.admits.platform]
  obtain ⟨vm', hW', X', st⟩ := X.outThrough hlocks q (g := F0 m pc ls rest) rfl rfl rfl (cell := ce) (by rw [hT]; exact hcell) (by rw [hv]; rfl)
    (by obtain ⟨k9, h9, -⟩ := Vm.findClass_spec hcl; exact ⟨k9, h9⟩) (fun z hz => by
      rcases hpass z hz with h | ⟨hz0, nm, hl1, hn1⟩
      · exact Or.inl h
      · obtain ⟨c6, hc6, hcl6⟩ := Cond.classLink_spec hown hl1 e.platform hpl
        obtain ⟨a8, b8, h1, h2, h3⟩ := hn1
        cases Option.some.inj (h1.symm.trans hcl)
        cases Option.some.inj (h2.symm.trans hc6)
        exact Or.inr ⟨hz0, _, hcl6, h3⟩)
  obtain ⟨g₀, hfr⟩ := X'.frames_eq
  have hcell9 : ((T.setVm vm').setFrames (.throwing q :: below)).heap[q]? = some ce := by
    show T.heap[q]? = some ce
    rw [hT]; exact hcell
  have hend : Ended ((T.setVm vm').setFrames (.throwing q :: below)) below (.threw q) := State.frames_setFrames _ (State.cur_lt_of_frames hfr)
  refine ⟨(T.setVm vm').setFrames (.throwing q :: below), ?_, .threw q, X'.here.running, hend, Or.inr ⟨q, rfl, E, ce, locs, hx _ hT (X'.ends _).1.alike, hcell9, hv, hcl, (X'.ends _).1, (X'.ends _).2.mono hc hs, hf⟩⟩
  rw [X.pushThrowing_eq]
  exact st
/-- a thing of a world lies in the heap -/
theorem vx_lt {D : va_G} {cl : List vw_C} {ws : va_W} {H1 : Heap} (h : va_P D cl ws H1) {k : Nat} {q : Nat × va_E} (hk : ws[k]? = some q) : q.1 < H1.size := (h k q hk).lt
end VXS
/-! ===== END ===== -/
/-! ===== BEGIN methods with a table of their own: called by a name, returning or throwing ===== -/
section VXH
/-! vx_backW, vx_callVX, vx_callSX, vx_callVW, vx_runVW, vx_runVX, vx_runSX, vx_ofWH follow the same proofs as their sisters above (Free/Laws.lean, Shelf42/LK1.lean); vx_outP calls Shelf42/NT130.lean (outThrough). -/
section
variable {l : Launch} {R : Room} {p : Program} {e : Env} {below : List Frame} {s : State} {sargs : Array Value} {y : MethodName} {len W9 : Nat}
theorem vx_backW {ws : List Cond} {rm : Room} {Pc : Array Value → State → Prop} {Qc : Array Value → State → Outcome → State → Prop} {XC : String → State → State → Prop} {mc ms : Nat} {free : Addr → Prop} {bytes : ByteArray} {maxL : Nat} {ret : Option FieldType} {hh : List (Nat × Nat × Nat × Nat)}
    (hM : vx_Met l y ws rm Pc Qc XC mc ms free) (hblind : FrameBlind Pc) (hrc : rm.cells = mc) (hrs : rm.slots = ms)
    (hframes : rm.frames + 1 ≤ R.frames) (hlocals : W9 + (maxL + 11) + rm.locals ≤ R.locals)
    (hws : ∀ w ∈ ws, ∀ a' U, s.WarmedH U.vm → w.before a' U = true) (hcode : Cond.codeWith y bytes maxL ret hh ∈ ws) (hinit : ∀ a' U, s.WarmedH U.vm → (Cond.initialized y.cls).before a' U = true) :
    vx_Back l R p e below s sargs y len W9 (PreOf R mc ms Pc) (PostOf Qc mc ms free) (vx_Post XC mc ms free) := by
  intro m meth c A g ig mk a X hg hsize hdg hW hn hp
  have h1 : (headSpec ws rm).pre.before a A.U = true := atoms_intro fun w hw => hws w hw _ _ X.warmed
  have h2 : (Cond.codeWith y bytes maxL ret hh).before a A.U = true := hws _ hcode _ _ X.warmed
  have h3 : (Cond.initialized y.cls).before a A.U = true := hinit _ _ X.warmed
  have h4 : A.cells + (headSpec ws rm).room.cells ≤ R.cells := by rw [show (headSpec ws rm).room.cells = mc from hrc]; exact hp.1
  have h5 : A.slots + (headSpec ws rm).room.slots ≤ R.slots := by rw [show (headSpec ws rm).room.slots = ms from hrs]; exact hp.2.1
  have hPc : Pc a (A.U.calling g mk a) := hblind _ _ _ _ hp.2.2
  obtain ⟨U, Ls, c0, s0⟩ := A
  dsimp only [Pt.U, Pt.locs, Pt.cells, Pt.slots] at h1 h2 h3 h4 h5 X hn hPc ⊢
  obtain ⟨m9, methY, cY, hn9, hmY, hcY, -, hlY, -⟩ := Cond.codeWith_spec h2
  cases Option.some.inj (hn9.symm.trans hn)
  obtain ⟨kY, hkY, -⟩ := className_of_methodNamed hn
  have hinitY : kY.init = .initialized := Cond.initialized_spec (findClass_of_methodNamed hn) hkY h3
  have h : At U g.method c below := by rw [hg]; exact X.here
  have hlocals9 : W9 + (maxL + 11) + (headSpec ws rm).room.locals ≤ R.locals := hlocals
  have happ : (headSpec ws rm).appliesLoose y e.platform (U.calling g mk a) = true :=
    Spec.appliesLoose_calling (g := g) h hdg hn hkY hinitY
      (X.room_calling (g := g) (R' := (headSpec ws rm).room) hsize hmY hcY hframes (by rw [hlY]; omega) h4 h5) h1
  obtain ⟨mid, hmid⟩ := h.above
  have hfr : (U.setTop g).frames = (.java g :: mid) ++ below := by rw [State.frames_setTop' g h.top, hmid]; rfl
  obtain ⟨o, s₂, hsteps, -, hend, hq⟩ := Steps.callFree hM p X.admits X.cas X.clock (acts := []) hfr happ hPc trivial
  have hq' : vx_Q Qc XC mc ms free a (U.calling g mk a) o s₂ := hq
  rw [State.frames_setTop' g h.top] at hend
  obtain ⟨g₀, hg0⟩ := Option.isSome_iff_exists.mp h.top
  obtain ⟨r, hr⟩ := State.topJava?_eq_some.mp hg0
  have hr' : (({ U with heap := s₂.heap, slotsUsed := s₂.slotsUsed } : State).setVm s₂.vm).frames = .java g₀ :: r := hr
  rcases hq' with ⟨hqc, L, hfe, hL⟩ | ⟨q, rfl, E, ce, L, hx, hce, hcv, hcl, hW₂, hsm, hL⟩
  · obtain ⟨⟨v, rfl⟩, hW₂, e2, q2, q3, q4, q5, q6⟩ := id hfe
    have e3 : s₂ = ({ (U.calling g mk a).setFrames s₂.frames with heap := s₂.heap, slotsUsed := s₂.slotsUsed } : State).setVm s₂.vm := by
      have : s₂ = ({ s₂ with vm := (U.calling g mk a).vm } : State).setVm s₂.vm := rfl
      rw [e2] at this
      exact this
    obtain ⟨c₂, i₂, len₂, hc₂, hd₂, hf₂⟩ := hend
    have hW' : U.WarmedH s₂.vm := hW₂
    have hcc : c₂ = c := by
      have h1 : s₂.code? g.method = U.code? g.method := by
        rw [State.code?_eq, State.code?_eq, hW'.alike.method?]
      exact Option.some.inj (hc₂.symm.trans (h1.trans h.code))
    subst hcc
    have hlen : len₂ = len := by rw [hdg] at hd₂; cases hd₂; rfl
    subst hlen
    have hs₂ : s₂ = (({ U with heap := s₂.heap, slotsUsed := s₂.slotsUsed } : State).setVm s₂.vm).setTop { g with pc := g.pc + len₂, stack := v.toList ++ g.stack } := by
      refine e3.trans ?_
      rw [hf₂, State.calling_eq h.top, State.setFrames_setFrames, State.setTop_of_frames _ hr', hr]
      rfl
    have hsame : U.sameButNew ({ U with heap := s₂.heap, slotsUsed := s₂.slotsUsed } : State) L mc ms := by
      refine ⟨?_, q2, q3, q4, q5, q6⟩
      obtain ⟨t, ht, -⟩ := State.frames_cons hr
      show ({ U with heap := s₂.heap, slotsUsed := s₂.slotsUsed } : State) = { U.setFrames U.frames with heap := s₂.heap, slotsUsed := s₂.slotsUsed }
      rw [State.setFrames_self ht]
    subst hg
    refine Or.inl ⟨v, ⟨(({ U with heap := s₂.heap, slotsUsed := s₂.slotsUsed } : State).setVm s₂.vm), Ls ++ L, c0 + mc, s0 + ms⟩,
      ⟨X.admits, X.cas, X.clock, X.frames, X.room, X.hears, X.method, X.code, (X.here.setHeapUsed s₂.heap s₂.slotsUsed).setVm hW'.alike, X.tail, State.WarmedH.trans X.warmed hW', X.limits, X.bytes, X.same.trans (hsame.setVm s.vm)⟩,
      ⟨g, mk, s₂, L, rfl, rfl, hqc, rfl, hL, rfl, rfl⟩, ?_⟩
    show Steps p.tables e below _ ((({ U with heap := s₂.heap, slotsUsed := s₂.slotsUsed } : State).setVm s₂.vm).setTop { g with pc := g.pc + len₂, stack := v.toList ++ g.stack })
    rw [← hs₂]
    exact hsteps
  · obtain ⟨e2, q2, q3, q4, q5, q6⟩ := id hsm
    have e3 : s₂ = ({ (U.calling g mk a).setFrames s₂.frames with heap := s₂.heap, slotsUsed := s₂.slotsUsed } : State).setVm s₂.vm := by
      have : s₂ = ({ s₂ with vm := (U.calling g mk a).vm } : State).setVm s₂.vm := rfl
      rw [e2] at this
      exact this
    have hf₂ : s₂.frames = .throwing q :: .java g :: U.frames.tail := hend
    have hW' : U.WarmedH s₂.vm := hW₂
    have hs₂ : s₂ = ((({ U with heap := s₂.heap, slotsUsed := s₂.slotsUsed } : State).setVm s₂.vm).setTop g).pushFrame (.throwing q) := by
      refine e3.trans ?_
      rw [hf₂, State.calling_eq h.top, State.setFrames_setFrames, State.pushFrame, State.frames_setTop _ hr', State.setTop_of_frames _ hr', State.setFrames_setFrames, hr]
      rfl
    have hsame : U.sameButNew ({ U with heap := s₂.heap, slotsUsed := s₂.slotsUsed } : State) L mc ms := by
      refine ⟨?_, q2, q3, q4, q5, q6⟩
      obtain ⟨t, ht, -⟩ := State.frames_cons hr
      show ({ U with heap := s₂.heap, slotsUsed := s₂.slotsUsed } : State) = { U.setFrames U.frames with heap := s₂.heap, slotsUsed := s₂.slotsUsed }
      rw [State.setFrames_self ht]
    subst hg
    refine Or.inr ⟨q, ⟨(({ U with heap := s₂.heap, slotsUsed := s₂.slotsUsed } : State).setVm s₂.vm), Ls ++ L, c0 + mc, s0 + ms⟩,
      ⟨X.admits, X.cas, X.clock, X.frames, X.room, X.hears, X.method, X.code, (X.here.setHeapUsed s₂.heap s₂.slotsUsed).setVm hW'.alike, X.tail, State.WarmedH.trans X.warmed hW', X.limits, X.bytes, X.same.trans (hsame.setVm s.vm)⟩,
      ⟨g, mk, s₂, L, E, ce, rfl, rfl, hx, hce, hcv, hcl, rfl, hL, rfl, rfl⟩, ?_⟩
    show Steps p.tables e below _ (((({ U with heap := s₂.heap, slotsUsed := s₂.slotsUsed } : State).setVm s₂.vm).setTop g).pushFrame (.throwing q))
    rw [← hs₂]
    exact hsteps
end
variable {p : Program} {l : Launch} {e : Env} {R : Room} {s : State} {m : MethodId} {args : Array Value} {below : List Frame} {meth : Method} {c : Code} {T : State} {H : Heap} {locs : List Loc} {cells slots : Nat}
theorem vx_callVX (X : Stand p l e R s m args below meth c T locs cells slots) (hexec : p.tables.exec = Jvm.exec) {own C : String} {index : Nat} {y : MethodName} {bytes : ByteArray} {maxL : Nat} {ret : Option FieldType} {hh : List (Nat × Nat × Nat × Nat)}
    (hown : s.vm.findClass own = some m.cls) (hlink : (Cond.methodLink own index y).before args s = true) (hinst : (Cond.instanceMethod y).before args s = true) (hsel : (Cond.selects C y y).before args s = true)
    (hcode : (Cond.codeWith y bytes maxL ret hh).before args s = true) (hy : y.cls ≠ "java/lang/invoke/MethodHandle" ∧ y.cls ≠ "java/lang/invoke/VarHandle")
    {W9 : Nat} {Pre : Pt → Array Value → Prop} {Post : Pt → Array Value → Option Value → Pt → Prop} {PostX : Pt → Array Value → Addr → Pt → Prop} (hK : vx_Back l R p e below s args y 3 W9 Pre Post PostX)
    {b : Addr} {cellB : Cell} (hcell : T.heap[b]? = some cellB) (hobj : cellB.vm.isStatics = false) (hcls : s.vm.findClass C = some cellB.cls)
    {g : JFrame} (hg : g.method = m) (hsize : g.locals.size = c.maxLocals) {argsL rest : List Value} (hlen : ∀ sig, parseMethodDescriptor y.desc = some sig → argsL.length = sig.parameters.length)
    (hstack : g.stack = argsL.reverse ++ .ref b :: rest) (hW : 2 * g.monitorRoom + (rest.map fun v => v.category).sum ≤ W9) (hdg : decode c.code g.pc = .ok (.invokevirtual index, 3))
    (hpre : ∀ vm₁, s.WarmedH vm₁ → Pre ⟨T.setVm vm₁, locs, cells, slots⟩ (Value.ref b :: argsL).toArray) :
    (∃ (v : Option Value) (vm₁ : Vm) (B : Pt), s.WarmedH vm₁ ∧ Stand p l e R s m args below meth c B.U B.locs B.cells B.slots ∧ Post ⟨T.setVm vm₁, locs, cells, slots⟩ (Value.ref b :: argsL).toArray v B ∧
      ∀ target, Steps p.tables e below (B.U.setTop { g with pc := g.pc + 3, stack := v.toList ++ rest }) target → Steps p.tables e below (T.setTop g) target) ∨
    (∃ (q : Addr) (vm₁ : Vm) (B : Pt), s.WarmedH vm₁ ∧ Stand p l e R s m args below meth c B.U B.locs B.cells B.slots ∧ PostX ⟨T.setVm vm₁, locs, cells, slots⟩ (Value.ref b :: argsL).toArray q B ∧
      Steps p.tables e below (T.setTop g) ((B.U.setTop { g with stack := rest }).pushFrame (.throwing q))) := by
  obtain ⟨mk, methM, hnamed, hmethM, hstM, habM⟩ := Cond.instanceMethod_spec hinst
  obtain ⟨m8, methM', cM, hn8, hmethM', -, -, -, -, -, -, hsigM⟩ := Cond.codeWith_spec hcode
  cases Option.some.inj (hn8.symm.trans hnamed)
  cases hmethM.symm.trans hmethM'
  obtain ⟨c2, r2, m2, q1, q2, q3, q4, kP, hkP, hkPi⟩ := Cond.selects_spec hsel
  cases hcls.symm.trans q1
  cases (State.methodFound?_of_named hnamed hy).symm.trans q2
  cases hnamed.symm.trans q3
  have hselP : selectMethod e.platform s.vm cellB.cls mk = .method mk := by rw [Launch.admits_selectMethod X.admits]; exact q4
  obtain ⟨vm₁, X₁, hstep₁⟩ := X.invokevirtual hexec hown hlink hnamed hmethM hstM hkP hkPi hy (a := b) (cell := cellB) hcell
    (fun z h => by rw [h] at hobj; cases hobj) hselP hmethM habM hkP hkPi (g := g) hg (argsL := argsL) (rest := rest) (hlen _ hsigM) hstack hdg
  rcases hK m meth c ⟨T.setVm vm₁, locs, cells, slots⟩ { g with stack := rest } (.invokevirtual index) mk (Value.ref b :: argsL).toArray X₁ hg hsize hdg hW (X₁.named hnamed) (hpre vm₁ X₁.warmed) with ⟨v, B, X', hpost, hsteps⟩ | ⟨q, B, X', hpost, hsteps⟩
  · exact Or.inl ⟨v, vm₁, B, X₁.warmed, X', hpost, fun target h => hstep₁ _ fun acts => by rw [doInvoke_state]; exact hsteps.trans h⟩
  · exact Or.inr ⟨q, vm₁, B, X₁.warmed, X', hpost, hstep₁ _ fun acts => by rw [doInvoke_state]; exact hsteps⟩
theorem vx_callSX (X : Stand p l e R s m args below meth c T locs cells slots) (hexec : p.tables.exec = Jvm.exec) {own : String} {index : Nat} {y : MethodName} {bytes : ByteArray} {maxL : Nat} {ret : Option FieldType} {hh : List (Nat × Nat × Nat × Nat)}
    (hown : s.vm.findClass own = some m.cls) (hlink : (Cond.methodLink own index y).before args s = true) (hstat : (Cond.static y).before args s = true) (hinit : (Cond.initialized y.cls).before args s = true)
    (hcode : (Cond.codeWith y bytes maxL ret hh).before args s = true) (hy : y.cls ≠ "java/lang/invoke/MethodHandle" ∧ y.cls ≠ "java/lang/invoke/VarHandle")
    {W9 : Nat} {Pre : Pt → Array Value → Prop} {Post : Pt → Array Value → Option Value → Pt → Prop} {PostX : Pt → Array Value → Addr → Pt → Prop} (hK : vx_Back l R p e below s args y 3 W9 Pre Post PostX)
    {g : JFrame} (hg : g.method = m) (hsize : g.locals.size = c.maxLocals) {argsL rest : List Value} (hlen : ∀ sig, parseMethodDescriptor y.desc = some sig → argsL.length = sig.parameters.length)
    (hstack : g.stack = argsL.reverse ++ rest) (hW : 2 * g.monitorRoom + (rest.map fun v => v.category).sum ≤ W9) (hdg : decode c.code g.pc = .ok (.invokestatic index, 3))
    (hpre : ∀ vm₁, s.WarmedH vm₁ → Pre ⟨T.setVm vm₁, locs, cells, slots⟩ argsL.toArray) :
    (∃ (v : Option Value) (vm₁ : Vm) (B : Pt), s.WarmedH vm₁ ∧ Stand p l e R s m args below meth c B.U B.locs B.cells B.slots ∧ Post ⟨T.setVm vm₁, locs, cells, slots⟩ argsL.toArray v B ∧
      ∀ target, Steps p.tables e below (B.U.setTop { g with pc := g.pc + 3, stack := v.toList ++ rest }) target → Steps p.tables e below (T.setTop g) target) ∨
    (∃ (q : Addr) (vm₁ : Vm) (B : Pt), s.WarmedH vm₁ ∧ Stand p l e R s m args below meth c B.U B.locs B.cells B.slots ∧ PostX ⟨T.setVm vm₁, locs, cells, slots⟩ argsL.toArray q B ∧
      Steps p.tables e below (T.setTop g) ((B.U.setTop { g with stack := rest }).pushFrame (.throwing q))) := by
  obtain ⟨mk, methM, cM, hnamed, hmethM, -, -, -, -, -, -, hsigM⟩ := Cond.codeWith_spec hcode
  have hstatic : methM.isStatic = true := Cond.static_spec hnamed hmethM hstat
  obtain ⟨kP, hkP, -⟩ := className_of_methodNamed hnamed
  have hinitP : kP.init = .initialized := Cond.initialized_spec (findClass_of_methodNamed hnamed) hkP hinit
  obtain ⟨vm₁, X₁, hstep₁⟩ := X.invokestatic hexec hown hlink hnamed hmethM hstatic hkP hinitP hy (g := g) hg (argsL := argsL) (rest := rest) (hlen _ hsigM) hstack hdg
  rcases hK m meth c ⟨T.setVm vm₁, locs, cells, slots⟩ { g with stack := rest } (.invokestatic index) mk argsL.toArray X₁ hg hsize hdg hW (X₁.named hnamed) (hpre vm₁ X₁.warmed) with ⟨v, B, X', hpost, hsteps⟩ | ⟨q, B, X', hpost, hsteps⟩
  · exact Or.inl ⟨v, vm₁, B, X₁.warmed, X', hpost, fun target h => hstep₁ _ fun acts => by rw [doInvoke_state]; exact hsteps.trans h⟩
  · exact Or.inr ⟨q, vm₁, B, X₁.warmed, X', hpost, hstep₁ _ fun acts => by rw [doInvoke_state]; exact hsteps⟩
theorem vx_callVW (X : Stand p l e R s m args below meth c T locs cells slots) (hexec : p.tables.exec = Jvm.exec) {own C : String} {index : Nat} {y : MethodName} {bytes : ByteArray} {maxL : Nat} {ret : Option FieldType} {hh : List (Nat × Nat × Nat × Nat)}
    (hown : s.vm.findClass own = some m.cls) (hlink : (Cond.methodLink own index y).before args s = true) (hinst : (Cond.instanceMethod y).before args s = true) (hsel : (Cond.selects C y y).before args s = true)
    (hcode : (Cond.codeWith y bytes maxL ret hh).before args s = true) (hy : y.cls ≠ "java/lang/invoke/MethodHandle" ∧ y.cls ≠ "java/lang/invoke/VarHandle")
    {W9 : Nat} {Pre : Pt → Array Value → Prop} {Post : Pt → Array Value → Option Value → Pt → Prop} (hK : Back l R p e below s args y 3 W9 Pre Post)
    {b : Addr} {cellB : Cell} (hcell : T.heap[b]? = some cellB) (hobj : cellB.vm.isStatics = false) (hcls : s.vm.findClass C = some cellB.cls)
    {g : JFrame} (hg : g.method = m) (hsize : g.locals.size = c.maxLocals) {argsL rest : List Value} (hlen : ∀ sig, parseMethodDescriptor y.desc = some sig → argsL.length = sig.parameters.length)
    (hstack : g.stack = argsL.reverse ++ .ref b :: rest) (hW : 2 * g.monitorRoom + (rest.map fun v => v.category).sum ≤ W9) (hdg : decode c.code g.pc = .ok (.invokevirtual index, 3))
    (hpre : ∀ vm₁, s.WarmedH vm₁ → Pre ⟨T.setVm vm₁, locs, cells, slots⟩ (Value.ref b :: argsL).toArray) :
    ∃ (v : Option Value) (vm₁ : Vm) (B : Pt), s.WarmedH vm₁ ∧ Stand p l e R s m args below meth c B.U B.locs B.cells B.slots ∧ Post ⟨T.setVm vm₁, locs, cells, slots⟩ (Value.ref b :: argsL).toArray v B ∧
      ∀ target, Steps p.tables e below (B.U.setTop { g with pc := g.pc + 3, stack := v.toList ++ rest }) target → Steps p.tables e below (T.setTop g) target := by
  obtain ⟨mk, methM, hnamed, hmethM, hstM, habM⟩ := Cond.instanceMethod_spec hinst
  obtain ⟨m8, methM', cM, hn8, hmethM', -, -, -, -, -, -, hsigM⟩ := Cond.codeWith_spec hcode
  cases Option.some.inj (hn8.symm.trans hnamed)
  cases hmethM.symm.trans hmethM'
  obtain ⟨c2, r2, m2, q1, q2, q3, q4, kP, hkP, hkPi⟩ := Cond.selects_spec hsel
  cases hcls.symm.trans q1
  cases (State.methodFound?_of_named hnamed hy).symm.trans q2
  cases hnamed.symm.trans q3
  have hselP : selectMethod e.platform s.vm cellB.cls mk = .method mk := by rw [Launch.admits_selectMethod X.admits]; exact q4
  obtain ⟨vm₁, X₁, hstep₁⟩ := X.invokevirtual hexec hown hlink hnamed hmethM hstM hkP hkPi hy (a := b) (cell := cellB) hcell
    (fun z h => by rw [h] at hobj; cases hobj) hselP hmethM habM hkP hkPi (g := g) hg (argsL := argsL) (rest := rest) (hlen _ hsigM) hstack hdg
  obtain ⟨v, B, X', hpost, hsteps⟩ := hK m meth c ⟨T.setVm vm₁, locs, cells, slots⟩ { g with stack := rest } (.invokevirtual index) mk (Value.ref b :: argsL).toArray X₁ hg hsize hdg hW (X₁.named hnamed) (hpre vm₁ X₁.warmed)
  exact ⟨v, vm₁, B, X₁.warmed, X', hpost, fun target h => hstep₁ _ fun acts => by rw [doInvoke_state]; exact hsteps.trans h⟩
abbrev vx_CVW (R : Room) (s : State) (args : Array Value) (own C : String) (index : Nat) (y : MethodName) (bytes : ByteArray) (maxL : Nat) (ret : Option FieldType) (hh : List (Nat × Nat × Nat × Nat)) (ws : List Cond) (rm : Room) (mc ms n : Nat) : Prop :=
  (rm.cells = mc ∧ rm.slots = ms ∧ rm.frames + 1 ≤ R.frames ∧ 8 + (maxL + 11) + rm.locals ≤ R.locals ∧ (∀ w ∈ ws, ∀ (a' : Array Value) (U : State), s.WarmedH U.vm → w.before a' U = true) ∧ Cond.codeWith y bytes maxL ret hh ∈ ws) ∧
  (Cond.codeWith y bytes maxL ret hh).before args s = true ∧ (Cond.initialized y.cls).before args s = true ∧ (y.cls ≠ "java/lang/invoke/MethodHandle" ∧ y.cls ≠ "java/lang/invoke/VarHandle") ∧
  (∀ sig, parseMethodDescriptor y.desc = some sig → n = sig.parameters.length) ∧ (Cond.methodLink own index y).before args s = true ∧ (Cond.instanceMethod y).before args s = true ∧ (Cond.selects C y y).before args s = true
theorem vx_cwVW {own C : String} {index maxL mc ms : Nat} {y : MethodName} {bytes : ByteArray} {ret : Option FieldType} {hh : List (Nat × Nat × Nat × Nat)} {Ts ws ws' : List Cond} {rm : Room} (n : Nat) (ht : ∀ w ∈ Ts, w.before args s = true) (hT : GoodIn Ts (wsV own index C y ws)) (hw : ws = Cond.codeWith y bytes maxL ret hh :: ws') (hrc : rm.cells = mc) (hrs : rm.slots = ms)
    (hd : y.cls = C ∧ y.cls ≠ "java/lang/invoke/MethodHandle" ∧ y.cls ≠ "java/lang/invoke/VarHandle" ∧ (parseMethodDescriptor y.desc).map (fun d => d.parameters.length) = some n) (hR : rm.frames + 1 ≤ R.frames ∧ 8 + (maxL + 11) + rm.locals ≤ R.locals) :
    vx_CVW R s args own C index y bytes maxL ret hh ws rm mc ms n := by
  obtain ⟨hC, hd⟩ := hd
  subst hC
  have ok : ∀ w ∈ wsV own index y.cls y ws, w.before args s = true := fun w h => ht w (hT w h).1
  have hG : GoodIn Ts ws := fun w h => hT w (by unfold wsV; exact List.mem_append_right _ h)
  have hc : Cond.codeWith y bytes maxL ret hh ∈ ws := by rw [hw]; exact List.mem_cons_self
  refine ⟨⟨hrc, hrs, hR.1, hR.2, pay_in ht hG, hc⟩, ht _ (hG _ hc).1, ok _ (by simp [wsV]), ⟨hd.1, hd.2.1⟩, fun sig h => ?_, ok _ (by simp [wsV]), ok _ (by simp [wsV]), ok _ (by simp [wsV])⟩
  have h2 := hd.2.2
  rw [h] at h2
  exact (Option.some.inj h2).symm
theorem vx_runVW {y : MethodName} {bytes cc : ByteArray} {maxL nL mc ms n index : Nat} {ret : Option FieldType} {hh : List (Nat × Nat × Nat × Nat)} {ws : List Cond} {rm : Room} {Pc : Array Value → State → Prop} {Qc : Array Value → State → Outcome → State → Prop} {free : Addr → Prop} {Ts : List Cond} {own C : String} {b : Addr} {As rest : List Value} {g : JFrame}
    (S : CallFix p m c cc nL s args Ts own) (hM : Met l y ws rm Pc Qc mc ms free) (cw : vx_CVW R s args own C index y bytes maxL ret hh ws rm mc ms n) (hp : PreV s H C b Pc As)
    (hg : g.method = m) (hn : As.length = n) (hsize : g.locals.size = nL) (hstack : g.stack = As.reverse ++ .ref b :: rest) (hW : 2 * g.monitorRoom + (rest.map fun v => v.category).sum ≤ 8) (hdg : decode cc g.pc = .ok (.invokevirtual index, 3)) (hf : cells + mc ≤ R.cells ∧ slots + ms ≤ R.slots) :
    va_Run p l e R s m args below meth c H locs cells slots mc ms g rest (Qc (Value.ref b :: As).toArray) free := by
  obtain ⟨⟨hrc, hrs, hfr, hlo, hws, hcw⟩, hcode, hini, hy, hlen, hl, hin, hse⟩ := cw
  have hK : Back l R p e below s args y 3 8 (PreOf R mc ms Pc) (PostOf Qc mc ms free) := va_backW (hh := hh) (bytes := bytes) (maxL := maxL) (ret := ret) hM hp.1 hrc hrs hfr hlo hws hcw (fun a' U hW => word_at hW (Or.inl (by first | rfl | simp [Cond.onTables, Cond.keeps, Cond.steady])) hini)
  obtain ⟨hx, hb, hml, ho, -⟩ := S
  obtain ⟨-, ⟨cellB, hcB, hoB, hclB⟩, hPc⟩ := hp
  intro T hT X
  obtain ⟨v, vm₁, ⟨U', l2, c2, s2⟩, hW₁, X', ⟨g', mk, t, L, e1, e2, hq, h1, hL, h2, h3⟩, st⟩ := vx_callVW X hx (C := C) (hh := hh) (bytes := bytes) (maxL := maxL) (ret := ret) ho hl hin hse hcode hy hK (by rw [hT]; exact hcB) hoB hclB hg (hsize.trans hml.symm) (argsL := As) (rest := rest) (fun sig h => hn.trans (hlen sig h)) hstack hW (by rw [hb]; exact hdg)
    (fun vm₁ hW₁ => ⟨hf.1, hf.2, hPc (T.setVm vm₁) hT hW₁⟩)
  dsimp only [Pt.U, Pt.locs, Pt.cells, Pt.slots] at X' e1 e2 h1 h2 h3 st
  subst h1; subst h2; subst h3
  exact ⟨v, (T.setVm vm₁).calling g' mk (Value.ref b :: As).toArray, t, U', L, hT, X', hL, e1, e2, hq, st⟩
section
variable {y : MethodName} {bytes cc : ByteArray} {maxL nL mc ms n index : Nat} {ret : Option FieldType} {ws : List Cond} {rm : Room} {Pc : Array Value → State → Prop} {Qc : Array Value → State → Outcome → State → Prop} {XC : String → State → State → Prop} {free : Addr → Prop} {Ts : List Cond} {own C : String} {b : Addr} {As rest : List Value} {g : JFrame}
theorem vx_runVX {hh : List (Nat × Nat × Nat × Nat)} (S : CallFix p m c cc nL s args Ts own) (hM : vx_Met l y ws rm Pc Qc XC mc ms free) (cw : vx_CVW R s args own C index y bytes maxL ret hh ws rm mc ms n) (hp : PreV s H C b Pc As)
    (hg : g.method = m) (hn : As.length = n) (hsize : g.locals.size = nL) (hstack : g.stack = As.reverse ++ .ref b :: rest) (hW : 2 * g.monitorRoom + (rest.map fun v => v.category).sum ≤ 8) (hdg : decode cc g.pc = .ok (.invokevirtual index, 3)) (hf : cells + mc ≤ R.cells ∧ slots + ms ≤ R.slots) :
    vx_Run p l e R s m args below meth c H locs cells slots mc ms g rest (Qc (Value.ref b :: As).toArray) XC free := by
  obtain ⟨⟨hrc, hrs, hfr, hlo, hws, hcw⟩, hcode, hini, hy, hlen, hl, hin, hse⟩ := cw
  have hK : vx_Back l R p e below s args y 3 8 (PreOf R mc ms Pc) (PostOf Qc mc ms free) (vx_Post XC mc ms free) := vx_backW (hh := hh) (bytes := bytes) (maxL := maxL) (ret := ret) hM hp.1 hrc hrs hfr hlo hws hcw (fun a' U hW => word_at hW (Or.inl (by first | rfl | simp [Cond.onTables, Cond.keeps, Cond.steady])) hini)
  obtain ⟨hx, hb, hml, ho, -⟩ := S
  obtain ⟨-, ⟨cellB, hcB, hoB, hclB⟩, hPc⟩ := hp
  intro T hT X
  rcases vx_callVX X hx (C := C) (hh := hh) (bytes := bytes) (maxL := maxL) (ret := ret) ho hl hin hse hcode hy hK (by rw [hT]; exact hcB) hoB hclB hg (hsize.trans hml.symm) (argsL := As) (rest := rest) (fun sig h => hn.trans (hlen sig h)) hstack hW (by rw [hb]; exact hdg)
    (fun vm₁ hW₁ => ⟨hf.1, hf.2, hPc (T.setVm vm₁) hT hW₁⟩) with ⟨v, vm₁, ⟨U', l2, c2, s2⟩, hW₁, X', ⟨g', mk, t, L, e1, e2, hq, h1, hL, h2, h3⟩, st⟩ | ⟨q, vm₁, ⟨U', l2, c2, s2⟩, hW₁, X', ⟨g', mk, t, L, E, ce, e1, e2, hq, hce, hcv, hcl, h1, hL, h2, h3⟩, st⟩
  · dsimp only [Pt.U, Pt.locs, Pt.cells, Pt.slots] at X' e1 e2 h1 h2 h3 st
    subst h1; subst h2; subst h3
    exact Or.inl ⟨v, (T.setVm vm₁).calling g' mk (Value.ref b :: As).toArray, t, U', L, hT, X', hL, e1, e2, hq, st⟩
  · dsimp only [Pt.U, Pt.locs, Pt.cells, Pt.slots] at X' e1 e2 h1 h2 h3 st hcl
    subst h1; subst h2; subst h3
    exact Or.inr ⟨q, (T.setVm vm₁).calling g' mk (Value.ref b :: As).toArray, t, U', L, E, ce, hT, X', hL, e1, e2, hq, hce, hcv, vx_cls hW₁ hcl, st⟩
theorem vx_runSX {hh : List (Nat × Nat × Nat × Nat)} (S : CallFix p m c cc nL s args Ts own) (hM : vx_Met l y ws rm Pc Qc XC mc ms free) (cw : vx_CSW R s args own index y bytes maxL ret hh ws rm mc ms n) (hp : PreS s H Pc As)
    (hg : g.method = m) (hn : As.length = n) (hsize : g.locals.size = nL) (hstack : g.stack = As.reverse ++ rest) (hW : 2 * g.monitorRoom + (rest.map fun v => v.category).sum ≤ 8) (hdg : decode cc g.pc = .ok (.invokestatic index, 3)) (hf : cells + mc ≤ R.cells ∧ slots + ms ≤ R.slots) :
    vx_Run p l e R s m args below meth c H locs cells slots mc ms g rest (Qc As.toArray) XC free := by
  obtain ⟨⟨hrc, hrs, hfr, hlo, hws, hcw⟩, hcode, hini, hy, hlen, hl, hstt⟩ := cw
  have hK : vx_Back l R p e below s args y 3 8 (PreOf R mc ms Pc) (PostOf Qc mc ms free) (vx_Post XC mc ms free) := vx_backW (hh := hh) (bytes := bytes) (maxL := maxL) (ret := ret) hM hp.1 hrc hrs hfr hlo hws hcw (fun a' U hW => word_at hW (Or.inl (by first | rfl | simp [Cond.onTables, Cond.keeps, Cond.steady])) hini)
  obtain ⟨hx, hb, hml, ho, -⟩ := S
  intro T hT X
  rcases vx_callSX X hx (hh := hh) (bytes := bytes) (maxL := maxL) (ret := ret) ho hl hstt hini hcode hy hK hg (hsize.trans hml.symm) (argsL := As) (rest := rest) (fun sig h => hn.trans (hlen sig h)) hstack hW (by rw [hb]; exact hdg)
    (fun vm₁ hW₁ => ⟨hf.1, hf.2, hp.2 (T.setVm vm₁) hT hW₁⟩) with ⟨v, vm₁, ⟨U', l2, c2, s2⟩, hW₁, X', ⟨g', mk, t, L, e1, e2, hq, h1, hL, h2, h3⟩, st⟩ | ⟨q, vm₁, ⟨U', l2, c2, s2⟩, hW₁, X', ⟨g', mk, t, L, E, ce, e1, e2, hq, hce, hcv, hcl, h1, hL, h2, h3⟩, st⟩
  · dsimp only [Pt.U, Pt.locs, Pt.cells, Pt.slots] at X' e1 e2 h1 h2 h3 st
    subst h1; subst h2; subst h3
    exact Or.inl ⟨v, (T.setVm vm₁).calling g' mk As.toArray, t, U', L, hT, X', hL, e1, e2, hq, st⟩
  · dsimp only [Pt.U, Pt.locs, Pt.cells, Pt.slots] at X' e1 e2 h1 h2 h3 st hcl
    subst h1; subst h2; subst h3
    exact Or.inr ⟨q, (T.setVm vm₁).calling g' mk As.toArray, t, U', L, E, ce, hT, X', hL, e1, e2, hq, hce, hcv, vx_cls hW₁ hcl, st⟩
end
end VXH
theorem vx_ofWH {l : Launch} {y : MethodName} {ws ws' : List Cond} {rm : Room} {Pc : Array Value → State → Prop} {Qc : Array Value → State → Outcome → State → Prop} {XC : String → State → State → Prop} {mc ms : Nat} {free : Addr → Prop} {cc : ByteArray} {maxL : Nat} {ret : Option FieldType} {hh : List (Nat × Nat × Nat × Nat)}
    (hy : plainName y.cls = true) (hw : ws = Cond.codeWith y cc maxL ret hh :: ws')
    (body : ∀ p e s m args below meth c s₁, BodyLoose p l y (headSpec ws rm) cc maxL ret e s m args below meth c s₁ → c.maxLocals = maxL → Pc args s →
      W p l e (headSpec ws rm).room s m args below meth c s.heap [] 0 0 (vx_MQ below Qc XC args s mc ms free) (entryFrame m args maxL)) : vx_Met l y ws rm Pc Qc XC mc ms free := by
  refine MetFree.of_bodyS (code := cc) (maxLocals := maxL) (ret := ret) hy ?_ ?_
  · intro args s m h hn
    obtain ⟨m9, meth, c, hn9, h1, h2, h3, h4, -, h5, h6, -⟩ := Cond.codeWith_spec (atoms_spec (ws := ws) h _ (by rw [hw]; exact List.mem_cons_self))
    cases hn.symm.trans hn9
    exact ⟨meth, c, h1, h2, h3, h4, h5, h6⟩
  · intro p e s m args below meth c s₁ B hml hP _
    have hh0 : s₁.heap = s.heap := by rw [B.state]; rfl
    obtain ⟨t, a1, o, b1, b2, b3⟩ := body p e s m args below meth c s₁ B hml hP s₁ hh0 (Stand.of_body B)
    exact ⟨t, o, a1, b1, b2, b3⟩
/-! ===== END ===== -/
end
section
/-! ===== BEGIN printed: names, fields, word lists, decode rows ===== -/
def RX0 : String := "ShardBallots"
def TX0 : u_T := fun k => match k with
  | 0 => ("ShardBallots", "rowTable", "[I", true)
  | 1 => ("ShardBallots", "memberCount", "I", false)
  | 2 => ("ShardBallots", "lastKeys", "[I", true)
  | 3 => ("ShardBallots", "homes", "[I", true)
  | 4 => ("ShardBallots", "targets", "[I", true)
  | 5 => ("ShardBallots", "rangeCount", "I", false)
  | 6 => ("ShardBallots", "roll", "[I", true)
  | 7 => ("ShardBallots", "rollLaid", "Z", false)
  | 8 => ("ShardBallots", "voteNumber", "I", false)
  | 9 => ("ShardBallots", "ballotKeys", "[I", true)
  | 10 => ("ShardBallots", "ballotVotes", "[I", true)
  | 11 => ("ShardBallots", "ballotAddresses", "[I", true)
  | 12 => ("ShardBallots", "ballotDistricts", "[I", true)
  | 13 => ("ShardBallots", "ballotStates", "[I", true)
  | 14 => ("ShardBallots", "ballotChoices", "[I", true)
  | _ => ("ShardBallots", "ballotCount", "I", false)
def tyX0 : Nat → FieldType := fun k => match k with
  | 0 => .array .int
  | 1 => .int
  | 2 => .array .int
  | 3 => .array .int
  | 4 => .array .int
  | 5 => .int
  | 6 => .array .int
  | 7 => .boolean
  | 8 => .int
  | 9 => .array .int
  | 10 => .array .int
  | 11 => .array .int
  | 12 => .array .int
  | 13 => .array .int
  | 14 => .array .int
  | _ => .int
abbrev wsX00 : List Cond := u_ws RX0 TX0 16
theorem nmX0 : ∀ a, a < 16 → ∀ b, b < 16 → a ≠ b → (TX0 a).2.1 ≠ (TX0 b).2.1 := by decide +kernel
theorem tyX0_ok : ∀ k, k < 16 → parseFieldDescriptor (TX0 k).2.2.1 = some (tyX0 k) := by decide +kernel
abbrev cX0_init : ByteArray := prog_1_method_1_code
def yX0_init : MethodName := ⟨RX0, "<init>", "()V"⟩
abbrev cX0_join : ByteArray := prog_1_method_2_code
def yX0_join : MethodName := ⟨RX0, "join", "(II)I"⟩
abbrev cX0_change : ByteArray := prog_1_method_3_code
def yX0_change : MethodName := ⟨RX0, "change", "(II)I"⟩
abbrev cX0_leave : ByteArray := prog_1_method_4_code
def yX0_leave : MethodName := ⟨RX0, "leave", "(I)I"⟩
abbrev cX0_address : ByteArray := prog_1_method_5_code
def yX0_address : MethodName := ⟨RX0, "address", "(I)I"⟩
abbrev cX0_inDistrict : ByteArray := prog_1_method_6_code
def yX0_inDistrict : MethodName := ⟨RX0, "inDistrict", "(I)I"⟩
abbrev cX0_split : ByteArray := prog_1_method_7_code
def yX0_split : MethodName := ⟨RX0, "split", "(I)I"⟩
abbrev cX0_merge : ByteArray := prog_1_method_8_code
def yX0_merge : MethodName := ⟨RX0, "merge", "(I)I"⟩
abbrev cX0_move : ByteArray := prog_1_method_9_code
def yX0_move : MethodName := ⟨RX0, "move", "(II)I"⟩
abbrev cX0_step : ByteArray := prog_1_method_10_code
def yX0_step : MethodName := ⟨RX0, "step", "(I)I"⟩
abbrev cX0_giveUp : ByteArray := prog_1_method_11_code
def yX0_giveUp : MethodName := ⟨RX0, "giveUp", "(I)I"⟩
abbrev cX0_ranges : ByteArray := prog_1_method_12_code
def yX0_ranges : MethodName := ⟨RX0, "ranges", "()I"⟩
abbrev cX0_rangeOf : ByteArray := prog_1_method_13_code
def yX0_rangeOf : MethodName := ⟨RX0, "rangeOf", "(I)I"⟩
abbrev cX0_shardOf : ByteArray := prog_1_method_14_code
def yX0_shardOf : MethodName := ⟨RX0, "shardOf", "(I)I"⟩
abbrev cX0_rows : ByteArray := prog_1_method_15_code
def yX0_rows : MethodName := ⟨RX0, "rows", "(I)I"⟩
abbrev cX0_fix : ByteArray := prog_1_method_16_code
def yX0_fix : MethodName := ⟨RX0, "fix", "()I"⟩
abbrev cX0_onRoll : ByteArray := prog_1_method_17_code
def yX0_onRoll : MethodName := ⟨RX0, "onRoll", "(I)I"⟩
abbrev cX0_send : ByteArray := prog_1_method_18_code
def yX0_send : MethodName := ⟨RX0, "send", "(I)I"⟩
abbrev cX0_sentTo : ByteArray := prog_1_method_19_code
def yX0_sentTo : MethodName := ⟨RX0, "sentTo", "(I)I"⟩
abbrev cX0_giveBack : ByteArray := prog_1_method_20_code
def yX0_giveBack : MethodName := ⟨RX0, "giveBack", "(II)I"⟩
abbrev cX0_stateOf : ByteArray := prog_1_method_21_code
def yX0_stateOf : MethodName := ⟨RX0, "stateOf", "(I)I"⟩
abbrev cX0_counted : ByteArray := prog_1_method_22_code
def yX0_counted : MethodName := ⟨RX0, "counted", "(II)I"⟩
abbrev cX0_close : ByteArray := prog_1_method_23_code
def yX0_close : MethodName := ⟨RX0, "close", "()I"⟩
abbrev cX0_rowOf : ByteArray := prog_1_method_24_code
def yX0_rowOf : MethodName := ⟨RX0, "rowOf", "(II)I"⟩
abbrev cX0_putRow : ByteArray := prog_1_method_25_code
def yX0_putRow : MethodName := ⟨RX0, "putRow", "(III)V"⟩
abbrev cX0_read : ByteArray := prog_1_method_26_code
def yX0_read : MethodName := ⟨RX0, "read", "(I)I"⟩
abbrev cX0_write : ByteArray := prog_1_method_27_code
def yX0_write : MethodName := ⟨RX0, "write", "(II)V"⟩
abbrev cX0_countRows : ByteArray := prog_1_method_28_code
def yX0_countRows : MethodName := ⟨RX0, "countRows", "(III)I"⟩
abbrev cX0_dropRows : ByteArray := prog_1_method_29_code
def yX0_dropRows : MethodName := ⟨RX0, "dropRows", "(II)V"⟩
abbrev cX0_lowestKeyNotBrought : ByteArray := prog_1_method_30_code
def yX0_lowestKeyNotBrought : MethodName := ⟨RX0, "lowestKeyNotBrought", "(I)I"⟩
abbrev cX0_districtOf : ByteArray := prog_1_method_31_code
def yX0_districtOf : MethodName := ⟨RX0, "districtOf", "(I)I"⟩
abbrev cX0_rangeHolding : ByteArray := prog_1_method_32_code
def yX0_rangeHolding : MethodName := ⟨RX0, "rangeHolding", "(I)I"⟩
abbrev cX0_homeOf : ByteArray := prog_1_method_33_code
def yX0_homeOf : MethodName := ⟨RX0, "homeOf", "(I)I"⟩
abbrev cX0_targetOf : ByteArray := prog_1_method_34_code
def yX0_targetOf : MethodName := ⟨RX0, "targetOf", "(I)I"⟩
abbrev cX0_isMoved : ByteArray := prog_1_method_35_code
def yX0_isMoved : MethodName := ⟨RX0, "isMoved", "(I)Z"⟩
abbrev cX0_firstKeyOf : ByteArray := prog_1_method_36_code
def yX0_firstKeyOf : MethodName := ⟨RX0, "firstKeyOf", "(I)I"⟩
abbrev cX0_lastKeyOf : ByteArray := prog_1_method_37_code
def yX0_lastKeyOf : MethodName := ⟨RX0, "lastKeyOf", "(I)I"⟩
abbrev cX0_insertCopyBehind : ByteArray := prog_1_method_38_code
def yX0_insertCopyBehind : MethodName := ⟨RX0, "insertCopyBehind", "(I)V"⟩
abbrev cX0_remove : ByteArray := prog_1_method_39_code
def yX0_remove : MethodName := ⟨RX0, "remove", "(I)V"⟩
abbrev cX0_copyRange : ByteArray := prog_1_method_40_code
def yX0_copyRange : MethodName := ⟨RX0, "copyRange", "(II)V"⟩
abbrev cX0_isOfOpenVote : ByteArray := prog_1_method_41_code
def yX0_isOfOpenVote : MethodName := ⟨RX0, "isOfOpenVote", "(I)Z"⟩
abbrev cX0_latestBallotTo : ByteArray := prog_1_method_42_code
def yX0_latestBallotTo : MethodName := ⟨RX0, "latestBallotTo", "(I)I"⟩
abbrev cX0_isKey : ByteArray := prog_1_method_43_code
def yX0_isKey : MethodName := ⟨RX0, "isKey", "(I)Z"⟩
abbrev cX0_isShard : ByteArray := prog_1_method_44_code
def yX0_isShard : MethodName := ⟨RX0, "isShard", "(I)Z"⟩
abbrev cX0_isRange : ByteArray := prog_1_method_45_code
def yX0_isRange : MethodName := ⟨RX0, "isRange", "(I)Z"⟩
abbrev cX0_isBallot : ByteArray := prog_1_method_46_code
def yX0_isBallot : MethodName := ⟨RX0, "isBallot", "(I)Z"⟩
abbrev cX0_isMember : ByteArray := prog_1_method_47_code
def yX0_isMember : MethodName := ⟨RX0, "isMember", "(I)Z"⟩
abbrev cX0_checkKey : ByteArray := prog_1_method_48_code
def yX0_checkKey : MethodName := ⟨RX0, "checkKey", "(I)V"⟩
abbrev cX0_checkShard : ByteArray := prog_1_method_49_code
def yX0_checkShard : MethodName := ⟨RX0, "checkShard", "(I)V"⟩
abbrev cX0_checkDistrict : ByteArray := prog_1_method_50_code
def yX0_checkDistrict : MethodName := ⟨RX0, "checkDistrict", "(I)V"⟩
abbrev cX0_checkRange : ByteArray := prog_1_method_51_code
def yX0_checkRange : MethodName := ⟨RX0, "checkRange", "(I)V"⟩
abbrev cX0_checkBallot : ByteArray := prog_1_method_52_code
def yX0_checkBallot : MethodName := ⟨RX0, "checkBallot", "(I)V"⟩
abbrev cX0_checkAddress : ByteArray := prog_1_method_53_code
def yX0_checkAddress : MethodName := ⟨RX0, "checkAddress", "(I)V"⟩
abbrev cX0_checkChoice : ByteArray := prog_1_method_54_code
def yX0_checkChoice : MethodName := ⟨RX0, "checkChoice", "(I)V"⟩
abbrev cX0_checkMember : ByteArray := prog_1_method_55_code
def yX0_checkMember : MethodName := ⟨RX0, "checkMember", "(I)V"⟩
abbrev cX0_checkMoved : ByteArray := prog_1_method_56_code
def yX0_checkMoved : MethodName := ⟨RX0, "checkMoved", "(I)V"⟩
def RX1 : String := "ShardBallotsModel"
def TX1 : u_T := fun k => match k with
  | 0 => ("ShardBallotsModel", "thrown", "I", false)
  | 1 => ("ShardBallotsModel", "row", "[I", true)
  | 2 => ("ShardBallotsModel", "members", "I", false)
  | 3 => ("ShardBallotsModel", "ranges", "I", false)
  | 4 => ("ShardBallotsModel", "first", "[I", true)
  | 5 => ("ShardBallotsModel", "shard", "[I", true)
  | 6 => ("ShardBallotsModel", "target", "[I", true)
  | 7 => ("ShardBallotsModel", "isBrought", "[Z", true)
  | 8 => ("ShardBallotsModel", "isLaid", "Z", false)
  | 9 => ("ShardBallotsModel", "vote", "I", false)
  | 10 => ("ShardBallotsModel", "roll", "[I", true)
  | 11 => ("ShardBallotsModel", "latest", "[I", true)
  | 12 => ("ShardBallotsModel", "ballots", "I", false)
  | 13 => ("ShardBallotsModel", "sentTo", "[I", true)
  | 14 => ("ShardBallotsModel", "state", "[I", true)
  | 15 => ("ShardBallotsModel", "itsVote", "[I", true)
  | 16 => ("ShardBallotsModel", "district", "[I", true)
  | _ => ("ShardBallotsModel", "counted", "[I", true)
def tyX1 : Nat → FieldType := fun k => match k with
  | 0 => .int
  | 1 => .array .int
  | 2 => .int
  | 3 => .int
  | 4 => .array .int
  | 5 => .array .int
  | 6 => .array .int
  | 7 => .array .boolean
  | 8 => .boolean
  | 9 => .int
  | 10 => .array .int
  | 11 => .array .int
  | 12 => .int
  | 13 => .array .int
  | 14 => .array .int
  | 15 => .array .int
  | 16 => .array .int
  | _ => .array .int
abbrev wsX10 : List Cond := u_ws RX1 TX1 18
theorem nmX1 : ∀ a, a < 18 → ∀ b, b < 18 → a ≠ b → (TX1 a).2.1 ≠ (TX1 b).2.1 := by decide +kernel
theorem tyX1_ok : ∀ k, k < 18 → parseFieldDescriptor (TX1 k).2.2.1 = some (tyX1 k) := by decide +kernel
abbrev cX1_init : ByteArray := prog_3_method_1_code
def yX1_init : MethodName := ⟨RX1, "<init>", "()V"⟩
abbrev cX1_thrown : ByteArray := prog_3_method_2_code
def yX1_thrown : MethodName := ⟨RX1, "thrown", "()I"⟩
abbrev cX1_in : ByteArray := prog_3_method_3_code
def yX1_in : MethodName := ⟨RX1, "in", "(III)Z"⟩
abbrev cX1_isKey : ByteArray := prog_3_method_4_code
def yX1_isKey : MethodName := ⟨RX1, "isKey", "(I)Z"⟩
abbrev cX1_isRange : ByteArray := prog_3_method_5_code
def yX1_isRange : MethodName := ⟨RX1, "isRange", "(I)Z"⟩
abbrev cX1_isShard : ByteArray := prog_3_method_6_code
def yX1_isShard : MethodName := ⟨RX1, "isShard", "(I)Z"⟩
abbrev cX1_isThere : ByteArray := prog_3_method_7_code
def yX1_isThere : MethodName := ⟨RX1, "isThere", "(I)Z"⟩
abbrev cX1_join : ByteArray := prog_3_method_8_code
def yX1_join : MethodName := ⟨RX1, "join", "(II)I"⟩
abbrev cX1_change : ByteArray := prog_3_method_9_code
def yX1_change : MethodName := ⟨RX1, "change", "(II)I"⟩
abbrev cX1_leave : ByteArray := prog_3_method_10_code
def yX1_leave : MethodName := ⟨RX1, "leave", "(I)I"⟩
abbrev cX1_asksKey : ByteArray := prog_3_method_11_code
def yX1_asksKey : MethodName := ⟨RX1, "asksKey", "(I)Z"⟩
abbrev cX1_address : ByteArray := prog_3_method_12_code
def yX1_address : MethodName := ⟨RX1, "address", "(I)I"⟩
abbrev cX1_inDistrict : ByteArray := prog_3_method_13_code
def yX1_inDistrict : MethodName := ⟨RX1, "inDistrict", "(I)I"⟩
abbrev cX1_behind : ByteArray := prog_3_method_14_code
def yX1_behind : MethodName := ⟨RX1, "behind", "(I)I"⟩
abbrev cX1_rangeAt : ByteArray := prog_3_method_15_code
def yX1_rangeAt : MethodName := ⟨RX1, "rangeAt", "(I)I"⟩
abbrev cX1_copies : ByteArray := prog_3_method_16_code
def yX1_copies : MethodName := ⟨RX1, "copies", "(II)V"⟩
abbrev cX1_split : ByteArray := prog_3_method_17_code
def yX1_split : MethodName := ⟨RX1, "split", "(I)I"⟩
abbrev cX1_merge : ByteArray := prog_3_method_18_code
def yX1_merge : MethodName := ⟨RX1, "merge", "(I)I"⟩
abbrev cX1_many : ByteArray := prog_3_method_19_code
def yX1_many : MethodName := ⟨RX1, "many", "(IZ)I"⟩
abbrev cX1_move : ByteArray := prog_3_method_20_code
def yX1_move : MethodName := ⟨RX1, "move", "(II)I"⟩
abbrev cX1_asksMoved : ByteArray := prog_3_method_21_code
def yX1_asksMoved : MethodName := ⟨RX1, "asksMoved", "(I)Z"⟩
abbrev cX1_step : ByteArray := prog_3_method_22_code
def yX1_step : MethodName := ⟨RX1, "step", "(I)I"⟩
abbrev cX1_giveUp : ByteArray := prog_3_method_23_code
def yX1_giveUp : MethodName := ⟨RX1, "giveUp", "(I)I"⟩
abbrev cX1_ranges : ByteArray := prog_3_method_24_code
def yX1_ranges : MethodName := ⟨RX1, "ranges", "()I"⟩
abbrev cX1_rangeOf : ByteArray := prog_3_method_25_code
def yX1_rangeOf : MethodName := ⟨RX1, "rangeOf", "(I)I"⟩
abbrev cX1_shardOf : ByteArray := prog_3_method_26_code
def yX1_shardOf : MethodName := ⟨RX1, "shardOf", "(I)I"⟩
abbrev cX1_rows : ByteArray := prog_3_method_27_code
def yX1_rows : MethodName := ⟨RX1, "rows", "(I)I"⟩
abbrev cX1_fix : ByteArray := prog_3_method_28_code
def yX1_fix : MethodName := ⟨RX1, "fix", "()I"⟩
abbrev cX1_onRoll : ByteArray := prog_3_method_29_code
def yX1_onRoll : MethodName := ⟨RX1, "onRoll", "(I)I"⟩
abbrev cX1_send : ByteArray := prog_3_method_30_code
def yX1_send : MethodName := ⟨RX1, "send", "(I)I"⟩
abbrev cX1_asksBallot : ByteArray := prog_3_method_31_code
def yX1_asksBallot : MethodName := ⟨RX1, "asksBallot", "(I)Z"⟩
abbrev cX1_sentTo : ByteArray := prog_3_method_32_code
def yX1_sentTo : MethodName := ⟨RX1, "sentTo", "(I)I"⟩
abbrev cX1_giveBack : ByteArray := prog_3_method_33_code
def yX1_giveBack : MethodName := ⟨RX1, "giveBack", "(II)I"⟩
abbrev cX1_stateOf : ByteArray := prog_3_method_34_code
def yX1_stateOf : MethodName := ⟨RX1, "stateOf", "(I)I"⟩
abbrev cX1_counted : ByteArray := prog_3_method_35_code
def yX1_counted : MethodName := ⟨RX1, "counted", "(II)I"⟩
abbrev cX1_close : ByteArray := prog_3_method_36_code
def yX1_close : MethodName := ⟨RX1, "close", "()I"⟩
def RJx145de : String := "java/io/Serializable"
def TJx145de : u_T := fun k => match k with
  | _ => ("", "", "", false)
def tyJx145de : Nat → FieldType := fun k => match k with
  | _ => .int
abbrev wsJx145de0 : List Cond := u_ws RJx145de TJx145de 0
theorem nmJx145de : ∀ a, a < 0 → ∀ b, b < 0 → a ≠ b → (TJx145de a).2.1 ≠ (TJx145de b).2.1 := by decide +kernel
theorem tyJx145de_ok : ∀ k, k < 0 → parseFieldDescriptor (TJx145de k).2.2.1 = some (tyJx145de k) := by decide +kernel
def RJ0 : String := "java/lang/String"
def TJ0 : u_T := fun k => match k with
  | _ => ("", "", "", false)
def tyJ0 : Nat → FieldType := fun k => match k with
  | _ => .int
abbrev wsJ00 : List Cond := u_ws RJ0 TJ0 0
theorem nmJ0 : ∀ a, a < 0 → ∀ b, b < 0 → a ≠ b → (TJ0 a).2.1 ≠ (TJ0 b).2.1 := by decide +kernel
theorem tyJ0_ok : ∀ k, k < 0 → parseFieldDescriptor (TJ0 k).2.2.1 = some (tyJ0 k) := by decide +kernel
def RJ7 : String := "java/util/Arrays"
def TJ7 : u_T := fun k => match k with
  | _ => ("", "", "", false)
def tyJ7 : Nat → FieldType := fun k => match k with
  | _ => .int
abbrev wsJ70 : List Cond := u_ws RJ7 TJ7 0
theorem nmJ7 : ∀ a, a < 0 → ∀ b, b < 0 → a ≠ b → (TJ7 a).2.1 ≠ (TJ7 b).2.1 := by decide +kernel
theorem tyJ7_ok : ∀ k, k < 0 → parseFieldDescriptor (TJ7 k).2.2.1 = some (tyJ7 k) := by decide +kernel
abbrev cJ7_fill_53178 : ByteArray := prog_11_method_103_code
def yJ7_fill_53178 : MethodName := ⟨RJ7, "fill", "([II)V"⟩
def RL : String := "ShardBallotsLaw"
abbrev cL_join : ByteArray := method_3_code
def yL_join : MethodName := ⟨RL, "join", "(LShardBallots;II[J)I"⟩
abbrev cL_change : ByteArray := method_4_code
def yL_change : MethodName := ⟨RL, "change", "(LShardBallots;II[J)I"⟩
abbrev cL_leave : ByteArray := method_5_code
def yL_leave : MethodName := ⟨RL, "leave", "(LShardBallots;I[J)I"⟩
abbrev cL_address : ByteArray := method_6_code
def yL_address : MethodName := ⟨RL, "address", "(LShardBallots;I[J)I"⟩
abbrev cL_inDistrict : ByteArray := method_7_code
def yL_inDistrict : MethodName := ⟨RL, "inDistrict", "(LShardBallots;I[J)I"⟩
abbrev cL_split : ByteArray := method_8_code
def yL_split : MethodName := ⟨RL, "split", "(LShardBallots;I[J)I"⟩
abbrev cL_merge : ByteArray := method_9_code
def yL_merge : MethodName := ⟨RL, "merge", "(LShardBallots;I[J)I"⟩
abbrev cL_move : ByteArray := method_10_code
def yL_move : MethodName := ⟨RL, "move", "(LShardBallots;II[J)I"⟩
abbrev cL_step : ByteArray := method_11_code
def yL_step : MethodName := ⟨RL, "step", "(LShardBallots;I[J)I"⟩
abbrev cL_giveUp : ByteArray := method_12_code
def yL_giveUp : MethodName := ⟨RL, "giveUp", "(LShardBallots;I[J)I"⟩
abbrev cL_rangeOf : ByteArray := method_13_code
def yL_rangeOf : MethodName := ⟨RL, "rangeOf", "(LShardBallots;I[J)I"⟩
abbrev cL_shardOf : ByteArray := method_14_code
def yL_shardOf : MethodName := ⟨RL, "shardOf", "(LShardBallots;I[J)I"⟩
abbrev cL_rows : ByteArray := method_15_code
def yL_rows : MethodName := ⟨RL, "rows", "(LShardBallots;I[J)I"⟩
abbrev cL_fix : ByteArray := method_16_code
def yL_fix : MethodName := ⟨RL, "fix", "(LShardBallots;[J)I"⟩
abbrev cL_onRoll : ByteArray := method_17_code
def yL_onRoll : MethodName := ⟨RL, "onRoll", "(LShardBallots;I[J)I"⟩
abbrev cL_send : ByteArray := method_18_code
def yL_send : MethodName := ⟨RL, "send", "(LShardBallots;I[J)I"⟩
abbrev cL_sentTo : ByteArray := method_19_code
def yL_sentTo : MethodName := ⟨RL, "sentTo", "(LShardBallots;I[J)I"⟩
abbrev cL_giveBack : ByteArray := method_20_code
def yL_giveBack : MethodName := ⟨RL, "giveBack", "(LShardBallots;II[J)I"⟩
abbrev cL_stateOf : ByteArray := method_21_code
def yL_stateOf : MethodName := ⟨RL, "stateOf", "(LShardBallots;I[J)I"⟩
abbrev cL_counted : ByteArray := method_22_code
def yL_counted : MethodName := ⟨RL, "counted", "(LShardBallots;II[J)I"⟩
abbrev cL_close : ByteArray := method_23_code
def yL_close : MethodName := ⟨RL, "close", "(LShardBallots;[J)I"⟩
abbrev cL_law : ByteArray := code
def yL_law : MethodName := ⟨RL, "law", "([I)Z"⟩
def wsJ7_fill_53178 : List Cond := .code yJ7_fill_53178 cJ7_fill_53178 4 none :: ([])
def wsX0_init : List Cond := .code yX0_init cX0_init 1 none :: ([.methodLink RX0 1 objectInit, .instanceMethod objectInit, .code objectInit ⟨#[0xb1]⟩ 1 none, .arrayClass .int, .fieldLink RX0 9 "ShardBallots" "rowTable" "[I", .fieldLink RX0 13 "ShardBallots" "lastKeys" "[I", .fieldLink RX0 16 "ShardBallots" "homes" "[I", .fieldLink RX0 19 "ShardBallots" "targets" "[I", .fieldLink RX0 22 "ShardBallots" "roll" "[I", .fieldLink RX0 25 "ShardBallots" "ballotKeys" "[I", .fieldLink RX0 28 "ShardBallots" "ballotVotes" "[I", .fieldLink RX0 31 "ShardBallots" "ballotAddresses" "[I", .fieldLink RX0 34 "ShardBallots" "ballotDistricts" "[I", .fieldLink RX0 37 "ShardBallots" "ballotStates" "[I", .fieldLink RX0 40 "ShardBallots" "ballotChoices" "[I", .fieldLink RX0 49 "ShardBallots" "rangeCount" "I", .methodLink RX0 43 yJ7_fill_53178, .static yJ7_fill_53178, .initialized RJ7, .code yJ7_fill_53178 cJ7_fill_53178 4 none] ++ wsX00)
def wsX0_isKey : List Cond := .code yX0_isKey cX0_isKey 1 (some .boolean) :: ([])
def wsX0_checkKey : List Cond := .code yX0_checkKey cX0_checkKey 1 none :: ([.classLink RX0 211 "java/lang/IndexOutOfBoundsException", .initialized "java/lang/IndexOutOfBoundsException", .methodLink RX0 202 yX0_isKey, .static yX0_isKey, .initialized RX0, .code yX0_isKey cX0_isKey 1 (some .boolean)] ++ (vx_atS RX0 215 "java/lang/IndexOutOfBoundsException" ["java/lang/RuntimeException", "java/lang/Exception"]).filter goodWord)
def wsX0_checkAddress : List Cond := .code yX0_checkAddress cX0_checkAddress 1 none :: ([.classLink RX0 224 "java/lang/IllegalArgumentException", .initialized "java/lang/IllegalArgumentException"] ++ (vx_atS RX0 228 "java/lang/IllegalArgumentException" ["java/lang/RuntimeException", "java/lang/Exception"]).filter goodWord)
def wsX0_rangeHolding : List Cond := .code yX0_rangeHolding cX0_rangeHolding 4 (some .int) :: ([.fieldLink RX0 49 "ShardBallots" "rangeCount" "I", .fieldLink RX0 13 "ShardBallots" "lastKeys" "[I"] ++ wsX00)
def wsX0_isRange : List Cond := .code yX0_isRange cX0_isRange 2 (some .boolean) :: ([.fieldLink RX0 49 "ShardBallots" "rangeCount" "I"] ++ wsX00)
def wsX0_homeOf : List Cond := .code yX0_homeOf cX0_homeOf 2 (some .int) :: ([.fieldLink RX0 16 "ShardBallots" "homes" "[I", .methodLink RX0 114 yX0_isRange, .instanceMethod yX0_isRange, .selects RX0 yX0_isRange yX0_isRange, .initialized RX0, .code yX0_isRange cX0_isRange 2 (some .boolean), .fieldLink RX0 49 "ShardBallots" "rangeCount" "I"] ++ wsX00)
def wsX0_isShard : List Cond := .code yX0_isShard cX0_isShard 1 (some .boolean) :: ([])
def wsX0_rowOf : List Cond := .code yX0_rowOf cX0_rowOf 3 (some .int) :: ([.fieldLink RX0 9 "ShardBallots" "rowTable" "[I", .methodLink RX0 199 yX0_isShard, .static yX0_isShard, .initialized RX0, .code yX0_isShard cX0_isShard 1 (some .boolean), .methodLink RX0 202 yX0_isKey, .static yX0_isKey, .code yX0_isKey cX0_isKey 1 (some .boolean)] ++ wsX00)
def wsX0_read_r1 : List Cond := [Cond.methodLink RX0 93 yX0_rangeHolding, Cond.instanceMethod yX0_rangeHolding, Cond.selects RX0 yX0_rangeHolding yX0_rangeHolding, Cond.initialized RX0, Cond.code yX0_rangeHolding cX0_rangeHolding 4 (some .int), Cond.fieldLink RX0 49 "ShardBallots" "rangeCount" "I", Cond.fieldLink RX0 13 "ShardBallots" "lastKeys" "[I", Cond.methodLink RX0 119 yX0_homeOf, Cond.instanceMethod yX0_homeOf, Cond.selects RX0 yX0_homeOf yX0_homeOf, Cond.code yX0_homeOf cX0_homeOf 2 (some .int), Cond.fieldLink RX0 16 "ShardBallots" "homes" "[I", Cond.methodLink RX0 114 yX0_isRange, Cond.instanceMethod yX0_isRange, Cond.selects RX0 yX0_isRange yX0_isRange, Cond.code yX0_isRange cX0_isRange 2 (some .boolean), Cond.methodLink RX0 149 yX0_rowOf, Cond.instanceMethod yX0_rowOf, Cond.selects RX0 yX0_rowOf yX0_rowOf, Cond.code yX0_rowOf cX0_rowOf 3 (some .int), Cond.fieldLink RX0 9 "ShardBallots" "rowTable" "[I", Cond.methodLink RX0 199 yX0_isShard, Cond.static yX0_isShard, Cond.code yX0_isShard cX0_isShard 1 (some .boolean)]
def wsX0_read_r2 : List Cond := [Cond.methodLink RX0 202 yX0_isKey, Cond.static yX0_isKey, Cond.code yX0_isKey cX0_isKey 1 (some .boolean)]
def wsX0_read : List Cond := .code yX0_read cX0_read 2 (some .int) :: ((wsX0_read_r1 ++ wsX0_read_r2) ++ wsX00)
def wsX0_isMember_r1 : List Cond := [Cond.methodLink RX0 83 yX0_read, Cond.instanceMethod yX0_read, Cond.selects RX0 yX0_read yX0_read, Cond.initialized RX0, Cond.code yX0_read cX0_read 2 (some .int), Cond.methodLink RX0 93 yX0_rangeHolding, Cond.instanceMethod yX0_rangeHolding, Cond.selects RX0 yX0_rangeHolding yX0_rangeHolding, Cond.code yX0_rangeHolding cX0_rangeHolding 4 (some .int), Cond.fieldLink RX0 49 "ShardBallots" "rangeCount" "I", Cond.fieldLink RX0 13 "ShardBallots" "lastKeys" "[I", Cond.methodLink RX0 119 yX0_homeOf, Cond.instanceMethod yX0_homeOf, Cond.selects RX0 yX0_homeOf yX0_homeOf, Cond.code yX0_homeOf cX0_homeOf 2 (some .int), Cond.fieldLink RX0 16 "ShardBallots" "homes" "[I", Cond.methodLink RX0 114 yX0_isRange, Cond.instanceMethod yX0_isRange, Cond.selects RX0 yX0_isRange yX0_isRange, Cond.code yX0_isRange cX0_isRange 2 (some .boolean), Cond.methodLink RX0 149 yX0_rowOf, Cond.instanceMethod yX0_rowOf, Cond.selects RX0 yX0_rowOf yX0_rowOf, Cond.code yX0_rowOf cX0_rowOf 3 (some .int)]
def wsX0_isMember_r2 : List Cond := [Cond.fieldLink RX0 9 "ShardBallots" "rowTable" "[I", Cond.methodLink RX0 199 yX0_isShard, Cond.static yX0_isShard, Cond.code yX0_isShard cX0_isShard 1 (some .boolean), Cond.methodLink RX0 202 yX0_isKey, Cond.static yX0_isKey, Cond.code yX0_isKey cX0_isKey 1 (some .boolean)]
def wsX0_isMember : List Cond := .code yX0_isMember cX0_isMember 2 (some .boolean) :: ((wsX0_isMember_r1 ++ wsX0_isMember_r2) ++ wsX00)
def wsX0_putRow : List Cond := .code yX0_putRow cX0_putRow 4 none :: ([.fieldLink RX0 9 "ShardBallots" "rowTable" "[I", .methodLink RX0 199 yX0_isShard, .static yX0_isShard, .initialized RX0, .code yX0_isShard cX0_isShard 1 (some .boolean), .methodLink RX0 202 yX0_isKey, .static yX0_isKey, .code yX0_isKey cX0_isKey 1 (some .boolean)] ++ wsX00)
def wsX0_targetOf : List Cond := .code yX0_targetOf cX0_targetOf 2 (some .int) :: ([.fieldLink RX0 19 "ShardBallots" "targets" "[I", .methodLink RX0 114 yX0_isRange, .instanceMethod yX0_isRange, .selects RX0 yX0_isRange yX0_isRange, .initialized RX0, .code yX0_isRange cX0_isRange 2 (some .boolean), .fieldLink RX0 49 "ShardBallots" "rangeCount" "I"] ++ wsX00)
def wsX0_write_r1 : List Cond := [Cond.methodLink RX0 93 yX0_rangeHolding, Cond.instanceMethod yX0_rangeHolding, Cond.selects RX0 yX0_rangeHolding yX0_rangeHolding, Cond.initialized RX0, Cond.code yX0_rangeHolding cX0_rangeHolding 4 (some .int), Cond.fieldLink RX0 49 "ShardBallots" "rangeCount" "I", Cond.fieldLink RX0 13 "ShardBallots" "lastKeys" "[I", Cond.methodLink RX0 119 yX0_homeOf, Cond.instanceMethod yX0_homeOf, Cond.selects RX0 yX0_homeOf yX0_homeOf, Cond.code yX0_homeOf cX0_homeOf 2 (some .int), Cond.fieldLink RX0 16 "ShardBallots" "homes" "[I", Cond.methodLink RX0 114 yX0_isRange, Cond.instanceMethod yX0_isRange, Cond.selects RX0 yX0_isRange yX0_isRange, Cond.code yX0_isRange cX0_isRange 2 (some .boolean), Cond.methodLink RX0 153 yX0_putRow, Cond.instanceMethod yX0_putRow, Cond.selects RX0 yX0_putRow yX0_putRow, Cond.code yX0_putRow cX0_putRow 4 none, Cond.fieldLink RX0 9 "ShardBallots" "rowTable" "[I", Cond.methodLink RX0 199 yX0_isShard, Cond.static yX0_isShard, Cond.code yX0_isShard cX0_isShard 1 (some .boolean)]
def wsX0_write_r2 : List Cond := [Cond.methodLink RX0 202 yX0_isKey, Cond.static yX0_isKey, Cond.code yX0_isKey cX0_isKey 1 (some .boolean), Cond.methodLink RX0 205 yX0_targetOf, Cond.instanceMethod yX0_targetOf, Cond.selects RX0 yX0_targetOf yX0_targetOf, Cond.code yX0_targetOf cX0_targetOf 2 (some .int), Cond.fieldLink RX0 19 "ShardBallots" "targets" "[I"]
def wsX0_write : List Cond := .code yX0_write cX0_write 4 none :: ((wsX0_write_r1 ++ wsX0_write_r2) ++ wsX00)
def wsX0_join_r1 : List Cond := [Cond.classLink RX0 64 "java/lang/IllegalStateException", Cond.initialized "java/lang/IllegalStateException", Cond.fieldLink RX0 71 "ShardBallots" "memberCount" "I", Cond.methodLink RX0 53 yX0_checkKey, Cond.static yX0_checkKey, Cond.initialized RX0, Cond.code yX0_checkKey cX0_checkKey 1 none, Cond.classLink RX0 211 "java/lang/IndexOutOfBoundsException", Cond.initialized "java/lang/IndexOutOfBoundsException", Cond.methodLink RX0 202 yX0_isKey, Cond.static yX0_isKey, Cond.code yX0_isKey cX0_isKey 1 (some .boolean), Cond.methodLink RX0 57 yX0_checkAddress, Cond.static yX0_checkAddress, Cond.code yX0_checkAddress cX0_checkAddress 1 none, Cond.classLink RX0 224 "java/lang/IllegalArgumentException", Cond.initialized "java/lang/IllegalArgumentException", Cond.methodLink RX0 60 yX0_isMember, Cond.instanceMethod yX0_isMember, Cond.selects RX0 yX0_isMember yX0_isMember, Cond.code yX0_isMember cX0_isMember 2 (some .boolean), Cond.methodLink RX0 83 yX0_read, Cond.instanceMethod yX0_read, Cond.selects RX0 yX0_read yX0_read]
def wsX0_join_r2 : List Cond := [Cond.code yX0_read cX0_read 2 (some .int), Cond.methodLink RX0 93 yX0_rangeHolding, Cond.instanceMethod yX0_rangeHolding, Cond.selects RX0 yX0_rangeHolding yX0_rangeHolding, Cond.code yX0_rangeHolding cX0_rangeHolding 4 (some .int), Cond.fieldLink RX0 49 "ShardBallots" "rangeCount" "I", Cond.fieldLink RX0 13 "ShardBallots" "lastKeys" "[I", Cond.methodLink RX0 119 yX0_homeOf, Cond.instanceMethod yX0_homeOf, Cond.selects RX0 yX0_homeOf yX0_homeOf, Cond.code yX0_homeOf cX0_homeOf 2 (some .int), Cond.fieldLink RX0 16 "ShardBallots" "homes" "[I", Cond.methodLink RX0 114 yX0_isRange, Cond.instanceMethod yX0_isRange, Cond.selects RX0 yX0_isRange yX0_isRange, Cond.code yX0_isRange cX0_isRange 2 (some .boolean), Cond.methodLink RX0 149 yX0_rowOf, Cond.instanceMethod yX0_rowOf, Cond.selects RX0 yX0_rowOf yX0_rowOf, Cond.code yX0_rowOf cX0_rowOf 3 (some .int), Cond.fieldLink RX0 9 "ShardBallots" "rowTable" "[I", Cond.methodLink RX0 199 yX0_isShard, Cond.static yX0_isShard, Cond.code yX0_isShard cX0_isShard 1 (some .boolean)]
def wsX0_join_r3 : List Cond := [Cond.methodLink RX0 76 yX0_write, Cond.instanceMethod yX0_write, Cond.selects RX0 yX0_write yX0_write, Cond.code yX0_write cX0_write 4 none, Cond.methodLink RX0 153 yX0_putRow, Cond.instanceMethod yX0_putRow, Cond.selects RX0 yX0_putRow yX0_putRow, Cond.code yX0_putRow cX0_putRow 4 none, Cond.methodLink RX0 205 yX0_targetOf, Cond.instanceMethod yX0_targetOf, Cond.selects RX0 yX0_targetOf yX0_targetOf, Cond.code yX0_targetOf cX0_targetOf 2 (some .int), Cond.fieldLink RX0 19 "ShardBallots" "targets" "[I"]
def wsX0_join : List Cond := .code yX0_join cX0_join 3 (some .int) :: ((wsX0_join_r1 ++ (wsX0_join_r2 ++ wsX0_join_r3)) ++ wsX00 ++ (vx_atS RX0 68 "java/lang/IllegalStateException" ["java/lang/RuntimeException", "java/lang/Exception"]).filter goodWord ++ (vx_atS RX0 215 "java/lang/IndexOutOfBoundsException" ["java/lang/RuntimeException", "java/lang/Exception"]).filter goodWord ++ (vx_atS RX0 228 "java/lang/IllegalArgumentException" ["java/lang/RuntimeException", "java/lang/Exception"]).filter goodWord)
def wsX0_checkMember_r1 : List Cond := [Cond.classLink RX0 64 "java/lang/IllegalStateException", Cond.initialized "java/lang/IllegalStateException", Cond.methodLink RX0 60 yX0_isMember, Cond.instanceMethod yX0_isMember, Cond.selects RX0 yX0_isMember yX0_isMember, Cond.initialized RX0, Cond.code yX0_isMember cX0_isMember 2 (some .boolean), Cond.methodLink RX0 83 yX0_read, Cond.instanceMethod yX0_read, Cond.selects RX0 yX0_read yX0_read, Cond.code yX0_read cX0_read 2 (some .int), Cond.methodLink RX0 93 yX0_rangeHolding, Cond.instanceMethod yX0_rangeHolding, Cond.selects RX0 yX0_rangeHolding yX0_rangeHolding, Cond.code yX0_rangeHolding cX0_rangeHolding 4 (some .int), Cond.fieldLink RX0 49 "ShardBallots" "rangeCount" "I", Cond.fieldLink RX0 13 "ShardBallots" "lastKeys" "[I", Cond.methodLink RX0 119 yX0_homeOf, Cond.instanceMethod yX0_homeOf, Cond.selects RX0 yX0_homeOf yX0_homeOf, Cond.code yX0_homeOf cX0_homeOf 2 (some .int), Cond.fieldLink RX0 16 "ShardBallots" "homes" "[I", Cond.methodLink RX0 114 yX0_isRange, Cond.instanceMethod yX0_isRange]
def wsX0_checkMember_r2 : List Cond := [Cond.selects RX0 yX0_isRange yX0_isRange, Cond.code yX0_isRange cX0_isRange 2 (some .boolean), Cond.methodLink RX0 149 yX0_rowOf, Cond.instanceMethod yX0_rowOf, Cond.selects RX0 yX0_rowOf yX0_rowOf, Cond.code yX0_rowOf cX0_rowOf 3 (some .int), Cond.fieldLink RX0 9 "ShardBallots" "rowTable" "[I", Cond.methodLink RX0 199 yX0_isShard, Cond.static yX0_isShard, Cond.code yX0_isShard cX0_isShard 1 (some .boolean), Cond.methodLink RX0 202 yX0_isKey, Cond.static yX0_isKey, Cond.code yX0_isKey cX0_isKey 1 (some .boolean)]
def wsX0_checkMember : List Cond := .code yX0_checkMember cX0_checkMember 2 none :: ((wsX0_checkMember_r1 ++ wsX0_checkMember_r2) ++ wsX00 ++ (vx_atS RX0 68 "java/lang/IllegalStateException" ["java/lang/RuntimeException", "java/lang/Exception"]).filter goodWord)
def wsX0_change_r1 : List Cond := [Cond.methodLink RX0 53 yX0_checkKey, Cond.static yX0_checkKey, Cond.initialized RX0, Cond.code yX0_checkKey cX0_checkKey 1 none, Cond.classLink RX0 211 "java/lang/IndexOutOfBoundsException", Cond.initialized "java/lang/IndexOutOfBoundsException", Cond.methodLink RX0 202 yX0_isKey, Cond.static yX0_isKey, Cond.code yX0_isKey cX0_isKey 1 (some .boolean), Cond.methodLink RX0 57 yX0_checkAddress, Cond.static yX0_checkAddress, Cond.code yX0_checkAddress cX0_checkAddress 1 none, Cond.classLink RX0 224 "java/lang/IllegalArgumentException", Cond.initialized "java/lang/IllegalArgumentException", Cond.methodLink RX0 80 yX0_checkMember, Cond.instanceMethod yX0_checkMember, Cond.selects RX0 yX0_checkMember yX0_checkMember, Cond.code yX0_checkMember cX0_checkMember 2 none, Cond.classLink RX0 64 "java/lang/IllegalStateException", Cond.initialized "java/lang/IllegalStateException", Cond.methodLink RX0 60 yX0_isMember, Cond.instanceMethod yX0_isMember, Cond.selects RX0 yX0_isMember yX0_isMember, Cond.code yX0_isMember cX0_isMember 2 (some .boolean)]
def wsX0_change_r2 : List Cond := [Cond.methodLink RX0 83 yX0_read, Cond.instanceMethod yX0_read, Cond.selects RX0 yX0_read yX0_read, Cond.code yX0_read cX0_read 2 (some .int), Cond.methodLink RX0 93 yX0_rangeHolding, Cond.instanceMethod yX0_rangeHolding, Cond.selects RX0 yX0_rangeHolding yX0_rangeHolding, Cond.code yX0_rangeHolding cX0_rangeHolding 4 (some .int), Cond.fieldLink RX0 49 "ShardBallots" "rangeCount" "I", Cond.fieldLink RX0 13 "ShardBallots" "lastKeys" "[I", Cond.methodLink RX0 119 yX0_homeOf, Cond.instanceMethod yX0_homeOf, Cond.selects RX0 yX0_homeOf yX0_homeOf, Cond.code yX0_homeOf cX0_homeOf 2 (some .int), Cond.fieldLink RX0 16 "ShardBallots" "homes" "[I", Cond.methodLink RX0 114 yX0_isRange, Cond.instanceMethod yX0_isRange, Cond.selects RX0 yX0_isRange yX0_isRange, Cond.code yX0_isRange cX0_isRange 2 (some .boolean), Cond.methodLink RX0 149 yX0_rowOf, Cond.instanceMethod yX0_rowOf, Cond.selects RX0 yX0_rowOf yX0_rowOf, Cond.code yX0_rowOf cX0_rowOf 3 (some .int), Cond.fieldLink RX0 9 "ShardBallots" "rowTable" "[I"]
def wsX0_change_r3 : List Cond := [Cond.methodLink RX0 199 yX0_isShard, Cond.static yX0_isShard, Cond.code yX0_isShard cX0_isShard 1 (some .boolean), Cond.methodLink RX0 76 yX0_write, Cond.instanceMethod yX0_write, Cond.selects RX0 yX0_write yX0_write, Cond.code yX0_write cX0_write 4 none, Cond.methodLink RX0 153 yX0_putRow, Cond.instanceMethod yX0_putRow, Cond.selects RX0 yX0_putRow yX0_putRow, Cond.code yX0_putRow cX0_putRow 4 none, Cond.methodLink RX0 205 yX0_targetOf, Cond.instanceMethod yX0_targetOf, Cond.selects RX0 yX0_targetOf yX0_targetOf, Cond.code yX0_targetOf cX0_targetOf 2 (some .int), Cond.fieldLink RX0 19 "ShardBallots" "targets" "[I"]
def wsX0_change : List Cond := .code yX0_change cX0_change 4 (some .int) :: ((wsX0_change_r1 ++ (wsX0_change_r2 ++ wsX0_change_r3)) ++ wsX00 ++ (vx_atS RX0 215 "java/lang/IndexOutOfBoundsException" ["java/lang/RuntimeException", "java/lang/Exception"]).filter goodWord ++ (vx_atS RX0 228 "java/lang/IllegalArgumentException" ["java/lang/RuntimeException", "java/lang/Exception"]).filter goodWord ++ (vx_atS RX0 68 "java/lang/IllegalStateException" ["java/lang/RuntimeException", "java/lang/Exception"]).filter goodWord)
def wsX0_leave_r1 : List Cond := [Cond.fieldLink RX0 71 "ShardBallots" "memberCount" "I", Cond.methodLink RX0 53 yX0_checkKey, Cond.static yX0_checkKey, Cond.initialized RX0, Cond.code yX0_checkKey cX0_checkKey 1 none, Cond.classLink RX0 211 "java/lang/IndexOutOfBoundsException", Cond.initialized "java/lang/IndexOutOfBoundsException", Cond.methodLink RX0 202 yX0_isKey, Cond.static yX0_isKey, Cond.code yX0_isKey cX0_isKey 1 (some .boolean), Cond.methodLink RX0 80 yX0_checkMember, Cond.instanceMethod yX0_checkMember, Cond.selects RX0 yX0_checkMember yX0_checkMember, Cond.code yX0_checkMember cX0_checkMember 2 none, Cond.classLink RX0 64 "java/lang/IllegalStateException", Cond.initialized "java/lang/IllegalStateException", Cond.methodLink RX0 60 yX0_isMember, Cond.instanceMethod yX0_isMember, Cond.selects RX0 yX0_isMember yX0_isMember, Cond.code yX0_isMember cX0_isMember 2 (some .boolean), Cond.methodLink RX0 83 yX0_read, Cond.instanceMethod yX0_read, Cond.selects RX0 yX0_read yX0_read, Cond.code yX0_read cX0_read 2 (some .int)]
def wsX0_leave_r2 : List Cond := [Cond.methodLink RX0 93 yX0_rangeHolding, Cond.instanceMethod yX0_rangeHolding, Cond.selects RX0 yX0_rangeHolding yX0_rangeHolding, Cond.code yX0_rangeHolding cX0_rangeHolding 4 (some .int), Cond.fieldLink RX0 49 "ShardBallots" "rangeCount" "I", Cond.fieldLink RX0 13 "ShardBallots" "lastKeys" "[I", Cond.methodLink RX0 119 yX0_homeOf, Cond.instanceMethod yX0_homeOf, Cond.selects RX0 yX0_homeOf yX0_homeOf, Cond.code yX0_homeOf cX0_homeOf 2 (some .int), Cond.fieldLink RX0 16 "ShardBallots" "homes" "[I", Cond.methodLink RX0 114 yX0_isRange, Cond.instanceMethod yX0_isRange, Cond.selects RX0 yX0_isRange yX0_isRange, Cond.code yX0_isRange cX0_isRange 2 (some .boolean), Cond.methodLink RX0 149 yX0_rowOf, Cond.instanceMethod yX0_rowOf, Cond.selects RX0 yX0_rowOf yX0_rowOf, Cond.code yX0_rowOf cX0_rowOf 3 (some .int), Cond.fieldLink RX0 9 "ShardBallots" "rowTable" "[I", Cond.methodLink RX0 199 yX0_isShard, Cond.static yX0_isShard, Cond.code yX0_isShard cX0_isShard 1 (some .boolean), Cond.methodLink RX0 76 yX0_write]
def wsX0_leave_r3 : List Cond := [Cond.instanceMethod yX0_write, Cond.selects RX0 yX0_write yX0_write, Cond.code yX0_write cX0_write 4 none, Cond.methodLink RX0 153 yX0_putRow, Cond.instanceMethod yX0_putRow, Cond.selects RX0 yX0_putRow yX0_putRow, Cond.code yX0_putRow cX0_putRow 4 none, Cond.methodLink RX0 205 yX0_targetOf, Cond.instanceMethod yX0_targetOf, Cond.selects RX0 yX0_targetOf yX0_targetOf, Cond.code yX0_targetOf cX0_targetOf 2 (some .int), Cond.fieldLink RX0 19 "ShardBallots" "targets" "[I"]
def wsX0_leave : List Cond := .code yX0_leave cX0_leave 3 (some .int) :: ((wsX0_leave_r1 ++ (wsX0_leave_r2 ++ wsX0_leave_r3)) ++ wsX00 ++ (vx_atS RX0 215 "java/lang/IndexOutOfBoundsException" ["java/lang/RuntimeException", "java/lang/Exception"]).filter goodWord ++ (vx_atS RX0 68 "java/lang/IllegalStateException" ["java/lang/RuntimeException", "java/lang/Exception"]).filter goodWord)
def wsX0_address_r1 : List Cond := [Cond.methodLink RX0 53 yX0_checkKey, Cond.static yX0_checkKey, Cond.initialized RX0, Cond.code yX0_checkKey cX0_checkKey 1 none, Cond.classLink RX0 211 "java/lang/IndexOutOfBoundsException", Cond.initialized "java/lang/IndexOutOfBoundsException", Cond.methodLink RX0 202 yX0_isKey, Cond.static yX0_isKey, Cond.code yX0_isKey cX0_isKey 1 (some .boolean), Cond.methodLink RX0 83 yX0_read, Cond.instanceMethod yX0_read, Cond.selects RX0 yX0_read yX0_read, Cond.code yX0_read cX0_read 2 (some .int), Cond.methodLink RX0 93 yX0_rangeHolding, Cond.instanceMethod yX0_rangeHolding, Cond.selects RX0 yX0_rangeHolding yX0_rangeHolding, Cond.code yX0_rangeHolding cX0_rangeHolding 4 (some .int), Cond.fieldLink RX0 49 "ShardBallots" "rangeCount" "I", Cond.fieldLink RX0 13 "ShardBallots" "lastKeys" "[I", Cond.methodLink RX0 119 yX0_homeOf, Cond.instanceMethod yX0_homeOf, Cond.selects RX0 yX0_homeOf yX0_homeOf, Cond.code yX0_homeOf cX0_homeOf 2 (some .int), Cond.fieldLink RX0 16 "ShardBallots" "homes" "[I"]
def wsX0_address_r2 : List Cond := [Cond.methodLink RX0 114 yX0_isRange, Cond.instanceMethod yX0_isRange, Cond.selects RX0 yX0_isRange yX0_isRange, Cond.code yX0_isRange cX0_isRange 2 (some .boolean), Cond.methodLink RX0 149 yX0_rowOf, Cond.instanceMethod yX0_rowOf, Cond.selects RX0 yX0_rowOf yX0_rowOf, Cond.code yX0_rowOf cX0_rowOf 3 (some .int), Cond.fieldLink RX0 9 "ShardBallots" "rowTable" "[I", Cond.methodLink RX0 199 yX0_isShard, Cond.static yX0_isShard, Cond.code yX0_isShard cX0_isShard 1 (some .boolean)]
def wsX0_address : List Cond := .code yX0_address cX0_address 2 (some .int) :: ((wsX0_address_r1 ++ wsX0_address_r2) ++ wsX00 ++ (vx_atS RX0 215 "java/lang/IndexOutOfBoundsException" ["java/lang/RuntimeException", "java/lang/Exception"]).filter goodWord)
def wsX0_checkDistrict : List Cond := .code yX0_checkDistrict cX0_checkDistrict 1 none :: ([.classLink RX0 211 "java/lang/IndexOutOfBoundsException", .initialized "java/lang/IndexOutOfBoundsException"] ++ (vx_atS RX0 215 "java/lang/IndexOutOfBoundsException" ["java/lang/RuntimeException", "java/lang/Exception"]).filter goodWord)
def wsX0_districtOf : List Cond := .code yX0_districtOf cX0_districtOf 1 (some .int) :: ([])
def wsX0_inDistrict_r1 : List Cond := [Cond.methodLink RX0 87 yX0_checkDistrict, Cond.static yX0_checkDistrict, Cond.initialized RX0, Cond.code yX0_checkDistrict cX0_checkDistrict 1 none, Cond.classLink RX0 211 "java/lang/IndexOutOfBoundsException", Cond.initialized "java/lang/IndexOutOfBoundsException", Cond.methodLink RX0 83 yX0_read, Cond.instanceMethod yX0_read, Cond.selects RX0 yX0_read yX0_read, Cond.code yX0_read cX0_read 2 (some .int), Cond.methodLink RX0 93 yX0_rangeHolding, Cond.instanceMethod yX0_rangeHolding, Cond.selects RX0 yX0_rangeHolding yX0_rangeHolding, Cond.code yX0_rangeHolding cX0_rangeHolding 4 (some .int), Cond.fieldLink RX0 49 "ShardBallots" "rangeCount" "I", Cond.fieldLink RX0 13 "ShardBallots" "lastKeys" "[I", Cond.methodLink RX0 119 yX0_homeOf, Cond.instanceMethod yX0_homeOf, Cond.selects RX0 yX0_homeOf yX0_homeOf, Cond.code yX0_homeOf cX0_homeOf 2 (some .int), Cond.fieldLink RX0 16 "ShardBallots" "homes" "[I", Cond.methodLink RX0 114 yX0_isRange, Cond.instanceMethod yX0_isRange, Cond.selects RX0 yX0_isRange yX0_isRange]
def wsX0_inDistrict_r2 : List Cond := [Cond.code yX0_isRange cX0_isRange 2 (some .boolean), Cond.methodLink RX0 149 yX0_rowOf, Cond.instanceMethod yX0_rowOf, Cond.selects RX0 yX0_rowOf yX0_rowOf, Cond.code yX0_rowOf cX0_rowOf 3 (some .int), Cond.fieldLink RX0 9 "ShardBallots" "rowTable" "[I", Cond.methodLink RX0 199 yX0_isShard, Cond.static yX0_isShard, Cond.code yX0_isShard cX0_isShard 1 (some .boolean), Cond.methodLink RX0 202 yX0_isKey, Cond.static yX0_isKey, Cond.code yX0_isKey cX0_isKey 1 (some .boolean), Cond.methodLink RX0 90 yX0_districtOf, Cond.static yX0_districtOf, Cond.code yX0_districtOf cX0_districtOf 1 (some .int)]
def wsX0_inDistrict : List Cond := .code yX0_inDistrict cX0_inDistrict 4 (some .int) :: ((wsX0_inDistrict_r1 ++ wsX0_inDistrict_r2) ++ wsX00 ++ (vx_atS RX0 215 "java/lang/IndexOutOfBoundsException" ["java/lang/RuntimeException", "java/lang/Exception"]).filter goodWord)
def wsX0_lastKeyOf : List Cond := .code yX0_lastKeyOf cX0_lastKeyOf 2 (some .int) :: ([.fieldLink RX0 13 "ShardBallots" "lastKeys" "[I", .methodLink RX0 114 yX0_isRange, .instanceMethod yX0_isRange, .selects RX0 yX0_isRange yX0_isRange, .initialized RX0, .code yX0_isRange cX0_isRange 2 (some .boolean), .fieldLink RX0 49 "ShardBallots" "rangeCount" "I"] ++ wsX00)
def wsX0_isMoved : List Cond := .code yX0_isMoved cX0_isMoved 2 (some .boolean) :: ([.methodLink RX0 205 yX0_targetOf, .instanceMethod yX0_targetOf, .selects RX0 yX0_targetOf yX0_targetOf, .initialized RX0, .code yX0_targetOf cX0_targetOf 2 (some .int), .fieldLink RX0 19 "ShardBallots" "targets" "[I", .methodLink RX0 114 yX0_isRange, .instanceMethod yX0_isRange, .selects RX0 yX0_isRange yX0_isRange, .code yX0_isRange cX0_isRange 2 (some .boolean), .fieldLink RX0 49 "ShardBallots" "rangeCount" "I"] ++ wsX00)
def wsX0_copyRange : List Cond := .code yX0_copyRange cX0_copyRange 3 none :: ([.fieldLink RX0 13 "ShardBallots" "lastKeys" "[I", .fieldLink RX0 16 "ShardBallots" "homes" "[I", .fieldLink RX0 19 "ShardBallots" "targets" "[I"] ++ wsX00)
def wsX0_insertCopyBehind : List Cond := .code yX0_insertCopyBehind cX0_insertCopyBehind 3 none :: ([.fieldLink RX0 49 "ShardBallots" "rangeCount" "I", .methodLink RX0 208 yX0_copyRange, .instanceMethod yX0_copyRange, .selects RX0 yX0_copyRange yX0_copyRange, .initialized RX0, .code yX0_copyRange cX0_copyRange 3 none, .fieldLink RX0 13 "ShardBallots" "lastKeys" "[I", .fieldLink RX0 16 "ShardBallots" "homes" "[I", .fieldLink RX0 19 "ShardBallots" "targets" "[I"] ++ wsX00)
def wsX0_split_r1 : List Cond := [Cond.classLink RX0 64 "java/lang/IllegalStateException", Cond.initialized "java/lang/IllegalStateException", Cond.fieldLink RX0 49 "ShardBallots" "rangeCount" "I", Cond.fieldLink RX0 13 "ShardBallots" "lastKeys" "[I", Cond.methodLink RX0 53 yX0_checkKey, Cond.static yX0_checkKey, Cond.initialized RX0, Cond.code yX0_checkKey cX0_checkKey 1 none, Cond.classLink RX0 211 "java/lang/IndexOutOfBoundsException", Cond.initialized "java/lang/IndexOutOfBoundsException", Cond.methodLink RX0 202 yX0_isKey, Cond.static yX0_isKey, Cond.code yX0_isKey cX0_isKey 1 (some .boolean), Cond.methodLink RX0 93 yX0_rangeHolding, Cond.instanceMethod yX0_rangeHolding, Cond.selects RX0 yX0_rangeHolding yX0_rangeHolding, Cond.code yX0_rangeHolding cX0_rangeHolding 4 (some .int), Cond.methodLink RX0 96 yX0_lastKeyOf, Cond.instanceMethod yX0_lastKeyOf, Cond.selects RX0 yX0_lastKeyOf yX0_lastKeyOf, Cond.code yX0_lastKeyOf cX0_lastKeyOf 2 (some .int), Cond.methodLink RX0 114 yX0_isRange, Cond.instanceMethod yX0_isRange, Cond.selects RX0 yX0_isRange yX0_isRange]
def wsX0_split_r2 : List Cond := [Cond.code yX0_isRange cX0_isRange 2 (some .boolean), Cond.methodLink RX0 101 yX0_isMoved, Cond.instanceMethod yX0_isMoved, Cond.selects RX0 yX0_isMoved yX0_isMoved, Cond.code yX0_isMoved cX0_isMoved 2 (some .boolean), Cond.methodLink RX0 205 yX0_targetOf, Cond.instanceMethod yX0_targetOf, Cond.selects RX0 yX0_targetOf yX0_targetOf, Cond.code yX0_targetOf cX0_targetOf 2 (some .int), Cond.fieldLink RX0 19 "ShardBallots" "targets" "[I", Cond.methodLink RX0 108 yX0_insertCopyBehind, Cond.instanceMethod yX0_insertCopyBehind, Cond.selects RX0 yX0_insertCopyBehind yX0_insertCopyBehind, Cond.code yX0_insertCopyBehind cX0_insertCopyBehind 3 none, Cond.methodLink RX0 208 yX0_copyRange, Cond.instanceMethod yX0_copyRange, Cond.selects RX0 yX0_copyRange yX0_copyRange, Cond.code yX0_copyRange cX0_copyRange 3 none, Cond.fieldLink RX0 16 "ShardBallots" "homes" "[I"]
def wsX0_split : List Cond := .code yX0_split cX0_split 3 (some .int) :: ((wsX0_split_r1 ++ wsX0_split_r2) ++ wsX00 ++ (vx_atS RX0 68 "java/lang/IllegalStateException" ["java/lang/RuntimeException", "java/lang/Exception"]).filter goodWord ++ (vx_atS RX0 215 "java/lang/IndexOutOfBoundsException" ["java/lang/RuntimeException", "java/lang/Exception"]).filter goodWord)
def wsX0_checkRange : List Cond := .code yX0_checkRange cX0_checkRange 2 none :: ([.classLink RX0 211 "java/lang/IndexOutOfBoundsException", .initialized "java/lang/IndexOutOfBoundsException", .methodLink RX0 114 yX0_isRange, .instanceMethod yX0_isRange, .selects RX0 yX0_isRange yX0_isRange, .initialized RX0, .code yX0_isRange cX0_isRange 2 (some .boolean), .fieldLink RX0 49 "ShardBallots" "rangeCount" "I"] ++ wsX00 ++ (vx_atS RX0 215 "java/lang/IndexOutOfBoundsException" ["java/lang/RuntimeException", "java/lang/Exception"]).filter goodWord)
def wsX0_remove : List Cond := .code yX0_remove cX0_remove 3 none :: ([.fieldLink RX0 49 "ShardBallots" "rangeCount" "I", .methodLink RX0 208 yX0_copyRange, .instanceMethod yX0_copyRange, .selects RX0 yX0_copyRange yX0_copyRange, .initialized RX0, .code yX0_copyRange cX0_copyRange 3 none, .fieldLink RX0 13 "ShardBallots" "lastKeys" "[I", .fieldLink RX0 16 "ShardBallots" "homes" "[I", .fieldLink RX0 19 "ShardBallots" "targets" "[I"] ++ wsX00)
def wsX0_merge_r1 : List Cond := [Cond.classLink RX0 64 "java/lang/IllegalStateException", Cond.initialized "java/lang/IllegalStateException", Cond.fieldLink RX0 49 "ShardBallots" "rangeCount" "I", Cond.methodLink RX0 111 yX0_checkRange, Cond.instanceMethod yX0_checkRange, Cond.selects RX0 yX0_checkRange yX0_checkRange, Cond.initialized RX0, Cond.code yX0_checkRange cX0_checkRange 2 none, Cond.classLink RX0 211 "java/lang/IndexOutOfBoundsException", Cond.initialized "java/lang/IndexOutOfBoundsException", Cond.methodLink RX0 114 yX0_isRange, Cond.instanceMethod yX0_isRange, Cond.selects RX0 yX0_isRange yX0_isRange, Cond.code yX0_isRange cX0_isRange 2 (some .boolean), Cond.methodLink RX0 119 yX0_homeOf, Cond.instanceMethod yX0_homeOf, Cond.selects RX0 yX0_homeOf yX0_homeOf, Cond.code yX0_homeOf cX0_homeOf 2 (some .int), Cond.fieldLink RX0 16 "ShardBallots" "homes" "[I", Cond.methodLink RX0 101 yX0_isMoved, Cond.instanceMethod yX0_isMoved, Cond.selects RX0 yX0_isMoved yX0_isMoved, Cond.code yX0_isMoved cX0_isMoved 2 (some .boolean), Cond.methodLink RX0 205 yX0_targetOf]
def wsX0_merge_r2 : List Cond := [Cond.instanceMethod yX0_targetOf, Cond.selects RX0 yX0_targetOf yX0_targetOf, Cond.code yX0_targetOf cX0_targetOf 2 (some .int), Cond.fieldLink RX0 19 "ShardBallots" "targets" "[I", Cond.methodLink RX0 126 yX0_remove, Cond.instanceMethod yX0_remove, Cond.selects RX0 yX0_remove yX0_remove, Cond.code yX0_remove cX0_remove 3 none, Cond.methodLink RX0 208 yX0_copyRange, Cond.instanceMethod yX0_copyRange, Cond.selects RX0 yX0_copyRange yX0_copyRange, Cond.code yX0_copyRange cX0_copyRange 3 none, Cond.fieldLink RX0 13 "ShardBallots" "lastKeys" "[I"]
def wsX0_merge : List Cond := .code yX0_merge cX0_merge 3 (some .int) :: ((wsX0_merge_r1 ++ wsX0_merge_r2) ++ wsX00 ++ (vx_atS RX0 68 "java/lang/IllegalStateException" ["java/lang/RuntimeException", "java/lang/Exception"]).filter goodWord ++ (vx_atS RX0 215 "java/lang/IndexOutOfBoundsException" ["java/lang/RuntimeException", "java/lang/Exception"]).filter goodWord)
def wsX0_checkShard : List Cond := .code yX0_checkShard cX0_checkShard 1 none :: ([.classLink RX0 211 "java/lang/IndexOutOfBoundsException", .initialized "java/lang/IndexOutOfBoundsException", .methodLink RX0 199 yX0_isShard, .static yX0_isShard, .initialized RX0, .code yX0_isShard cX0_isShard 1 (some .boolean)] ++ (vx_atS RX0 215 "java/lang/IndexOutOfBoundsException" ["java/lang/RuntimeException", "java/lang/Exception"]).filter goodWord)
def wsX0_firstKeyOf : List Cond := .code yX0_firstKeyOf cX0_firstKeyOf 2 (some .int) :: ([.methodLink RX0 96 yX0_lastKeyOf, .instanceMethod yX0_lastKeyOf, .selects RX0 yX0_lastKeyOf yX0_lastKeyOf, .initialized RX0, .code yX0_lastKeyOf cX0_lastKeyOf 2 (some .int), .fieldLink RX0 13 "ShardBallots" "lastKeys" "[I", .methodLink RX0 114 yX0_isRange, .instanceMethod yX0_isRange, .selects RX0 yX0_isRange yX0_isRange, .code yX0_isRange cX0_isRange 2 (some .boolean), .fieldLink RX0 49 "ShardBallots" "rangeCount" "I"] ++ wsX00)
def wsX0_countRows : List Cond := .code yX0_countRows cX0_countRows 6 (some .int) :: ([.methodLink RX0 149 yX0_rowOf, .instanceMethod yX0_rowOf, .selects RX0 yX0_rowOf yX0_rowOf, .initialized RX0, .code yX0_rowOf cX0_rowOf 3 (some .int), .fieldLink RX0 9 "ShardBallots" "rowTable" "[I", .methodLink RX0 199 yX0_isShard, .static yX0_isShard, .code yX0_isShard cX0_isShard 1 (some .boolean), .methodLink RX0 202 yX0_isKey, .static yX0_isKey, .code yX0_isKey cX0_isKey 1 (some .boolean)] ++ wsX00)
def wsX0_move_r1 : List Cond := [Cond.classLink RX0 64 "java/lang/IllegalStateException", Cond.initialized "java/lang/IllegalStateException", Cond.fieldLink RX0 16 "ShardBallots" "homes" "[I", Cond.fieldLink RX0 19 "ShardBallots" "targets" "[I", Cond.methodLink RX0 111 yX0_checkRange, Cond.instanceMethod yX0_checkRange, Cond.selects RX0 yX0_checkRange yX0_checkRange, Cond.initialized RX0, Cond.code yX0_checkRange cX0_checkRange 2 none, Cond.classLink RX0 211 "java/lang/IndexOutOfBoundsException", Cond.initialized "java/lang/IndexOutOfBoundsException", Cond.methodLink RX0 114 yX0_isRange, Cond.instanceMethod yX0_isRange, Cond.selects RX0 yX0_isRange yX0_isRange, Cond.code yX0_isRange cX0_isRange 2 (some .boolean), Cond.fieldLink RX0 49 "ShardBallots" "rangeCount" "I", Cond.methodLink RX0 129 yX0_checkShard, Cond.static yX0_checkShard, Cond.code yX0_checkShard cX0_checkShard 1 none, Cond.methodLink RX0 199 yX0_isShard, Cond.static yX0_isShard, Cond.code yX0_isShard cX0_isShard 1 (some .boolean), Cond.methodLink RX0 101 yX0_isMoved, Cond.instanceMethod yX0_isMoved]
def wsX0_move_r2 : List Cond := [Cond.selects RX0 yX0_isMoved yX0_isMoved, Cond.code yX0_isMoved cX0_isMoved 2 (some .boolean), Cond.methodLink RX0 205 yX0_targetOf, Cond.instanceMethod yX0_targetOf, Cond.selects RX0 yX0_targetOf yX0_targetOf, Cond.code yX0_targetOf cX0_targetOf 2 (some .int), Cond.methodLink RX0 136 yX0_firstKeyOf, Cond.instanceMethod yX0_firstKeyOf, Cond.selects RX0 yX0_firstKeyOf yX0_firstKeyOf, Cond.code yX0_firstKeyOf cX0_firstKeyOf 2 (some .int), Cond.methodLink RX0 96 yX0_lastKeyOf, Cond.instanceMethod yX0_lastKeyOf, Cond.selects RX0 yX0_lastKeyOf yX0_lastKeyOf, Cond.code yX0_lastKeyOf cX0_lastKeyOf 2 (some .int), Cond.fieldLink RX0 13 "ShardBallots" "lastKeys" "[I", Cond.methodLink RX0 139 yX0_countRows, Cond.instanceMethod yX0_countRows, Cond.selects RX0 yX0_countRows yX0_countRows, Cond.code yX0_countRows cX0_countRows 6 (some .int), Cond.methodLink RX0 149 yX0_rowOf, Cond.instanceMethod yX0_rowOf, Cond.selects RX0 yX0_rowOf yX0_rowOf, Cond.code yX0_rowOf cX0_rowOf 3 (some .int), Cond.fieldLink RX0 9 "ShardBallots" "rowTable" "[I"]
def wsX0_move_r3 : List Cond := [Cond.methodLink RX0 202 yX0_isKey, Cond.static yX0_isKey, Cond.code yX0_isKey cX0_isKey 1 (some .boolean)]
def wsX0_move : List Cond := .code yX0_move cX0_move 3 (some .int) :: ((wsX0_move_r1 ++ (wsX0_move_r2 ++ wsX0_move_r3)) ++ wsX00 ++ (vx_atS RX0 68 "java/lang/IllegalStateException" ["java/lang/RuntimeException", "java/lang/Exception"]).filter goodWord ++ (vx_atS RX0 215 "java/lang/IndexOutOfBoundsException" ["java/lang/RuntimeException", "java/lang/Exception"]).filter goodWord)
def wsX0_checkMoved : List Cond := .code yX0_checkMoved cX0_checkMoved 2 none :: ([.classLink RX0 64 "java/lang/IllegalStateException", .initialized "java/lang/IllegalStateException", .methodLink RX0 101 yX0_isMoved, .instanceMethod yX0_isMoved, .selects RX0 yX0_isMoved yX0_isMoved, .initialized RX0, .code yX0_isMoved cX0_isMoved 2 (some .boolean), .methodLink RX0 205 yX0_targetOf, .instanceMethod yX0_targetOf, .selects RX0 yX0_targetOf yX0_targetOf, .code yX0_targetOf cX0_targetOf 2 (some .int), .fieldLink RX0 19 "ShardBallots" "targets" "[I", .methodLink RX0 114 yX0_isRange, .instanceMethod yX0_isRange, .selects RX0 yX0_isRange yX0_isRange, .code yX0_isRange cX0_isRange 2 (some .boolean), .fieldLink RX0 49 "ShardBallots" "rangeCount" "I"] ++ wsX00 ++ (vx_atS RX0 68 "java/lang/IllegalStateException" ["java/lang/RuntimeException", "java/lang/Exception"]).filter goodWord)
def wsX0_lowestKeyNotBrought_r1 : List Cond := [Cond.methodLink RX0 119 yX0_homeOf, Cond.instanceMethod yX0_homeOf, Cond.selects RX0 yX0_homeOf yX0_homeOf, Cond.initialized RX0, Cond.code yX0_homeOf cX0_homeOf 2 (some .int), Cond.fieldLink RX0 16 "ShardBallots" "homes" "[I", Cond.methodLink RX0 114 yX0_isRange, Cond.instanceMethod yX0_isRange, Cond.selects RX0 yX0_isRange yX0_isRange, Cond.code yX0_isRange cX0_isRange 2 (some .boolean), Cond.fieldLink RX0 49 "ShardBallots" "rangeCount" "I", Cond.methodLink RX0 205 yX0_targetOf, Cond.instanceMethod yX0_targetOf, Cond.selects RX0 yX0_targetOf yX0_targetOf, Cond.code yX0_targetOf cX0_targetOf 2 (some .int), Cond.fieldLink RX0 19 "ShardBallots" "targets" "[I", Cond.methodLink RX0 96 yX0_lastKeyOf, Cond.instanceMethod yX0_lastKeyOf, Cond.selects RX0 yX0_lastKeyOf yX0_lastKeyOf, Cond.code yX0_lastKeyOf cX0_lastKeyOf 2 (some .int), Cond.fieldLink RX0 13 "ShardBallots" "lastKeys" "[I", Cond.methodLink RX0 136 yX0_firstKeyOf, Cond.instanceMethod yX0_firstKeyOf, Cond.selects RX0 yX0_firstKeyOf yX0_firstKeyOf]
def wsX0_lowestKeyNotBrought_r2 : List Cond := [Cond.code yX0_firstKeyOf cX0_firstKeyOf 2 (some .int), Cond.methodLink RX0 149 yX0_rowOf, Cond.instanceMethod yX0_rowOf, Cond.selects RX0 yX0_rowOf yX0_rowOf, Cond.code yX0_rowOf cX0_rowOf 3 (some .int), Cond.fieldLink RX0 9 "ShardBallots" "rowTable" "[I", Cond.methodLink RX0 199 yX0_isShard, Cond.static yX0_isShard, Cond.code yX0_isShard cX0_isShard 1 (some .boolean), Cond.methodLink RX0 202 yX0_isKey, Cond.static yX0_isKey, Cond.code yX0_isKey cX0_isKey 1 (some .boolean)]
def wsX0_lowestKeyNotBrought : List Cond := .code yX0_lowestKeyNotBrought cX0_lowestKeyNotBrought 6 (some .int) :: ((wsX0_lowestKeyNotBrought_r1 ++ wsX0_lowestKeyNotBrought_r2) ++ wsX00)
def wsX0_dropRows_r1 : List Cond := [Cond.methodLink RX0 96 yX0_lastKeyOf, Cond.instanceMethod yX0_lastKeyOf, Cond.selects RX0 yX0_lastKeyOf yX0_lastKeyOf, Cond.initialized RX0, Cond.code yX0_lastKeyOf cX0_lastKeyOf 2 (some .int), Cond.fieldLink RX0 13 "ShardBallots" "lastKeys" "[I", Cond.methodLink RX0 114 yX0_isRange, Cond.instanceMethod yX0_isRange, Cond.selects RX0 yX0_isRange yX0_isRange, Cond.code yX0_isRange cX0_isRange 2 (some .boolean), Cond.fieldLink RX0 49 "ShardBallots" "rangeCount" "I", Cond.methodLink RX0 136 yX0_firstKeyOf, Cond.instanceMethod yX0_firstKeyOf, Cond.selects RX0 yX0_firstKeyOf yX0_firstKeyOf, Cond.code yX0_firstKeyOf cX0_firstKeyOf 2 (some .int), Cond.methodLink RX0 153 yX0_putRow, Cond.instanceMethod yX0_putRow, Cond.selects RX0 yX0_putRow yX0_putRow, Cond.code yX0_putRow cX0_putRow 4 none, Cond.fieldLink RX0 9 "ShardBallots" "rowTable" "[I", Cond.methodLink RX0 199 yX0_isShard, Cond.static yX0_isShard, Cond.code yX0_isShard cX0_isShard 1 (some .boolean), Cond.methodLink RX0 202 yX0_isKey]
def wsX0_dropRows_r2 : List Cond := [Cond.static yX0_isKey, Cond.code yX0_isKey cX0_isKey 1 (some .boolean)]
def wsX0_dropRows : List Cond := .code yX0_dropRows cX0_dropRows 5 none :: ((wsX0_dropRows_r1 ++ wsX0_dropRows_r2) ++ wsX00)
def wsX0_step_r1 : List Cond := [Cond.fieldLink RX0 16 "ShardBallots" "homes" "[I", Cond.fieldLink RX0 19 "ShardBallots" "targets" "[I", Cond.methodLink RX0 111 yX0_checkRange, Cond.instanceMethod yX0_checkRange, Cond.selects RX0 yX0_checkRange yX0_checkRange, Cond.initialized RX0, Cond.code yX0_checkRange cX0_checkRange 2 none, Cond.classLink RX0 211 "java/lang/IndexOutOfBoundsException", Cond.initialized "java/lang/IndexOutOfBoundsException", Cond.methodLink RX0 114 yX0_isRange, Cond.instanceMethod yX0_isRange, Cond.selects RX0 yX0_isRange yX0_isRange, Cond.code yX0_isRange cX0_isRange 2 (some .boolean), Cond.fieldLink RX0 49 "ShardBallots" "rangeCount" "I", Cond.methodLink RX0 143 yX0_checkMoved, Cond.instanceMethod yX0_checkMoved, Cond.selects RX0 yX0_checkMoved yX0_checkMoved, Cond.code yX0_checkMoved cX0_checkMoved 2 none, Cond.classLink RX0 64 "java/lang/IllegalStateException", Cond.initialized "java/lang/IllegalStateException", Cond.methodLink RX0 101 yX0_isMoved, Cond.instanceMethod yX0_isMoved, Cond.selects RX0 yX0_isMoved yX0_isMoved, Cond.code yX0_isMoved cX0_isMoved 2 (some .boolean)]
def wsX0_step_r2 : List Cond := [Cond.methodLink RX0 205 yX0_targetOf, Cond.instanceMethod yX0_targetOf, Cond.selects RX0 yX0_targetOf yX0_targetOf, Cond.code yX0_targetOf cX0_targetOf 2 (some .int), Cond.methodLink RX0 146 yX0_lowestKeyNotBrought, Cond.instanceMethod yX0_lowestKeyNotBrought, Cond.selects RX0 yX0_lowestKeyNotBrought yX0_lowestKeyNotBrought, Cond.code yX0_lowestKeyNotBrought cX0_lowestKeyNotBrought 6 (some .int), Cond.methodLink RX0 119 yX0_homeOf, Cond.instanceMethod yX0_homeOf, Cond.selects RX0 yX0_homeOf yX0_homeOf, Cond.code yX0_homeOf cX0_homeOf 2 (some .int), Cond.methodLink RX0 96 yX0_lastKeyOf, Cond.instanceMethod yX0_lastKeyOf, Cond.selects RX0 yX0_lastKeyOf yX0_lastKeyOf, Cond.code yX0_lastKeyOf cX0_lastKeyOf 2 (some .int), Cond.fieldLink RX0 13 "ShardBallots" "lastKeys" "[I", Cond.methodLink RX0 136 yX0_firstKeyOf, Cond.instanceMethod yX0_firstKeyOf, Cond.selects RX0 yX0_firstKeyOf yX0_firstKeyOf, Cond.code yX0_firstKeyOf cX0_firstKeyOf 2 (some .int), Cond.methodLink RX0 149 yX0_rowOf, Cond.instanceMethod yX0_rowOf, Cond.selects RX0 yX0_rowOf yX0_rowOf]
def wsX0_step_r3 : List Cond := [Cond.code yX0_rowOf cX0_rowOf 3 (some .int), Cond.fieldLink RX0 9 "ShardBallots" "rowTable" "[I", Cond.methodLink RX0 199 yX0_isShard, Cond.static yX0_isShard, Cond.code yX0_isShard cX0_isShard 1 (some .boolean), Cond.methodLink RX0 202 yX0_isKey, Cond.static yX0_isKey, Cond.code yX0_isKey cX0_isKey 1 (some .boolean), Cond.methodLink RX0 153 yX0_putRow, Cond.instanceMethod yX0_putRow, Cond.selects RX0 yX0_putRow yX0_putRow, Cond.code yX0_putRow cX0_putRow 4 none, Cond.methodLink RX0 157 yX0_dropRows, Cond.instanceMethod yX0_dropRows, Cond.selects RX0 yX0_dropRows yX0_dropRows, Cond.code yX0_dropRows cX0_dropRows 5 none]
def wsX0_step : List Cond := .code yX0_step cX0_step 5 (some .int) :: ((wsX0_step_r1 ++ (wsX0_step_r2 ++ wsX0_step_r3)) ++ wsX00 ++ (vx_atS RX0 215 "java/lang/IndexOutOfBoundsException" ["java/lang/RuntimeException", "java/lang/Exception"]).filter goodWord ++ (vx_atS RX0 68 "java/lang/IllegalStateException" ["java/lang/RuntimeException", "java/lang/Exception"]).filter goodWord)
def wsX0_giveUp_r1 : List Cond := [Cond.fieldLink RX0 19 "ShardBallots" "targets" "[I", Cond.methodLink RX0 111 yX0_checkRange, Cond.instanceMethod yX0_checkRange, Cond.selects RX0 yX0_checkRange yX0_checkRange, Cond.initialized RX0, Cond.code yX0_checkRange cX0_checkRange 2 none, Cond.classLink RX0 211 "java/lang/IndexOutOfBoundsException", Cond.initialized "java/lang/IndexOutOfBoundsException", Cond.methodLink RX0 114 yX0_isRange, Cond.instanceMethod yX0_isRange, Cond.selects RX0 yX0_isRange yX0_isRange, Cond.code yX0_isRange cX0_isRange 2 (some .boolean), Cond.fieldLink RX0 49 "ShardBallots" "rangeCount" "I", Cond.methodLink RX0 143 yX0_checkMoved, Cond.instanceMethod yX0_checkMoved, Cond.selects RX0 yX0_checkMoved yX0_checkMoved, Cond.code yX0_checkMoved cX0_checkMoved 2 none, Cond.classLink RX0 64 "java/lang/IllegalStateException", Cond.initialized "java/lang/IllegalStateException", Cond.methodLink RX0 101 yX0_isMoved, Cond.instanceMethod yX0_isMoved, Cond.selects RX0 yX0_isMoved yX0_isMoved, Cond.code yX0_isMoved cX0_isMoved 2 (some .boolean), Cond.methodLink RX0 205 yX0_targetOf]
def wsX0_giveUp_r2 : List Cond := [Cond.instanceMethod yX0_targetOf, Cond.selects RX0 yX0_targetOf yX0_targetOf, Cond.code yX0_targetOf cX0_targetOf 2 (some .int), Cond.methodLink RX0 136 yX0_firstKeyOf, Cond.instanceMethod yX0_firstKeyOf, Cond.selects RX0 yX0_firstKeyOf yX0_firstKeyOf, Cond.code yX0_firstKeyOf cX0_firstKeyOf 2 (some .int), Cond.methodLink RX0 96 yX0_lastKeyOf, Cond.instanceMethod yX0_lastKeyOf, Cond.selects RX0 yX0_lastKeyOf yX0_lastKeyOf, Cond.code yX0_lastKeyOf cX0_lastKeyOf 2 (some .int), Cond.fieldLink RX0 13 "ShardBallots" "lastKeys" "[I", Cond.methodLink RX0 139 yX0_countRows, Cond.instanceMethod yX0_countRows, Cond.selects RX0 yX0_countRows yX0_countRows, Cond.code yX0_countRows cX0_countRows 6 (some .int), Cond.methodLink RX0 149 yX0_rowOf, Cond.instanceMethod yX0_rowOf, Cond.selects RX0 yX0_rowOf yX0_rowOf, Cond.code yX0_rowOf cX0_rowOf 3 (some .int), Cond.fieldLink RX0 9 "ShardBallots" "rowTable" "[I", Cond.methodLink RX0 199 yX0_isShard, Cond.static yX0_isShard, Cond.code yX0_isShard cX0_isShard 1 (some .boolean)]
def wsX0_giveUp_r3 : List Cond := [Cond.methodLink RX0 202 yX0_isKey, Cond.static yX0_isKey, Cond.code yX0_isKey cX0_isKey 1 (some .boolean), Cond.methodLink RX0 157 yX0_dropRows, Cond.instanceMethod yX0_dropRows, Cond.selects RX0 yX0_dropRows yX0_dropRows, Cond.code yX0_dropRows cX0_dropRows 5 none, Cond.methodLink RX0 153 yX0_putRow, Cond.instanceMethod yX0_putRow, Cond.selects RX0 yX0_putRow yX0_putRow, Cond.code yX0_putRow cX0_putRow 4 none]
def wsX0_giveUp : List Cond := .code yX0_giveUp cX0_giveUp 4 (some .int) :: ((wsX0_giveUp_r1 ++ (wsX0_giveUp_r2 ++ wsX0_giveUp_r3)) ++ wsX00 ++ (vx_atS RX0 215 "java/lang/IndexOutOfBoundsException" ["java/lang/RuntimeException", "java/lang/Exception"]).filter goodWord ++ (vx_atS RX0 68 "java/lang/IllegalStateException" ["java/lang/RuntimeException", "java/lang/Exception"]).filter goodWord)
def wsX0_ranges : List Cond := .code yX0_ranges cX0_ranges 1 (some .int) :: ([.fieldLink RX0 49 "ShardBallots" "rangeCount" "I"] ++ wsX00)
def wsX0_rangeOf : List Cond := .code yX0_rangeOf cX0_rangeOf 2 (some .int) :: ([.methodLink RX0 53 yX0_checkKey, .static yX0_checkKey, .initialized RX0, .code yX0_checkKey cX0_checkKey 1 none, .classLink RX0 211 "java/lang/IndexOutOfBoundsException", .initialized "java/lang/IndexOutOfBoundsException", .methodLink RX0 202 yX0_isKey, .static yX0_isKey, .code yX0_isKey cX0_isKey 1 (some .boolean), .methodLink RX0 93 yX0_rangeHolding, .instanceMethod yX0_rangeHolding, .selects RX0 yX0_rangeHolding yX0_rangeHolding, .code yX0_rangeHolding cX0_rangeHolding 4 (some .int), .fieldLink RX0 49 "ShardBallots" "rangeCount" "I", .fieldLink RX0 13 "ShardBallots" "lastKeys" "[I"] ++ wsX00 ++ (vx_atS RX0 215 "java/lang/IndexOutOfBoundsException" ["java/lang/RuntimeException", "java/lang/Exception"]).filter goodWord)
def wsX0_shardOf : List Cond := .code yX0_shardOf cX0_shardOf 2 (some .int) :: ([.fieldLink RX0 16 "ShardBallots" "homes" "[I", .methodLink RX0 111 yX0_checkRange, .instanceMethod yX0_checkRange, .selects RX0 yX0_checkRange yX0_checkRange, .initialized RX0, .code yX0_checkRange cX0_checkRange 2 none, .classLink RX0 211 "java/lang/IndexOutOfBoundsException", .initialized "java/lang/IndexOutOfBoundsException", .methodLink RX0 114 yX0_isRange, .instanceMethod yX0_isRange, .selects RX0 yX0_isRange yX0_isRange, .code yX0_isRange cX0_isRange 2 (some .boolean), .fieldLink RX0 49 "ShardBallots" "rangeCount" "I"] ++ wsX00 ++ (vx_atS RX0 215 "java/lang/IndexOutOfBoundsException" ["java/lang/RuntimeException", "java/lang/Exception"]).filter goodWord)
def wsX0_rows : List Cond := .code yX0_rows cX0_rows 2 (some .int) :: ([.methodLink RX0 129 yX0_checkShard, .static yX0_checkShard, .initialized RX0, .code yX0_checkShard cX0_checkShard 1 none, .classLink RX0 211 "java/lang/IndexOutOfBoundsException", .initialized "java/lang/IndexOutOfBoundsException", .methodLink RX0 199 yX0_isShard, .static yX0_isShard, .code yX0_isShard cX0_isShard 1 (some .boolean), .methodLink RX0 139 yX0_countRows, .instanceMethod yX0_countRows, .selects RX0 yX0_countRows yX0_countRows, .code yX0_countRows cX0_countRows 6 (some .int), .methodLink RX0 149 yX0_rowOf, .instanceMethod yX0_rowOf, .selects RX0 yX0_rowOf yX0_rowOf, .code yX0_rowOf cX0_rowOf 3 (some .int), .fieldLink RX0 9 "ShardBallots" "rowTable" "[I", .methodLink RX0 202 yX0_isKey, .static yX0_isKey, .code yX0_isKey cX0_isKey 1 (some .boolean)] ++ wsX00 ++ (vx_atS RX0 215 "java/lang/IndexOutOfBoundsException" ["java/lang/RuntimeException", "java/lang/Exception"]).filter goodWord)
def wsX0_fix_r1 : List Cond := [Cond.classLink RX0 64 "java/lang/IllegalStateException", Cond.initialized "java/lang/IllegalStateException", Cond.fieldLink RX0 160 "ShardBallots" "rollLaid" "Z", Cond.fieldLink RX0 22 "ShardBallots" "roll" "[I", Cond.fieldLink RX0 166 "ShardBallots" "voteNumber" "I", Cond.fieldLink RX0 71 "ShardBallots" "memberCount" "I", Cond.methodLink RX0 83 yX0_read, Cond.instanceMethod yX0_read, Cond.selects RX0 yX0_read yX0_read, Cond.initialized RX0, Cond.code yX0_read cX0_read 2 (some .int), Cond.methodLink RX0 93 yX0_rangeHolding, Cond.instanceMethod yX0_rangeHolding, Cond.selects RX0 yX0_rangeHolding yX0_rangeHolding, Cond.code yX0_rangeHolding cX0_rangeHolding 4 (some .int), Cond.fieldLink RX0 49 "ShardBallots" "rangeCount" "I", Cond.fieldLink RX0 13 "ShardBallots" "lastKeys" "[I", Cond.methodLink RX0 119 yX0_homeOf, Cond.instanceMethod yX0_homeOf, Cond.selects RX0 yX0_homeOf yX0_homeOf, Cond.code yX0_homeOf cX0_homeOf 2 (some .int), Cond.fieldLink RX0 16 "ShardBallots" "homes" "[I", Cond.methodLink RX0 114 yX0_isRange, Cond.instanceMethod yX0_isRange]
def wsX0_fix_r2 : List Cond := [Cond.selects RX0 yX0_isRange yX0_isRange, Cond.code yX0_isRange cX0_isRange 2 (some .boolean), Cond.methodLink RX0 149 yX0_rowOf, Cond.instanceMethod yX0_rowOf, Cond.selects RX0 yX0_rowOf yX0_rowOf, Cond.code yX0_rowOf cX0_rowOf 3 (some .int), Cond.fieldLink RX0 9 "ShardBallots" "rowTable" "[I", Cond.methodLink RX0 199 yX0_isShard, Cond.static yX0_isShard, Cond.code yX0_isShard cX0_isShard 1 (some .boolean), Cond.methodLink RX0 202 yX0_isKey, Cond.static yX0_isKey, Cond.code yX0_isKey cX0_isKey 1 (some .boolean), Cond.methodLink RX0 90 yX0_districtOf, Cond.static yX0_districtOf, Cond.code yX0_districtOf cX0_districtOf 1 (some .int)]
def wsX0_fix : List Cond := .code yX0_fix cX0_fix 2 (some .int) :: ((wsX0_fix_r1 ++ wsX0_fix_r2) ++ wsX00 ++ (vx_atS RX0 68 "java/lang/IllegalStateException" ["java/lang/RuntimeException", "java/lang/Exception"]).filter goodWord)
def wsX0_onRoll : List Cond := .code yX0_onRoll cX0_onRoll 2 (some .int) :: ([.fieldLink RX0 160 "ShardBallots" "rollLaid" "Z", .fieldLink RX0 22 "ShardBallots" "roll" "[I", .methodLink RX0 53 yX0_checkKey, .static yX0_checkKey, .initialized RX0, .code yX0_checkKey cX0_checkKey 1 none, .classLink RX0 211 "java/lang/IndexOutOfBoundsException", .initialized "java/lang/IndexOutOfBoundsException", .methodLink RX0 202 yX0_isKey, .static yX0_isKey, .code yX0_isKey cX0_isKey 1 (some .boolean)] ++ wsX00 ++ (vx_atS RX0 215 "java/lang/IndexOutOfBoundsException" ["java/lang/RuntimeException", "java/lang/Exception"]).filter goodWord)
def wsX0_isBallot : List Cond := .code yX0_isBallot cX0_isBallot 2 (some .boolean) :: ([.fieldLink RX0 179 "ShardBallots" "ballotCount" "I"] ++ wsX00)
def wsX0_isOfOpenVote : List Cond := .code yX0_isOfOpenVote cX0_isOfOpenVote 2 (some .boolean) :: ([.fieldLink RX0 160 "ShardBallots" "rollLaid" "Z", .fieldLink RX0 28 "ShardBallots" "ballotVotes" "[I", .fieldLink RX0 166 "ShardBallots" "voteNumber" "I", .methodLink RX0 174 yX0_isBallot, .instanceMethod yX0_isBallot, .selects RX0 yX0_isBallot yX0_isBallot, .initialized RX0, .code yX0_isBallot cX0_isBallot 2 (some .boolean), .fieldLink RX0 179 "ShardBallots" "ballotCount" "I"] ++ wsX00)
def wsX0_latestBallotTo : List Cond := .code yX0_latestBallotTo cX0_latestBallotTo 3 (some .int) :: ([.fieldLink RX0 179 "ShardBallots" "ballotCount" "I", .fieldLink RX0 25 "ShardBallots" "ballotKeys" "[I", .methodLink RX0 192 yX0_isOfOpenVote, .instanceMethod yX0_isOfOpenVote, .selects RX0 yX0_isOfOpenVote yX0_isOfOpenVote, .initialized RX0, .code yX0_isOfOpenVote cX0_isOfOpenVote 2 (some .boolean), .fieldLink RX0 160 "ShardBallots" "rollLaid" "Z", .fieldLink RX0 28 "ShardBallots" "ballotVotes" "[I", .fieldLink RX0 166 "ShardBallots" "voteNumber" "I", .methodLink RX0 174 yX0_isBallot, .instanceMethod yX0_isBallot, .selects RX0 yX0_isBallot yX0_isBallot, .code yX0_isBallot cX0_isBallot 2 (some .boolean)] ++ wsX00)
def wsX0_send_r1 : List Cond := [Cond.classLink RX0 64 "java/lang/IllegalStateException", Cond.initialized "java/lang/IllegalStateException", Cond.fieldLink RX0 160 "ShardBallots" "rollLaid" "Z", Cond.fieldLink RX0 22 "ShardBallots" "roll" "[I", Cond.fieldLink RX0 37 "ShardBallots" "ballotStates" "[I", Cond.fieldLink RX0 179 "ShardBallots" "ballotCount" "I", Cond.fieldLink RX0 25 "ShardBallots" "ballotKeys" "[I", Cond.fieldLink RX0 28 "ShardBallots" "ballotVotes" "[I", Cond.fieldLink RX0 166 "ShardBallots" "voteNumber" "I", Cond.fieldLink RX0 31 "ShardBallots" "ballotAddresses" "[I", Cond.fieldLink RX0 34 "ShardBallots" "ballotDistricts" "[I", Cond.methodLink RX0 53 yX0_checkKey, Cond.static yX0_checkKey, Cond.initialized RX0, Cond.code yX0_checkKey cX0_checkKey 1 none, Cond.classLink RX0 211 "java/lang/IndexOutOfBoundsException", Cond.initialized "java/lang/IndexOutOfBoundsException", Cond.methodLink RX0 202 yX0_isKey, Cond.static yX0_isKey, Cond.code yX0_isKey cX0_isKey 1 (some .boolean), Cond.methodLink RX0 80 yX0_checkMember, Cond.instanceMethod yX0_checkMember, Cond.selects RX0 yX0_checkMember yX0_checkMember, Cond.code yX0_checkMember cX0_checkMember 2 none]
def wsX0_send_r2 : List Cond := [Cond.methodLink RX0 60 yX0_isMember, Cond.instanceMethod yX0_isMember, Cond.selects RX0 yX0_isMember yX0_isMember, Cond.code yX0_isMember cX0_isMember 2 (some .boolean), Cond.methodLink RX0 83 yX0_read, Cond.instanceMethod yX0_read, Cond.selects RX0 yX0_read yX0_read, Cond.code yX0_read cX0_read 2 (some .int), Cond.methodLink RX0 93 yX0_rangeHolding, Cond.instanceMethod yX0_rangeHolding, Cond.selects RX0 yX0_rangeHolding yX0_rangeHolding, Cond.code yX0_rangeHolding cX0_rangeHolding 4 (some .int), Cond.fieldLink RX0 49 "ShardBallots" "rangeCount" "I", Cond.fieldLink RX0 13 "ShardBallots" "lastKeys" "[I", Cond.methodLink RX0 119 yX0_homeOf, Cond.instanceMethod yX0_homeOf, Cond.selects RX0 yX0_homeOf yX0_homeOf, Cond.code yX0_homeOf cX0_homeOf 2 (some .int), Cond.fieldLink RX0 16 "ShardBallots" "homes" "[I", Cond.methodLink RX0 114 yX0_isRange, Cond.instanceMethod yX0_isRange, Cond.selects RX0 yX0_isRange yX0_isRange, Cond.code yX0_isRange cX0_isRange 2 (some .boolean), Cond.methodLink RX0 149 yX0_rowOf]
def wsX0_send_r3 : List Cond := [Cond.instanceMethod yX0_rowOf, Cond.selects RX0 yX0_rowOf yX0_rowOf, Cond.code yX0_rowOf cX0_rowOf 3 (some .int), Cond.fieldLink RX0 9 "ShardBallots" "rowTable" "[I", Cond.methodLink RX0 199 yX0_isShard, Cond.static yX0_isShard, Cond.code yX0_isShard cX0_isShard 1 (some .boolean), Cond.methodLink RX0 171 yX0_latestBallotTo, Cond.instanceMethod yX0_latestBallotTo, Cond.selects RX0 yX0_latestBallotTo yX0_latestBallotTo, Cond.code yX0_latestBallotTo cX0_latestBallotTo 3 (some .int), Cond.methodLink RX0 192 yX0_isOfOpenVote, Cond.instanceMethod yX0_isOfOpenVote, Cond.selects RX0 yX0_isOfOpenVote yX0_isOfOpenVote, Cond.code yX0_isOfOpenVote cX0_isOfOpenVote 2 (some .boolean), Cond.methodLink RX0 174 yX0_isBallot, Cond.instanceMethod yX0_isBallot, Cond.selects RX0 yX0_isBallot yX0_isBallot, Cond.code yX0_isBallot cX0_isBallot 2 (some .boolean)]
def wsX0_send : List Cond := .code yX0_send cX0_send 4 (some .int) :: ((wsX0_send_r1 ++ (wsX0_send_r2 ++ wsX0_send_r3)) ++ wsX00 ++ (vx_atS RX0 68 "java/lang/IllegalStateException" ["java/lang/RuntimeException", "java/lang/Exception"]).filter goodWord ++ (vx_atS RX0 215 "java/lang/IndexOutOfBoundsException" ["java/lang/RuntimeException", "java/lang/Exception"]).filter goodWord)
def wsX0_checkBallot : List Cond := .code yX0_checkBallot cX0_checkBallot 2 none :: ([.classLink RX0 211 "java/lang/IndexOutOfBoundsException", .initialized "java/lang/IndexOutOfBoundsException", .methodLink RX0 174 yX0_isBallot, .instanceMethod yX0_isBallot, .selects RX0 yX0_isBallot yX0_isBallot, .initialized RX0, .code yX0_isBallot cX0_isBallot 2 (some .boolean), .fieldLink RX0 179 "ShardBallots" "ballotCount" "I"] ++ wsX00 ++ (vx_atS RX0 215 "java/lang/IndexOutOfBoundsException" ["java/lang/RuntimeException", "java/lang/Exception"]).filter goodWord)
def wsX0_sentTo : List Cond := .code yX0_sentTo cX0_sentTo 2 (some .int) :: ([.fieldLink RX0 31 "ShardBallots" "ballotAddresses" "[I", .methodLink RX0 184 yX0_checkBallot, .instanceMethod yX0_checkBallot, .selects RX0 yX0_checkBallot yX0_checkBallot, .initialized RX0, .code yX0_checkBallot cX0_checkBallot 2 none, .classLink RX0 211 "java/lang/IndexOutOfBoundsException", .initialized "java/lang/IndexOutOfBoundsException", .methodLink RX0 174 yX0_isBallot, .instanceMethod yX0_isBallot, .selects RX0 yX0_isBallot yX0_isBallot, .code yX0_isBallot cX0_isBallot 2 (some .boolean), .fieldLink RX0 179 "ShardBallots" "ballotCount" "I"] ++ wsX00 ++ (vx_atS RX0 215 "java/lang/IndexOutOfBoundsException" ["java/lang/RuntimeException", "java/lang/Exception"]).filter goodWord)
def wsX0_checkChoice : List Cond := .code yX0_checkChoice cX0_checkChoice 1 none :: ([.classLink RX0 224 "java/lang/IllegalArgumentException", .initialized "java/lang/IllegalArgumentException"] ++ (vx_atS RX0 228 "java/lang/IllegalArgumentException" ["java/lang/RuntimeException", "java/lang/Exception"]).filter goodWord)
def wsX0_giveBack_r1 : List Cond := [Cond.classLink RX0 64 "java/lang/IllegalStateException", Cond.initialized "java/lang/IllegalStateException", Cond.fieldLink RX0 37 "ShardBallots" "ballotStates" "[I", Cond.fieldLink RX0 40 "ShardBallots" "ballotChoices" "[I", Cond.fieldLink RX0 34 "ShardBallots" "ballotDistricts" "[I", Cond.methodLink RX0 184 yX0_checkBallot, Cond.instanceMethod yX0_checkBallot, Cond.selects RX0 yX0_checkBallot yX0_checkBallot, Cond.initialized RX0, Cond.code yX0_checkBallot cX0_checkBallot 2 none, Cond.classLink RX0 211 "java/lang/IndexOutOfBoundsException", Cond.initialized "java/lang/IndexOutOfBoundsException", Cond.methodLink RX0 174 yX0_isBallot, Cond.instanceMethod yX0_isBallot, Cond.selects RX0 yX0_isBallot yX0_isBallot, Cond.code yX0_isBallot cX0_isBallot 2 (some .boolean), Cond.fieldLink RX0 179 "ShardBallots" "ballotCount" "I", Cond.methodLink RX0 187 yX0_checkChoice, Cond.static yX0_checkChoice, Cond.code yX0_checkChoice cX0_checkChoice 1 none, Cond.classLink RX0 224 "java/lang/IllegalArgumentException", Cond.initialized "java/lang/IllegalArgumentException", Cond.methodLink RX0 192 yX0_isOfOpenVote, Cond.instanceMethod yX0_isOfOpenVote]
def wsX0_giveBack_r2 : List Cond := [Cond.selects RX0 yX0_isOfOpenVote yX0_isOfOpenVote, Cond.code yX0_isOfOpenVote cX0_isOfOpenVote 2 (some .boolean), Cond.fieldLink RX0 160 "ShardBallots" "rollLaid" "Z", Cond.fieldLink RX0 28 "ShardBallots" "ballotVotes" "[I", Cond.fieldLink RX0 166 "ShardBallots" "voteNumber" "I"]
def wsX0_giveBack : List Cond := .code yX0_giveBack cX0_giveBack 3 (some .int) :: ((wsX0_giveBack_r1 ++ wsX0_giveBack_r2) ++ wsX00 ++ (vx_atS RX0 68 "java/lang/IllegalStateException" ["java/lang/RuntimeException", "java/lang/Exception"]).filter goodWord ++ (vx_atS RX0 215 "java/lang/IndexOutOfBoundsException" ["java/lang/RuntimeException", "java/lang/Exception"]).filter goodWord ++ (vx_atS RX0 228 "java/lang/IllegalArgumentException" ["java/lang/RuntimeException", "java/lang/Exception"]).filter goodWord)
def wsX0_stateOf : List Cond := .code yX0_stateOf cX0_stateOf 2 (some .int) :: ([.fieldLink RX0 37 "ShardBallots" "ballotStates" "[I", .methodLink RX0 184 yX0_checkBallot, .instanceMethod yX0_checkBallot, .selects RX0 yX0_checkBallot yX0_checkBallot, .initialized RX0, .code yX0_checkBallot cX0_checkBallot 2 none, .classLink RX0 211 "java/lang/IndexOutOfBoundsException", .initialized "java/lang/IndexOutOfBoundsException", .methodLink RX0 174 yX0_isBallot, .instanceMethod yX0_isBallot, .selects RX0 yX0_isBallot yX0_isBallot, .code yX0_isBallot cX0_isBallot 2 (some .boolean), .fieldLink RX0 179 "ShardBallots" "ballotCount" "I"] ++ wsX00 ++ (vx_atS RX0 215 "java/lang/IndexOutOfBoundsException" ["java/lang/RuntimeException", "java/lang/Exception"]).filter goodWord)
def wsX0_counted : List Cond := .code yX0_counted cX0_counted 5 (some .int) :: ([.fieldLink RX0 179 "ShardBallots" "ballotCount" "I", .fieldLink RX0 37 "ShardBallots" "ballotStates" "[I", .fieldLink RX0 34 "ShardBallots" "ballotDistricts" "[I", .fieldLink RX0 40 "ShardBallots" "ballotChoices" "[I", .methodLink RX0 87 yX0_checkDistrict, .static yX0_checkDistrict, .initialized RX0, .code yX0_checkDistrict cX0_checkDistrict 1 none, .classLink RX0 211 "java/lang/IndexOutOfBoundsException", .initialized "java/lang/IndexOutOfBoundsException", .methodLink RX0 187 yX0_checkChoice, .static yX0_checkChoice, .code yX0_checkChoice cX0_checkChoice 1 none, .classLink RX0 224 "java/lang/IllegalArgumentException", .initialized "java/lang/IllegalArgumentException"] ++ wsX00 ++ (vx_atS RX0 215 "java/lang/IndexOutOfBoundsException" ["java/lang/RuntimeException", "java/lang/Exception"]).filter goodWord ++ (vx_atS RX0 228 "java/lang/IllegalArgumentException" ["java/lang/RuntimeException", "java/lang/Exception"]).filter goodWord)
def wsX0_close : List Cond := .code yX0_close cX0_close 3 (some .int) :: ([.classLink RX0 64 "java/lang/IllegalStateException", .initialized "java/lang/IllegalStateException", .fieldLink RX0 160 "ShardBallots" "rollLaid" "Z", .fieldLink RX0 179 "ShardBallots" "ballotCount" "I", .fieldLink RX0 37 "ShardBallots" "ballotStates" "[I", .methodLink RX0 192 yX0_isOfOpenVote, .instanceMethod yX0_isOfOpenVote, .selects RX0 yX0_isOfOpenVote yX0_isOfOpenVote, .initialized RX0, .code yX0_isOfOpenVote cX0_isOfOpenVote 2 (some .boolean), .fieldLink RX0 28 "ShardBallots" "ballotVotes" "[I", .fieldLink RX0 166 "ShardBallots" "voteNumber" "I", .methodLink RX0 174 yX0_isBallot, .instanceMethod yX0_isBallot, .selects RX0 yX0_isBallot yX0_isBallot, .code yX0_isBallot cX0_isBallot 2 (some .boolean)] ++ wsX00 ++ (vx_atS RX0 68 "java/lang/IllegalStateException" ["java/lang/RuntimeException", "java/lang/Exception"]).filter goodWord)
def wsX1_init : List Cond := .code yX1_init cX1_init 1 none :: ([.methodLink RX1 1 objectInit, .instanceMethod objectInit, .code objectInit ⟨#[0xb1]⟩ 1 none, .arrayClass .int, .fieldLink RX1 7 "ShardBallotsModel" "row" "[I", .fieldLink RX1 13 "ShardBallotsModel" "ranges" "I", .fieldLink RX1 17 "ShardBallotsModel" "first" "[I", .fieldLink RX1 20 "ShardBallotsModel" "shard" "[I", .fieldLink RX1 23 "ShardBallotsModel" "target" "[I", .arrayClass .boolean, .fieldLink RX1 26 "ShardBallotsModel" "isBrought" "[Z", .fieldLink RX1 30 "ShardBallotsModel" "roll" "[I", .fieldLink RX1 33 "ShardBallotsModel" "latest" "[I", .fieldLink RX1 36 "ShardBallotsModel" "sentTo" "[I", .fieldLink RX1 39 "ShardBallotsModel" "state" "[I", .fieldLink RX1 42 "ShardBallotsModel" "itsVote" "[I", .fieldLink RX1 45 "ShardBallotsModel" "district" "[I", .fieldLink RX1 48 "ShardBallotsModel" "counted" "[I"] ++ wsX10)
def wsX1_thrown : List Cond := .code yX1_thrown cX1_thrown 1 (some .int) :: ([.fieldLink RX1 51 "ShardBallotsModel" "thrown" "I"] ++ wsX10)
def wsX1_in : List Cond := .code yX1_in cX1_in 3 (some .boolean) :: ([])
def wsX1_isKey : List Cond := .code yX1_isKey cX1_isKey 1 (some .boolean) :: ([.methodLink RX1 54 yX1_in, .static yX1_in, .initialized RX1, .code yX1_in cX1_in 3 (some .boolean)])
def wsX1_isRange : List Cond := .code yX1_isRange cX1_isRange 2 (some .boolean) :: ([.fieldLink RX1 13 "ShardBallotsModel" "ranges" "I", .methodLink RX1 54 yX1_in, .static yX1_in, .initialized RX1, .code yX1_in cX1_in 3 (some .boolean)] ++ wsX10)
def wsX1_isShard : List Cond := .code yX1_isShard cX1_isShard 1 (some .boolean) :: ([.methodLink RX1 54 yX1_in, .static yX1_in, .initialized RX1, .code yX1_in cX1_in 3 (some .boolean)])
def wsX1_isThere : List Cond := .code yX1_isThere cX1_isThere 2 (some .boolean) :: ([.fieldLink RX1 7 "ShardBallotsModel" "row" "[I"] ++ wsX10)
def wsX1_join : List Cond := .code yX1_join cX1_join 3 (some .int) :: ([.fieldLink RX1 65 "ShardBallotsModel" "members" "I", .fieldLink RX1 51 "ShardBallotsModel" "thrown" "I", .fieldLink RX1 7 "ShardBallotsModel" "row" "[I", .fieldLink RX1 26 "ShardBallotsModel" "isBrought" "[Z", .methodLink RX1 58 yX1_isKey, .static yX1_isKey, .initialized RX1, .code yX1_isKey cX1_isKey 1 (some .boolean), .methodLink RX1 54 yX1_in, .static yX1_in, .code yX1_in cX1_in 3 (some .boolean), .methodLink RX1 62 yX1_isThere, .instanceMethod yX1_isThere, .selects RX1 yX1_isThere yX1_isThere, .code yX1_isThere cX1_isThere 2 (some .boolean)] ++ wsX10)
def wsX1_change : List Cond := .code yX1_change cX1_change 4 (some .int) :: ([.fieldLink RX1 51 "ShardBallotsModel" "thrown" "I", .fieldLink RX1 7 "ShardBallotsModel" "row" "[I", .fieldLink RX1 26 "ShardBallotsModel" "isBrought" "[Z", .methodLink RX1 58 yX1_isKey, .static yX1_isKey, .initialized RX1, .code yX1_isKey cX1_isKey 1 (some .boolean), .methodLink RX1 54 yX1_in, .static yX1_in, .code yX1_in cX1_in 3 (some .boolean), .methodLink RX1 62 yX1_isThere, .instanceMethod yX1_isThere, .selects RX1 yX1_isThere yX1_isThere, .code yX1_isThere cX1_isThere 2 (some .boolean)] ++ wsX10)
def wsX1_leave : List Cond := .code yX1_leave cX1_leave 3 (some .int) :: ([.fieldLink RX1 51 "ShardBallotsModel" "thrown" "I", .fieldLink RX1 7 "ShardBallotsModel" "row" "[I", .fieldLink RX1 65 "ShardBallotsModel" "members" "I", .methodLink RX1 58 yX1_isKey, .static yX1_isKey, .initialized RX1, .code yX1_isKey cX1_isKey 1 (some .boolean), .methodLink RX1 54 yX1_in, .static yX1_in, .code yX1_in cX1_in 3 (some .boolean), .methodLink RX1 62 yX1_isThere, .instanceMethod yX1_isThere, .selects RX1 yX1_isThere yX1_isThere, .code yX1_isThere cX1_isThere 2 (some .boolean)] ++ wsX10)
def wsX1_asksKey : List Cond := .code yX1_asksKey cX1_asksKey 2 (some .boolean) :: ([.fieldLink RX1 51 "ShardBallotsModel" "thrown" "I", .methodLink RX1 58 yX1_isKey, .static yX1_isKey, .initialized RX1, .code yX1_isKey cX1_isKey 1 (some .boolean), .methodLink RX1 54 yX1_in, .static yX1_in, .code yX1_in cX1_in 3 (some .boolean)] ++ wsX10)
def wsX1_address : List Cond := .code yX1_address cX1_address 2 (some .int) :: ([.fieldLink RX1 7 "ShardBallotsModel" "row" "[I", .methodLink RX1 68 yX1_asksKey, .instanceMethod yX1_asksKey, .selects RX1 yX1_asksKey yX1_asksKey, .initialized RX1, .code yX1_asksKey cX1_asksKey 2 (some .boolean), .fieldLink RX1 51 "ShardBallotsModel" "thrown" "I", .methodLink RX1 58 yX1_isKey, .static yX1_isKey, .code yX1_isKey cX1_isKey 1 (some .boolean), .methodLink RX1 54 yX1_in, .static yX1_in, .code yX1_in cX1_in 3 (some .boolean)] ++ wsX10)
def wsX1_inDistrict : List Cond := .code yX1_inDistrict cX1_inDistrict 4 (some .int) :: ([.fieldLink RX1 51 "ShardBallotsModel" "thrown" "I", .fieldLink RX1 7 "ShardBallotsModel" "row" "[I", .methodLink RX1 71 yX1_isShard, .static yX1_isShard, .initialized RX1, .code yX1_isShard cX1_isShard 1 (some .boolean), .methodLink RX1 54 yX1_in, .static yX1_in, .code yX1_in cX1_in 3 (some .boolean), .methodLink RX1 62 yX1_isThere, .instanceMethod yX1_isThere, .selects RX1 yX1_isThere yX1_isThere, .code yX1_isThere cX1_isThere 2 (some .boolean)] ++ wsX10)
def wsX1_behind : List Cond := .code yX1_behind cX1_behind 2 (some .int) :: ([.fieldLink RX1 13 "ShardBallotsModel" "ranges" "I", .fieldLink RX1 17 "ShardBallotsModel" "first" "[I"] ++ wsX10)
def wsX1_rangeAt : List Cond := .code yX1_rangeAt cX1_rangeAt 4 (some .int) :: ([.fieldLink RX1 13 "ShardBallotsModel" "ranges" "I", .fieldLink RX1 17 "ShardBallotsModel" "first" "[I"] ++ wsX10)
def wsX1_copies : List Cond := .code yX1_copies cX1_copies 3 none :: ([.fieldLink RX1 17 "ShardBallotsModel" "first" "[I", .fieldLink RX1 20 "ShardBallotsModel" "shard" "[I", .fieldLink RX1 23 "ShardBallotsModel" "target" "[I"] ++ wsX10)
def wsX1_split_r1 : List Cond := [Cond.fieldLink RX1 23 "ShardBallotsModel" "target" "[I", Cond.fieldLink RX1 13 "ShardBallotsModel" "ranges" "I", Cond.fieldLink RX1 51 "ShardBallotsModel" "thrown" "I", Cond.fieldLink RX1 17 "ShardBallotsModel" "first" "[I", Cond.fieldLink RX1 20 "ShardBallotsModel" "shard" "[I", Cond.methodLink RX1 68 yX1_asksKey, Cond.instanceMethod yX1_asksKey, Cond.selects RX1 yX1_asksKey yX1_asksKey, Cond.initialized RX1, Cond.code yX1_asksKey cX1_asksKey 2 (some .boolean), Cond.methodLink RX1 58 yX1_isKey, Cond.static yX1_isKey, Cond.code yX1_isKey cX1_isKey 1 (some .boolean), Cond.methodLink RX1 54 yX1_in, Cond.static yX1_in, Cond.code yX1_in cX1_in 3 (some .boolean), Cond.methodLink RX1 74 yX1_rangeAt, Cond.instanceMethod yX1_rangeAt, Cond.selects RX1 yX1_rangeAt yX1_rangeAt, Cond.code yX1_rangeAt cX1_rangeAt 4 (some .int), Cond.methodLink RX1 78 yX1_behind, Cond.instanceMethod yX1_behind, Cond.selects RX1 yX1_behind yX1_behind, Cond.code yX1_behind cX1_behind 2 (some .int)]
def wsX1_split_r2 : List Cond := [Cond.methodLink RX1 81 yX1_copies, Cond.instanceMethod yX1_copies, Cond.selects RX1 yX1_copies yX1_copies, Cond.code yX1_copies cX1_copies 3 none]
def wsX1_split : List Cond := .code yX1_split cX1_split 4 (some .int) :: ((wsX1_split_r1 ++ wsX1_split_r2) ++ wsX10)
def wsX1_merge : List Cond := .code yX1_merge cX1_merge 3 (some .int) :: ([.fieldLink RX1 51 "ShardBallotsModel" "thrown" "I", .fieldLink RX1 13 "ShardBallotsModel" "ranges" "I", .fieldLink RX1 20 "ShardBallotsModel" "shard" "[I", .fieldLink RX1 23 "ShardBallotsModel" "target" "[I", .methodLink RX1 85 yX1_isRange, .instanceMethod yX1_isRange, .selects RX1 yX1_isRange yX1_isRange, .initialized RX1, .code yX1_isRange cX1_isRange 2 (some .boolean), .methodLink RX1 54 yX1_in, .static yX1_in, .code yX1_in cX1_in 3 (some .boolean), .methodLink RX1 81 yX1_copies, .instanceMethod yX1_copies, .selects RX1 yX1_copies yX1_copies, .code yX1_copies cX1_copies 3 none, .fieldLink RX1 17 "ShardBallotsModel" "first" "[I"] ++ wsX10)
def wsX1_many : List Cond := .code yX1_many cX1_many 5 (some .int) :: ([.fieldLink RX1 17 "ShardBallotsModel" "first" "[I", .fieldLink RX1 26 "ShardBallotsModel" "isBrought" "[Z", .methodLink RX1 78 yX1_behind, .instanceMethod yX1_behind, .selects RX1 yX1_behind yX1_behind, .initialized RX1, .code yX1_behind cX1_behind 2 (some .int), .fieldLink RX1 13 "ShardBallotsModel" "ranges" "I", .methodLink RX1 62 yX1_isThere, .instanceMethod yX1_isThere, .selects RX1 yX1_isThere yX1_isThere, .code yX1_isThere cX1_isThere 2 (some .boolean), .fieldLink RX1 7 "ShardBallotsModel" "row" "[I"] ++ wsX10)
def wsX1_move_r1 : List Cond := [Cond.fieldLink RX1 23 "ShardBallotsModel" "target" "[I", Cond.fieldLink RX1 20 "ShardBallotsModel" "shard" "[I", Cond.fieldLink RX1 51 "ShardBallotsModel" "thrown" "I", Cond.fieldLink RX1 17 "ShardBallotsModel" "first" "[I", Cond.fieldLink RX1 26 "ShardBallotsModel" "isBrought" "[Z", Cond.methodLink RX1 85 yX1_isRange, Cond.instanceMethod yX1_isRange, Cond.selects RX1 yX1_isRange yX1_isRange, Cond.initialized RX1, Cond.code yX1_isRange cX1_isRange 2 (some .boolean), Cond.fieldLink RX1 13 "ShardBallotsModel" "ranges" "I", Cond.methodLink RX1 54 yX1_in, Cond.static yX1_in, Cond.code yX1_in cX1_in 3 (some .boolean), Cond.methodLink RX1 71 yX1_isShard, Cond.static yX1_isShard, Cond.code yX1_isShard cX1_isShard 1 (some .boolean), Cond.methodLink RX1 78 yX1_behind, Cond.instanceMethod yX1_behind, Cond.selects RX1 yX1_behind yX1_behind, Cond.code yX1_behind cX1_behind 2 (some .int), Cond.methodLink RX1 88 yX1_many, Cond.instanceMethod yX1_many, Cond.selects RX1 yX1_many yX1_many]
def wsX1_move_r2 : List Cond := [Cond.code yX1_many cX1_many 5 (some .int), Cond.methodLink RX1 62 yX1_isThere, Cond.instanceMethod yX1_isThere, Cond.selects RX1 yX1_isThere yX1_isThere, Cond.code yX1_isThere cX1_isThere 2 (some .boolean), Cond.fieldLink RX1 7 "ShardBallotsModel" "row" "[I"]
def wsX1_move : List Cond := .code yX1_move cX1_move 4 (some .int) :: ((wsX1_move_r1 ++ wsX1_move_r2) ++ wsX10)
def wsX1_asksMoved : List Cond := .code yX1_asksMoved cX1_asksMoved 2 (some .boolean) :: ([.fieldLink RX1 23 "ShardBallotsModel" "target" "[I", .fieldLink RX1 51 "ShardBallotsModel" "thrown" "I", .methodLink RX1 85 yX1_isRange, .instanceMethod yX1_isRange, .selects RX1 yX1_isRange yX1_isRange, .initialized RX1, .code yX1_isRange cX1_isRange 2 (some .boolean), .fieldLink RX1 13 "ShardBallotsModel" "ranges" "I", .methodLink RX1 54 yX1_in, .static yX1_in, .code yX1_in cX1_in 3 (some .boolean)] ++ wsX10)
def wsX1_step_r1 : List Cond := [Cond.fieldLink RX1 17 "ShardBallotsModel" "first" "[I", Cond.fieldLink RX1 26 "ShardBallotsModel" "isBrought" "[Z", Cond.fieldLink RX1 20 "ShardBallotsModel" "shard" "[I", Cond.fieldLink RX1 23 "ShardBallotsModel" "target" "[I", Cond.methodLink RX1 92 yX1_asksMoved, Cond.instanceMethod yX1_asksMoved, Cond.selects RX1 yX1_asksMoved yX1_asksMoved, Cond.initialized RX1, Cond.code yX1_asksMoved cX1_asksMoved 2 (some .boolean), Cond.fieldLink RX1 51 "ShardBallotsModel" "thrown" "I", Cond.methodLink RX1 85 yX1_isRange, Cond.instanceMethod yX1_isRange, Cond.selects RX1 yX1_isRange yX1_isRange, Cond.code yX1_isRange cX1_isRange 2 (some .boolean), Cond.fieldLink RX1 13 "ShardBallotsModel" "ranges" "I", Cond.methodLink RX1 54 yX1_in, Cond.static yX1_in, Cond.code yX1_in cX1_in 3 (some .boolean), Cond.methodLink RX1 78 yX1_behind, Cond.instanceMethod yX1_behind, Cond.selects RX1 yX1_behind yX1_behind, Cond.code yX1_behind cX1_behind 2 (some .int), Cond.methodLink RX1 62 yX1_isThere, Cond.instanceMethod yX1_isThere]
def wsX1_step_r2 : List Cond := [Cond.selects RX1 yX1_isThere yX1_isThere, Cond.code yX1_isThere cX1_isThere 2 (some .boolean), Cond.fieldLink RX1 7 "ShardBallotsModel" "row" "[I"]
def wsX1_step : List Cond := .code yX1_step cX1_step 4 (some .int) :: ((wsX1_step_r1 ++ wsX1_step_r2) ++ wsX10)
def wsX1_giveUp_r1 : List Cond := [Cond.fieldLink RX1 23 "ShardBallotsModel" "target" "[I", Cond.methodLink RX1 92 yX1_asksMoved, Cond.instanceMethod yX1_asksMoved, Cond.selects RX1 yX1_asksMoved yX1_asksMoved, Cond.initialized RX1, Cond.code yX1_asksMoved cX1_asksMoved 2 (some .boolean), Cond.fieldLink RX1 51 "ShardBallotsModel" "thrown" "I", Cond.methodLink RX1 85 yX1_isRange, Cond.instanceMethod yX1_isRange, Cond.selects RX1 yX1_isRange yX1_isRange, Cond.code yX1_isRange cX1_isRange 2 (some .boolean), Cond.fieldLink RX1 13 "ShardBallotsModel" "ranges" "I", Cond.methodLink RX1 54 yX1_in, Cond.static yX1_in, Cond.code yX1_in cX1_in 3 (some .boolean), Cond.methodLink RX1 88 yX1_many, Cond.instanceMethod yX1_many, Cond.selects RX1 yX1_many yX1_many, Cond.code yX1_many cX1_many 5 (some .int), Cond.fieldLink RX1 17 "ShardBallotsModel" "first" "[I", Cond.fieldLink RX1 26 "ShardBallotsModel" "isBrought" "[Z", Cond.methodLink RX1 78 yX1_behind, Cond.instanceMethod yX1_behind, Cond.selects RX1 yX1_behind yX1_behind]
def wsX1_giveUp_r2 : List Cond := [Cond.code yX1_behind cX1_behind 2 (some .int), Cond.methodLink RX1 62 yX1_isThere, Cond.instanceMethod yX1_isThere, Cond.selects RX1 yX1_isThere yX1_isThere, Cond.code yX1_isThere cX1_isThere 2 (some .boolean), Cond.fieldLink RX1 7 "ShardBallotsModel" "row" "[I"]
def wsX1_giveUp : List Cond := .code yX1_giveUp cX1_giveUp 2 (some .int) :: ((wsX1_giveUp_r1 ++ wsX1_giveUp_r2) ++ wsX10)
def wsX1_ranges : List Cond := .code yX1_ranges cX1_ranges 1 (some .int) :: ([.fieldLink RX1 51 "ShardBallotsModel" "thrown" "I", .fieldLink RX1 13 "ShardBallotsModel" "ranges" "I"] ++ wsX10)
def wsX1_rangeOf : List Cond := .code yX1_rangeOf cX1_rangeOf 2 (some .int) :: ([.methodLink RX1 68 yX1_asksKey, .instanceMethod yX1_asksKey, .selects RX1 yX1_asksKey yX1_asksKey, .initialized RX1, .code yX1_asksKey cX1_asksKey 2 (some .boolean), .fieldLink RX1 51 "ShardBallotsModel" "thrown" "I", .methodLink RX1 58 yX1_isKey, .static yX1_isKey, .code yX1_isKey cX1_isKey 1 (some .boolean), .methodLink RX1 54 yX1_in, .static yX1_in, .code yX1_in cX1_in 3 (some .boolean), .methodLink RX1 74 yX1_rangeAt, .instanceMethod yX1_rangeAt, .selects RX1 yX1_rangeAt yX1_rangeAt, .code yX1_rangeAt cX1_rangeAt 4 (some .int), .fieldLink RX1 13 "ShardBallotsModel" "ranges" "I", .fieldLink RX1 17 "ShardBallotsModel" "first" "[I"] ++ wsX10)
def wsX1_shardOf : List Cond := .code yX1_shardOf cX1_shardOf 2 (some .int) :: ([.fieldLink RX1 51 "ShardBallotsModel" "thrown" "I", .fieldLink RX1 20 "ShardBallotsModel" "shard" "[I", .methodLink RX1 85 yX1_isRange, .instanceMethod yX1_isRange, .selects RX1 yX1_isRange yX1_isRange, .initialized RX1, .code yX1_isRange cX1_isRange 2 (some .boolean), .fieldLink RX1 13 "ShardBallotsModel" "ranges" "I", .methodLink RX1 54 yX1_in, .static yX1_in, .code yX1_in cX1_in 3 (some .boolean)] ++ wsX10)
def wsX1_rows_r1 : List Cond := [Cond.fieldLink RX1 51 "ShardBallotsModel" "thrown" "I", Cond.fieldLink RX1 13 "ShardBallotsModel" "ranges" "I", Cond.fieldLink RX1 20 "ShardBallotsModel" "shard" "[I", Cond.fieldLink RX1 23 "ShardBallotsModel" "target" "[I", Cond.methodLink RX1 71 yX1_isShard, Cond.static yX1_isShard, Cond.initialized RX1, Cond.code yX1_isShard cX1_isShard 1 (some .boolean), Cond.methodLink RX1 54 yX1_in, Cond.static yX1_in, Cond.code yX1_in cX1_in 3 (some .boolean), Cond.methodLink RX1 88 yX1_many, Cond.instanceMethod yX1_many, Cond.selects RX1 yX1_many yX1_many, Cond.code yX1_many cX1_many 5 (some .int), Cond.fieldLink RX1 17 "ShardBallotsModel" "first" "[I", Cond.fieldLink RX1 26 "ShardBallotsModel" "isBrought" "[Z", Cond.methodLink RX1 78 yX1_behind, Cond.instanceMethod yX1_behind, Cond.selects RX1 yX1_behind yX1_behind, Cond.code yX1_behind cX1_behind 2 (some .int), Cond.methodLink RX1 62 yX1_isThere, Cond.instanceMethod yX1_isThere, Cond.selects RX1 yX1_isThere yX1_isThere]
def wsX1_rows_r2 : List Cond := [Cond.code yX1_isThere cX1_isThere 2 (some .boolean), Cond.fieldLink RX1 7 "ShardBallotsModel" "row" "[I"]
def wsX1_rows : List Cond := .code yX1_rows cX1_rows 4 (some .int) :: ((wsX1_rows_r1 ++ wsX1_rows_r2) ++ wsX10)
def wsX1_fix : List Cond := .code yX1_fix cX1_fix 2 (some .int) :: ([.fieldLink RX1 95 "ShardBallotsModel" "isLaid" "Z", .fieldLink RX1 51 "ShardBallotsModel" "thrown" "I", .fieldLink RX1 99 "ShardBallotsModel" "vote" "I", .fieldLink RX1 30 "ShardBallotsModel" "roll" "[I", .fieldLink RX1 7 "ShardBallotsModel" "row" "[I", .fieldLink RX1 33 "ShardBallotsModel" "latest" "[I", .fieldLink RX1 65 "ShardBallotsModel" "members" "I", .methodLink RX1 62 yX1_isThere, .instanceMethod yX1_isThere, .selects RX1 yX1_isThere yX1_isThere, .initialized RX1, .code yX1_isThere cX1_isThere 2 (some .boolean)] ++ wsX10)
def wsX1_onRoll : List Cond := .code yX1_onRoll cX1_onRoll 2 (some .int) :: ([.fieldLink RX1 95 "ShardBallotsModel" "isLaid" "Z", .fieldLink RX1 30 "ShardBallotsModel" "roll" "[I", .methodLink RX1 68 yX1_asksKey, .instanceMethod yX1_asksKey, .selects RX1 yX1_asksKey yX1_asksKey, .initialized RX1, .code yX1_asksKey cX1_asksKey 2 (some .boolean), .fieldLink RX1 51 "ShardBallotsModel" "thrown" "I", .methodLink RX1 58 yX1_isKey, .static yX1_isKey, .code yX1_isKey cX1_isKey 1 (some .boolean), .methodLink RX1 54 yX1_in, .static yX1_in, .code yX1_in cX1_in 3 (some .boolean)] ++ wsX10)
def wsX1_send : List Cond := .code yX1_send cX1_send 3 (some .int) :: ([.fieldLink RX1 51 "ShardBallotsModel" "thrown" "I", .fieldLink RX1 95 "ShardBallotsModel" "isLaid" "Z", .fieldLink RX1 30 "ShardBallotsModel" "roll" "[I", .fieldLink RX1 102 "ShardBallotsModel" "ballots" "I", .fieldLink RX1 33 "ShardBallotsModel" "latest" "[I", .fieldLink RX1 39 "ShardBallotsModel" "state" "[I", .fieldLink RX1 36 "ShardBallotsModel" "sentTo" "[I", .fieldLink RX1 7 "ShardBallotsModel" "row" "[I", .fieldLink RX1 42 "ShardBallotsModel" "itsVote" "[I", .fieldLink RX1 99 "ShardBallotsModel" "vote" "I", .fieldLink RX1 45 "ShardBallotsModel" "district" "[I", .methodLink RX1 58 yX1_isKey, .static yX1_isKey, .initialized RX1, .code yX1_isKey cX1_isKey 1 (some .boolean), .methodLink RX1 54 yX1_in, .static yX1_in, .code yX1_in cX1_in 3 (some .boolean), .methodLink RX1 62 yX1_isThere, .instanceMethod yX1_isThere, .selects RX1 yX1_isThere yX1_isThere, .code yX1_isThere cX1_isThere 2 (some .boolean)] ++ wsX10)
def wsX1_asksBallot : List Cond := .code yX1_asksBallot cX1_asksBallot 2 (some .boolean) :: ([.fieldLink RX1 102 "ShardBallotsModel" "ballots" "I", .fieldLink RX1 51 "ShardBallotsModel" "thrown" "I", .methodLink RX1 54 yX1_in, .static yX1_in, .initialized RX1, .code yX1_in cX1_in 3 (some .boolean)] ++ wsX10)
def wsX1_sentTo : List Cond := .code yX1_sentTo cX1_sentTo 2 (some .int) :: ([.fieldLink RX1 36 "ShardBallotsModel" "sentTo" "[I", .methodLink RX1 105 yX1_asksBallot, .instanceMethod yX1_asksBallot, .selects RX1 yX1_asksBallot yX1_asksBallot, .initialized RX1, .code yX1_asksBallot cX1_asksBallot 2 (some .boolean), .fieldLink RX1 102 "ShardBallotsModel" "ballots" "I", .fieldLink RX1 51 "ShardBallotsModel" "thrown" "I", .methodLink RX1 54 yX1_in, .static yX1_in, .code yX1_in cX1_in 3 (some .boolean)] ++ wsX10)
def wsX1_giveBack : List Cond := .code yX1_giveBack cX1_giveBack 3 (some .int) :: ([.fieldLink RX1 102 "ShardBallotsModel" "ballots" "I", .fieldLink RX1 51 "ShardBallotsModel" "thrown" "I", .fieldLink RX1 39 "ShardBallotsModel" "state" "[I", .fieldLink RX1 95 "ShardBallotsModel" "isLaid" "Z", .fieldLink RX1 42 "ShardBallotsModel" "itsVote" "[I", .fieldLink RX1 99 "ShardBallotsModel" "vote" "I", .fieldLink RX1 48 "ShardBallotsModel" "counted" "[I", .fieldLink RX1 45 "ShardBallotsModel" "district" "[I", .methodLink RX1 54 yX1_in, .static yX1_in, .initialized RX1, .code yX1_in cX1_in 3 (some .boolean)] ++ wsX10)
def wsX1_stateOf : List Cond := .code yX1_stateOf cX1_stateOf 2 (some .int) :: ([.fieldLink RX1 39 "ShardBallotsModel" "state" "[I", .methodLink RX1 105 yX1_asksBallot, .instanceMethod yX1_asksBallot, .selects RX1 yX1_asksBallot yX1_asksBallot, .initialized RX1, .code yX1_asksBallot cX1_asksBallot 2 (some .boolean), .fieldLink RX1 102 "ShardBallotsModel" "ballots" "I", .fieldLink RX1 51 "ShardBallotsModel" "thrown" "I", .methodLink RX1 54 yX1_in, .static yX1_in, .code yX1_in cX1_in 3 (some .boolean)] ++ wsX10)
def wsX1_counted : List Cond := .code yX1_counted cX1_counted 3 (some .int) :: ([.fieldLink RX1 51 "ShardBallotsModel" "thrown" "I", .fieldLink RX1 48 "ShardBallotsModel" "counted" "[I", .methodLink RX1 71 yX1_isShard, .static yX1_isShard, .initialized RX1, .code yX1_isShard cX1_isShard 1 (some .boolean), .methodLink RX1 54 yX1_in, .static yX1_in, .code yX1_in cX1_in 3 (some .boolean)] ++ wsX10)
def wsX1_close : List Cond := .code yX1_close cX1_close 3 (some .int) :: ([.fieldLink RX1 95 "ShardBallotsModel" "isLaid" "Z", .fieldLink RX1 51 "ShardBallotsModel" "thrown" "I", .fieldLink RX1 102 "ShardBallotsModel" "ballots" "I", .fieldLink RX1 42 "ShardBallotsModel" "itsVote" "[I", .fieldLink RX1 99 "ShardBallotsModel" "vote" "I", .fieldLink RX1 39 "ShardBallotsModel" "state" "[I"] ++ wsX10)
def wsL_join_r1 : List Cond := [Cond.classLink RL 13 "java/lang/IndexOutOfBoundsException", Cond.classLink RL 15 "java/lang/IllegalArgumentException", Cond.classLink RL 17 "java/lang/IllegalStateException", Cond.methodLink RL 7 yX0_join, Cond.instanceMethod yX0_join, Cond.selects RX0 yX0_join yX0_join, Cond.initialized RX0, Cond.code yX0_join cX0_join 3 (some .int), Cond.classLink RX0 64 "java/lang/IllegalStateException", Cond.initialized "java/lang/IllegalStateException", Cond.fieldLink RX0 71 "ShardBallots" "memberCount" "I", Cond.methodLink RX0 53 yX0_checkKey, Cond.static yX0_checkKey, Cond.code yX0_checkKey cX0_checkKey 1 none, Cond.classLink RX0 211 "java/lang/IndexOutOfBoundsException", Cond.initialized "java/lang/IndexOutOfBoundsException", Cond.methodLink RX0 202 yX0_isKey, Cond.static yX0_isKey, Cond.code yX0_isKey cX0_isKey 1 (some .boolean), Cond.methodLink RX0 57 yX0_checkAddress, Cond.static yX0_checkAddress, Cond.code yX0_checkAddress cX0_checkAddress 1 none, Cond.classLink RX0 224 "java/lang/IllegalArgumentException", Cond.initialized "java/lang/IllegalArgumentException"]
def wsL_join_r2 : List Cond := [Cond.methodLink RX0 60 yX0_isMember, Cond.instanceMethod yX0_isMember, Cond.selects RX0 yX0_isMember yX0_isMember, Cond.code yX0_isMember cX0_isMember 2 (some .boolean), Cond.methodLink RX0 83 yX0_read, Cond.instanceMethod yX0_read, Cond.selects RX0 yX0_read yX0_read, Cond.code yX0_read cX0_read 2 (some .int), Cond.methodLink RX0 93 yX0_rangeHolding, Cond.instanceMethod yX0_rangeHolding, Cond.selects RX0 yX0_rangeHolding yX0_rangeHolding, Cond.code yX0_rangeHolding cX0_rangeHolding 4 (some .int), Cond.fieldLink RX0 49 "ShardBallots" "rangeCount" "I", Cond.fieldLink RX0 13 "ShardBallots" "lastKeys" "[I", Cond.methodLink RX0 119 yX0_homeOf, Cond.instanceMethod yX0_homeOf, Cond.selects RX0 yX0_homeOf yX0_homeOf, Cond.code yX0_homeOf cX0_homeOf 2 (some .int), Cond.fieldLink RX0 16 "ShardBallots" "homes" "[I", Cond.methodLink RX0 114 yX0_isRange, Cond.instanceMethod yX0_isRange, Cond.selects RX0 yX0_isRange yX0_isRange, Cond.code yX0_isRange cX0_isRange 2 (some .boolean), Cond.methodLink RX0 149 yX0_rowOf]
def wsL_join_r3 : List Cond := [Cond.instanceMethod yX0_rowOf, Cond.selects RX0 yX0_rowOf yX0_rowOf, Cond.code yX0_rowOf cX0_rowOf 3 (some .int), Cond.fieldLink RX0 9 "ShardBallots" "rowTable" "[I", Cond.methodLink RX0 199 yX0_isShard, Cond.static yX0_isShard, Cond.code yX0_isShard cX0_isShard 1 (some .boolean), Cond.methodLink RX0 76 yX0_write, Cond.instanceMethod yX0_write, Cond.selects RX0 yX0_write yX0_write, Cond.code yX0_write cX0_write 4 none, Cond.methodLink RX0 153 yX0_putRow, Cond.instanceMethod yX0_putRow, Cond.selects RX0 yX0_putRow yX0_putRow, Cond.code yX0_putRow cX0_putRow 4 none, Cond.methodLink RX0 205 yX0_targetOf, Cond.instanceMethod yX0_targetOf, Cond.selects RX0 yX0_targetOf yX0_targetOf, Cond.code yX0_targetOf cX0_targetOf 2 (some .int), Cond.fieldLink RX0 19 "ShardBallots" "targets" "[I"]
def wsL_join : List Cond := .codeWith yL_join cL_join 5 (some .int) [(0, 10, 13, 13), (0, 10, 17, 15), (0, 10, 21, 17)] :: ((wsL_join_r1 ++ (wsL_join_r2 ++ wsL_join_r3)) ++ wsX00 ++ (vx_atS RX0 68 "java/lang/IllegalStateException" ["java/lang/RuntimeException", "java/lang/Exception"]).filter goodWord ++ (vx_atS RX0 215 "java/lang/IndexOutOfBoundsException" ["java/lang/RuntimeException", "java/lang/Exception"]).filter goodWord ++ (vx_atS RX0 228 "java/lang/IllegalArgumentException" ["java/lang/RuntimeException", "java/lang/Exception"]).filter goodWord)
def wsL_change_r1 : List Cond := [Cond.classLink RL 13 "java/lang/IndexOutOfBoundsException", Cond.classLink RL 15 "java/lang/IllegalArgumentException", Cond.classLink RL 17 "java/lang/IllegalStateException", Cond.methodLink RL 19 yX0_change, Cond.instanceMethod yX0_change, Cond.selects RX0 yX0_change yX0_change, Cond.initialized RX0, Cond.code yX0_change cX0_change 4 (some .int), Cond.methodLink RX0 53 yX0_checkKey, Cond.static yX0_checkKey, Cond.code yX0_checkKey cX0_checkKey 1 none, Cond.classLink RX0 211 "java/lang/IndexOutOfBoundsException", Cond.initialized "java/lang/IndexOutOfBoundsException", Cond.methodLink RX0 202 yX0_isKey, Cond.static yX0_isKey, Cond.code yX0_isKey cX0_isKey 1 (some .boolean), Cond.methodLink RX0 57 yX0_checkAddress, Cond.static yX0_checkAddress, Cond.code yX0_checkAddress cX0_checkAddress 1 none, Cond.classLink RX0 224 "java/lang/IllegalArgumentException", Cond.initialized "java/lang/IllegalArgumentException", Cond.methodLink RX0 80 yX0_checkMember, Cond.instanceMethod yX0_checkMember, Cond.selects RX0 yX0_checkMember yX0_checkMember]
def wsL_change_r2 : List Cond := [Cond.code yX0_checkMember cX0_checkMember 2 none, Cond.classLink RX0 64 "java/lang/IllegalStateException", Cond.initialized "java/lang/IllegalStateException", Cond.methodLink RX0 60 yX0_isMember, Cond.instanceMethod yX0_isMember, Cond.selects RX0 yX0_isMember yX0_isMember, Cond.code yX0_isMember cX0_isMember 2 (some .boolean), Cond.methodLink RX0 83 yX0_read, Cond.instanceMethod yX0_read, Cond.selects RX0 yX0_read yX0_read, Cond.code yX0_read cX0_read 2 (some .int), Cond.methodLink RX0 93 yX0_rangeHolding, Cond.instanceMethod yX0_rangeHolding, Cond.selects RX0 yX0_rangeHolding yX0_rangeHolding, Cond.code yX0_rangeHolding cX0_rangeHolding 4 (some .int), Cond.fieldLink RX0 49 "ShardBallots" "rangeCount" "I", Cond.fieldLink RX0 13 "ShardBallots" "lastKeys" "[I", Cond.methodLink RX0 119 yX0_homeOf, Cond.instanceMethod yX0_homeOf, Cond.selects RX0 yX0_homeOf yX0_homeOf, Cond.code yX0_homeOf cX0_homeOf 2 (some .int), Cond.fieldLink RX0 16 "ShardBallots" "homes" "[I", Cond.methodLink RX0 114 yX0_isRange, Cond.instanceMethod yX0_isRange]
def wsL_change_r3 : List Cond := [Cond.selects RX0 yX0_isRange yX0_isRange, Cond.code yX0_isRange cX0_isRange 2 (some .boolean), Cond.methodLink RX0 149 yX0_rowOf, Cond.instanceMethod yX0_rowOf, Cond.selects RX0 yX0_rowOf yX0_rowOf, Cond.code yX0_rowOf cX0_rowOf 3 (some .int), Cond.fieldLink RX0 9 "ShardBallots" "rowTable" "[I", Cond.methodLink RX0 199 yX0_isShard, Cond.static yX0_isShard, Cond.code yX0_isShard cX0_isShard 1 (some .boolean), Cond.methodLink RX0 76 yX0_write, Cond.instanceMethod yX0_write, Cond.selects RX0 yX0_write yX0_write, Cond.code yX0_write cX0_write 4 none, Cond.methodLink RX0 153 yX0_putRow, Cond.instanceMethod yX0_putRow, Cond.selects RX0 yX0_putRow yX0_putRow, Cond.code yX0_putRow cX0_putRow 4 none, Cond.methodLink RX0 205 yX0_targetOf, Cond.instanceMethod yX0_targetOf, Cond.selects RX0 yX0_targetOf yX0_targetOf, Cond.code yX0_targetOf cX0_targetOf 2 (some .int), Cond.fieldLink RX0 19 "ShardBallots" "targets" "[I"]
def wsL_change : List Cond := .codeWith yL_change cL_change 5 (some .int) [(0, 10, 13, 13), (0, 10, 17, 15), (0, 10, 21, 17)] :: ((wsL_change_r1 ++ (wsL_change_r2 ++ wsL_change_r3)) ++ wsX00 ++ (vx_atS RX0 215 "java/lang/IndexOutOfBoundsException" ["java/lang/RuntimeException", "java/lang/Exception"]).filter goodWord ++ (vx_atS RX0 228 "java/lang/IllegalArgumentException" ["java/lang/RuntimeException", "java/lang/Exception"]).filter goodWord ++ (vx_atS RX0 68 "java/lang/IllegalStateException" ["java/lang/RuntimeException", "java/lang/Exception"]).filter goodWord)
def wsL_leave_r1 : List Cond := [Cond.classLink RL 13 "java/lang/IndexOutOfBoundsException", Cond.classLink RL 17 "java/lang/IllegalStateException", Cond.methodLink RL 22 yX0_leave, Cond.instanceMethod yX0_leave, Cond.selects RX0 yX0_leave yX0_leave, Cond.initialized RX0, Cond.code yX0_leave cX0_leave 3 (some .int), Cond.fieldLink RX0 71 "ShardBallots" "memberCount" "I", Cond.methodLink RX0 53 yX0_checkKey, Cond.static yX0_checkKey, Cond.code yX0_checkKey cX0_checkKey 1 none, Cond.classLink RX0 211 "java/lang/IndexOutOfBoundsException", Cond.initialized "java/lang/IndexOutOfBoundsException", Cond.methodLink RX0 202 yX0_isKey, Cond.static yX0_isKey, Cond.code yX0_isKey cX0_isKey 1 (some .boolean), Cond.methodLink RX0 80 yX0_checkMember, Cond.instanceMethod yX0_checkMember, Cond.selects RX0 yX0_checkMember yX0_checkMember, Cond.code yX0_checkMember cX0_checkMember 2 none, Cond.classLink RX0 64 "java/lang/IllegalStateException", Cond.initialized "java/lang/IllegalStateException", Cond.methodLink RX0 60 yX0_isMember, Cond.instanceMethod yX0_isMember]
def wsL_leave_r2 : List Cond := [Cond.selects RX0 yX0_isMember yX0_isMember, Cond.code yX0_isMember cX0_isMember 2 (some .boolean), Cond.methodLink RX0 83 yX0_read, Cond.instanceMethod yX0_read, Cond.selects RX0 yX0_read yX0_read, Cond.code yX0_read cX0_read 2 (some .int), Cond.methodLink RX0 93 yX0_rangeHolding, Cond.instanceMethod yX0_rangeHolding, Cond.selects RX0 yX0_rangeHolding yX0_rangeHolding, Cond.code yX0_rangeHolding cX0_rangeHolding 4 (some .int), Cond.fieldLink RX0 49 "ShardBallots" "rangeCount" "I", Cond.fieldLink RX0 13 "ShardBallots" "lastKeys" "[I", Cond.methodLink RX0 119 yX0_homeOf, Cond.instanceMethod yX0_homeOf, Cond.selects RX0 yX0_homeOf yX0_homeOf, Cond.code yX0_homeOf cX0_homeOf 2 (some .int), Cond.fieldLink RX0 16 "ShardBallots" "homes" "[I", Cond.methodLink RX0 114 yX0_isRange, Cond.instanceMethod yX0_isRange, Cond.selects RX0 yX0_isRange yX0_isRange, Cond.code yX0_isRange cX0_isRange 2 (some .boolean), Cond.methodLink RX0 149 yX0_rowOf, Cond.instanceMethod yX0_rowOf, Cond.selects RX0 yX0_rowOf yX0_rowOf]
def wsL_leave_r3 : List Cond := [Cond.code yX0_rowOf cX0_rowOf 3 (some .int), Cond.fieldLink RX0 9 "ShardBallots" "rowTable" "[I", Cond.methodLink RX0 199 yX0_isShard, Cond.static yX0_isShard, Cond.code yX0_isShard cX0_isShard 1 (some .boolean), Cond.methodLink RX0 76 yX0_write, Cond.instanceMethod yX0_write, Cond.selects RX0 yX0_write yX0_write, Cond.code yX0_write cX0_write 4 none, Cond.methodLink RX0 153 yX0_putRow, Cond.instanceMethod yX0_putRow, Cond.selects RX0 yX0_putRow yX0_putRow, Cond.code yX0_putRow cX0_putRow 4 none, Cond.methodLink RX0 205 yX0_targetOf, Cond.instanceMethod yX0_targetOf, Cond.selects RX0 yX0_targetOf yX0_targetOf, Cond.code yX0_targetOf cX0_targetOf 2 (some .int), Cond.fieldLink RX0 19 "ShardBallots" "targets" "[I"]
def wsL_leave : List Cond := .codeWith yL_leave cL_leave 4 (some .int) [(0, 9, 12, 13), (0, 9, 15, 17)] :: ((wsL_leave_r1 ++ (wsL_leave_r2 ++ wsL_leave_r3)) ++ wsX00 ++ (vx_atS RX0 215 "java/lang/IndexOutOfBoundsException" ["java/lang/RuntimeException", "java/lang/Exception"]).filter goodWord ++ (vx_atS RX0 68 "java/lang/IllegalStateException" ["java/lang/RuntimeException", "java/lang/Exception"]).filter goodWord)
def wsL_address_r1 : List Cond := [Cond.classLink RL 13 "java/lang/IndexOutOfBoundsException", Cond.methodLink RL 26 yX0_address, Cond.instanceMethod yX0_address, Cond.selects RX0 yX0_address yX0_address, Cond.initialized RX0, Cond.code yX0_address cX0_address 2 (some .int), Cond.methodLink RX0 53 yX0_checkKey, Cond.static yX0_checkKey, Cond.code yX0_checkKey cX0_checkKey 1 none, Cond.classLink RX0 211 "java/lang/IndexOutOfBoundsException", Cond.initialized "java/lang/IndexOutOfBoundsException", Cond.methodLink RX0 202 yX0_isKey, Cond.static yX0_isKey, Cond.code yX0_isKey cX0_isKey 1 (some .boolean), Cond.methodLink RX0 83 yX0_read, Cond.instanceMethod yX0_read, Cond.selects RX0 yX0_read yX0_read, Cond.code yX0_read cX0_read 2 (some .int), Cond.methodLink RX0 93 yX0_rangeHolding, Cond.instanceMethod yX0_rangeHolding, Cond.selects RX0 yX0_rangeHolding yX0_rangeHolding, Cond.code yX0_rangeHolding cX0_rangeHolding 4 (some .int), Cond.fieldLink RX0 49 "ShardBallots" "rangeCount" "I", Cond.fieldLink RX0 13 "ShardBallots" "lastKeys" "[I"]
def wsL_address_r2 : List Cond := [Cond.methodLink RX0 119 yX0_homeOf, Cond.instanceMethod yX0_homeOf, Cond.selects RX0 yX0_homeOf yX0_homeOf, Cond.code yX0_homeOf cX0_homeOf 2 (some .int), Cond.fieldLink RX0 16 "ShardBallots" "homes" "[I", Cond.methodLink RX0 114 yX0_isRange, Cond.instanceMethod yX0_isRange, Cond.selects RX0 yX0_isRange yX0_isRange, Cond.code yX0_isRange cX0_isRange 2 (some .boolean), Cond.methodLink RX0 149 yX0_rowOf, Cond.instanceMethod yX0_rowOf, Cond.selects RX0 yX0_rowOf yX0_rowOf, Cond.code yX0_rowOf cX0_rowOf 3 (some .int), Cond.fieldLink RX0 9 "ShardBallots" "rowTable" "[I", Cond.methodLink RX0 199 yX0_isShard, Cond.static yX0_isShard, Cond.code yX0_isShard cX0_isShard 1 (some .boolean)]
def wsL_address : List Cond := .codeWith yL_address cL_address 4 (some .int) [(0, 9, 12, 13)] :: ((wsL_address_r1 ++ wsL_address_r2) ++ wsX00 ++ (vx_atS RX0 215 "java/lang/IndexOutOfBoundsException" ["java/lang/RuntimeException", "java/lang/Exception"]).filter goodWord)
def wsL_inDistrict_r1 : List Cond := [Cond.classLink RL 13 "java/lang/IndexOutOfBoundsException", Cond.methodLink RL 29 yX0_inDistrict, Cond.instanceMethod yX0_inDistrict, Cond.selects RX0 yX0_inDistrict yX0_inDistrict, Cond.initialized RX0, Cond.code yX0_inDistrict cX0_inDistrict 4 (some .int), Cond.methodLink RX0 87 yX0_checkDistrict, Cond.static yX0_checkDistrict, Cond.code yX0_checkDistrict cX0_checkDistrict 1 none, Cond.classLink RX0 211 "java/lang/IndexOutOfBoundsException", Cond.initialized "java/lang/IndexOutOfBoundsException", Cond.methodLink RX0 83 yX0_read, Cond.instanceMethod yX0_read, Cond.selects RX0 yX0_read yX0_read, Cond.code yX0_read cX0_read 2 (some .int), Cond.methodLink RX0 93 yX0_rangeHolding, Cond.instanceMethod yX0_rangeHolding, Cond.selects RX0 yX0_rangeHolding yX0_rangeHolding, Cond.code yX0_rangeHolding cX0_rangeHolding 4 (some .int), Cond.fieldLink RX0 49 "ShardBallots" "rangeCount" "I", Cond.fieldLink RX0 13 "ShardBallots" "lastKeys" "[I", Cond.methodLink RX0 119 yX0_homeOf, Cond.instanceMethod yX0_homeOf, Cond.selects RX0 yX0_homeOf yX0_homeOf]
def wsL_inDistrict_r2 : List Cond := [Cond.code yX0_homeOf cX0_homeOf 2 (some .int), Cond.fieldLink RX0 16 "ShardBallots" "homes" "[I", Cond.methodLink RX0 114 yX0_isRange, Cond.instanceMethod yX0_isRange, Cond.selects RX0 yX0_isRange yX0_isRange, Cond.code yX0_isRange cX0_isRange 2 (some .boolean), Cond.methodLink RX0 149 yX0_rowOf, Cond.instanceMethod yX0_rowOf, Cond.selects RX0 yX0_rowOf yX0_rowOf, Cond.code yX0_rowOf cX0_rowOf 3 (some .int), Cond.fieldLink RX0 9 "ShardBallots" "rowTable" "[I", Cond.methodLink RX0 199 yX0_isShard, Cond.static yX0_isShard, Cond.code yX0_isShard cX0_isShard 1 (some .boolean), Cond.methodLink RX0 202 yX0_isKey, Cond.static yX0_isKey, Cond.code yX0_isKey cX0_isKey 1 (some .boolean), Cond.methodLink RX0 90 yX0_districtOf, Cond.static yX0_districtOf, Cond.code yX0_districtOf cX0_districtOf 1 (some .int)]
def wsL_inDistrict : List Cond := .codeWith yL_inDistrict cL_inDistrict 4 (some .int) [(0, 9, 12, 13)] :: ((wsL_inDistrict_r1 ++ wsL_inDistrict_r2) ++ wsX00 ++ (vx_atS RX0 215 "java/lang/IndexOutOfBoundsException" ["java/lang/RuntimeException", "java/lang/Exception"]).filter goodWord)
def wsL_split_r1 : List Cond := [Cond.classLink RL 13 "java/lang/IndexOutOfBoundsException", Cond.classLink RL 17 "java/lang/IllegalStateException", Cond.methodLink RL 32 yX0_split, Cond.instanceMethod yX0_split, Cond.selects RX0 yX0_split yX0_split, Cond.initialized RX0, Cond.code yX0_split cX0_split 3 (some .int), Cond.classLink RX0 64 "java/lang/IllegalStateException", Cond.initialized "java/lang/IllegalStateException", Cond.fieldLink RX0 49 "ShardBallots" "rangeCount" "I", Cond.fieldLink RX0 13 "ShardBallots" "lastKeys" "[I", Cond.methodLink RX0 53 yX0_checkKey, Cond.static yX0_checkKey, Cond.code yX0_checkKey cX0_checkKey 1 none, Cond.classLink RX0 211 "java/lang/IndexOutOfBoundsException", Cond.initialized "java/lang/IndexOutOfBoundsException", Cond.methodLink RX0 202 yX0_isKey, Cond.static yX0_isKey, Cond.code yX0_isKey cX0_isKey 1 (some .boolean), Cond.methodLink RX0 93 yX0_rangeHolding, Cond.instanceMethod yX0_rangeHolding, Cond.selects RX0 yX0_rangeHolding yX0_rangeHolding, Cond.code yX0_rangeHolding cX0_rangeHolding 4 (some .int), Cond.methodLink RX0 96 yX0_lastKeyOf]
def wsL_split_r2 : List Cond := [Cond.instanceMethod yX0_lastKeyOf, Cond.selects RX0 yX0_lastKeyOf yX0_lastKeyOf, Cond.code yX0_lastKeyOf cX0_lastKeyOf 2 (some .int), Cond.methodLink RX0 114 yX0_isRange, Cond.instanceMethod yX0_isRange, Cond.selects RX0 yX0_isRange yX0_isRange, Cond.code yX0_isRange cX0_isRange 2 (some .boolean), Cond.methodLink RX0 101 yX0_isMoved, Cond.instanceMethod yX0_isMoved, Cond.selects RX0 yX0_isMoved yX0_isMoved, Cond.code yX0_isMoved cX0_isMoved 2 (some .boolean), Cond.methodLink RX0 205 yX0_targetOf, Cond.instanceMethod yX0_targetOf, Cond.selects RX0 yX0_targetOf yX0_targetOf, Cond.code yX0_targetOf cX0_targetOf 2 (some .int), Cond.fieldLink RX0 19 "ShardBallots" "targets" "[I", Cond.methodLink RX0 108 yX0_insertCopyBehind, Cond.instanceMethod yX0_insertCopyBehind, Cond.selects RX0 yX0_insertCopyBehind yX0_insertCopyBehind, Cond.code yX0_insertCopyBehind cX0_insertCopyBehind 3 none, Cond.methodLink RX0 208 yX0_copyRange, Cond.instanceMethod yX0_copyRange, Cond.selects RX0 yX0_copyRange yX0_copyRange, Cond.code yX0_copyRange cX0_copyRange 3 none]
def wsL_split_r3 : List Cond := [Cond.fieldLink RX0 16 "ShardBallots" "homes" "[I"]
def wsL_split : List Cond := .codeWith yL_split cL_split 4 (some .int) [(0, 9, 12, 13), (0, 9, 15, 17)] :: ((wsL_split_r1 ++ (wsL_split_r2 ++ wsL_split_r3)) ++ wsX00 ++ (vx_atS RX0 68 "java/lang/IllegalStateException" ["java/lang/RuntimeException", "java/lang/Exception"]).filter goodWord ++ (vx_atS RX0 215 "java/lang/IndexOutOfBoundsException" ["java/lang/RuntimeException", "java/lang/Exception"]).filter goodWord)
def wsL_merge_r1 : List Cond := [Cond.classLink RL 13 "java/lang/IndexOutOfBoundsException", Cond.classLink RL 17 "java/lang/IllegalStateException", Cond.methodLink RL 35 yX0_merge, Cond.instanceMethod yX0_merge, Cond.selects RX0 yX0_merge yX0_merge, Cond.initialized RX0, Cond.code yX0_merge cX0_merge 3 (some .int), Cond.classLink RX0 64 "java/lang/IllegalStateException", Cond.initialized "java/lang/IllegalStateException", Cond.fieldLink RX0 49 "ShardBallots" "rangeCount" "I", Cond.methodLink RX0 111 yX0_checkRange, Cond.instanceMethod yX0_checkRange, Cond.selects RX0 yX0_checkRange yX0_checkRange, Cond.code yX0_checkRange cX0_checkRange 2 none, Cond.classLink RX0 211 "java/lang/IndexOutOfBoundsException", Cond.initialized "java/lang/IndexOutOfBoundsException", Cond.methodLink RX0 114 yX0_isRange, Cond.instanceMethod yX0_isRange, Cond.selects RX0 yX0_isRange yX0_isRange, Cond.code yX0_isRange cX0_isRange 2 (some .boolean), Cond.methodLink RX0 119 yX0_homeOf, Cond.instanceMethod yX0_homeOf, Cond.selects RX0 yX0_homeOf yX0_homeOf, Cond.code yX0_homeOf cX0_homeOf 2 (some .int)]
def wsL_merge_r2 : List Cond := [Cond.fieldLink RX0 16 "ShardBallots" "homes" "[I", Cond.methodLink RX0 101 yX0_isMoved, Cond.instanceMethod yX0_isMoved, Cond.selects RX0 yX0_isMoved yX0_isMoved, Cond.code yX0_isMoved cX0_isMoved 2 (some .boolean), Cond.methodLink RX0 205 yX0_targetOf, Cond.instanceMethod yX0_targetOf, Cond.selects RX0 yX0_targetOf yX0_targetOf, Cond.code yX0_targetOf cX0_targetOf 2 (some .int), Cond.fieldLink RX0 19 "ShardBallots" "targets" "[I", Cond.methodLink RX0 126 yX0_remove, Cond.instanceMethod yX0_remove, Cond.selects RX0 yX0_remove yX0_remove, Cond.code yX0_remove cX0_remove 3 none, Cond.methodLink RX0 208 yX0_copyRange, Cond.instanceMethod yX0_copyRange, Cond.selects RX0 yX0_copyRange yX0_copyRange, Cond.code yX0_copyRange cX0_copyRange 3 none, Cond.fieldLink RX0 13 "ShardBallots" "lastKeys" "[I"]
def wsL_merge : List Cond := .codeWith yL_merge cL_merge 4 (some .int) [(0, 9, 12, 13), (0, 9, 15, 17)] :: ((wsL_merge_r1 ++ wsL_merge_r2) ++ wsX00 ++ (vx_atS RX0 68 "java/lang/IllegalStateException" ["java/lang/RuntimeException", "java/lang/Exception"]).filter goodWord ++ (vx_atS RX0 215 "java/lang/IndexOutOfBoundsException" ["java/lang/RuntimeException", "java/lang/Exception"]).filter goodWord)
def wsL_move_r1 : List Cond := [Cond.classLink RL 13 "java/lang/IndexOutOfBoundsException", Cond.classLink RL 17 "java/lang/IllegalStateException", Cond.methodLink RL 38 yX0_move, Cond.instanceMethod yX0_move, Cond.selects RX0 yX0_move yX0_move, Cond.initialized RX0, Cond.code yX0_move cX0_move 3 (some .int), Cond.classLink RX0 64 "java/lang/IllegalStateException", Cond.initialized "java/lang/IllegalStateException", Cond.fieldLink RX0 16 "ShardBallots" "homes" "[I", Cond.fieldLink RX0 19 "ShardBallots" "targets" "[I", Cond.methodLink RX0 111 yX0_checkRange, Cond.instanceMethod yX0_checkRange, Cond.selects RX0 yX0_checkRange yX0_checkRange, Cond.code yX0_checkRange cX0_checkRange 2 none, Cond.classLink RX0 211 "java/lang/IndexOutOfBoundsException", Cond.initialized "java/lang/IndexOutOfBoundsException", Cond.methodLink RX0 114 yX0_isRange, Cond.instanceMethod yX0_isRange, Cond.selects RX0 yX0_isRange yX0_isRange, Cond.code yX0_isRange cX0_isRange 2 (some .boolean), Cond.fieldLink RX0 49 "ShardBallots" "rangeCount" "I", Cond.methodLink RX0 129 yX0_checkShard, Cond.static yX0_checkShard]
def wsL_move_r2 : List Cond := [Cond.code yX0_checkShard cX0_checkShard 1 none, Cond.methodLink RX0 199 yX0_isShard, Cond.static yX0_isShard, Cond.code yX0_isShard cX0_isShard 1 (some .boolean), Cond.methodLink RX0 101 yX0_isMoved, Cond.instanceMethod yX0_isMoved, Cond.selects RX0 yX0_isMoved yX0_isMoved, Cond.code yX0_isMoved cX0_isMoved 2 (some .boolean), Cond.methodLink RX0 205 yX0_targetOf, Cond.instanceMethod yX0_targetOf, Cond.selects RX0 yX0_targetOf yX0_targetOf, Cond.code yX0_targetOf cX0_targetOf 2 (some .int), Cond.methodLink RX0 136 yX0_firstKeyOf, Cond.instanceMethod yX0_firstKeyOf, Cond.selects RX0 yX0_firstKeyOf yX0_firstKeyOf, Cond.code yX0_firstKeyOf cX0_firstKeyOf 2 (some .int), Cond.methodLink RX0 96 yX0_lastKeyOf, Cond.instanceMethod yX0_lastKeyOf, Cond.selects RX0 yX0_lastKeyOf yX0_lastKeyOf, Cond.code yX0_lastKeyOf cX0_lastKeyOf 2 (some .int), Cond.fieldLink RX0 13 "ShardBallots" "lastKeys" "[I", Cond.methodLink RX0 139 yX0_countRows, Cond.instanceMethod yX0_countRows, Cond.selects RX0 yX0_countRows yX0_countRows]
def wsL_move_r3 : List Cond := [Cond.code yX0_countRows cX0_countRows 6 (some .int), Cond.methodLink RX0 149 yX0_rowOf, Cond.instanceMethod yX0_rowOf, Cond.selects RX0 yX0_rowOf yX0_rowOf, Cond.code yX0_rowOf cX0_rowOf 3 (some .int), Cond.fieldLink RX0 9 "ShardBallots" "rowTable" "[I", Cond.methodLink RX0 202 yX0_isKey, Cond.static yX0_isKey, Cond.code yX0_isKey cX0_isKey 1 (some .boolean)]
def wsL_move : List Cond := .codeWith yL_move cL_move 5 (some .int) [(0, 10, 13, 13), (0, 10, 17, 17)] :: ((wsL_move_r1 ++ (wsL_move_r2 ++ wsL_move_r3)) ++ wsX00 ++ (vx_atS RX0 68 "java/lang/IllegalStateException" ["java/lang/RuntimeException", "java/lang/Exception"]).filter goodWord ++ (vx_atS RX0 215 "java/lang/IndexOutOfBoundsException" ["java/lang/RuntimeException", "java/lang/Exception"]).filter goodWord)
def wsL_step_r1 : List Cond := [Cond.classLink RL 13 "java/lang/IndexOutOfBoundsException", Cond.classLink RL 17 "java/lang/IllegalStateException", Cond.methodLink RL 41 yX0_step, Cond.instanceMethod yX0_step, Cond.selects RX0 yX0_step yX0_step, Cond.initialized RX0, Cond.code yX0_step cX0_step 5 (some .int), Cond.fieldLink RX0 16 "ShardBallots" "homes" "[I", Cond.fieldLink RX0 19 "ShardBallots" "targets" "[I", Cond.methodLink RX0 111 yX0_checkRange, Cond.instanceMethod yX0_checkRange, Cond.selects RX0 yX0_checkRange yX0_checkRange, Cond.code yX0_checkRange cX0_checkRange 2 none, Cond.classLink RX0 211 "java/lang/IndexOutOfBoundsException", Cond.initialized "java/lang/IndexOutOfBoundsException", Cond.methodLink RX0 114 yX0_isRange, Cond.instanceMethod yX0_isRange, Cond.selects RX0 yX0_isRange yX0_isRange, Cond.code yX0_isRange cX0_isRange 2 (some .boolean), Cond.fieldLink RX0 49 "ShardBallots" "rangeCount" "I", Cond.methodLink RX0 143 yX0_checkMoved, Cond.instanceMethod yX0_checkMoved, Cond.selects RX0 yX0_checkMoved yX0_checkMoved, Cond.code yX0_checkMoved cX0_checkMoved 2 none]
def wsL_step_r2 : List Cond := [Cond.classLink RX0 64 "java/lang/IllegalStateException", Cond.initialized "java/lang/IllegalStateException", Cond.methodLink RX0 101 yX0_isMoved, Cond.instanceMethod yX0_isMoved, Cond.selects RX0 yX0_isMoved yX0_isMoved, Cond.code yX0_isMoved cX0_isMoved 2 (some .boolean), Cond.methodLink RX0 205 yX0_targetOf, Cond.instanceMethod yX0_targetOf, Cond.selects RX0 yX0_targetOf yX0_targetOf, Cond.code yX0_targetOf cX0_targetOf 2 (some .int), Cond.methodLink RX0 146 yX0_lowestKeyNotBrought, Cond.instanceMethod yX0_lowestKeyNotBrought, Cond.selects RX0 yX0_lowestKeyNotBrought yX0_lowestKeyNotBrought, Cond.code yX0_lowestKeyNotBrought cX0_lowestKeyNotBrought 6 (some .int), Cond.methodLink RX0 119 yX0_homeOf, Cond.instanceMethod yX0_homeOf, Cond.selects RX0 yX0_homeOf yX0_homeOf, Cond.code yX0_homeOf cX0_homeOf 2 (some .int), Cond.methodLink RX0 96 yX0_lastKeyOf, Cond.instanceMethod yX0_lastKeyOf, Cond.selects RX0 yX0_lastKeyOf yX0_lastKeyOf, Cond.code yX0_lastKeyOf cX0_lastKeyOf 2 (some .int), Cond.fieldLink RX0 13 "ShardBallots" "lastKeys" "[I", Cond.methodLink RX0 136 yX0_firstKeyOf]
def wsL_step_r3 : List Cond := [Cond.instanceMethod yX0_firstKeyOf, Cond.selects RX0 yX0_firstKeyOf yX0_firstKeyOf, Cond.code yX0_firstKeyOf cX0_firstKeyOf 2 (some .int), Cond.methodLink RX0 149 yX0_rowOf, Cond.instanceMethod yX0_rowOf, Cond.selects RX0 yX0_rowOf yX0_rowOf, Cond.code yX0_rowOf cX0_rowOf 3 (some .int), Cond.fieldLink RX0 9 "ShardBallots" "rowTable" "[I", Cond.methodLink RX0 199 yX0_isShard, Cond.static yX0_isShard, Cond.code yX0_isShard cX0_isShard 1 (some .boolean), Cond.methodLink RX0 202 yX0_isKey, Cond.static yX0_isKey, Cond.code yX0_isKey cX0_isKey 1 (some .boolean), Cond.methodLink RX0 153 yX0_putRow, Cond.instanceMethod yX0_putRow, Cond.selects RX0 yX0_putRow yX0_putRow, Cond.code yX0_putRow cX0_putRow 4 none, Cond.methodLink RX0 157 yX0_dropRows, Cond.instanceMethod yX0_dropRows, Cond.selects RX0 yX0_dropRows yX0_dropRows, Cond.code yX0_dropRows cX0_dropRows 5 none]
def wsL_step : List Cond := .codeWith yL_step cL_step 4 (some .int) [(0, 9, 12, 13), (0, 9, 15, 17)] :: ((wsL_step_r1 ++ (wsL_step_r2 ++ wsL_step_r3)) ++ wsX00 ++ (vx_atS RX0 215 "java/lang/IndexOutOfBoundsException" ["java/lang/RuntimeException", "java/lang/Exception"]).filter goodWord ++ (vx_atS RX0 68 "java/lang/IllegalStateException" ["java/lang/RuntimeException", "java/lang/Exception"]).filter goodWord)
def wsL_giveUp_r1 : List Cond := [Cond.classLink RL 13 "java/lang/IndexOutOfBoundsException", Cond.classLink RL 17 "java/lang/IllegalStateException", Cond.methodLink RL 44 yX0_giveUp, Cond.instanceMethod yX0_giveUp, Cond.selects RX0 yX0_giveUp yX0_giveUp, Cond.initialized RX0, Cond.code yX0_giveUp cX0_giveUp 4 (some .int), Cond.fieldLink RX0 19 "ShardBallots" "targets" "[I", Cond.methodLink RX0 111 yX0_checkRange, Cond.instanceMethod yX0_checkRange, Cond.selects RX0 yX0_checkRange yX0_checkRange, Cond.code yX0_checkRange cX0_checkRange 2 none, Cond.classLink RX0 211 "java/lang/IndexOutOfBoundsException", Cond.initialized "java/lang/IndexOutOfBoundsException", Cond.methodLink RX0 114 yX0_isRange, Cond.instanceMethod yX0_isRange, Cond.selects RX0 yX0_isRange yX0_isRange, Cond.code yX0_isRange cX0_isRange 2 (some .boolean), Cond.fieldLink RX0 49 "ShardBallots" "rangeCount" "I", Cond.methodLink RX0 143 yX0_checkMoved, Cond.instanceMethod yX0_checkMoved, Cond.selects RX0 yX0_checkMoved yX0_checkMoved, Cond.code yX0_checkMoved cX0_checkMoved 2 none, Cond.classLink RX0 64 "java/lang/IllegalStateException"]
def wsL_giveUp_r2 : List Cond := [Cond.initialized "java/lang/IllegalStateException", Cond.methodLink RX0 101 yX0_isMoved, Cond.instanceMethod yX0_isMoved, Cond.selects RX0 yX0_isMoved yX0_isMoved, Cond.code yX0_isMoved cX0_isMoved 2 (some .boolean), Cond.methodLink RX0 205 yX0_targetOf, Cond.instanceMethod yX0_targetOf, Cond.selects RX0 yX0_targetOf yX0_targetOf, Cond.code yX0_targetOf cX0_targetOf 2 (some .int), Cond.methodLink RX0 136 yX0_firstKeyOf, Cond.instanceMethod yX0_firstKeyOf, Cond.selects RX0 yX0_firstKeyOf yX0_firstKeyOf, Cond.code yX0_firstKeyOf cX0_firstKeyOf 2 (some .int), Cond.methodLink RX0 96 yX0_lastKeyOf, Cond.instanceMethod yX0_lastKeyOf, Cond.selects RX0 yX0_lastKeyOf yX0_lastKeyOf, Cond.code yX0_lastKeyOf cX0_lastKeyOf 2 (some .int), Cond.fieldLink RX0 13 "ShardBallots" "lastKeys" "[I", Cond.methodLink RX0 139 yX0_countRows, Cond.instanceMethod yX0_countRows, Cond.selects RX0 yX0_countRows yX0_countRows, Cond.code yX0_countRows cX0_countRows 6 (some .int), Cond.methodLink RX0 149 yX0_rowOf, Cond.instanceMethod yX0_rowOf]
def wsL_giveUp_r3 : List Cond := [Cond.selects RX0 yX0_rowOf yX0_rowOf, Cond.code yX0_rowOf cX0_rowOf 3 (some .int), Cond.fieldLink RX0 9 "ShardBallots" "rowTable" "[I", Cond.methodLink RX0 199 yX0_isShard, Cond.static yX0_isShard, Cond.code yX0_isShard cX0_isShard 1 (some .boolean), Cond.methodLink RX0 202 yX0_isKey, Cond.static yX0_isKey, Cond.code yX0_isKey cX0_isKey 1 (some .boolean), Cond.methodLink RX0 157 yX0_dropRows, Cond.instanceMethod yX0_dropRows, Cond.selects RX0 yX0_dropRows yX0_dropRows, Cond.code yX0_dropRows cX0_dropRows 5 none, Cond.methodLink RX0 153 yX0_putRow, Cond.instanceMethod yX0_putRow, Cond.selects RX0 yX0_putRow yX0_putRow, Cond.code yX0_putRow cX0_putRow 4 none]
def wsL_giveUp : List Cond := .codeWith yL_giveUp cL_giveUp 4 (some .int) [(0, 9, 12, 13), (0, 9, 15, 17)] :: ((wsL_giveUp_r1 ++ (wsL_giveUp_r2 ++ wsL_giveUp_r3)) ++ wsX00 ++ (vx_atS RX0 215 "java/lang/IndexOutOfBoundsException" ["java/lang/RuntimeException", "java/lang/Exception"]).filter goodWord ++ (vx_atS RX0 68 "java/lang/IllegalStateException" ["java/lang/RuntimeException", "java/lang/Exception"]).filter goodWord)
def wsL_rangeOf : List Cond := .codeWith yL_rangeOf cL_rangeOf 4 (some .int) [(0, 9, 12, 13)] :: ([.classLink RL 13 "java/lang/IndexOutOfBoundsException", .methodLink RL 47 yX0_rangeOf, .instanceMethod yX0_rangeOf, .selects RX0 yX0_rangeOf yX0_rangeOf, .initialized RX0, .code yX0_rangeOf cX0_rangeOf 2 (some .int), .methodLink RX0 53 yX0_checkKey, .static yX0_checkKey, .code yX0_checkKey cX0_checkKey 1 none, .classLink RX0 211 "java/lang/IndexOutOfBoundsException", .initialized "java/lang/IndexOutOfBoundsException", .methodLink RX0 202 yX0_isKey, .static yX0_isKey, .code yX0_isKey cX0_isKey 1 (some .boolean), .methodLink RX0 93 yX0_rangeHolding, .instanceMethod yX0_rangeHolding, .selects RX0 yX0_rangeHolding yX0_rangeHolding, .code yX0_rangeHolding cX0_rangeHolding 4 (some .int), .fieldLink RX0 49 "ShardBallots" "rangeCount" "I", .fieldLink RX0 13 "ShardBallots" "lastKeys" "[I"] ++ wsX00 ++ (vx_atS RX0 215 "java/lang/IndexOutOfBoundsException" ["java/lang/RuntimeException", "java/lang/Exception"]).filter goodWord)
def wsL_shardOf : List Cond := .codeWith yL_shardOf cL_shardOf 4 (some .int) [(0, 9, 12, 13)] :: ([.classLink RL 13 "java/lang/IndexOutOfBoundsException", .methodLink RL 50 yX0_shardOf, .instanceMethod yX0_shardOf, .selects RX0 yX0_shardOf yX0_shardOf, .initialized RX0, .code yX0_shardOf cX0_shardOf 2 (some .int), .fieldLink RX0 16 "ShardBallots" "homes" "[I", .methodLink RX0 111 yX0_checkRange, .instanceMethod yX0_checkRange, .selects RX0 yX0_checkRange yX0_checkRange, .code yX0_checkRange cX0_checkRange 2 none, .classLink RX0 211 "java/lang/IndexOutOfBoundsException", .initialized "java/lang/IndexOutOfBoundsException", .methodLink RX0 114 yX0_isRange, .instanceMethod yX0_isRange, .selects RX0 yX0_isRange yX0_isRange, .code yX0_isRange cX0_isRange 2 (some .boolean), .fieldLink RX0 49 "ShardBallots" "rangeCount" "I"] ++ wsX00 ++ (vx_atS RX0 215 "java/lang/IndexOutOfBoundsException" ["java/lang/RuntimeException", "java/lang/Exception"]).filter goodWord)
def wsL_rows_r1 : List Cond := [Cond.classLink RL 13 "java/lang/IndexOutOfBoundsException", Cond.methodLink RL 53 yX0_rows, Cond.instanceMethod yX0_rows, Cond.selects RX0 yX0_rows yX0_rows, Cond.initialized RX0, Cond.code yX0_rows cX0_rows 2 (some .int), Cond.methodLink RX0 129 yX0_checkShard, Cond.static yX0_checkShard, Cond.code yX0_checkShard cX0_checkShard 1 none, Cond.classLink RX0 211 "java/lang/IndexOutOfBoundsException", Cond.initialized "java/lang/IndexOutOfBoundsException", Cond.methodLink RX0 199 yX0_isShard, Cond.static yX0_isShard, Cond.code yX0_isShard cX0_isShard 1 (some .boolean), Cond.methodLink RX0 139 yX0_countRows, Cond.instanceMethod yX0_countRows, Cond.selects RX0 yX0_countRows yX0_countRows, Cond.code yX0_countRows cX0_countRows 6 (some .int), Cond.methodLink RX0 149 yX0_rowOf, Cond.instanceMethod yX0_rowOf, Cond.selects RX0 yX0_rowOf yX0_rowOf, Cond.code yX0_rowOf cX0_rowOf 3 (some .int), Cond.fieldLink RX0 9 "ShardBallots" "rowTable" "[I", Cond.methodLink RX0 202 yX0_isKey]
def wsL_rows_r2 : List Cond := [Cond.static yX0_isKey, Cond.code yX0_isKey cX0_isKey 1 (some .boolean)]
def wsL_rows : List Cond := .codeWith yL_rows cL_rows 4 (some .int) [(0, 9, 12, 13)] :: ((wsL_rows_r1 ++ wsL_rows_r2) ++ wsX00 ++ (vx_atS RX0 215 "java/lang/IndexOutOfBoundsException" ["java/lang/RuntimeException", "java/lang/Exception"]).filter goodWord)
def wsL_fix_r1 : List Cond := [Cond.classLink RL 17 "java/lang/IllegalStateException", Cond.methodLink RL 56 yX0_fix, Cond.instanceMethod yX0_fix, Cond.selects RX0 yX0_fix yX0_fix, Cond.initialized RX0, Cond.code yX0_fix cX0_fix 2 (some .int), Cond.classLink RX0 64 "java/lang/IllegalStateException", Cond.initialized "java/lang/IllegalStateException", Cond.fieldLink RX0 160 "ShardBallots" "rollLaid" "Z", Cond.fieldLink RX0 22 "ShardBallots" "roll" "[I", Cond.fieldLink RX0 166 "ShardBallots" "voteNumber" "I", Cond.fieldLink RX0 71 "ShardBallots" "memberCount" "I", Cond.methodLink RX0 83 yX0_read, Cond.instanceMethod yX0_read, Cond.selects RX0 yX0_read yX0_read, Cond.code yX0_read cX0_read 2 (some .int), Cond.methodLink RX0 93 yX0_rangeHolding, Cond.instanceMethod yX0_rangeHolding, Cond.selects RX0 yX0_rangeHolding yX0_rangeHolding, Cond.code yX0_rangeHolding cX0_rangeHolding 4 (some .int), Cond.fieldLink RX0 49 "ShardBallots" "rangeCount" "I", Cond.fieldLink RX0 13 "ShardBallots" "lastKeys" "[I", Cond.methodLink RX0 119 yX0_homeOf, Cond.instanceMethod yX0_homeOf]
def wsL_fix_r2 : List Cond := [Cond.selects RX0 yX0_homeOf yX0_homeOf, Cond.code yX0_homeOf cX0_homeOf 2 (some .int), Cond.fieldLink RX0 16 "ShardBallots" "homes" "[I", Cond.methodLink RX0 114 yX0_isRange, Cond.instanceMethod yX0_isRange, Cond.selects RX0 yX0_isRange yX0_isRange, Cond.code yX0_isRange cX0_isRange 2 (some .boolean), Cond.methodLink RX0 149 yX0_rowOf, Cond.instanceMethod yX0_rowOf, Cond.selects RX0 yX0_rowOf yX0_rowOf, Cond.code yX0_rowOf cX0_rowOf 3 (some .int), Cond.fieldLink RX0 9 "ShardBallots" "rowTable" "[I", Cond.methodLink RX0 199 yX0_isShard, Cond.static yX0_isShard, Cond.code yX0_isShard cX0_isShard 1 (some .boolean), Cond.methodLink RX0 202 yX0_isKey, Cond.static yX0_isKey, Cond.code yX0_isKey cX0_isKey 1 (some .boolean), Cond.methodLink RX0 90 yX0_districtOf, Cond.static yX0_districtOf, Cond.code yX0_districtOf cX0_districtOf 1 (some .int)]
def wsL_fix : List Cond := .codeWith yL_fix cL_fix 3 (some .int) [(0, 8, 11, 17)] :: ((wsL_fix_r1 ++ wsL_fix_r2) ++ wsX00 ++ (vx_atS RX0 68 "java/lang/IllegalStateException" ["java/lang/RuntimeException", "java/lang/Exception"]).filter goodWord)
def wsL_onRoll : List Cond := .codeWith yL_onRoll cL_onRoll 4 (some .int) [(0, 9, 12, 13)] :: ([.classLink RL 13 "java/lang/IndexOutOfBoundsException", .methodLink RL 60 yX0_onRoll, .instanceMethod yX0_onRoll, .selects RX0 yX0_onRoll yX0_onRoll, .initialized RX0, .code yX0_onRoll cX0_onRoll 2 (some .int), .fieldLink RX0 160 "ShardBallots" "rollLaid" "Z", .fieldLink RX0 22 "ShardBallots" "roll" "[I", .methodLink RX0 53 yX0_checkKey, .static yX0_checkKey, .code yX0_checkKey cX0_checkKey 1 none, .classLink RX0 211 "java/lang/IndexOutOfBoundsException", .initialized "java/lang/IndexOutOfBoundsException", .methodLink RX0 202 yX0_isKey, .static yX0_isKey, .code yX0_isKey cX0_isKey 1 (some .boolean)] ++ wsX00 ++ (vx_atS RX0 215 "java/lang/IndexOutOfBoundsException" ["java/lang/RuntimeException", "java/lang/Exception"]).filter goodWord)
def wsL_send_r1 : List Cond := [Cond.classLink RL 13 "java/lang/IndexOutOfBoundsException", Cond.classLink RL 17 "java/lang/IllegalStateException", Cond.methodLink RL 63 yX0_send, Cond.instanceMethod yX0_send, Cond.selects RX0 yX0_send yX0_send, Cond.initialized RX0, Cond.code yX0_send cX0_send 4 (some .int), Cond.classLink RX0 64 "java/lang/IllegalStateException", Cond.initialized "java/lang/IllegalStateException", Cond.fieldLink RX0 160 "ShardBallots" "rollLaid" "Z", Cond.fieldLink RX0 22 "ShardBallots" "roll" "[I", Cond.fieldLink RX0 37 "ShardBallots" "ballotStates" "[I", Cond.fieldLink RX0 179 "ShardBallots" "ballotCount" "I", Cond.fieldLink RX0 25 "ShardBallots" "ballotKeys" "[I", Cond.fieldLink RX0 28 "ShardBallots" "ballotVotes" "[I", Cond.fieldLink RX0 166 "ShardBallots" "voteNumber" "I", Cond.fieldLink RX0 31 "ShardBallots" "ballotAddresses" "[I", Cond.fieldLink RX0 34 "ShardBallots" "ballotDistricts" "[I", Cond.methodLink RX0 53 yX0_checkKey, Cond.static yX0_checkKey, Cond.code yX0_checkKey cX0_checkKey 1 none, Cond.classLink RX0 211 "java/lang/IndexOutOfBoundsException", Cond.initialized "java/lang/IndexOutOfBoundsException", Cond.methodLink RX0 202 yX0_isKey]
def wsL_send_r2 : List Cond := [Cond.static yX0_isKey, Cond.code yX0_isKey cX0_isKey 1 (some .boolean), Cond.methodLink RX0 80 yX0_checkMember, Cond.instanceMethod yX0_checkMember, Cond.selects RX0 yX0_checkMember yX0_checkMember, Cond.code yX0_checkMember cX0_checkMember 2 none, Cond.methodLink RX0 60 yX0_isMember, Cond.instanceMethod yX0_isMember, Cond.selects RX0 yX0_isMember yX0_isMember, Cond.code yX0_isMember cX0_isMember 2 (some .boolean), Cond.methodLink RX0 83 yX0_read, Cond.instanceMethod yX0_read, Cond.selects RX0 yX0_read yX0_read, Cond.code yX0_read cX0_read 2 (some .int), Cond.methodLink RX0 93 yX0_rangeHolding, Cond.instanceMethod yX0_rangeHolding, Cond.selects RX0 yX0_rangeHolding yX0_rangeHolding, Cond.code yX0_rangeHolding cX0_rangeHolding 4 (some .int), Cond.fieldLink RX0 49 "ShardBallots" "rangeCount" "I", Cond.fieldLink RX0 13 "ShardBallots" "lastKeys" "[I", Cond.methodLink RX0 119 yX0_homeOf, Cond.instanceMethod yX0_homeOf, Cond.selects RX0 yX0_homeOf yX0_homeOf, Cond.code yX0_homeOf cX0_homeOf 2 (some .int)]
def wsL_send_r3 : List Cond := [Cond.fieldLink RX0 16 "ShardBallots" "homes" "[I", Cond.methodLink RX0 114 yX0_isRange, Cond.instanceMethod yX0_isRange, Cond.selects RX0 yX0_isRange yX0_isRange, Cond.code yX0_isRange cX0_isRange 2 (some .boolean), Cond.methodLink RX0 149 yX0_rowOf, Cond.instanceMethod yX0_rowOf, Cond.selects RX0 yX0_rowOf yX0_rowOf, Cond.code yX0_rowOf cX0_rowOf 3 (some .int), Cond.fieldLink RX0 9 "ShardBallots" "rowTable" "[I", Cond.methodLink RX0 199 yX0_isShard, Cond.static yX0_isShard, Cond.code yX0_isShard cX0_isShard 1 (some .boolean), Cond.methodLink RX0 171 yX0_latestBallotTo, Cond.instanceMethod yX0_latestBallotTo, Cond.selects RX0 yX0_latestBallotTo yX0_latestBallotTo, Cond.code yX0_latestBallotTo cX0_latestBallotTo 3 (some .int), Cond.methodLink RX0 192 yX0_isOfOpenVote, Cond.instanceMethod yX0_isOfOpenVote, Cond.selects RX0 yX0_isOfOpenVote yX0_isOfOpenVote, Cond.code yX0_isOfOpenVote cX0_isOfOpenVote 2 (some .boolean), Cond.methodLink RX0 174 yX0_isBallot, Cond.instanceMethod yX0_isBallot, Cond.selects RX0 yX0_isBallot yX0_isBallot]
def wsL_send_r4 : List Cond := [Cond.code yX0_isBallot cX0_isBallot 2 (some .boolean)]
def wsL_send : List Cond := .codeWith yL_send cL_send 4 (some .int) [(0, 9, 12, 13), (0, 9, 15, 17)] :: ((wsL_send_r1 ++ (wsL_send_r2 ++ (wsL_send_r3 ++ wsL_send_r4))) ++ wsX00 ++ (vx_atS RX0 68 "java/lang/IllegalStateException" ["java/lang/RuntimeException", "java/lang/Exception"]).filter goodWord ++ (vx_atS RX0 215 "java/lang/IndexOutOfBoundsException" ["java/lang/RuntimeException", "java/lang/Exception"]).filter goodWord)
def wsL_sentTo : List Cond := .codeWith yL_sentTo cL_sentTo 4 (some .int) [(0, 9, 12, 13)] :: ([.classLink RL 13 "java/lang/IndexOutOfBoundsException", .methodLink RL 66 yX0_sentTo, .instanceMethod yX0_sentTo, .selects RX0 yX0_sentTo yX0_sentTo, .initialized RX0, .code yX0_sentTo cX0_sentTo 2 (some .int), .fieldLink RX0 31 "ShardBallots" "ballotAddresses" "[I", .methodLink RX0 184 yX0_checkBallot, .instanceMethod yX0_checkBallot, .selects RX0 yX0_checkBallot yX0_checkBallot, .code yX0_checkBallot cX0_checkBallot 2 none, .classLink RX0 211 "java/lang/IndexOutOfBoundsException", .initialized "java/lang/IndexOutOfBoundsException", .methodLink RX0 174 yX0_isBallot, .instanceMethod yX0_isBallot, .selects RX0 yX0_isBallot yX0_isBallot, .code yX0_isBallot cX0_isBallot 2 (some .boolean), .fieldLink RX0 179 "ShardBallots" "ballotCount" "I"] ++ wsX00 ++ (vx_atS RX0 215 "java/lang/IndexOutOfBoundsException" ["java/lang/RuntimeException", "java/lang/Exception"]).filter goodWord)
def wsL_giveBack_r1 : List Cond := [Cond.classLink RL 13 "java/lang/IndexOutOfBoundsException", Cond.classLink RL 15 "java/lang/IllegalArgumentException", Cond.classLink RL 17 "java/lang/IllegalStateException", Cond.methodLink RL 69 yX0_giveBack, Cond.instanceMethod yX0_giveBack, Cond.selects RX0 yX0_giveBack yX0_giveBack, Cond.initialized RX0, Cond.code yX0_giveBack cX0_giveBack 3 (some .int), Cond.classLink RX0 64 "java/lang/IllegalStateException", Cond.initialized "java/lang/IllegalStateException", Cond.fieldLink RX0 37 "ShardBallots" "ballotStates" "[I", Cond.fieldLink RX0 40 "ShardBallots" "ballotChoices" "[I", Cond.fieldLink RX0 34 "ShardBallots" "ballotDistricts" "[I", Cond.methodLink RX0 184 yX0_checkBallot, Cond.instanceMethod yX0_checkBallot, Cond.selects RX0 yX0_checkBallot yX0_checkBallot, Cond.code yX0_checkBallot cX0_checkBallot 2 none, Cond.classLink RX0 211 "java/lang/IndexOutOfBoundsException", Cond.initialized "java/lang/IndexOutOfBoundsException", Cond.methodLink RX0 174 yX0_isBallot, Cond.instanceMethod yX0_isBallot, Cond.selects RX0 yX0_isBallot yX0_isBallot, Cond.code yX0_isBallot cX0_isBallot 2 (some .boolean), Cond.fieldLink RX0 179 "ShardBallots" "ballotCount" "I"]
def wsL_giveBack_r2 : List Cond := [Cond.methodLink RX0 187 yX0_checkChoice, Cond.static yX0_checkChoice, Cond.code yX0_checkChoice cX0_checkChoice 1 none, Cond.classLink RX0 224 "java/lang/IllegalArgumentException", Cond.initialized "java/lang/IllegalArgumentException", Cond.methodLink RX0 192 yX0_isOfOpenVote, Cond.instanceMethod yX0_isOfOpenVote, Cond.selects RX0 yX0_isOfOpenVote yX0_isOfOpenVote, Cond.code yX0_isOfOpenVote cX0_isOfOpenVote 2 (some .boolean), Cond.fieldLink RX0 160 "ShardBallots" "rollLaid" "Z", Cond.fieldLink RX0 28 "ShardBallots" "ballotVotes" "[I", Cond.fieldLink RX0 166 "ShardBallots" "voteNumber" "I"]
def wsL_giveBack : List Cond := .codeWith yL_giveBack cL_giveBack 5 (some .int) [(0, 10, 13, 13), (0, 10, 17, 15), (0, 10, 21, 17)] :: ((wsL_giveBack_r1 ++ wsL_giveBack_r2) ++ wsX00 ++ (vx_atS RX0 68 "java/lang/IllegalStateException" ["java/lang/RuntimeException", "java/lang/Exception"]).filter goodWord ++ (vx_atS RX0 215 "java/lang/IndexOutOfBoundsException" ["java/lang/RuntimeException", "java/lang/Exception"]).filter goodWord ++ (vx_atS RX0 228 "java/lang/IllegalArgumentException" ["java/lang/RuntimeException", "java/lang/Exception"]).filter goodWord)
def wsL_stateOf : List Cond := .codeWith yL_stateOf cL_stateOf 4 (some .int) [(0, 9, 12, 13)] :: ([.classLink RL 13 "java/lang/IndexOutOfBoundsException", .methodLink RL 72 yX0_stateOf, .instanceMethod yX0_stateOf, .selects RX0 yX0_stateOf yX0_stateOf, .initialized RX0, .code yX0_stateOf cX0_stateOf 2 (some .int), .fieldLink RX0 37 "ShardBallots" "ballotStates" "[I", .methodLink RX0 184 yX0_checkBallot, .instanceMethod yX0_checkBallot, .selects RX0 yX0_checkBallot yX0_checkBallot, .code yX0_checkBallot cX0_checkBallot 2 none, .classLink RX0 211 "java/lang/IndexOutOfBoundsException", .initialized "java/lang/IndexOutOfBoundsException", .methodLink RX0 174 yX0_isBallot, .instanceMethod yX0_isBallot, .selects RX0 yX0_isBallot yX0_isBallot, .code yX0_isBallot cX0_isBallot 2 (some .boolean), .fieldLink RX0 179 "ShardBallots" "ballotCount" "I"] ++ wsX00 ++ (vx_atS RX0 215 "java/lang/IndexOutOfBoundsException" ["java/lang/RuntimeException", "java/lang/Exception"]).filter goodWord)
def wsL_counted : List Cond := .codeWith yL_counted cL_counted 5 (some .int) [(0, 10, 13, 13), (0, 10, 17, 15)] :: ([.classLink RL 13 "java/lang/IndexOutOfBoundsException", .classLink RL 15 "java/lang/IllegalArgumentException", .methodLink RL 75 yX0_counted, .instanceMethod yX0_counted, .selects RX0 yX0_counted yX0_counted, .initialized RX0, .code yX0_counted cX0_counted 5 (some .int), .fieldLink RX0 179 "ShardBallots" "ballotCount" "I", .fieldLink RX0 37 "ShardBallots" "ballotStates" "[I", .fieldLink RX0 34 "ShardBallots" "ballotDistricts" "[I", .fieldLink RX0 40 "ShardBallots" "ballotChoices" "[I", .methodLink RX0 87 yX0_checkDistrict, .static yX0_checkDistrict, .code yX0_checkDistrict cX0_checkDistrict 1 none, .classLink RX0 211 "java/lang/IndexOutOfBoundsException", .initialized "java/lang/IndexOutOfBoundsException", .methodLink RX0 187 yX0_checkChoice, .static yX0_checkChoice, .code yX0_checkChoice cX0_checkChoice 1 none, .classLink RX0 224 "java/lang/IllegalArgumentException", .initialized "java/lang/IllegalArgumentException"] ++ wsX00 ++ (vx_atS RX0 215 "java/lang/IndexOutOfBoundsException" ["java/lang/RuntimeException", "java/lang/Exception"]).filter goodWord ++ (vx_atS RX0 228 "java/lang/IllegalArgumentException" ["java/lang/RuntimeException", "java/lang/Exception"]).filter goodWord)
def wsL_close : List Cond := .codeWith yL_close cL_close 3 (some .int) [(0, 8, 11, 17)] :: ([.classLink RL 17 "java/lang/IllegalStateException", .methodLink RL 78 yX0_close, .instanceMethod yX0_close, .selects RX0 yX0_close yX0_close, .initialized RX0, .code yX0_close cX0_close 3 (some .int), .classLink RX0 64 "java/lang/IllegalStateException", .initialized "java/lang/IllegalStateException", .fieldLink RX0 160 "ShardBallots" "rollLaid" "Z", .fieldLink RX0 179 "ShardBallots" "ballotCount" "I", .fieldLink RX0 37 "ShardBallots" "ballotStates" "[I", .methodLink RX0 192 yX0_isOfOpenVote, .instanceMethod yX0_isOfOpenVote, .selects RX0 yX0_isOfOpenVote yX0_isOfOpenVote, .code yX0_isOfOpenVote cX0_isOfOpenVote 2 (some .boolean), .fieldLink RX0 28 "ShardBallots" "ballotVotes" "[I", .fieldLink RX0 166 "ShardBallots" "voteNumber" "I", .methodLink RX0 174 yX0_isBallot, .instanceMethod yX0_isBallot, .selects RX0 yX0_isBallot yX0_isBallot, .code yX0_isBallot cX0_isBallot 2 (some .boolean)] ++ wsX00 ++ (vx_atS RX0 68 "java/lang/IllegalStateException" ["java/lang/RuntimeException", "java/lang/Exception"]).filter goodWord)
def wsL_law0_r1 : List Cond := [Cond.classLink RL 8 RX0, Cond.instantiable RX0 16, Cond.initialized RX0, Cond.classLink RL 82 RX1, Cond.instantiable RX1 18, Cond.initialized RX1, Cond.arrayClass .long, Cond.methodLink RL 81 yX0_init, Cond.instanceMethod yX0_init, Cond.code yX0_init cX0_init 1 none, Cond.methodLink RX0 1 objectInit, Cond.instanceMethod objectInit, Cond.code objectInit ⟨#[0xb1]⟩ 1 none, Cond.arrayClass .int, Cond.fieldLink RX0 9 "ShardBallots" "rowTable" "[I", Cond.fieldLink RX0 13 "ShardBallots" "lastKeys" "[I", Cond.fieldLink RX0 16 "ShardBallots" "homes" "[I", Cond.fieldLink RX0 19 "ShardBallots" "targets" "[I", Cond.fieldLink RX0 22 "ShardBallots" "roll" "[I", Cond.fieldLink RX0 25 "ShardBallots" "ballotKeys" "[I", Cond.fieldLink RX0 28 "ShardBallots" "ballotVotes" "[I", Cond.fieldLink RX0 31 "ShardBallots" "ballotAddresses" "[I", Cond.fieldLink RX0 34 "ShardBallots" "ballotDistricts" "[I", Cond.fieldLink RX0 37 "ShardBallots" "ballotStates" "[I"]
def wsL_law0_r2 : List Cond := [Cond.fieldLink RX0 40 "ShardBallots" "ballotChoices" "[I", Cond.fieldLink RX0 49 "ShardBallots" "rangeCount" "I", Cond.methodLink RX0 43 yJ7_fill_53178, Cond.static yJ7_fill_53178, Cond.initialized RJ7, Cond.code yJ7_fill_53178 cJ7_fill_53178 4 none, Cond.methodLink RL 84 yX1_init, Cond.instanceMethod yX1_init, Cond.code yX1_init cX1_init 1 none, Cond.methodLink RX1 1 objectInit, Cond.fieldLink RX1 7 "ShardBallotsModel" "row" "[I", Cond.fieldLink RX1 13 "ShardBallotsModel" "ranges" "I", Cond.fieldLink RX1 17 "ShardBallotsModel" "first" "[I", Cond.fieldLink RX1 20 "ShardBallotsModel" "shard" "[I", Cond.fieldLink RX1 23 "ShardBallotsModel" "target" "[I", Cond.arrayClass .boolean, Cond.fieldLink RX1 26 "ShardBallotsModel" "isBrought" "[Z", Cond.fieldLink RX1 30 "ShardBallotsModel" "roll" "[I", Cond.fieldLink RX1 33 "ShardBallotsModel" "latest" "[I", Cond.fieldLink RX1 36 "ShardBallotsModel" "sentTo" "[I", Cond.fieldLink RX1 39 "ShardBallotsModel" "state" "[I", Cond.fieldLink RX1 42 "ShardBallotsModel" "itsVote" "[I", Cond.fieldLink RX1 45 "ShardBallotsModel" "district" "[I", Cond.fieldLink RX1 48 "ShardBallotsModel" "counted" "[I"]
def wsL_law0_r3 : List Cond := [Cond.methodLink RL 85 yL_join, Cond.static yL_join, Cond.initialized RL, Cond.codeWith yL_join cL_join 5 (some .int) [(0, 10, 13, 13), (0, 10, 17, 15), (0, 10, 21, 17)], Cond.classLink RL 13 "java/lang/IndexOutOfBoundsException", Cond.classLink RL 15 "java/lang/IllegalArgumentException", Cond.classLink RL 17 "java/lang/IllegalStateException", Cond.methodLink RL 7 yX0_join, Cond.instanceMethod yX0_join, Cond.selects RX0 yX0_join yX0_join, Cond.code yX0_join cX0_join 3 (some .int), Cond.classLink RX0 64 "java/lang/IllegalStateException", Cond.initialized "java/lang/IllegalStateException", Cond.fieldLink RX0 71 "ShardBallots" "memberCount" "I", Cond.methodLink RX0 53 yX0_checkKey, Cond.static yX0_checkKey, Cond.code yX0_checkKey cX0_checkKey 1 none, Cond.classLink RX0 211 "java/lang/IndexOutOfBoundsException", Cond.initialized "java/lang/IndexOutOfBoundsException", Cond.methodLink RX0 202 yX0_isKey, Cond.static yX0_isKey, Cond.code yX0_isKey cX0_isKey 1 (some .boolean), Cond.methodLink RX0 57 yX0_checkAddress, Cond.static yX0_checkAddress]
def wsL_law0_r4 : List Cond := [Cond.code yX0_checkAddress cX0_checkAddress 1 none, Cond.classLink RX0 224 "java/lang/IllegalArgumentException", Cond.initialized "java/lang/IllegalArgumentException", Cond.methodLink RX0 60 yX0_isMember, Cond.instanceMethod yX0_isMember, Cond.selects RX0 yX0_isMember yX0_isMember, Cond.code yX0_isMember cX0_isMember 2 (some .boolean), Cond.methodLink RX0 83 yX0_read, Cond.instanceMethod yX0_read, Cond.selects RX0 yX0_read yX0_read, Cond.code yX0_read cX0_read 2 (some .int), Cond.methodLink RX0 93 yX0_rangeHolding, Cond.instanceMethod yX0_rangeHolding, Cond.selects RX0 yX0_rangeHolding yX0_rangeHolding, Cond.code yX0_rangeHolding cX0_rangeHolding 4 (some .int), Cond.methodLink RX0 119 yX0_homeOf, Cond.instanceMethod yX0_homeOf, Cond.selects RX0 yX0_homeOf yX0_homeOf, Cond.code yX0_homeOf cX0_homeOf 2 (some .int), Cond.methodLink RX0 114 yX0_isRange, Cond.instanceMethod yX0_isRange, Cond.selects RX0 yX0_isRange yX0_isRange, Cond.code yX0_isRange cX0_isRange 2 (some .boolean), Cond.methodLink RX0 149 yX0_rowOf]
def wsL_law0_r5 : List Cond := [Cond.instanceMethod yX0_rowOf, Cond.selects RX0 yX0_rowOf yX0_rowOf, Cond.code yX0_rowOf cX0_rowOf 3 (some .int), Cond.methodLink RX0 199 yX0_isShard, Cond.static yX0_isShard, Cond.code yX0_isShard cX0_isShard 1 (some .boolean), Cond.methodLink RX0 76 yX0_write, Cond.instanceMethod yX0_write, Cond.selects RX0 yX0_write yX0_write, Cond.code yX0_write cX0_write 4 none, Cond.methodLink RX0 153 yX0_putRow, Cond.instanceMethod yX0_putRow, Cond.selects RX0 yX0_putRow yX0_putRow, Cond.code yX0_putRow cX0_putRow 4 none, Cond.methodLink RX0 205 yX0_targetOf, Cond.instanceMethod yX0_targetOf, Cond.selects RX0 yX0_targetOf yX0_targetOf, Cond.code yX0_targetOf cX0_targetOf 2 (some .int), Cond.methodLink RL 90 yX1_join, Cond.instanceMethod yX1_join, Cond.selects RX1 yX1_join yX1_join, Cond.code yX1_join cX1_join 3 (some .int), Cond.fieldLink RX1 65 "ShardBallotsModel" "members" "I", Cond.fieldLink RX1 51 "ShardBallotsModel" "thrown" "I"]
def wsL_law0_r6 : List Cond := [Cond.methodLink RX1 58 yX1_isKey, Cond.static yX1_isKey, Cond.code yX1_isKey cX1_isKey 1 (some .boolean), Cond.methodLink RX1 54 yX1_in, Cond.static yX1_in, Cond.code yX1_in cX1_in 3 (some .boolean), Cond.methodLink RX1 62 yX1_isThere, Cond.instanceMethod yX1_isThere, Cond.selects RX1 yX1_isThere yX1_isThere, Cond.code yX1_isThere cX1_isThere 2 (some .boolean), Cond.methodLink RL 91 yX1_thrown, Cond.instanceMethod yX1_thrown, Cond.selects RX1 yX1_thrown yX1_thrown, Cond.code yX1_thrown cX1_thrown 1 (some .int), Cond.methodLink RL 94 yL_change, Cond.static yL_change, Cond.codeWith yL_change cL_change 5 (some .int) [(0, 10, 13, 13), (0, 10, 17, 15), (0, 10, 21, 17)], Cond.methodLink RL 19 yX0_change, Cond.instanceMethod yX0_change, Cond.selects RX0 yX0_change yX0_change, Cond.code yX0_change cX0_change 4 (some .int), Cond.methodLink RX0 80 yX0_checkMember, Cond.instanceMethod yX0_checkMember, Cond.selects RX0 yX0_checkMember yX0_checkMember]
def wsL_law0_r7 : List Cond := [Cond.code yX0_checkMember cX0_checkMember 2 none, Cond.methodLink RL 96 yX1_change, Cond.instanceMethod yX1_change, Cond.selects RX1 yX1_change yX1_change, Cond.code yX1_change cX1_change 4 (some .int), Cond.methodLink RL 97 yL_leave, Cond.static yL_leave, Cond.codeWith yL_leave cL_leave 4 (some .int) [(0, 9, 12, 13), (0, 9, 15, 17)], Cond.methodLink RL 22 yX0_leave, Cond.instanceMethod yX0_leave, Cond.selects RX0 yX0_leave yX0_leave, Cond.code yX0_leave cX0_leave 3 (some .int), Cond.methodLink RL 100 yX1_leave, Cond.instanceMethod yX1_leave, Cond.selects RX1 yX1_leave yX1_leave, Cond.code yX1_leave cX1_leave 3 (some .int), Cond.methodLink RL 101 yL_address, Cond.static yL_address, Cond.codeWith yL_address cL_address 4 (some .int) [(0, 9, 12, 13)], Cond.methodLink RL 26 yX0_address, Cond.instanceMethod yX0_address, Cond.selects RX0 yX0_address yX0_address, Cond.code yX0_address cX0_address 2 (some .int), Cond.methodLink RL 103 yX1_address]
def wsL_law0_r8 : List Cond := [Cond.instanceMethod yX1_address, Cond.selects RX1 yX1_address yX1_address, Cond.code yX1_address cX1_address 2 (some .int), Cond.methodLink RX1 68 yX1_asksKey, Cond.instanceMethod yX1_asksKey, Cond.selects RX1 yX1_asksKey yX1_asksKey, Cond.code yX1_asksKey cX1_asksKey 2 (some .boolean), Cond.methodLink RL 104 yL_inDistrict, Cond.static yL_inDistrict, Cond.codeWith yL_inDistrict cL_inDistrict 4 (some .int) [(0, 9, 12, 13)], Cond.methodLink RL 29 yX0_inDistrict, Cond.instanceMethod yX0_inDistrict, Cond.selects RX0 yX0_inDistrict yX0_inDistrict, Cond.code yX0_inDistrict cX0_inDistrict 4 (some .int), Cond.methodLink RX0 87 yX0_checkDistrict, Cond.static yX0_checkDistrict, Cond.code yX0_checkDistrict cX0_checkDistrict 1 none, Cond.methodLink RX0 90 yX0_districtOf, Cond.static yX0_districtOf, Cond.code yX0_districtOf cX0_districtOf 1 (some .int), Cond.methodLink RL 106 yX1_inDistrict, Cond.instanceMethod yX1_inDistrict, Cond.selects RX1 yX1_inDistrict yX1_inDistrict, Cond.code yX1_inDistrict cX1_inDistrict 4 (some .int)]
def wsL_law0_r9 : List Cond := [Cond.methodLink RX1 71 yX1_isShard, Cond.static yX1_isShard, Cond.code yX1_isShard cX1_isShard 1 (some .boolean), Cond.methodLink RL 107 yL_split, Cond.static yL_split, Cond.codeWith yL_split cL_split 4 (some .int) [(0, 9, 12, 13), (0, 9, 15, 17)], Cond.methodLink RL 32 yX0_split, Cond.instanceMethod yX0_split, Cond.selects RX0 yX0_split yX0_split, Cond.code yX0_split cX0_split 3 (some .int), Cond.methodLink RX0 96 yX0_lastKeyOf, Cond.instanceMethod yX0_lastKeyOf, Cond.selects RX0 yX0_lastKeyOf yX0_lastKeyOf, Cond.code yX0_lastKeyOf cX0_lastKeyOf 2 (some .int), Cond.methodLink RX0 101 yX0_isMoved, Cond.instanceMethod yX0_isMoved, Cond.selects RX0 yX0_isMoved yX0_isMoved, Cond.code yX0_isMoved cX0_isMoved 2 (some .boolean), Cond.methodLink RX0 108 yX0_insertCopyBehind, Cond.instanceMethod yX0_insertCopyBehind, Cond.selects RX0 yX0_insertCopyBehind yX0_insertCopyBehind, Cond.code yX0_insertCopyBehind cX0_insertCopyBehind 3 none, Cond.methodLink RX0 208 yX0_copyRange, Cond.instanceMethod yX0_copyRange]
def wsL_law0_r10 : List Cond := [Cond.selects RX0 yX0_copyRange yX0_copyRange, Cond.code yX0_copyRange cX0_copyRange 3 none, Cond.methodLink RL 109 yX1_split, Cond.instanceMethod yX1_split, Cond.selects RX1 yX1_split yX1_split, Cond.code yX1_split cX1_split 4 (some .int), Cond.methodLink RX1 74 yX1_rangeAt, Cond.instanceMethod yX1_rangeAt, Cond.selects RX1 yX1_rangeAt yX1_rangeAt, Cond.code yX1_rangeAt cX1_rangeAt 4 (some .int), Cond.methodLink RX1 78 yX1_behind, Cond.instanceMethod yX1_behind, Cond.selects RX1 yX1_behind yX1_behind, Cond.code yX1_behind cX1_behind 2 (some .int), Cond.methodLink RX1 81 yX1_copies, Cond.instanceMethod yX1_copies, Cond.selects RX1 yX1_copies yX1_copies, Cond.code yX1_copies cX1_copies 3 none, Cond.methodLink RL 110 yL_merge, Cond.static yL_merge, Cond.codeWith yL_merge cL_merge 4 (some .int) [(0, 9, 12, 13), (0, 9, 15, 17)], Cond.methodLink RL 35 yX0_merge, Cond.instanceMethod yX0_merge, Cond.selects RX0 yX0_merge yX0_merge]
def wsL_law0_r11 : List Cond := [Cond.code yX0_merge cX0_merge 3 (some .int), Cond.methodLink RX0 111 yX0_checkRange, Cond.instanceMethod yX0_checkRange, Cond.selects RX0 yX0_checkRange yX0_checkRange, Cond.code yX0_checkRange cX0_checkRange 2 none, Cond.methodLink RX0 126 yX0_remove, Cond.instanceMethod yX0_remove, Cond.selects RX0 yX0_remove yX0_remove, Cond.code yX0_remove cX0_remove 3 none, Cond.methodLink RL 112 yX1_merge, Cond.instanceMethod yX1_merge, Cond.selects RX1 yX1_merge yX1_merge, Cond.code yX1_merge cX1_merge 3 (some .int), Cond.methodLink RX1 85 yX1_isRange, Cond.instanceMethod yX1_isRange, Cond.selects RX1 yX1_isRange yX1_isRange, Cond.code yX1_isRange cX1_isRange 2 (some .boolean), Cond.methodLink RL 113 yL_move, Cond.static yL_move, Cond.codeWith yL_move cL_move 5 (some .int) [(0, 10, 13, 13), (0, 10, 17, 17)], Cond.methodLink RL 38 yX0_move, Cond.instanceMethod yX0_move, Cond.selects RX0 yX0_move yX0_move, Cond.code yX0_move cX0_move 3 (some .int)]
def wsL_law0_r12 : List Cond := [Cond.methodLink RX0 129 yX0_checkShard, Cond.static yX0_checkShard, Cond.code yX0_checkShard cX0_checkShard 1 none, Cond.methodLink RX0 136 yX0_firstKeyOf, Cond.instanceMethod yX0_firstKeyOf, Cond.selects RX0 yX0_firstKeyOf yX0_firstKeyOf, Cond.code yX0_firstKeyOf cX0_firstKeyOf 2 (some .int), Cond.methodLink RX0 139 yX0_countRows, Cond.instanceMethod yX0_countRows, Cond.selects RX0 yX0_countRows yX0_countRows, Cond.code yX0_countRows cX0_countRows 6 (some .int), Cond.methodLink RL 115 yX1_move, Cond.instanceMethod yX1_move, Cond.selects RX1 yX1_move yX1_move, Cond.code yX1_move cX1_move 4 (some .int), Cond.methodLink RX1 88 yX1_many, Cond.instanceMethod yX1_many, Cond.selects RX1 yX1_many yX1_many, Cond.code yX1_many cX1_many 5 (some .int), Cond.methodLink RL 116 yL_step, Cond.static yL_step, Cond.codeWith yL_step cL_step 4 (some .int) [(0, 9, 12, 13), (0, 9, 15, 17)], Cond.methodLink RL 41 yX0_step, Cond.instanceMethod yX0_step]
def wsL_law0_r13 : List Cond := [Cond.selects RX0 yX0_step yX0_step, Cond.code yX0_step cX0_step 5 (some .int), Cond.methodLink RX0 143 yX0_checkMoved, Cond.instanceMethod yX0_checkMoved, Cond.selects RX0 yX0_checkMoved yX0_checkMoved, Cond.code yX0_checkMoved cX0_checkMoved 2 none, Cond.methodLink RX0 146 yX0_lowestKeyNotBrought, Cond.instanceMethod yX0_lowestKeyNotBrought, Cond.selects RX0 yX0_lowestKeyNotBrought yX0_lowestKeyNotBrought, Cond.code yX0_lowestKeyNotBrought cX0_lowestKeyNotBrought 6 (some .int), Cond.methodLink RX0 157 yX0_dropRows, Cond.instanceMethod yX0_dropRows, Cond.selects RX0 yX0_dropRows yX0_dropRows, Cond.code yX0_dropRows cX0_dropRows 5 none, Cond.methodLink RL 118 yX1_step, Cond.instanceMethod yX1_step, Cond.selects RX1 yX1_step yX1_step, Cond.code yX1_step cX1_step 4 (some .int), Cond.methodLink RX1 92 yX1_asksMoved, Cond.instanceMethod yX1_asksMoved, Cond.selects RX1 yX1_asksMoved yX1_asksMoved, Cond.code yX1_asksMoved cX1_asksMoved 2 (some .boolean), Cond.methodLink RL 119 yL_giveUp, Cond.static yL_giveUp]
def wsL_law0_r14 : List Cond := [Cond.codeWith yL_giveUp cL_giveUp 4 (some .int) [(0, 9, 12, 13), (0, 9, 15, 17)], Cond.methodLink RL 44 yX0_giveUp, Cond.instanceMethod yX0_giveUp, Cond.selects RX0 yX0_giveUp yX0_giveUp, Cond.code yX0_giveUp cX0_giveUp 4 (some .int), Cond.methodLink RL 121 yX1_giveUp, Cond.instanceMethod yX1_giveUp, Cond.selects RX1 yX1_giveUp yX1_giveUp, Cond.code yX1_giveUp cX1_giveUp 2 (some .int), Cond.methodLink RL 122 yX0_ranges, Cond.instanceMethod yX0_ranges, Cond.selects RX0 yX0_ranges yX0_ranges, Cond.code yX0_ranges cX0_ranges 1 (some .int), Cond.methodLink RL 125 yX1_ranges, Cond.instanceMethod yX1_ranges, Cond.selects RX1 yX1_ranges yX1_ranges, Cond.code yX1_ranges cX1_ranges 1 (some .int), Cond.methodLink RL 126 yL_rangeOf, Cond.static yL_rangeOf, Cond.codeWith yL_rangeOf cL_rangeOf 4 (some .int) [(0, 9, 12, 13)], Cond.methodLink RL 47 yX0_rangeOf, Cond.instanceMethod yX0_rangeOf, Cond.selects RX0 yX0_rangeOf yX0_rangeOf, Cond.code yX0_rangeOf cX0_rangeOf 2 (some .int)]
def wsL_law0_r15 : List Cond := [Cond.methodLink RL 128 yX1_rangeOf, Cond.instanceMethod yX1_rangeOf, Cond.selects RX1 yX1_rangeOf yX1_rangeOf, Cond.code yX1_rangeOf cX1_rangeOf 2 (some .int), Cond.methodLink RL 129 yL_shardOf, Cond.static yL_shardOf, Cond.codeWith yL_shardOf cL_shardOf 4 (some .int) [(0, 9, 12, 13)], Cond.methodLink RL 50 yX0_shardOf, Cond.instanceMethod yX0_shardOf, Cond.selects RX0 yX0_shardOf yX0_shardOf, Cond.code yX0_shardOf cX0_shardOf 2 (some .int), Cond.methodLink RL 131 yX1_shardOf, Cond.instanceMethod yX1_shardOf, Cond.selects RX1 yX1_shardOf yX1_shardOf, Cond.code yX1_shardOf cX1_shardOf 2 (some .int), Cond.methodLink RL 132 yL_rows, Cond.static yL_rows, Cond.codeWith yL_rows cL_rows 4 (some .int) [(0, 9, 12, 13)], Cond.methodLink RL 53 yX0_rows, Cond.instanceMethod yX0_rows, Cond.selects RX0 yX0_rows yX0_rows, Cond.code yX0_rows cX0_rows 2 (some .int), Cond.methodLink RL 134 yX1_rows, Cond.instanceMethod yX1_rows]
def wsL_law0_r16 : List Cond := [Cond.selects RX1 yX1_rows yX1_rows, Cond.code yX1_rows cX1_rows 4 (some .int), Cond.methodLink RL 135 yL_fix, Cond.static yL_fix, Cond.codeWith yL_fix cL_fix 3 (some .int) [(0, 8, 11, 17)], Cond.methodLink RL 56 yX0_fix, Cond.instanceMethod yX0_fix, Cond.selects RX0 yX0_fix yX0_fix, Cond.code yX0_fix cX0_fix 2 (some .int), Cond.fieldLink RX0 160 "ShardBallots" "rollLaid" "Z", Cond.fieldLink RX0 166 "ShardBallots" "voteNumber" "I", Cond.methodLink RL 138 yX1_fix, Cond.instanceMethod yX1_fix, Cond.selects RX1 yX1_fix yX1_fix, Cond.code yX1_fix cX1_fix 2 (some .int), Cond.fieldLink RX1 95 "ShardBallotsModel" "isLaid" "Z", Cond.fieldLink RX1 99 "ShardBallotsModel" "vote" "I", Cond.methodLink RL 139 yL_onRoll, Cond.static yL_onRoll, Cond.codeWith yL_onRoll cL_onRoll 4 (some .int) [(0, 9, 12, 13)], Cond.methodLink RL 60 yX0_onRoll, Cond.instanceMethod yX0_onRoll, Cond.selects RX0 yX0_onRoll yX0_onRoll, Cond.code yX0_onRoll cX0_onRoll 2 (some .int)]
def wsL_law0_r17 : List Cond := [Cond.methodLink RL 141 yX1_onRoll, Cond.instanceMethod yX1_onRoll, Cond.selects RX1 yX1_onRoll yX1_onRoll, Cond.code yX1_onRoll cX1_onRoll 2 (some .int), Cond.methodLink RL 142 yL_send, Cond.static yL_send, Cond.codeWith yL_send cL_send 4 (some .int) [(0, 9, 12, 13), (0, 9, 15, 17)], Cond.methodLink RL 63 yX0_send, Cond.instanceMethod yX0_send, Cond.selects RX0 yX0_send yX0_send, Cond.code yX0_send cX0_send 4 (some .int), Cond.fieldLink RX0 179 "ShardBallots" "ballotCount" "I", Cond.methodLink RX0 171 yX0_latestBallotTo, Cond.instanceMethod yX0_latestBallotTo, Cond.selects RX0 yX0_latestBallotTo yX0_latestBallotTo, Cond.code yX0_latestBallotTo cX0_latestBallotTo 3 (some .int), Cond.methodLink RX0 192 yX0_isOfOpenVote, Cond.instanceMethod yX0_isOfOpenVote, Cond.selects RX0 yX0_isOfOpenVote yX0_isOfOpenVote, Cond.code yX0_isOfOpenVote cX0_isOfOpenVote 2 (some .boolean), Cond.methodLink RX0 174 yX0_isBallot, Cond.instanceMethod yX0_isBallot, Cond.selects RX0 yX0_isBallot yX0_isBallot, Cond.code yX0_isBallot cX0_isBallot 2 (some .boolean)]
def wsL_law0_r18 : List Cond := [Cond.methodLink RL 144 yX1_send, Cond.instanceMethod yX1_send, Cond.selects RX1 yX1_send yX1_send, Cond.code yX1_send cX1_send 3 (some .int), Cond.fieldLink RX1 102 "ShardBallotsModel" "ballots" "I", Cond.methodLink RL 145 yL_sentTo, Cond.static yL_sentTo, Cond.codeWith yL_sentTo cL_sentTo 4 (some .int) [(0, 9, 12, 13)], Cond.methodLink RL 66 yX0_sentTo, Cond.instanceMethod yX0_sentTo, Cond.selects RX0 yX0_sentTo yX0_sentTo, Cond.code yX0_sentTo cX0_sentTo 2 (some .int), Cond.methodLink RX0 184 yX0_checkBallot, Cond.instanceMethod yX0_checkBallot, Cond.selects RX0 yX0_checkBallot yX0_checkBallot, Cond.code yX0_checkBallot cX0_checkBallot 2 none, Cond.methodLink RL 147 yX1_sentTo, Cond.instanceMethod yX1_sentTo, Cond.selects RX1 yX1_sentTo yX1_sentTo, Cond.code yX1_sentTo cX1_sentTo 2 (some .int), Cond.methodLink RX1 105 yX1_asksBallot, Cond.instanceMethod yX1_asksBallot, Cond.selects RX1 yX1_asksBallot yX1_asksBallot, Cond.code yX1_asksBallot cX1_asksBallot 2 (some .boolean)]
def wsL_law0_r19 : List Cond := [Cond.methodLink RL 148 yL_giveBack, Cond.static yL_giveBack, Cond.codeWith yL_giveBack cL_giveBack 5 (some .int) [(0, 10, 13, 13), (0, 10, 17, 15), (0, 10, 21, 17)], Cond.methodLink RL 69 yX0_giveBack, Cond.instanceMethod yX0_giveBack, Cond.selects RX0 yX0_giveBack yX0_giveBack, Cond.code yX0_giveBack cX0_giveBack 3 (some .int), Cond.methodLink RX0 187 yX0_checkChoice, Cond.static yX0_checkChoice, Cond.code yX0_checkChoice cX0_checkChoice 1 none, Cond.methodLink RL 150 yX1_giveBack, Cond.instanceMethod yX1_giveBack, Cond.selects RX1 yX1_giveBack yX1_giveBack, Cond.code yX1_giveBack cX1_giveBack 3 (some .int), Cond.methodLink RL 151 yL_stateOf, Cond.static yL_stateOf, Cond.codeWith yL_stateOf cL_stateOf 4 (some .int) [(0, 9, 12, 13)], Cond.methodLink RL 72 yX0_stateOf, Cond.instanceMethod yX0_stateOf, Cond.selects RX0 yX0_stateOf yX0_stateOf, Cond.code yX0_stateOf cX0_stateOf 2 (some .int), Cond.methodLink RL 153 yX1_stateOf, Cond.instanceMethod yX1_stateOf, Cond.selects RX1 yX1_stateOf yX1_stateOf]
def wsL_law0_r20 : List Cond := [Cond.code yX1_stateOf cX1_stateOf 2 (some .int), Cond.methodLink RL 154 yL_counted, Cond.static yL_counted, Cond.codeWith yL_counted cL_counted 5 (some .int) [(0, 10, 13, 13), (0, 10, 17, 15)], Cond.methodLink RL 75 yX0_counted, Cond.instanceMethod yX0_counted, Cond.selects RX0 yX0_counted yX0_counted, Cond.code yX0_counted cX0_counted 5 (some .int), Cond.methodLink RL 156 yX1_counted, Cond.instanceMethod yX1_counted, Cond.selects RX1 yX1_counted yX1_counted, Cond.code yX1_counted cX1_counted 3 (some .int), Cond.methodLink RL 157 yL_close, Cond.static yL_close, Cond.codeWith yL_close cL_close 3 (some .int) [(0, 8, 11, 17)], Cond.methodLink RL 78 yX0_close, Cond.instanceMethod yX0_close, Cond.selects RX0 yX0_close yX0_close, Cond.code yX0_close cX0_close 3 (some .int), Cond.methodLink RL 159 yX1_close, Cond.instanceMethod yX1_close, Cond.selects RX1 yX1_close yX1_close, Cond.code yX1_close cX1_close 3 (some .int)]
def wsL_law0 : List Cond := (wsL_law0_r1 ++ (wsL_law0_r2 ++ (wsL_law0_r3 ++ (wsL_law0_r4 ++ (wsL_law0_r5 ++ (wsL_law0_r6 ++ (wsL_law0_r7 ++ (wsL_law0_r8 ++ (wsL_law0_r9 ++ (wsL_law0_r10 ++ (wsL_law0_r11 ++ (wsL_law0_r12 ++ (wsL_law0_r13 ++ (wsL_law0_r14 ++ (wsL_law0_r15 ++ (wsL_law0_r16 ++ (wsL_law0_r17 ++ (wsL_law0_r18 ++ (wsL_law0_r19 ++ wsL_law0_r20))))))))))))))))))) ++ wsX00 ++ wsX10 ++ ([] : List Cond)
def wsL_law : List Cond := wsL_law0 ++ (vx_atS RX0 68 "java/lang/IllegalStateException" ["java/lang/RuntimeException", "java/lang/Exception"]).filter goodWord ++ (vx_atS RX0 215 "java/lang/IndexOutOfBoundsException" ["java/lang/RuntimeException", "java/lang/Exception"]).filter goodWord ++ (vx_atS RX0 228 "java/lang/IllegalArgumentException" ["java/lang/RuntimeException", "java/lang/Exception"]).filter goodWord
end
section
set_option maxRecDepth 20000 in
theorem wsL_law_in0_1 : ∀ w ∈ wsL_law0_r1, w ∈ lw_tbl := fun w h => (goodIn_r wsL_law0_r1 [45, 46, 36, 507, 508, 38, 706, 47, 48, 49, 50, 51, 52, 105, 56, 58, 59, 60, 62, 65, 66, 67, 68, 69] (by decide +kernel) (by decide +kernel) w h).1
set_option maxRecDepth 20000 in
theorem wsL_law_in0_2 : ∀ w ∈ wsL_law0_r2, w ∈ lw_tbl := fun w h => (goodIn_r wsL_law0_r2 [70, 61, 53, 54, 37, 55, 509, 510, 511, 512, 514, 516, 517, 518, 519, 568, 520, 523, 524, 526, 527, 528, 529, 530] (by decide +kernel) (by decide +kernel) w h).1
set_option maxRecDepth 20000 in
theorem wsL_law_in0_3 : ∀ w ∈ wsL_law0_r3, w ∈ lw_tbl := fun w h => (goodIn_r wsL_law0_r3 [110, 111, 35, 112, 113, 114, 115, 116, 117, 118, 119, 240, 44, 57, 120, 121, 122, 126, 42, 123, 124, 125, 194, 195] (by decide +kernel) (by decide +kernel) w h).1
set_option maxRecDepth 20000 in
theorem wsL_law_in0_4 : ∀ w ∈ wsL_law0_r4, w ∈ lw_tbl := fun w h => (goodIn_r wsL_law0_r4 [196, 197, 43, 213, 215, 1, 216, 217, 219, 2, 220, 221, 223, 3, 224, 225, 227, 4, 228, 229, 231, 5, 232, 233] (by decide +kernel) (by decide +kernel) w h).1
set_option maxRecDepth 20000 in
theorem wsL_law_in0_5 : ∀ w ∈ wsL_law0_r5, w ∈ lw_tbl := fun w h => (goodIn_r wsL_law0_r5 [235, 6, 236, 237, 238, 239, 257, 259, 7, 260, 261, 263, 8, 264, 265, 267, 9, 268, 573, 574, 575, 576, 515, 513] (by decide +kernel) (by decide +kernel) w h).1
set_option maxRecDepth 20000 in
theorem wsL_law_in0_6 : ∀ w ∈ wsL_law0_r6, w ∈ lw_tbl := fun w h => (goodIn_r wsL_law0_r6 [577, 578, 579, 580, 581, 582, 583, 585, 26, 586, 569, 570, 571, 572, 269, 270, 271, 272, 273, 274, 275, 276, 278, 10] (by decide +kernel) (by decide +kernel) w h).1
set_option maxRecDepth 20000 in
theorem wsL_law_in0_7 : ∀ w ∈ wsL_law0_r7, w ∈ lw_tbl := fun w h => (goodIn_r wsL_law0_r7 [279, 587, 588, 589, 590, 281, 282, 283, 284, 285, 286, 287, 591, 592, 593, 594, 288, 289, 290, 291, 292, 293, 294, 595] (by decide +kernel) (by decide +kernel) w h).1
set_option maxRecDepth 20000 in
theorem wsL_law_in0_8 : ∀ w ∈ wsL_law0_r8, w ∈ lw_tbl := fun w h => (goodIn_r wsL_law0_r8 [596, 597, 598, 599, 601, 27, 602, 295, 296, 297, 298, 299, 300, 301, 302, 303, 304, 306, 307, 308, 603, 604, 605, 606] (by decide +kernel) (by decide +kernel) w h).1
set_option maxRecDepth 20000 in
theorem wsL_law_in0_9 : ∀ w ∈ wsL_law0_r9, w ∈ lw_tbl := fun w h => (goodIn_r wsL_law0_r9 [607, 608, 609, 309, 310, 311, 312, 313, 314, 315, 316, 318, 11, 319, 321, 323, 12, 324, 327, 329, 13, 330, 331, 333] (by decide +kernel) (by decide +kernel) w h).1
set_option maxRecDepth 20000 in
theorem wsL_law_in0_10 : ∀ w ∈ wsL_law0_r10, w ∈ lw_tbl := fun w h => (goodIn_r wsL_law0_r10 [14, 334, 610, 611, 612, 613, 614, 616, 28, 617, 618, 620, 29, 621, 622, 624, 30, 625, 335, 336, 337, 338, 339, 340] (by decide +kernel) (by decide +kernel) w h).1
set_option maxRecDepth 20000 in
theorem wsL_law_in0_11 : ∀ w ∈ wsL_law0_r11, w ∈ lw_tbl := fun w h => (goodIn_r wsL_law0_r11 [341, 342, 344, 15, 345, 350, 352, 16, 353, 626, 627, 628, 629, 630, 632, 31, 633, 354, 355, 356, 357, 358, 359, 360] (by decide +kernel) (by decide +kernel) w h).1
set_option maxRecDepth 20000 in
theorem wsL_law_in0_12 : ∀ w ∈ wsL_law0_r12, w ∈ lw_tbl := fun w h => (goodIn_r wsL_law0_r12 [361, 362, 363, 367, 369, 17, 370, 371, 373, 18, 374, 634, 635, 636, 637, 638, 640, 32, 641, 375, 376, 377, 378, 379] (by decide +kernel) (by decide +kernel) w h).1
set_option maxRecDepth 20000 in
theorem wsL_law_in0_13 : ∀ w ∈ wsL_law0_r13, w ∈ lw_tbl := fun w h => (goodIn_r wsL_law0_r13 [380, 381, 382, 384, 19, 385, 387, 389, 20, 390, 391, 393, 21, 394, 642, 643, 644, 645, 646, 648, 33, 649, 395, 396] (by decide +kernel) (by decide +kernel) w h).1
set_option maxRecDepth 20000 in
theorem wsL_law_in0_14 : ∀ w ∈ wsL_law0_r14, w ∈ lw_tbl := fun w h => (goodIn_r wsL_law0_r14 [397, 398, 399, 400, 401, 650, 651, 652, 653, 106, 107, 108, 109, 654, 655, 656, 657, 402, 403, 404, 405, 406, 407, 408] (by decide +kernel) (by decide +kernel) w h).1
set_option maxRecDepth 20000 in
theorem wsL_law_in0_15 : ∀ w ∈ wsL_law0_r15, w ∈ lw_tbl := fun w h => (goodIn_r wsL_law0_r15 [658, 659, 660, 661, 409, 410, 411, 412, 413, 414, 415, 662, 663, 664, 665, 416, 417, 418, 419, 420, 421, 422, 666, 667] (by decide +kernel) (by decide +kernel) w h).1
set_option maxRecDepth 20000 in
theorem wsL_law_in0_16 : ∀ w ∈ wsL_law0_r16, w ∈ lw_tbl := fun w h => (goodIn_r wsL_law0_r16 [668, 669, 423, 424, 425, 426, 427, 428, 429, 63, 64, 670, 671, 672, 673, 521, 522, 431, 432, 433, 434, 435, 436, 437] (by decide +kernel) (by decide +kernel) w h).1
set_option maxRecDepth 20000 in
theorem wsL_law_in0_17 : ∀ w ∈ wsL_law0_r17, w ∈ lw_tbl := fun w h => (goodIn_r wsL_law0_r17 [674, 675, 676, 677, 438, 439, 440, 441, 442, 443, 444, 71, 446, 448, 22, 449, 450, 452, 23, 453, 454, 456, 24, 457] (by decide +kernel) (by decide +kernel) w h).1
set_option maxRecDepth 20000 in
theorem wsL_law_in0_18 : ∀ w ∈ wsL_law0_r18, w ∈ lw_tbl := fun w h => (goodIn_r wsL_law0_r18 [678, 679, 680, 681, 525, 460, 461, 462, 463, 464, 465, 466, 467, 469, 25, 470, 682, 683, 684, 685, 686, 688, 34, 689] (by decide +kernel) (by decide +kernel) w h).1
set_option maxRecDepth 20000 in
theorem wsL_law_in0_19 : ∀ w ∈ wsL_law0_r19, w ∈ lw_tbl := fun w h => (goodIn_r wsL_law0_r19 [472, 473, 474, 475, 476, 477, 478, 479, 480, 481, 690, 691, 692, 693, 485, 486, 487, 488, 489, 490, 491, 694, 695, 696] (by decide +kernel) (by decide +kernel) w h).1
set_option maxRecDepth 20000 in
theorem wsL_law_in0_20 : ∀ w ∈ wsL_law0_r20, w ∈ lw_tbl := fun w h => (goodIn_r wsL_law0_r20 [697, 492, 493, 494, 495, 496, 497, 498, 698, 699, 700, 701, 499, 500, 501, 502, 503, 504, 505, 702, 703, 704, 705] (by decide +kernel) (by decide +kernel) w h).1
set_option maxRecDepth 20000 in
theorem wsL_law_in0_wsX00 : ∀ w ∈ wsX00, w ∈ lw_tbl := fun w h => (goodIn_r wsX00 [72, 74, 76, 78, 80, 82, 84, 86, 88, 90, 92, 94, 96, 98, 100, 102] (by decide +kernel) (by decide +kernel) w h).1
set_option maxRecDepth 20000 in
theorem wsL_law_in0_wsX10 : ∀ w ∈ wsX10, w ∈ lw_tbl := fun w h => (goodIn_r wsX10 [531, 533, 535, 537, 539, 541, 543, 545, 547, 549, 551, 553, 555, 557, 559, 561, 563, 565] (by decide +kernel) (by decide +kernel) w h).1
set_option maxRecDepth 20000 in
theorem wsL_law_in0 : ∀ w ∈ wsL_law0, w ∈ lw_tbl := fun w h => (List.mem_append.mp h).elim (fun h => (List.mem_append.mp h).elim (fun h => (List.mem_append.mp h).elim (fun h => (List.mem_append.mp h).elim (wsL_law_in0_1 w) (fun h => (List.mem_append.mp h).elim (wsL_law_in0_2 w) (fun h => (List.mem_append.mp h).elim (wsL_law_in0_3 w) (fun h => (List.mem_append.mp h).elim (wsL_law_in0_4 w) (fun h => (List.mem_append.mp h).elim (wsL_law_in0_5 w) (fun h => (List.mem_append.mp h).elim (wsL_law_in0_6 w) (fun h => (List.mem_append.mp h).elim (wsL_law_in0_7 w) (fun h => (List.mem_append.mp h).elim (wsL_law_in0_8 w) (fun h => (List.mem_append.mp h).elim (wsL_law_in0_9 w) (fun h => (List.mem_append.mp h).elim (wsL_law_in0_10 w) (fun h => (List.mem_append.mp h).elim (wsL_law_in0_11 w) (fun h => (List.mem_append.mp h).elim (wsL_law_in0_12 w) (fun h => (List.mem_append.mp h).elim (wsL_law_in0_13 w) (fun h => (List.mem_append.mp h).elim (wsL_law_in0_14 w) (fun h => (List.mem_append.mp h).elim (wsL_law_in0_15 w) (fun h => (List.mem_append.mp h).elim (wsL_law_in0_16 w) (fun h => (List.mem_append.mp h).elim (wsL_law_in0_17 w) (fun h => (List.mem_append.mp h).elim (wsL_law_in0_18 w) (fun h => (List.mem_append.mp h).elim (wsL_law_in0_19 w) (wsL_law_in0_20 w)))))))))))))))))))) (wsL_law_in0_wsX00 w)) (wsL_law_in0_wsX10 w)) (fun h => absurd h List.not_mem_nil)
theorem wsL_law_x0 : ∀ w ∈ (vx_atS RX0 68 "java/lang/IllegalStateException" ["java/lang/RuntimeException", "java/lang/Exception"]).filter goodWord, w ∈ lw_tbl := by decide +kernel
theorem wsL_law_x1 : ∀ w ∈ (vx_atS RX0 215 "java/lang/IndexOutOfBoundsException" ["java/lang/RuntimeException", "java/lang/Exception"]).filter goodWord, w ∈ lw_tbl := by decide +kernel
theorem wsL_law_x2 : ∀ w ∈ (vx_atS RX0 228 "java/lang/IllegalArgumentException" ["java/lang/RuntimeException", "java/lang/Exception"]).filter goodWord, w ∈ lw_tbl := by decide +kernel
theorem wsL_law_in : ∀ w ∈ wsL_law, w ∈ lw_tbl := fun w h => (List.mem_append.mp h).elim (fun h => (List.mem_append.mp h).elim (fun h => (List.mem_append.mp h).elim (fun h => wsL_law_in0 w h) (fun h => wsL_law_x0 w h)) (fun h => wsL_law_x1 w h)) (fun h => wsL_law_x2 w h)
theorem inlX0 : ∀ w ∈ wsX00, w ∈ wsL_law := fun _ h => List.mem_append_left _ (List.mem_append_left _ (List.mem_append_left _ (List.mem_append_left _ (List.mem_append_left _ (List.mem_append_right _ h)))))
theorem inX0 : ∀ w ∈ wsX00, w ∈ lw_tbl := fun w h => wsL_law_in w (inlX0 w h)
theorem inlX1 : ∀ w ∈ wsX10, w ∈ wsL_law := fun _ h => List.mem_append_left _ (List.mem_append_left _ (List.mem_append_left _ (List.mem_append_left _ (List.mem_append_right _ h))))
theorem inX1 : ∀ w ∈ wsX10, w ∈ lw_tbl := fun w h => wsL_law_in w (inlX1 w h)
theorem inJx145de : ∀ w ∈ wsJx145de0, w ∈ lw_tbl := by decide +kernel
theorem inJ0 : ∀ w ∈ wsJ00, w ∈ lw_tbl := by decide +kernel
theorem inJ7 : ∀ w ∈ wsJ70, w ∈ lw_tbl := by decide +kernel
end
section
set_option maxRecDepth 20000 in
theorem ggX0_init_J7_fill_53178 : GoodIn wsX0_init wsJ7_fill_53178 := goodIn_r _ [20] (by decide +kernel) (by decide +kernel)
set_option maxRecDepth 20000 in
theorem gX0_init_J7_fill_53178 : GoodIn wsX0_init (va_wsS RX0 43 yJ7_fill_53178 wsJ7_fill_53178) := goodIn_app (goodIn_of _ (by decide +kernel)) ggX0_init_J7_fill_53178
theorem dX0_init_0 : decode cX0_init 0 = .ok (.aload_n 0, 1) := by decide +kernel
theorem dX0_init_1 : decode cX0_init 1 = .ok (.invokespecial 1, 3) := by decide +kernel
theorem dX0_init_4 : decode cX0_init 4 = .ok (.aload_n 0, 1) := by decide +kernel
theorem dX0_init_5 : decode cX0_init 5 = .ok (.sipush 400, 3) := by decide +kernel
theorem dX0_init_8 : decode cX0_init 8 = .ok (.newarray .int, 2) := by decide +kernel
theorem dX0_init_10 : decode cX0_init 10 = .ok (.putfield 9, 3) := by decide +kernel
theorem dX0_init_13 : decode cX0_init 13 = .ok (.aload_n 0, 1) := by decide +kernel
theorem dX0_init_14 : decode cX0_init 14 = .ok (.bipush 8, 2) := by decide +kernel
theorem dX0_init_16 : decode cX0_init 16 = .ok (.newarray .int, 2) := by decide +kernel
theorem dX0_init_18 : decode cX0_init 18 = .ok (.putfield 13, 3) := by decide +kernel
theorem dX0_init_21 : decode cX0_init 21 = .ok (.aload_n 0, 1) := by decide +kernel
theorem dX0_init_22 : decode cX0_init 22 = .ok (.bipush 8, 2) := by decide +kernel
theorem dX0_init_24 : decode cX0_init 24 = .ok (.newarray .int, 2) := by decide +kernel
theorem dX0_init_26 : decode cX0_init 26 = .ok (.putfield 16, 3) := by decide +kernel
theorem dX0_init_29 : decode cX0_init 29 = .ok (.aload_n 0, 1) := by decide +kernel
theorem dX0_init_30 : decode cX0_init 30 = .ok (.bipush 8, 2) := by decide +kernel
theorem dX0_init_32 : decode cX0_init 32 = .ok (.newarray .int, 2) := by decide +kernel
theorem dX0_init_34 : decode cX0_init 34 = .ok (.putfield 19, 3) := by decide +kernel
theorem dX0_init_37 : decode cX0_init 37 = .ok (.aload_n 0, 1) := by decide +kernel
theorem dX0_init_38 : decode cX0_init 38 = .ok (.bipush 100, 2) := by decide +kernel
theorem dX0_init_40 : decode cX0_init 40 = .ok (.newarray .int, 2) := by decide +kernel
theorem dX0_init_42 : decode cX0_init 42 = .ok (.putfield 22, 3) := by decide +kernel
theorem dX0_init_45 : decode cX0_init 45 = .ok (.aload_n 0, 1) := by decide +kernel
theorem dX0_init_46 : decode cX0_init 46 = .ok (.bipush 60, 2) := by decide +kernel
theorem dX0_init_48 : decode cX0_init 48 = .ok (.newarray .int, 2) := by decide +kernel
theorem dX0_init_50 : decode cX0_init 50 = .ok (.putfield 25, 3) := by decide +kernel
theorem dX0_init_53 : decode cX0_init 53 = .ok (.aload_n 0, 1) := by decide +kernel
theorem dX0_init_54 : decode cX0_init 54 = .ok (.bipush 60, 2) := by decide +kernel
theorem dX0_init_56 : decode cX0_init 56 = .ok (.newarray .int, 2) := by decide +kernel
theorem dX0_init_58 : decode cX0_init 58 = .ok (.putfield 28, 3) := by decide +kernel
theorem dX0_init_61 : decode cX0_init 61 = .ok (.aload_n 0, 1) := by decide +kernel
theorem dX0_init_62 : decode cX0_init 62 = .ok (.bipush 60, 2) := by decide +kernel
theorem dX0_init_64 : decode cX0_init 64 = .ok (.newarray .int, 2) := by decide +kernel
theorem dX0_init_66 : decode cX0_init 66 = .ok (.putfield 31, 3) := by decide +kernel
theorem dX0_init_69 : decode cX0_init 69 = .ok (.aload_n 0, 1) := by decide +kernel
theorem dX0_init_70 : decode cX0_init 70 = .ok (.bipush 60, 2) := by decide +kernel
theorem dX0_init_72 : decode cX0_init 72 = .ok (.newarray .int, 2) := by decide +kernel
theorem dX0_init_74 : decode cX0_init 74 = .ok (.putfield 34, 3) := by decide +kernel
theorem dX0_init_77 : decode cX0_init 77 = .ok (.aload_n 0, 1) := by decide +kernel
theorem dX0_init_78 : decode cX0_init 78 = .ok (.bipush 60, 2) := by decide +kernel
theorem dX0_init_80 : decode cX0_init 80 = .ok (.newarray .int, 2) := by decide +kernel
theorem dX0_init_82 : decode cX0_init 82 = .ok (.putfield 37, 3) := by decide +kernel
theorem dX0_init_85 : decode cX0_init 85 = .ok (.aload_n 0, 1) := by decide +kernel
theorem dX0_init_86 : decode cX0_init 86 = .ok (.bipush 60, 2) := by decide +kernel
theorem dX0_init_88 : decode cX0_init 88 = .ok (.newarray .int, 2) := by decide +kernel
theorem dX0_init_90 : decode cX0_init 90 = .ok (.putfield 40, 3) := by decide +kernel
theorem dX0_init_93 : decode cX0_init 93 = .ok (.aload_n 0, 1) := by decide +kernel
theorem dX0_init_94 : decode cX0_init 94 = .ok (.getfield 9, 3) := by decide +kernel
theorem dX0_init_97 : decode cX0_init 97 = .ok (.iconst (-1), 1) := by decide +kernel
theorem dX0_init_98 : decode cX0_init 98 = .ok (.invokestatic 43, 3) := by decide +kernel
theorem dX0_init_101 : decode cX0_init 101 = .ok (.aload_n 0, 1) := by decide +kernel
theorem dX0_init_102 : decode cX0_init 102 = .ok (.getfield 19, 3) := by decide +kernel
theorem dX0_init_105 : decode cX0_init 105 = .ok (.iconst (-1), 1) := by decide +kernel
theorem dX0_init_106 : decode cX0_init 106 = .ok (.invokestatic 43, 3) := by decide +kernel
theorem dX0_init_109 : decode cX0_init 109 = .ok (.aload_n 0, 1) := by decide +kernel
theorem dX0_init_110 : decode cX0_init 110 = .ok (.getfield 13, 3) := by decide +kernel
theorem dX0_init_113 : decode cX0_init 113 = .ok (.iconst 0, 1) := by decide +kernel
theorem dX0_init_114 : decode cX0_init 114 = .ok (.bipush 99, 2) := by decide +kernel
theorem dX0_init_116 : decode cX0_init 116 = .ok (.iastore, 1) := by decide +kernel
theorem dX0_init_117 : decode cX0_init 117 = .ok (.aload_n 0, 1) := by decide +kernel
theorem dX0_init_118 : decode cX0_init 118 = .ok (.iconst 1, 1) := by decide +kernel
theorem dX0_init_119 : decode cX0_init 119 = .ok (.putfield 49, 3) := by decide +kernel
theorem dX0_init_122 : decode cX0_init 122 = .ok (.return_, 1) := by decide +kernel
set_option maxRecDepth 20000 in
theorem ggX0_join_X0_checkKey : GoodIn wsX0_join wsX0_checkKey := goodIn_ca (goodIn_r _ [7, 8, 9, 10, 11, 6, 12] (by decide +kernel) (by decide +kernel)) (goodIn_sub (fun _ h => List.mem_cons_of_mem _ (List.mem_append_left _ (List.mem_append_right _ h))) (by decide +kernel))
set_option maxRecDepth 20000 in
theorem gX0_join_X0_checkKey : GoodIn wsX0_join (va_wsS RX0 53 yX0_checkKey wsX0_checkKey) := goodIn_app (goodIn_of _ (by decide +kernel)) ggX0_join_X0_checkKey
set_option maxRecDepth 20000 in
theorem ggX0_join_X0_checkAddress : GoodIn wsX0_join wsX0_checkAddress := goodIn_ca (goodIn_r _ [15, 16, 17] (by decide +kernel) (by decide +kernel)) (goodIn_sub (fun _ h => List.mem_cons_of_mem _ (List.mem_append_right _ h)) (by decide +kernel))
set_option maxRecDepth 20000 in
theorem gX0_join_X0_checkAddress : GoodIn wsX0_join (va_wsS RX0 57 yX0_checkAddress wsX0_checkAddress) := goodIn_app (goodIn_of _ (by decide +kernel)) ggX0_join_X0_checkAddress
set_option maxRecDepth 20000 in
theorem ggX0_join_X0_isMember : GoodIn wsX0_join wsX0_isMember := goodIn_r _ [21, 22, 23, 24, 6, 25, 26, 27, 28, 29, 30, 31, 32, 33, 34, 35, 36, 37, 38, 39, 40, 41, 42, 43, 44, 45, 46, 47, 48, 10, 11, 12, 62, 63, 64, 65, 66, 67, 68, 69, 70, 71, 72, 73, 74, 75, 76, 77] (by decide +kernel) (by decide +kernel)
set_option maxRecDepth 20000 in
theorem gX0_join_X0_isMember : GoodIn wsX0_join (wsV RX0 60 RX0 yX0_isMember wsX0_isMember) := goodIn_app (goodIn_of _ (by decide +kernel)) ggX0_join_X0_isMember
set_option maxRecDepth 20000 in
theorem ggX0_join_X0_write : GoodIn wsX0_join wsX0_write := goodIn_r _ [52, 26, 27, 28, 6, 29, 30, 31, 32, 33, 34, 35, 36, 37, 38, 39, 40, 53, 54, 55, 56, 45, 46, 47, 48, 10, 11, 12, 57, 58, 59, 60, 61, 62, 63, 64, 65, 66, 67, 68, 69, 70, 71, 72, 73, 74, 75, 76, 77] (by decide +kernel) (by decide +kernel)
set_option maxRecDepth 20000 in
theorem gX0_join_X0_write : GoodIn wsX0_join (wsV RX0 76 RX0 yX0_write wsX0_write) := goodIn_app (goodIn_of _ (by decide +kernel)) ggX0_join_X0_write
theorem dX0_join_0 : decode cX0_join 0 = .ok (.iload_n 1, 1) := by decide +kernel
theorem dX0_join_1 : decode cX0_join 1 = .ok (.invokestatic 53, 3) := by decide +kernel
theorem dX0_join_4 : decode cX0_join 4 = .ok (.iload_n 2, 1) := by decide +kernel
theorem dX0_join_5 : decode cX0_join 5 = .ok (.invokestatic 57, 3) := by decide +kernel
theorem dX0_join_8 : decode cX0_join 8 = .ok (.aload_n 0, 1) := by decide +kernel
theorem dX0_join_9 : decode cX0_join 9 = .ok (.iload_n 1, 1) := by decide +kernel
theorem dX0_join_10 : decode cX0_join 10 = .ok (.invokevirtual 60, 3) := by decide +kernel
theorem dX0_join_13 : decode cX0_join 13 = .ok (.ifCond .eq 13, 3) := by decide +kernel
theorem dX0_join_16 : decode cX0_join 16 = .ok (.new 64, 3) := by decide +kernel
theorem dX0_join_19 : decode cX0_join 19 = .ok (.dup, 1) := by decide +kernel
theorem dX0_join_20 : decode cX0_join 20 = .ok (.ldc 66, 2) := by decide +kernel
theorem dX0_join_22 : decode cX0_join 22 = .ok (.invokespecial 68, 3) := by decide +kernel
theorem dX0_join_25 : decode cX0_join 25 = .ok (.athrow, 1) := by decide +kernel
theorem dX0_join_26 : decode cX0_join 26 = .ok (.aload_n 0, 1) := by decide +kernel
theorem dX0_join_27 : decode cX0_join 27 = .ok (.getfield 71, 3) := by decide +kernel
theorem dX0_join_30 : decode cX0_join 30 = .ok (.bipush 40, 2) := by decide +kernel
theorem dX0_join_32 : decode cX0_join 32 = .ok (.if_icmp .lt 13, 3) := by decide +kernel
theorem dX0_join_35 : decode cX0_join 35 = .ok (.new 64, 3) := by decide +kernel
theorem dX0_join_38 : decode cX0_join 38 = .ok (.dup, 1) := by decide +kernel
theorem dX0_join_39 : decode cX0_join 39 = .ok (.ldc 74, 2) := by decide +kernel
theorem dX0_join_41 : decode cX0_join 41 = .ok (.invokespecial 68, 3) := by decide +kernel
theorem dX0_join_44 : decode cX0_join 44 = .ok (.athrow, 1) := by decide +kernel
theorem dX0_join_45 : decode cX0_join 45 = .ok (.aload_n 0, 1) := by decide +kernel
theorem dX0_join_46 : decode cX0_join 46 = .ok (.iload_n 1, 1) := by decide +kernel
theorem dX0_join_47 : decode cX0_join 47 = .ok (.iload_n 2, 1) := by decide +kernel
theorem dX0_join_48 : decode cX0_join 48 = .ok (.invokevirtual 76, 3) := by decide +kernel
theorem dX0_join_51 : decode cX0_join 51 = .ok (.aload_n 0, 1) := by decide +kernel
theorem dX0_join_52 : decode cX0_join 52 = .ok (.dup, 1) := by decide +kernel
theorem dX0_join_53 : decode cX0_join 53 = .ok (.getfield 71, 3) := by decide +kernel
theorem dX0_join_56 : decode cX0_join 56 = .ok (.iconst 1, 1) := by decide +kernel
theorem dX0_join_57 : decode cX0_join 57 = .ok (.iadd, 1) := by decide +kernel
theorem dX0_join_58 : decode cX0_join 58 = .ok (.putfield 71, 3) := by decide +kernel
theorem dX0_join_61 : decode cX0_join 61 = .ok (.aload_n 0, 1) := by decide +kernel
theorem dX0_join_62 : decode cX0_join 62 = .ok (.getfield 71, 3) := by decide +kernel
theorem dX0_join_65 : decode cX0_join 65 = .ok (.ireturn, 1) := by decide +kernel
set_option maxRecDepth 20000 in
theorem ggX0_change_X0_checkKey : GoodIn wsX0_change wsX0_checkKey := goodIn_ca (goodIn_r _ [4, 5, 6, 7, 8, 3, 9] (by decide +kernel) (by decide +kernel)) (goodIn_sub (fun _ h => List.mem_cons_of_mem _ (List.mem_append_left _ (List.mem_append_left _ (List.mem_append_right _ h)))) (by decide +kernel))
set_option maxRecDepth 20000 in
theorem gX0_change_X0_checkKey : GoodIn wsX0_change (va_wsS RX0 53 yX0_checkKey wsX0_checkKey) := goodIn_app (goodIn_of _ (by decide +kernel)) ggX0_change_X0_checkKey
set_option maxRecDepth 20000 in
theorem ggX0_change_X0_checkAddress : GoodIn wsX0_change wsX0_checkAddress := goodIn_ca (goodIn_r _ [12, 13, 14] (by decide +kernel) (by decide +kernel)) (goodIn_sub (fun _ h => List.mem_cons_of_mem _ (List.mem_append_left _ (List.mem_append_right _ h))) (by decide +kernel))
set_option maxRecDepth 20000 in
theorem gX0_change_X0_checkAddress : GoodIn wsX0_change (va_wsS RX0 57 yX0_checkAddress wsX0_checkAddress) := goodIn_app (goodIn_of _ (by decide +kernel)) ggX0_change_X0_checkAddress
set_option maxRecDepth 20000 in
theorem ggX0_change_X0_checkMember : GoodIn wsX0_change wsX0_checkMember := goodIn_ca (goodIn_r _ [18, 19, 20, 21, 22, 23, 3, 24, 25, 26, 27, 28, 29, 30, 31, 32, 33, 34, 35, 36, 37, 38, 39, 40, 41, 42, 43, 44, 45, 46, 47, 48, 49, 50, 51, 7, 8, 9, 65, 66, 67, 68, 69, 70, 71, 72, 73, 74, 75, 76, 77, 78, 79, 80] (by decide +kernel) (by decide +kernel)) (goodIn_sub (fun _ h => List.mem_cons_of_mem _ (List.mem_append_right _ h)) (by decide +kernel))
set_option maxRecDepth 20000 in
theorem gX0_change_X0_checkMember : GoodIn wsX0_change (wsV RX0 80 RX0 yX0_checkMember wsX0_checkMember) := goodIn_app (goodIn_of _ (by decide +kernel)) ggX0_change_X0_checkMember
set_option maxRecDepth 20000 in
theorem ggX0_change_X0_read : GoodIn wsX0_change wsX0_read := goodIn_r _ [28, 29, 30, 31, 3, 32, 33, 34, 35, 36, 37, 38, 39, 40, 41, 42, 43, 44, 45, 46, 47, 48, 49, 50, 51, 7, 8, 9, 65, 66, 67, 68, 69, 70, 71, 72, 73, 74, 75, 76, 77, 78, 79, 80] (by decide +kernel) (by decide +kernel)
set_option maxRecDepth 20000 in
theorem gX0_change_X0_read : GoodIn wsX0_change (wsV RX0 83 RX0 yX0_read wsX0_read) := goodIn_app (goodIn_of _ (by decide +kernel)) ggX0_change_X0_read
set_option maxRecDepth 20000 in
theorem ggX0_change_X0_write : GoodIn wsX0_change wsX0_write := goodIn_r _ [55, 29, 30, 31, 3, 32, 33, 34, 35, 36, 37, 38, 39, 40, 41, 42, 43, 56, 57, 58, 59, 48, 49, 50, 51, 7, 8, 9, 60, 61, 62, 63, 64, 65, 66, 67, 68, 69, 70, 71, 72, 73, 74, 75, 76, 77, 78, 79, 80] (by decide +kernel) (by decide +kernel)
set_option maxRecDepth 20000 in
theorem gX0_change_X0_write : GoodIn wsX0_change (wsV RX0 76 RX0 yX0_write wsX0_write) := goodIn_app (goodIn_of _ (by decide +kernel)) ggX0_change_X0_write
theorem dX0_change_0 : decode cX0_change 0 = .ok (.iload_n 1, 1) := by decide +kernel
theorem dX0_change_1 : decode cX0_change 1 = .ok (.invokestatic 53, 3) := by decide +kernel
theorem dX0_change_4 : decode cX0_change 4 = .ok (.iload_n 2, 1) := by decide +kernel
theorem dX0_change_5 : decode cX0_change 5 = .ok (.invokestatic 57, 3) := by decide +kernel
theorem dX0_change_8 : decode cX0_change 8 = .ok (.aload_n 0, 1) := by decide +kernel
theorem dX0_change_9 : decode cX0_change 9 = .ok (.iload_n 1, 1) := by decide +kernel
theorem dX0_change_10 : decode cX0_change 10 = .ok (.invokevirtual 80, 3) := by decide +kernel
theorem dX0_change_13 : decode cX0_change 13 = .ok (.aload_n 0, 1) := by decide +kernel
theorem dX0_change_14 : decode cX0_change 14 = .ok (.iload_n 1, 1) := by decide +kernel
theorem dX0_change_15 : decode cX0_change 15 = .ok (.invokevirtual 83, 3) := by decide +kernel
theorem dX0_change_18 : decode cX0_change 18 = .ok (.istore_n 3, 1) := by decide +kernel
theorem dX0_change_19 : decode cX0_change 19 = .ok (.aload_n 0, 1) := by decide +kernel
theorem dX0_change_20 : decode cX0_change 20 = .ok (.iload_n 1, 1) := by decide +kernel
theorem dX0_change_21 : decode cX0_change 21 = .ok (.iload_n 2, 1) := by decide +kernel
theorem dX0_change_22 : decode cX0_change 22 = .ok (.invokevirtual 76, 3) := by decide +kernel
theorem dX0_change_25 : decode cX0_change 25 = .ok (.iload_n 3, 1) := by decide +kernel
theorem dX0_change_26 : decode cX0_change 26 = .ok (.ireturn, 1) := by decide +kernel
set_option maxRecDepth 20000 in
theorem ggX0_leave_X0_checkKey : GoodIn wsX0_leave wsX0_checkKey := goodIn_ca (goodIn_r _ [5, 6, 7, 8, 9, 4, 10] (by decide +kernel) (by decide +kernel)) (goodIn_sub (fun _ h => List.mem_cons_of_mem _ (List.mem_append_left _ (List.mem_append_right _ h))) (by decide +kernel))
set_option maxRecDepth 20000 in
theorem gX0_leave_X0_checkKey : GoodIn wsX0_leave (va_wsS RX0 53 yX0_checkKey wsX0_checkKey) := goodIn_app (goodIn_of _ (by decide +kernel)) ggX0_leave_X0_checkKey
set_option maxRecDepth 20000 in
theorem ggX0_leave_X0_checkMember : GoodIn wsX0_leave wsX0_checkMember := goodIn_ca (goodIn_r _ [14, 15, 16, 17, 18, 19, 4, 20, 21, 22, 23, 24, 25, 26, 27, 28, 29, 30, 31, 32, 33, 34, 35, 36, 37, 38, 39, 40, 41, 42, 43, 44, 45, 46, 47, 8, 9, 10, 61, 62, 63, 64, 65, 66, 67, 68, 69, 70, 71, 72, 73, 74, 75, 76] (by decide +kernel) (by decide +kernel)) (goodIn_sub (fun _ h => List.mem_cons_of_mem _ (List.mem_append_right _ h)) (by decide +kernel))
set_option maxRecDepth 20000 in
theorem gX0_leave_X0_checkMember : GoodIn wsX0_leave (wsV RX0 80 RX0 yX0_checkMember wsX0_checkMember) := goodIn_app (goodIn_of _ (by decide +kernel)) ggX0_leave_X0_checkMember
set_option maxRecDepth 20000 in
theorem ggX0_leave_X0_read : GoodIn wsX0_leave wsX0_read := goodIn_r _ [24, 25, 26, 27, 4, 28, 29, 30, 31, 32, 33, 34, 35, 36, 37, 38, 39, 40, 41, 42, 43, 44, 45, 46, 47, 8, 9, 10, 61, 62, 63, 64, 65, 66, 67, 68, 69, 70, 71, 72, 73, 74, 75, 76] (by decide +kernel) (by decide +kernel)
set_option maxRecDepth 20000 in
theorem gX0_leave_X0_read : GoodIn wsX0_leave (wsV RX0 83 RX0 yX0_read wsX0_read) := goodIn_app (goodIn_of _ (by decide +kernel)) ggX0_leave_X0_read
set_option maxRecDepth 20000 in
theorem ggX0_leave_X0_write : GoodIn wsX0_leave wsX0_write := goodIn_r _ [51, 25, 26, 27, 4, 28, 29, 30, 31, 32, 33, 34, 35, 36, 37, 38, 39, 52, 53, 54, 55, 44, 45, 46, 47, 8, 9, 10, 56, 57, 58, 59, 60, 61, 62, 63, 64, 65, 66, 67, 68, 69, 70, 71, 72, 73, 74, 75, 76] (by decide +kernel) (by decide +kernel)
set_option maxRecDepth 20000 in
theorem gX0_leave_X0_write : GoodIn wsX0_leave (wsV RX0 76 RX0 yX0_write wsX0_write) := goodIn_app (goodIn_of _ (by decide +kernel)) ggX0_leave_X0_write
theorem dX0_leave_0 : decode cX0_leave 0 = .ok (.iload_n 1, 1) := by decide +kernel
theorem dX0_leave_1 : decode cX0_leave 1 = .ok (.invokestatic 53, 3) := by decide +kernel
theorem dX0_leave_4 : decode cX0_leave 4 = .ok (.aload_n 0, 1) := by decide +kernel
theorem dX0_leave_5 : decode cX0_leave 5 = .ok (.iload_n 1, 1) := by decide +kernel
theorem dX0_leave_6 : decode cX0_leave 6 = .ok (.invokevirtual 80, 3) := by decide +kernel
theorem dX0_leave_9 : decode cX0_leave 9 = .ok (.aload_n 0, 1) := by decide +kernel
theorem dX0_leave_10 : decode cX0_leave 10 = .ok (.iload_n 1, 1) := by decide +kernel
theorem dX0_leave_11 : decode cX0_leave 11 = .ok (.invokevirtual 83, 3) := by decide +kernel
theorem dX0_leave_14 : decode cX0_leave 14 = .ok (.istore_n 2, 1) := by decide +kernel
theorem dX0_leave_15 : decode cX0_leave 15 = .ok (.aload_n 0, 1) := by decide +kernel
theorem dX0_leave_16 : decode cX0_leave 16 = .ok (.iload_n 1, 1) := by decide +kernel
theorem dX0_leave_17 : decode cX0_leave 17 = .ok (.iconst (-1), 1) := by decide +kernel
theorem dX0_leave_18 : decode cX0_leave 18 = .ok (.invokevirtual 76, 3) := by decide +kernel
theorem dX0_leave_21 : decode cX0_leave 21 = .ok (.aload_n 0, 1) := by decide +kernel
theorem dX0_leave_22 : decode cX0_leave 22 = .ok (.dup, 1) := by decide +kernel
theorem dX0_leave_23 : decode cX0_leave 23 = .ok (.getfield 71, 3) := by decide +kernel
theorem dX0_leave_26 : decode cX0_leave 26 = .ok (.iconst 1, 1) := by decide +kernel
theorem dX0_leave_27 : decode cX0_leave 27 = .ok (.isub, 1) := by decide +kernel
theorem dX0_leave_28 : decode cX0_leave 28 = .ok (.putfield 71, 3) := by decide +kernel
theorem dX0_leave_31 : decode cX0_leave 31 = .ok (.iload_n 2, 1) := by decide +kernel
theorem dX0_leave_32 : decode cX0_leave 32 = .ok (.ireturn, 1) := by decide +kernel
set_option maxRecDepth 20000 in
theorem ggX0_address_X0_checkKey : GoodIn wsX0_address wsX0_checkKey := goodIn_ca (goodIn_r _ [4, 5, 6, 7, 8, 3, 9] (by decide +kernel) (by decide +kernel)) (goodIn_sub (fun _ h => List.mem_cons_of_mem _ (List.mem_append_right _ h)) (by decide +kernel))
set_option maxRecDepth 20000 in
theorem gX0_address_X0_checkKey : GoodIn wsX0_address (va_wsS RX0 53 yX0_checkKey wsX0_checkKey) := goodIn_app (goodIn_of _ (by decide +kernel)) ggX0_address_X0_checkKey
set_option maxRecDepth 20000 in
theorem ggX0_address_X0_read : GoodIn wsX0_address wsX0_read := goodIn_r _ [13, 14, 15, 16, 3, 17, 18, 19, 20, 21, 22, 23, 24, 25, 26, 27, 28, 29, 30, 31, 32, 33, 34, 35, 36, 7, 8, 9, 37, 38, 39, 40, 41, 42, 43, 44, 45, 46, 47, 48, 49, 50, 51, 52] (by decide +kernel) (by decide +kernel)
set_option maxRecDepth 20000 in
theorem gX0_address_X0_read : GoodIn wsX0_address (wsV RX0 83 RX0 yX0_read wsX0_read) := goodIn_app (goodIn_of _ (by decide +kernel)) ggX0_address_X0_read
theorem dX0_address_0 : decode cX0_address 0 = .ok (.iload_n 1, 1) := by decide +kernel
theorem dX0_address_1 : decode cX0_address 1 = .ok (.invokestatic 53, 3) := by decide +kernel
theorem dX0_address_4 : decode cX0_address 4 = .ok (.aload_n 0, 1) := by decide +kernel
theorem dX0_address_5 : decode cX0_address 5 = .ok (.iload_n 1, 1) := by decide +kernel
theorem dX0_address_6 : decode cX0_address 6 = .ok (.invokevirtual 83, 3) := by decide +kernel
theorem dX0_address_9 : decode cX0_address 9 = .ok (.ireturn, 1) := by decide +kernel
set_option maxRecDepth 20000 in
theorem ggX0_inDistrict_X0_checkDistrict : GoodIn wsX0_inDistrict wsX0_checkDistrict := goodIn_ca (goodIn_r _ [4, 5, 6] (by decide +kernel) (by decide +kernel)) (goodIn_sub (fun _ h => List.mem_cons_of_mem _ (List.mem_append_right _ h)) (by decide +kernel))
set_option maxRecDepth 20000 in
theorem gX0_inDistrict_X0_checkDistrict : GoodIn wsX0_inDistrict (va_wsS RX0 87 yX0_checkDistrict wsX0_checkDistrict) := goodIn_app (goodIn_of _ (by decide +kernel)) ggX0_inDistrict_X0_checkDistrict
set_option maxRecDepth 20000 in
theorem ggX0_inDistrict_X0_read : GoodIn wsX0_inDistrict wsX0_read := goodIn_r _ [10, 11, 12, 13, 3, 14, 15, 16, 17, 18, 19, 20, 21, 22, 23, 24, 25, 26, 27, 28, 29, 30, 31, 32, 33, 34, 35, 36, 40, 41, 42, 43, 44, 45, 46, 47, 48, 49, 50, 51, 52, 53, 54, 55] (by decide +kernel) (by decide +kernel)
set_option maxRecDepth 20000 in
theorem gX0_inDistrict_X0_read : GoodIn wsX0_inDistrict (wsV RX0 83 RX0 yX0_read wsX0_read) := goodIn_app (goodIn_of _ (by decide +kernel)) ggX0_inDistrict_X0_read
set_option maxRecDepth 20000 in
theorem ggX0_inDistrict_X0_districtOf : GoodIn wsX0_inDistrict wsX0_districtOf := goodIn_r _ [39] (by decide +kernel) (by decide +kernel)
set_option maxRecDepth 20000 in
theorem gX0_inDistrict_X0_districtOf : GoodIn wsX0_inDistrict (va_wsS RX0 90 yX0_districtOf wsX0_districtOf) := goodIn_app (goodIn_of _ (by decide +kernel)) ggX0_inDistrict_X0_districtOf
theorem dX0_inDistrict_0 : decode cX0_inDistrict 0 = .ok (.iload_n 1, 1) := by decide +kernel
theorem dX0_inDistrict_1 : decode cX0_inDistrict 1 = .ok (.invokestatic 87, 3) := by decide +kernel
theorem dX0_inDistrict_4 : decode cX0_inDistrict 4 = .ok (.iconst 0, 1) := by decide +kernel
theorem dX0_inDistrict_5 : decode cX0_inDistrict 5 = .ok (.istore_n 2, 1) := by decide +kernel
theorem dX0_inDistrict_6 : decode cX0_inDistrict 6 = .ok (.iconst 0, 1) := by decide +kernel
theorem dX0_inDistrict_7 : decode cX0_inDistrict 7 = .ok (.istore_n 3, 1) := by decide +kernel
theorem dX0_inDistrict_8 : decode cX0_inDistrict 8 = .ok (.iload_n 3, 1) := by decide +kernel
theorem dX0_inDistrict_9 : decode cX0_inDistrict 9 = .ok (.bipush 100, 2) := by decide +kernel
theorem dX0_inDistrict_11 : decode cX0_inDistrict 11 = .ok (.if_icmp .ge 24, 3) := by decide +kernel
theorem dX0_inDistrict_14 : decode cX0_inDistrict 14 = .ok (.aload_n 0, 1) := by decide +kernel
theorem dX0_inDistrict_15 : decode cX0_inDistrict 15 = .ok (.iload_n 3, 1) := by decide +kernel
theorem dX0_inDistrict_16 : decode cX0_inDistrict 16 = .ok (.invokevirtual 83, 3) := by decide +kernel
theorem dX0_inDistrict_19 : decode cX0_inDistrict 19 = .ok (.invokestatic 90, 3) := by decide +kernel
theorem dX0_inDistrict_22 : decode cX0_inDistrict 22 = .ok (.iload_n 1, 1) := by decide +kernel
theorem dX0_inDistrict_23 : decode cX0_inDistrict 23 = .ok (.if_icmp .ne 6, 3) := by decide +kernel
theorem dX0_inDistrict_26 : decode cX0_inDistrict 26 = .ok (.iinc 2 1, 3) := by decide +kernel
theorem dX0_inDistrict_29 : decode cX0_inDistrict 29 = .ok (.iinc 3 1, 3) := by decide +kernel
theorem dX0_inDistrict_32 : decode cX0_inDistrict 32 = .ok (.goto (-24), 3) := by decide +kernel
theorem dX0_inDistrict_35 : decode cX0_inDistrict 35 = .ok (.iload_n 2, 1) := by decide +kernel
theorem dX0_inDistrict_36 : decode cX0_inDistrict 36 = .ok (.ireturn, 1) := by decide +kernel
set_option maxRecDepth 20000 in
theorem ggX0_split_X0_checkKey : GoodIn wsX0_split wsX0_checkKey := goodIn_ca (goodIn_r _ [8, 9, 10, 11, 12, 7, 13] (by decide +kernel) (by decide +kernel)) (goodIn_sub (fun _ h => List.mem_cons_of_mem _ (List.mem_append_right _ h)) (by decide +kernel))
set_option maxRecDepth 20000 in
theorem gX0_split_X0_checkKey : GoodIn wsX0_split (va_wsS RX0 53 yX0_checkKey wsX0_checkKey) := goodIn_app (goodIn_of _ (by decide +kernel)) ggX0_split_X0_checkKey
set_option maxRecDepth 20000 in
theorem ggX0_split_X0_rangeHolding : GoodIn wsX0_split wsX0_rangeHolding := goodIn_r _ [17, 3, 4, 44, 45, 46, 47, 48, 49, 50, 51, 52, 53, 54, 55, 56, 57, 58, 59] (by decide +kernel) (by decide +kernel)
set_option maxRecDepth 20000 in
theorem gX0_split_X0_rangeHolding : GoodIn wsX0_split (wsV RX0 93 RX0 yX0_rangeHolding wsX0_rangeHolding) := goodIn_app (goodIn_of _ (by decide +kernel)) ggX0_split_X0_rangeHolding
set_option maxRecDepth 20000 in
theorem ggX0_split_X0_lastKeyOf : GoodIn wsX0_split wsX0_lastKeyOf := goodIn_r _ [21, 4, 22, 23, 24, 7, 25, 3, 44, 45, 46, 47, 48, 49, 50, 51, 52, 53, 54, 55, 56, 57, 58, 59] (by decide +kernel) (by decide +kernel)
set_option maxRecDepth 20000 in
theorem gX0_split_X0_lastKeyOf : GoodIn wsX0_split (wsV RX0 96 RX0 yX0_lastKeyOf wsX0_lastKeyOf) := goodIn_app (goodIn_of _ (by decide +kernel)) ggX0_split_X0_lastKeyOf
set_option maxRecDepth 20000 in
theorem ggX0_split_X0_isMoved : GoodIn wsX0_split wsX0_isMoved := goodIn_r _ [29, 30, 31, 32, 7, 33, 34, 22, 23, 24, 25, 3, 44, 45, 46, 47, 48, 49, 50, 51, 52, 53, 54, 55, 56, 57, 58, 59] (by decide +kernel) (by decide +kernel)
set_option maxRecDepth 20000 in
theorem gX0_split_X0_isMoved : GoodIn wsX0_split (wsV RX0 101 RX0 yX0_isMoved wsX0_isMoved) := goodIn_app (goodIn_of _ (by decide +kernel)) ggX0_split_X0_isMoved
set_option maxRecDepth 20000 in
theorem ggX0_split_X0_insertCopyBehind : GoodIn wsX0_split wsX0_insertCopyBehind := goodIn_r _ [38, 3, 39, 40, 41, 7, 42, 4, 43, 34, 44, 45, 46, 47, 48, 49, 50, 51, 52, 53, 54, 55, 56, 57, 58, 59] (by decide +kernel) (by decide +kernel)
set_option maxRecDepth 20000 in
theorem gX0_split_X0_insertCopyBehind : GoodIn wsX0_split (wsV RX0 108 RX0 yX0_insertCopyBehind wsX0_insertCopyBehind) := goodIn_app (goodIn_of _ (by decide +kernel)) ggX0_split_X0_insertCopyBehind
theorem dX0_split_0 : decode cX0_split 0 = .ok (.iload_n 1, 1) := by decide +kernel
theorem dX0_split_1 : decode cX0_split 1 = .ok (.invokestatic 53, 3) := by decide +kernel
theorem dX0_split_4 : decode cX0_split 4 = .ok (.aload_n 0, 1) := by decide +kernel
theorem dX0_split_5 : decode cX0_split 5 = .ok (.iload_n 1, 1) := by decide +kernel
theorem dX0_split_6 : decode cX0_split 6 = .ok (.invokevirtual 93, 3) := by decide +kernel
theorem dX0_split_9 : decode cX0_split 9 = .ok (.istore_n 2, 1) := by decide +kernel
theorem dX0_split_10 : decode cX0_split 10 = .ok (.iload_n 1, 1) := by decide +kernel
theorem dX0_split_11 : decode cX0_split 11 = .ok (.aload_n 0, 1) := by decide +kernel
theorem dX0_split_12 : decode cX0_split 12 = .ok (.iload_n 2, 1) := by decide +kernel
theorem dX0_split_13 : decode cX0_split 13 = .ok (.invokevirtual 96, 3) := by decide +kernel
theorem dX0_split_16 : decode cX0_split 16 = .ok (.if_icmp .ne 13, 3) := by decide +kernel
theorem dX0_split_19 : decode cX0_split 19 = .ok (.new 64, 3) := by decide +kernel
theorem dX0_split_22 : decode cX0_split 22 = .ok (.dup, 1) := by decide +kernel
theorem dX0_split_23 : decode cX0_split 23 = .ok (.ldc 99, 2) := by decide +kernel
theorem dX0_split_25 : decode cX0_split 25 = .ok (.invokespecial 68, 3) := by decide +kernel
theorem dX0_split_28 : decode cX0_split 28 = .ok (.athrow, 1) := by decide +kernel
theorem dX0_split_29 : decode cX0_split 29 = .ok (.aload_n 0, 1) := by decide +kernel
theorem dX0_split_30 : decode cX0_split 30 = .ok (.iload_n 2, 1) := by decide +kernel
theorem dX0_split_31 : decode cX0_split 31 = .ok (.invokevirtual 101, 3) := by decide +kernel
theorem dX0_split_34 : decode cX0_split 34 = .ok (.ifCond .eq 13, 3) := by decide +kernel
theorem dX0_split_37 : decode cX0_split 37 = .ok (.new 64, 3) := by decide +kernel
theorem dX0_split_40 : decode cX0_split 40 = .ok (.dup, 1) := by decide +kernel
theorem dX0_split_41 : decode cX0_split 41 = .ok (.ldc 104, 2) := by decide +kernel
theorem dX0_split_43 : decode cX0_split 43 = .ok (.invokespecial 68, 3) := by decide +kernel
theorem dX0_split_46 : decode cX0_split 46 = .ok (.athrow, 1) := by decide +kernel
theorem dX0_split_47 : decode cX0_split 47 = .ok (.aload_n 0, 1) := by decide +kernel
theorem dX0_split_48 : decode cX0_split 48 = .ok (.getfield 49, 3) := by decide +kernel
theorem dX0_split_51 : decode cX0_split 51 = .ok (.bipush 8, 2) := by decide +kernel
theorem dX0_split_53 : decode cX0_split 53 = .ok (.if_icmp .lt 13, 3) := by decide +kernel
theorem dX0_split_56 : decode cX0_split 56 = .ok (.new 64, 3) := by decide +kernel
theorem dX0_split_59 : decode cX0_split 59 = .ok (.dup, 1) := by decide +kernel
theorem dX0_split_60 : decode cX0_split 60 = .ok (.ldc 106, 2) := by decide +kernel
theorem dX0_split_62 : decode cX0_split 62 = .ok (.invokespecial 68, 3) := by decide +kernel
theorem dX0_split_65 : decode cX0_split 65 = .ok (.athrow, 1) := by decide +kernel
theorem dX0_split_66 : decode cX0_split 66 = .ok (.aload_n 0, 1) := by decide +kernel
theorem dX0_split_67 : decode cX0_split 67 = .ok (.iload_n 2, 1) := by decide +kernel
theorem dX0_split_68 : decode cX0_split 68 = .ok (.invokevirtual 108, 3) := by decide +kernel
theorem dX0_split_71 : decode cX0_split 71 = .ok (.aload_n 0, 1) := by decide +kernel
theorem dX0_split_72 : decode cX0_split 72 = .ok (.getfield 13, 3) := by decide +kernel
theorem dX0_split_75 : decode cX0_split 75 = .ok (.iload_n 2, 1) := by decide +kernel
theorem dX0_split_76 : decode cX0_split 76 = .ok (.iload_n 1, 1) := by decide +kernel
theorem dX0_split_77 : decode cX0_split 77 = .ok (.iastore, 1) := by decide +kernel
theorem dX0_split_78 : decode cX0_split 78 = .ok (.iload_n 2, 1) := by decide +kernel
theorem dX0_split_79 : decode cX0_split 79 = .ok (.iconst 1, 1) := by decide +kernel
theorem dX0_split_80 : decode cX0_split 80 = .ok (.iadd, 1) := by decide +kernel
theorem dX0_split_81 : decode cX0_split 81 = .ok (.ireturn, 1) := by decide +kernel
set_option maxRecDepth 20000 in
theorem ggX0_merge_X0_checkRange : GoodIn wsX0_merge wsX0_checkRange := goodIn_ca (goodIn_r _ [8, 9, 10, 11, 12, 13, 7, 14, 3, 38, 39, 40, 41, 42, 43, 44, 45, 46, 47, 48, 49, 50, 51, 52, 53] (by decide +kernel) (by decide +kernel)) (goodIn_sub (fun _ h => List.mem_cons_of_mem _ (List.mem_append_right _ h)) (by decide +kernel))
set_option maxRecDepth 20000 in
theorem gX0_merge_X0_checkRange : GoodIn wsX0_merge (wsV RX0 111 RX0 yX0_checkRange wsX0_checkRange) := goodIn_app (goodIn_of _ (by decide +kernel)) ggX0_merge_X0_checkRange
set_option maxRecDepth 20000 in
theorem ggX0_merge_X0_isRange : GoodIn wsX0_merge wsX0_isRange := goodIn_r _ [14, 3, 38, 39, 40, 41, 42, 43, 44, 45, 46, 47, 48, 49, 50, 51, 52, 53] (by decide +kernel) (by decide +kernel)
set_option maxRecDepth 20000 in
theorem gX0_merge_X0_isRange : GoodIn wsX0_merge (wsV RX0 114 RX0 yX0_isRange wsX0_isRange) := goodIn_app (goodIn_of _ (by decide +kernel)) ggX0_merge_X0_isRange
set_option maxRecDepth 20000 in
theorem ggX0_merge_X0_homeOf : GoodIn wsX0_merge wsX0_homeOf := goodIn_r _ [18, 19, 11, 12, 13, 7, 14, 3, 38, 39, 40, 41, 42, 43, 44, 45, 46, 47, 48, 49, 50, 51, 52, 53] (by decide +kernel) (by decide +kernel)
set_option maxRecDepth 20000 in
theorem gX0_merge_X0_homeOf : GoodIn wsX0_merge (wsV RX0 119 RX0 yX0_homeOf wsX0_homeOf) := goodIn_app (goodIn_of _ (by decide +kernel)) ggX0_merge_X0_homeOf
set_option maxRecDepth 20000 in
theorem ggX0_merge_X0_isMoved : GoodIn wsX0_merge wsX0_isMoved := goodIn_r _ [23, 24, 25, 26, 7, 27, 28, 11, 12, 13, 14, 3, 38, 39, 40, 41, 42, 43, 44, 45, 46, 47, 48, 49, 50, 51, 52, 53] (by decide +kernel) (by decide +kernel)
set_option maxRecDepth 20000 in
theorem gX0_merge_X0_isMoved : GoodIn wsX0_merge (wsV RX0 101 RX0 yX0_isMoved wsX0_isMoved) := goodIn_app (goodIn_of _ (by decide +kernel)) ggX0_merge_X0_isMoved
set_option maxRecDepth 20000 in
theorem ggX0_merge_X0_remove : GoodIn wsX0_merge wsX0_remove := goodIn_r _ [32, 3, 33, 34, 35, 7, 36, 37, 19, 28, 38, 39, 40, 41, 42, 43, 44, 45, 46, 47, 48, 49, 50, 51, 52, 53] (by decide +kernel) (by decide +kernel)
set_option maxRecDepth 20000 in
theorem gX0_merge_X0_remove : GoodIn wsX0_merge (wsV RX0 126 RX0 yX0_remove wsX0_remove) := goodIn_app (goodIn_of _ (by decide +kernel)) ggX0_merge_X0_remove
theorem dX0_merge_0 : decode cX0_merge 0 = .ok (.aload_n 0, 1) := by decide +kernel
theorem dX0_merge_1 : decode cX0_merge 1 = .ok (.iload_n 1, 1) := by decide +kernel
theorem dX0_merge_2 : decode cX0_merge 2 = .ok (.invokevirtual 111, 3) := by decide +kernel
theorem dX0_merge_5 : decode cX0_merge 5 = .ok (.iload_n 1, 1) := by decide +kernel
theorem dX0_merge_6 : decode cX0_merge 6 = .ok (.iconst 1, 1) := by decide +kernel
theorem dX0_merge_7 : decode cX0_merge 7 = .ok (.iadd, 1) := by decide +kernel
theorem dX0_merge_8 : decode cX0_merge 8 = .ok (.istore_n 2, 1) := by decide +kernel
theorem dX0_merge_9 : decode cX0_merge 9 = .ok (.aload_n 0, 1) := by decide +kernel
theorem dX0_merge_10 : decode cX0_merge 10 = .ok (.iload_n 2, 1) := by decide +kernel
theorem dX0_merge_11 : decode cX0_merge 11 = .ok (.invokevirtual 114, 3) := by decide +kernel
theorem dX0_merge_14 : decode cX0_merge 14 = .ok (.ifCond .ne 13, 3) := by decide +kernel
theorem dX0_merge_17 : decode cX0_merge 17 = .ok (.new 64, 3) := by decide +kernel
theorem dX0_merge_20 : decode cX0_merge 20 = .ok (.dup, 1) := by decide +kernel
theorem dX0_merge_21 : decode cX0_merge 21 = .ok (.ldc 117, 2) := by decide +kernel
theorem dX0_merge_23 : decode cX0_merge 23 = .ok (.invokespecial 68, 3) := by decide +kernel
theorem dX0_merge_26 : decode cX0_merge 26 = .ok (.athrow, 1) := by decide +kernel
theorem dX0_merge_27 : decode cX0_merge 27 = .ok (.aload_n 0, 1) := by decide +kernel
theorem dX0_merge_28 : decode cX0_merge 28 = .ok (.iload_n 1, 1) := by decide +kernel
theorem dX0_merge_29 : decode cX0_merge 29 = .ok (.invokevirtual 119, 3) := by decide +kernel
theorem dX0_merge_32 : decode cX0_merge 32 = .ok (.aload_n 0, 1) := by decide +kernel
theorem dX0_merge_33 : decode cX0_merge 33 = .ok (.iload_n 2, 1) := by decide +kernel
theorem dX0_merge_34 : decode cX0_merge 34 = .ok (.invokevirtual 119, 3) := by decide +kernel
theorem dX0_merge_37 : decode cX0_merge 37 = .ok (.if_icmp .eq 13, 3) := by decide +kernel
theorem dX0_merge_40 : decode cX0_merge 40 = .ok (.new 64, 3) := by decide +kernel
theorem dX0_merge_43 : decode cX0_merge 43 = .ok (.dup, 1) := by decide +kernel
theorem dX0_merge_44 : decode cX0_merge 44 = .ok (.ldc 122, 2) := by decide +kernel
theorem dX0_merge_46 : decode cX0_merge 46 = .ok (.invokespecial 68, 3) := by decide +kernel
theorem dX0_merge_49 : decode cX0_merge 49 = .ok (.athrow, 1) := by decide +kernel
theorem dX0_merge_50 : decode cX0_merge 50 = .ok (.aload_n 0, 1) := by decide +kernel
theorem dX0_merge_51 : decode cX0_merge 51 = .ok (.iload_n 1, 1) := by decide +kernel
theorem dX0_merge_52 : decode cX0_merge 52 = .ok (.invokevirtual 101, 3) := by decide +kernel
theorem dX0_merge_55 : decode cX0_merge 55 = .ok (.ifCond .ne 11, 3) := by decide +kernel
theorem dX0_merge_58 : decode cX0_merge 58 = .ok (.aload_n 0, 1) := by decide +kernel
theorem dX0_merge_59 : decode cX0_merge 59 = .ok (.iload_n 2, 1) := by decide +kernel
theorem dX0_merge_60 : decode cX0_merge 60 = .ok (.invokevirtual 101, 3) := by decide +kernel
theorem dX0_merge_63 : decode cX0_merge 63 = .ok (.ifCond .eq 13, 3) := by decide +kernel
theorem dX0_merge_66 : decode cX0_merge 66 = .ok (.new 64, 3) := by decide +kernel
theorem dX0_merge_69 : decode cX0_merge 69 = .ok (.dup, 1) := by decide +kernel
theorem dX0_merge_70 : decode cX0_merge 70 = .ok (.ldc 124, 2) := by decide +kernel
theorem dX0_merge_72 : decode cX0_merge 72 = .ok (.invokespecial 68, 3) := by decide +kernel
theorem dX0_merge_75 : decode cX0_merge 75 = .ok (.athrow, 1) := by decide +kernel
theorem dX0_merge_76 : decode cX0_merge 76 = .ok (.aload_n 0, 1) := by decide +kernel
theorem dX0_merge_77 : decode cX0_merge 77 = .ok (.iload_n 1, 1) := by decide +kernel
theorem dX0_merge_78 : decode cX0_merge 78 = .ok (.invokevirtual 126, 3) := by decide +kernel
theorem dX0_merge_81 : decode cX0_merge 81 = .ok (.aload_n 0, 1) := by decide +kernel
theorem dX0_merge_82 : decode cX0_merge 82 = .ok (.getfield 49, 3) := by decide +kernel
theorem dX0_merge_85 : decode cX0_merge 85 = .ok (.ireturn, 1) := by decide +kernel
set_option maxRecDepth 20000 in
theorem ggX0_move_X0_checkRange : GoodIn wsX0_move wsX0_checkRange := goodIn_ca (goodIn_r _ [9, 10, 11, 12, 13, 14, 8, 15, 16, 52, 53, 54, 55, 56, 57, 58, 59, 60, 61, 62, 63, 64, 65, 66, 67] (by decide +kernel) (by decide +kernel)) (goodIn_sub (fun _ h => List.mem_cons_of_mem _ (List.mem_append_right _ h)) (by decide +kernel))
set_option maxRecDepth 20000 in
theorem gX0_move_X0_checkRange : GoodIn wsX0_move (wsV RX0 111 RX0 yX0_checkRange wsX0_checkRange) := goodIn_app (goodIn_of _ (by decide +kernel)) ggX0_move_X0_checkRange
set_option maxRecDepth 20000 in
theorem ggX0_move_X0_checkShard : GoodIn wsX0_move wsX0_checkShard := goodIn_ca (goodIn_r _ [19, 10, 11, 20, 21, 8, 22] (by decide +kernel) (by decide +kernel)) (goodIn_sub (fun _ h => List.mem_cons_of_mem _ (List.mem_append_right _ h)) (by decide +kernel))
set_option maxRecDepth 20000 in
theorem gX0_move_X0_checkShard : GoodIn wsX0_move (va_wsS RX0 129 yX0_checkShard wsX0_checkShard) := goodIn_app (goodIn_of _ (by decide +kernel)) ggX0_move_X0_checkShard
set_option maxRecDepth 20000 in
theorem ggX0_move_X0_isMoved : GoodIn wsX0_move wsX0_isMoved := goodIn_r _ [26, 27, 28, 29, 8, 30, 4, 12, 13, 14, 15, 16, 52, 53, 54, 55, 56, 57, 58, 59, 60, 61, 62, 63, 64, 65, 66, 67] (by decide +kernel) (by decide +kernel)
set_option maxRecDepth 20000 in
theorem gX0_move_X0_isMoved : GoodIn wsX0_move (wsV RX0 101 RX0 yX0_isMoved wsX0_isMoved) := goodIn_app (goodIn_of _ (by decide +kernel)) ggX0_move_X0_isMoved
set_option maxRecDepth 20000 in
theorem ggX0_move_X0_firstKeyOf : GoodIn wsX0_move wsX0_firstKeyOf := goodIn_r _ [34, 35, 36, 37, 8, 38, 39, 12, 13, 14, 15, 16, 52, 53, 54, 55, 56, 57, 58, 59, 60, 61, 62, 63, 64, 65, 66, 67] (by decide +kernel) (by decide +kernel)
set_option maxRecDepth 20000 in
theorem gX0_move_X0_firstKeyOf : GoodIn wsX0_move (wsV RX0 136 RX0 yX0_firstKeyOf wsX0_firstKeyOf) := goodIn_app (goodIn_of _ (by decide +kernel)) ggX0_move_X0_firstKeyOf
set_option maxRecDepth 20000 in
theorem ggX0_move_X0_lastKeyOf : GoodIn wsX0_move wsX0_lastKeyOf := goodIn_r _ [38, 39, 12, 13, 14, 8, 15, 16, 52, 53, 54, 55, 56, 57, 58, 59, 60, 61, 62, 63, 64, 65, 66, 67] (by decide +kernel) (by decide +kernel)
set_option maxRecDepth 20000 in
theorem gX0_move_X0_lastKeyOf : GoodIn wsX0_move (wsV RX0 96 RX0 yX0_lastKeyOf wsX0_lastKeyOf) := goodIn_app (goodIn_of _ (by decide +kernel)) ggX0_move_X0_lastKeyOf
set_option maxRecDepth 20000 in
theorem ggX0_move_X0_countRows : GoodIn wsX0_move wsX0_countRows := goodIn_r _ [43, 44, 45, 46, 8, 47, 48, 20, 21, 22, 49, 50, 51, 52, 53, 54, 55, 56, 57, 58, 59, 60, 61, 62, 63, 64, 65, 66, 67] (by decide +kernel) (by decide +kernel)
set_option maxRecDepth 20000 in
theorem gX0_move_X0_countRows : GoodIn wsX0_move (wsV RX0 139 RX0 yX0_countRows wsX0_countRows) := goodIn_app (goodIn_of _ (by decide +kernel)) ggX0_move_X0_countRows
theorem dX0_move_0 : decode cX0_move 0 = .ok (.aload_n 0, 1) := by decide +kernel
theorem dX0_move_1 : decode cX0_move 1 = .ok (.iload_n 1, 1) := by decide +kernel
theorem dX0_move_2 : decode cX0_move 2 = .ok (.invokevirtual 111, 3) := by decide +kernel
theorem dX0_move_5 : decode cX0_move 5 = .ok (.iload_n 2, 1) := by decide +kernel
theorem dX0_move_6 : decode cX0_move 6 = .ok (.invokestatic 129, 3) := by decide +kernel
theorem dX0_move_9 : decode cX0_move 9 = .ok (.aload_n 0, 1) := by decide +kernel
theorem dX0_move_10 : decode cX0_move 10 = .ok (.iload_n 1, 1) := by decide +kernel
theorem dX0_move_11 : decode cX0_move 11 = .ok (.invokevirtual 101, 3) := by decide +kernel
theorem dX0_move_14 : decode cX0_move 14 = .ok (.ifCond .eq 13, 3) := by decide +kernel
theorem dX0_move_17 : decode cX0_move 17 = .ok (.new 64, 3) := by decide +kernel
theorem dX0_move_20 : decode cX0_move 20 = .ok (.dup, 1) := by decide +kernel
theorem dX0_move_21 : decode cX0_move 21 = .ok (.ldc 132, 2) := by decide +kernel
theorem dX0_move_23 : decode cX0_move 23 = .ok (.invokespecial 68, 3) := by decide +kernel
theorem dX0_move_26 : decode cX0_move 26 = .ok (.athrow, 1) := by decide +kernel
theorem dX0_move_27 : decode cX0_move 27 = .ok (.aload_n 0, 1) := by decide +kernel
theorem dX0_move_28 : decode cX0_move 28 = .ok (.getfield 16, 3) := by decide +kernel
theorem dX0_move_31 : decode cX0_move 31 = .ok (.iload_n 1, 1) := by decide +kernel
theorem dX0_move_32 : decode cX0_move 32 = .ok (.iaload, 1) := by decide +kernel
theorem dX0_move_33 : decode cX0_move 33 = .ok (.iload_n 2, 1) := by decide +kernel
theorem dX0_move_34 : decode cX0_move 34 = .ok (.if_icmp .ne 13, 3) := by decide +kernel
theorem dX0_move_37 : decode cX0_move 37 = .ok (.new 64, 3) := by decide +kernel
theorem dX0_move_40 : decode cX0_move 40 = .ok (.dup, 1) := by decide +kernel
theorem dX0_move_41 : decode cX0_move 41 = .ok (.ldc 134, 2) := by decide +kernel
theorem dX0_move_43 : decode cX0_move 43 = .ok (.invokespecial 68, 3) := by decide +kernel
theorem dX0_move_46 : decode cX0_move 46 = .ok (.athrow, 1) := by decide +kernel
theorem dX0_move_47 : decode cX0_move 47 = .ok (.aload_n 0, 1) := by decide +kernel
theorem dX0_move_48 : decode cX0_move 48 = .ok (.getfield 19, 3) := by decide +kernel
theorem dX0_move_51 : decode cX0_move 51 = .ok (.iload_n 1, 1) := by decide +kernel
theorem dX0_move_52 : decode cX0_move 52 = .ok (.iload_n 2, 1) := by decide +kernel
theorem dX0_move_53 : decode cX0_move 53 = .ok (.iastore, 1) := by decide +kernel
theorem dX0_move_54 : decode cX0_move 54 = .ok (.aload_n 0, 1) := by decide +kernel
theorem dX0_move_55 : decode cX0_move 55 = .ok (.aload_n 0, 1) := by decide +kernel
theorem dX0_move_56 : decode cX0_move 56 = .ok (.getfield 16, 3) := by decide +kernel
theorem dX0_move_59 : decode cX0_move 59 = .ok (.iload_n 1, 1) := by decide +kernel
theorem dX0_move_60 : decode cX0_move 60 = .ok (.iaload, 1) := by decide +kernel
theorem dX0_move_61 : decode cX0_move 61 = .ok (.aload_n 0, 1) := by decide +kernel
theorem dX0_move_62 : decode cX0_move 62 = .ok (.iload_n 1, 1) := by decide +kernel
theorem dX0_move_63 : decode cX0_move 63 = .ok (.invokevirtual 136, 3) := by decide +kernel
theorem dX0_move_66 : decode cX0_move 66 = .ok (.aload_n 0, 1) := by decide +kernel
theorem dX0_move_67 : decode cX0_move 67 = .ok (.iload_n 1, 1) := by decide +kernel
theorem dX0_move_68 : decode cX0_move 68 = .ok (.invokevirtual 96, 3) := by decide +kernel
theorem dX0_move_71 : decode cX0_move 71 = .ok (.invokevirtual 139, 3) := by decide +kernel
theorem dX0_move_74 : decode cX0_move 74 = .ok (.ireturn, 1) := by decide +kernel
set_option maxRecDepth 20000 in
theorem ggX0_step_X0_checkRange : GoodIn wsX0_step wsX0_checkRange := goodIn_ca (goodIn_r _ [7, 8, 9, 10, 11, 12, 6, 13, 14, 65, 66, 67, 68, 69, 70, 71, 72, 73, 74, 75, 76, 77, 78, 79, 80] (by decide +kernel) (by decide +kernel)) (goodIn_sub (fun _ h => List.mem_cons_of_mem _ (List.mem_append_left _ (List.mem_append_right _ h))) (by decide +kernel))
set_option maxRecDepth 20000 in
theorem gX0_step_X0_checkRange : GoodIn wsX0_step (wsV RX0 111 RX0 yX0_checkRange wsX0_checkRange) := goodIn_app (goodIn_of _ (by decide +kernel)) ggX0_step_X0_checkRange
set_option maxRecDepth 20000 in
theorem ggX0_step_X0_checkMoved : GoodIn wsX0_step wsX0_checkMoved := goodIn_ca (goodIn_r _ [18, 19, 20, 21, 22, 23, 6, 24, 25, 26, 27, 28, 2, 10, 11, 12, 13, 14, 65, 66, 67, 68, 69, 70, 71, 72, 73, 74, 75, 76, 77, 78, 79, 80] (by decide +kernel) (by decide +kernel)) (goodIn_sub (fun _ h => List.mem_cons_of_mem _ (List.mem_append_right _ h)) (by decide +kernel))
set_option maxRecDepth 20000 in
theorem gX0_step_X0_checkMoved : GoodIn wsX0_step (wsV RX0 143 RX0 yX0_checkMoved wsX0_checkMoved) := goodIn_app (goodIn_of _ (by decide +kernel)) ggX0_step_X0_checkMoved
set_option maxRecDepth 20000 in
theorem ggX0_step_X0_lowestKeyNotBrought : GoodIn wsX0_step wsX0_lowestKeyNotBrought := goodIn_r _ [32, 33, 34, 35, 6, 36, 1, 10, 11, 12, 13, 14, 25, 26, 27, 28, 2, 37, 38, 39, 40, 41, 42, 43, 44, 45, 46, 47, 48, 49, 50, 51, 52, 53, 54, 55, 56, 65, 66, 67, 68, 69, 70, 71, 72, 73, 74, 75, 76, 77, 78, 79, 80] (by decide +kernel) (by decide +kernel)
set_option maxRecDepth 20000 in
theorem gX0_step_X0_lowestKeyNotBrought : GoodIn wsX0_step (wsV RX0 146 RX0 yX0_lowestKeyNotBrought wsX0_lowestKeyNotBrought) := goodIn_app (goodIn_of _ (by decide +kernel)) ggX0_step_X0_lowestKeyNotBrought
set_option maxRecDepth 20000 in
theorem ggX0_step_X0_rowOf : GoodIn wsX0_step wsX0_rowOf := goodIn_r _ [49, 50, 51, 52, 6, 53, 54, 55, 56, 65, 66, 67, 68, 69, 70, 71, 72, 73, 74, 75, 76, 77, 78, 79, 80] (by decide +kernel) (by decide +kernel)
set_option maxRecDepth 20000 in
theorem gX0_step_X0_rowOf : GoodIn wsX0_step (wsV RX0 149 RX0 yX0_rowOf wsX0_rowOf) := goodIn_app (goodIn_of _ (by decide +kernel)) ggX0_step_X0_rowOf
set_option maxRecDepth 20000 in
theorem ggX0_step_X0_putRow : GoodIn wsX0_step wsX0_putRow := goodIn_r _ [60, 50, 51, 52, 6, 53, 54, 55, 56, 65, 66, 67, 68, 69, 70, 71, 72, 73, 74, 75, 76, 77, 78, 79, 80] (by decide +kernel) (by decide +kernel)
set_option maxRecDepth 20000 in
theorem gX0_step_X0_putRow : GoodIn wsX0_step (wsV RX0 153 RX0 yX0_putRow wsX0_putRow) := goodIn_app (goodIn_of _ (by decide +kernel)) ggX0_step_X0_putRow
set_option maxRecDepth 20000 in
theorem ggX0_step_X0_dropRows : GoodIn wsX0_step wsX0_dropRows := goodIn_r _ [64, 37, 38, 39, 6, 40, 41, 10, 11, 12, 13, 14, 42, 43, 44, 45, 57, 58, 59, 60, 50, 51, 52, 53, 54, 55, 56, 65, 66, 67, 68, 69, 70, 71, 72, 73, 74, 75, 76, 77, 78, 79, 80] (by decide +kernel) (by decide +kernel)
set_option maxRecDepth 20000 in
theorem gX0_step_X0_dropRows : GoodIn wsX0_step (wsV RX0 157 RX0 yX0_dropRows wsX0_dropRows) := goodIn_app (goodIn_of _ (by decide +kernel)) ggX0_step_X0_dropRows
theorem dX0_step_0 : decode cX0_step 0 = .ok (.aload_n 0, 1) := by decide +kernel
theorem dX0_step_1 : decode cX0_step 1 = .ok (.iload_n 1, 1) := by decide +kernel
theorem dX0_step_2 : decode cX0_step 2 = .ok (.invokevirtual 111, 3) := by decide +kernel
theorem dX0_step_5 : decode cX0_step 5 = .ok (.aload_n 0, 1) := by decide +kernel
theorem dX0_step_6 : decode cX0_step 6 = .ok (.iload_n 1, 1) := by decide +kernel
theorem dX0_step_7 : decode cX0_step 7 = .ok (.invokevirtual 143, 3) := by decide +kernel
theorem dX0_step_10 : decode cX0_step 10 = .ok (.aload_n 0, 1) := by decide +kernel
theorem dX0_step_11 : decode cX0_step 11 = .ok (.getfield 16, 3) := by decide +kernel
theorem dX0_step_14 : decode cX0_step 14 = .ok (.iload_n 1, 1) := by decide +kernel
theorem dX0_step_15 : decode cX0_step 15 = .ok (.iaload, 1) := by decide +kernel
theorem dX0_step_16 : decode cX0_step 16 = .ok (.istore_n 2, 1) := by decide +kernel
theorem dX0_step_17 : decode cX0_step 17 = .ok (.aload_n 0, 1) := by decide +kernel
theorem dX0_step_18 : decode cX0_step 18 = .ok (.getfield 19, 3) := by decide +kernel
theorem dX0_step_21 : decode cX0_step 21 = .ok (.iload_n 1, 1) := by decide +kernel
theorem dX0_step_22 : decode cX0_step 22 = .ok (.iaload, 1) := by decide +kernel
theorem dX0_step_23 : decode cX0_step 23 = .ok (.istore_n 3, 1) := by decide +kernel
theorem dX0_step_24 : decode cX0_step 24 = .ok (.aload_n 0, 1) := by decide +kernel
theorem dX0_step_25 : decode cX0_step 25 = .ok (.iload_n 1, 1) := by decide +kernel
theorem dX0_step_26 : decode cX0_step 26 = .ok (.invokevirtual 146, 3) := by decide +kernel
theorem dX0_step_29 : decode cX0_step 29 = .ok (.istore 4, 2) := by decide +kernel
theorem dX0_step_31 : decode cX0_step 31 = .ok (.iload 4, 2) := by decide +kernel
theorem dX0_step_33 : decode cX0_step 33 = .ok (.iconst (-1), 1) := by decide +kernel
theorem dX0_step_34 : decode cX0_step 34 = .ok (.if_icmp .eq 20, 3) := by decide +kernel
theorem dX0_step_37 : decode cX0_step 37 = .ok (.aload_n 0, 1) := by decide +kernel
theorem dX0_step_38 : decode cX0_step 38 = .ok (.iload_n 3, 1) := by decide +kernel
theorem dX0_step_39 : decode cX0_step 39 = .ok (.iload 4, 2) := by decide +kernel
theorem dX0_step_41 : decode cX0_step 41 = .ok (.aload_n 0, 1) := by decide +kernel
theorem dX0_step_42 : decode cX0_step 42 = .ok (.iload_n 2, 1) := by decide +kernel
theorem dX0_step_43 : decode cX0_step 43 = .ok (.iload 4, 2) := by decide +kernel
theorem dX0_step_45 : decode cX0_step 45 = .ok (.invokevirtual 149, 3) := by decide +kernel
theorem dX0_step_48 : decode cX0_step 48 = .ok (.invokevirtual 153, 3) := by decide +kernel
theorem dX0_step_51 : decode cX0_step 51 = .ok (.iload 4, 2) := by decide +kernel
theorem dX0_step_53 : decode cX0_step 53 = .ok (.ireturn, 1) := by decide +kernel
theorem dX0_step_54 : decode cX0_step 54 = .ok (.aload_n 0, 1) := by decide +kernel
theorem dX0_step_55 : decode cX0_step 55 = .ok (.iload_n 2, 1) := by decide +kernel
theorem dX0_step_56 : decode cX0_step 56 = .ok (.iload_n 1, 1) := by decide +kernel
theorem dX0_step_57 : decode cX0_step 57 = .ok (.invokevirtual 157, 3) := by decide +kernel
theorem dX0_step_60 : decode cX0_step 60 = .ok (.aload_n 0, 1) := by decide +kernel
theorem dX0_step_61 : decode cX0_step 61 = .ok (.getfield 16, 3) := by decide +kernel
theorem dX0_step_64 : decode cX0_step 64 = .ok (.iload_n 1, 1) := by decide +kernel
theorem dX0_step_65 : decode cX0_step 65 = .ok (.iload_n 3, 1) := by decide +kernel
theorem dX0_step_66 : decode cX0_step 66 = .ok (.iastore, 1) := by decide +kernel
theorem dX0_step_67 : decode cX0_step 67 = .ok (.aload_n 0, 1) := by decide +kernel
theorem dX0_step_68 : decode cX0_step 68 = .ok (.getfield 19, 3) := by decide +kernel
theorem dX0_step_71 : decode cX0_step 71 = .ok (.iload_n 1, 1) := by decide +kernel
theorem dX0_step_72 : decode cX0_step 72 = .ok (.iconst (-1), 1) := by decide +kernel
theorem dX0_step_73 : decode cX0_step 73 = .ok (.iastore, 1) := by decide +kernel
theorem dX0_step_74 : decode cX0_step 74 = .ok (.iconst (-1), 1) := by decide +kernel
theorem dX0_step_75 : decode cX0_step 75 = .ok (.ireturn, 1) := by decide +kernel
set_option maxRecDepth 20000 in
theorem ggX0_giveUp_X0_checkRange : GoodIn wsX0_giveUp wsX0_checkRange := goodIn_ca (goodIn_r _ [6, 7, 8, 9, 10, 11, 5, 12, 13, 60, 61, 62, 63, 64, 65, 66, 67, 68, 69, 70, 71, 72, 73, 74, 75] (by decide +kernel) (by decide +kernel)) (goodIn_sub (fun _ h => List.mem_cons_of_mem _ (List.mem_append_left _ (List.mem_append_right _ h))) (by decide +kernel))
set_option maxRecDepth 20000 in
theorem gX0_giveUp_X0_checkRange : GoodIn wsX0_giveUp (wsV RX0 111 RX0 yX0_checkRange wsX0_checkRange) := goodIn_app (goodIn_of _ (by decide +kernel)) ggX0_giveUp_X0_checkRange
set_option maxRecDepth 20000 in
theorem ggX0_giveUp_X0_checkMoved : GoodIn wsX0_giveUp wsX0_checkMoved := goodIn_ca (goodIn_r _ [17, 18, 19, 20, 21, 22, 5, 23, 24, 25, 26, 27, 1, 9, 10, 11, 12, 13, 60, 61, 62, 63, 64, 65, 66, 67, 68, 69, 70, 71, 72, 73, 74, 75] (by decide +kernel) (by decide +kernel)) (goodIn_sub (fun _ h => List.mem_cons_of_mem _ (List.mem_append_right _ h)) (by decide +kernel))
set_option maxRecDepth 20000 in
theorem gX0_giveUp_X0_checkMoved : GoodIn wsX0_giveUp (wsV RX0 143 RX0 yX0_checkMoved wsX0_checkMoved) := goodIn_app (goodIn_of _ (by decide +kernel)) ggX0_giveUp_X0_checkMoved
set_option maxRecDepth 20000 in
theorem ggX0_giveUp_X0_firstKeyOf : GoodIn wsX0_giveUp wsX0_firstKeyOf := goodIn_r _ [31, 32, 33, 34, 5, 35, 36, 9, 10, 11, 12, 13, 60, 61, 62, 63, 64, 65, 66, 67, 68, 69, 70, 71, 72, 73, 74, 75] (by decide +kernel) (by decide +kernel)
set_option maxRecDepth 20000 in
theorem gX0_giveUp_X0_firstKeyOf : GoodIn wsX0_giveUp (wsV RX0 136 RX0 yX0_firstKeyOf wsX0_firstKeyOf) := goodIn_app (goodIn_of _ (by decide +kernel)) ggX0_giveUp_X0_firstKeyOf
set_option maxRecDepth 20000 in
theorem ggX0_giveUp_X0_lastKeyOf : GoodIn wsX0_giveUp wsX0_lastKeyOf := goodIn_r _ [35, 36, 9, 10, 11, 5, 12, 13, 60, 61, 62, 63, 64, 65, 66, 67, 68, 69, 70, 71, 72, 73, 74, 75] (by decide +kernel) (by decide +kernel)
set_option maxRecDepth 20000 in
theorem gX0_giveUp_X0_lastKeyOf : GoodIn wsX0_giveUp (wsV RX0 96 RX0 yX0_lastKeyOf wsX0_lastKeyOf) := goodIn_app (goodIn_of _ (by decide +kernel)) ggX0_giveUp_X0_lastKeyOf
set_option maxRecDepth 20000 in
theorem ggX0_giveUp_X0_countRows : GoodIn wsX0_giveUp wsX0_countRows := goodIn_r _ [40, 41, 42, 43, 5, 44, 45, 46, 47, 48, 49, 50, 51, 60, 61, 62, 63, 64, 65, 66, 67, 68, 69, 70, 71, 72, 73, 74, 75] (by decide +kernel) (by decide +kernel)
set_option maxRecDepth 20000 in
theorem gX0_giveUp_X0_countRows : GoodIn wsX0_giveUp (wsV RX0 139 RX0 yX0_countRows wsX0_countRows) := goodIn_app (goodIn_of _ (by decide +kernel)) ggX0_giveUp_X0_countRows
set_option maxRecDepth 20000 in
theorem ggX0_giveUp_X0_dropRows : GoodIn wsX0_giveUp wsX0_dropRows := goodIn_r _ [55, 32, 33, 34, 5, 35, 36, 9, 10, 11, 12, 13, 28, 29, 30, 31, 56, 57, 58, 59, 45, 46, 47, 48, 49, 50, 51, 60, 61, 62, 63, 64, 65, 66, 67, 68, 69, 70, 71, 72, 73, 74, 75] (by decide +kernel) (by decide +kernel)
set_option maxRecDepth 20000 in
theorem gX0_giveUp_X0_dropRows : GoodIn wsX0_giveUp (wsV RX0 157 RX0 yX0_dropRows wsX0_dropRows) := goodIn_app (goodIn_of _ (by decide +kernel)) ggX0_giveUp_X0_dropRows
theorem dX0_giveUp_0 : decode cX0_giveUp 0 = .ok (.aload_n 0, 1) := by decide +kernel
theorem dX0_giveUp_1 : decode cX0_giveUp 1 = .ok (.iload_n 1, 1) := by decide +kernel
theorem dX0_giveUp_2 : decode cX0_giveUp 2 = .ok (.invokevirtual 111, 3) := by decide +kernel
theorem dX0_giveUp_5 : decode cX0_giveUp 5 = .ok (.aload_n 0, 1) := by decide +kernel
theorem dX0_giveUp_6 : decode cX0_giveUp 6 = .ok (.iload_n 1, 1) := by decide +kernel
theorem dX0_giveUp_7 : decode cX0_giveUp 7 = .ok (.invokevirtual 143, 3) := by decide +kernel
theorem dX0_giveUp_10 : decode cX0_giveUp 10 = .ok (.aload_n 0, 1) := by decide +kernel
theorem dX0_giveUp_11 : decode cX0_giveUp 11 = .ok (.getfield 19, 3) := by decide +kernel
theorem dX0_giveUp_14 : decode cX0_giveUp 14 = .ok (.iload_n 1, 1) := by decide +kernel
theorem dX0_giveUp_15 : decode cX0_giveUp 15 = .ok (.iaload, 1) := by decide +kernel
theorem dX0_giveUp_16 : decode cX0_giveUp 16 = .ok (.istore_n 2, 1) := by decide +kernel
theorem dX0_giveUp_17 : decode cX0_giveUp 17 = .ok (.aload_n 0, 1) := by decide +kernel
theorem dX0_giveUp_18 : decode cX0_giveUp 18 = .ok (.iload_n 2, 1) := by decide +kernel
theorem dX0_giveUp_19 : decode cX0_giveUp 19 = .ok (.aload_n 0, 1) := by decide +kernel
theorem dX0_giveUp_20 : decode cX0_giveUp 20 = .ok (.iload_n 1, 1) := by decide +kernel
theorem dX0_giveUp_21 : decode cX0_giveUp 21 = .ok (.invokevirtual 136, 3) := by decide +kernel
theorem dX0_giveUp_24 : decode cX0_giveUp 24 = .ok (.aload_n 0, 1) := by decide +kernel
theorem dX0_giveUp_25 : decode cX0_giveUp 25 = .ok (.iload_n 1, 1) := by decide +kernel
theorem dX0_giveUp_26 : decode cX0_giveUp 26 = .ok (.invokevirtual 96, 3) := by decide +kernel
theorem dX0_giveUp_29 : decode cX0_giveUp 29 = .ok (.invokevirtual 139, 3) := by decide +kernel
theorem dX0_giveUp_32 : decode cX0_giveUp 32 = .ok (.istore_n 3, 1) := by decide +kernel
theorem dX0_giveUp_33 : decode cX0_giveUp 33 = .ok (.aload_n 0, 1) := by decide +kernel
theorem dX0_giveUp_34 : decode cX0_giveUp 34 = .ok (.iload_n 2, 1) := by decide +kernel
theorem dX0_giveUp_35 : decode cX0_giveUp 35 = .ok (.iload_n 1, 1) := by decide +kernel
theorem dX0_giveUp_36 : decode cX0_giveUp 36 = .ok (.invokevirtual 157, 3) := by decide +kernel
theorem dX0_giveUp_39 : decode cX0_giveUp 39 = .ok (.aload_n 0, 1) := by decide +kernel
theorem dX0_giveUp_40 : decode cX0_giveUp 40 = .ok (.getfield 19, 3) := by decide +kernel
theorem dX0_giveUp_43 : decode cX0_giveUp 43 = .ok (.iload_n 1, 1) := by decide +kernel
theorem dX0_giveUp_44 : decode cX0_giveUp 44 = .ok (.iconst (-1), 1) := by decide +kernel
theorem dX0_giveUp_45 : decode cX0_giveUp 45 = .ok (.iastore, 1) := by decide +kernel
theorem dX0_giveUp_46 : decode cX0_giveUp 46 = .ok (.iload_n 3, 1) := by decide +kernel
theorem dX0_giveUp_47 : decode cX0_giveUp 47 = .ok (.ireturn, 1) := by decide +kernel
theorem dX0_ranges_0 : decode cX0_ranges 0 = .ok (.aload_n 0, 1) := by decide +kernel
theorem dX0_ranges_1 : decode cX0_ranges 1 = .ok (.getfield 49, 3) := by decide +kernel
theorem dX0_ranges_4 : decode cX0_ranges 4 = .ok (.ireturn, 1) := by decide +kernel
set_option maxRecDepth 20000 in
theorem ggX0_rangeOf_X0_checkKey : GoodIn wsX0_rangeOf wsX0_checkKey := goodIn_ca (goodIn_r _ [4, 5, 6, 7, 8, 3, 9] (by decide +kernel) (by decide +kernel)) (goodIn_sub (fun _ h => List.mem_cons_of_mem _ (List.mem_append_right _ h)) (by decide +kernel))
set_option maxRecDepth 20000 in
theorem gX0_rangeOf_X0_checkKey : GoodIn wsX0_rangeOf (va_wsS RX0 53 yX0_checkKey wsX0_checkKey) := goodIn_app (goodIn_of _ (by decide +kernel)) ggX0_rangeOf_X0_checkKey
set_option maxRecDepth 20000 in
theorem ggX0_rangeOf_X0_rangeHolding : GoodIn wsX0_rangeOf wsX0_rangeHolding := goodIn_r _ [13, 14, 15, 16, 17, 18, 19, 20, 21, 22, 23, 24, 25, 26, 27, 28, 29, 30, 31] (by decide +kernel) (by decide +kernel)
set_option maxRecDepth 20000 in
theorem gX0_rangeOf_X0_rangeHolding : GoodIn wsX0_rangeOf (wsV RX0 93 RX0 yX0_rangeHolding wsX0_rangeHolding) := goodIn_app (goodIn_of _ (by decide +kernel)) ggX0_rangeOf_X0_rangeHolding
theorem dX0_rangeOf_0 : decode cX0_rangeOf 0 = .ok (.iload_n 1, 1) := by decide +kernel
theorem dX0_rangeOf_1 : decode cX0_rangeOf 1 = .ok (.invokestatic 53, 3) := by decide +kernel
theorem dX0_rangeOf_4 : decode cX0_rangeOf 4 = .ok (.aload_n 0, 1) := by decide +kernel
theorem dX0_rangeOf_5 : decode cX0_rangeOf 5 = .ok (.iload_n 1, 1) := by decide +kernel
theorem dX0_rangeOf_6 : decode cX0_rangeOf 6 = .ok (.invokevirtual 93, 3) := by decide +kernel
theorem dX0_rangeOf_9 : decode cX0_rangeOf 9 = .ok (.ireturn, 1) := by decide +kernel
set_option maxRecDepth 20000 in
theorem ggX0_shardOf_X0_checkRange : GoodIn wsX0_shardOf wsX0_checkRange := goodIn_ca (goodIn_r _ [6, 7, 8, 9, 10, 11, 5, 12, 13, 14, 15, 16, 17, 18, 19, 20, 21, 22, 23, 24, 25, 26, 27, 28, 29] (by decide +kernel) (by decide +kernel)) (goodIn_sub (fun _ h => List.mem_cons_of_mem _ (List.mem_append_right _ h)) (by decide +kernel))
set_option maxRecDepth 20000 in
theorem gX0_shardOf_X0_checkRange : GoodIn wsX0_shardOf (wsV RX0 111 RX0 yX0_checkRange wsX0_checkRange) := goodIn_app (goodIn_of _ (by decide +kernel)) ggX0_shardOf_X0_checkRange
theorem dX0_shardOf_0 : decode cX0_shardOf 0 = .ok (.aload_n 0, 1) := by decide +kernel
theorem dX0_shardOf_1 : decode cX0_shardOf 1 = .ok (.iload_n 1, 1) := by decide +kernel
theorem dX0_shardOf_2 : decode cX0_shardOf 2 = .ok (.invokevirtual 111, 3) := by decide +kernel
theorem dX0_shardOf_5 : decode cX0_shardOf 5 = .ok (.aload_n 0, 1) := by decide +kernel
theorem dX0_shardOf_6 : decode cX0_shardOf 6 = .ok (.getfield 16, 3) := by decide +kernel
theorem dX0_shardOf_9 : decode cX0_shardOf 9 = .ok (.iload_n 1, 1) := by decide +kernel
theorem dX0_shardOf_10 : decode cX0_shardOf 10 = .ok (.iaload, 1) := by decide +kernel
theorem dX0_shardOf_11 : decode cX0_shardOf 11 = .ok (.ireturn, 1) := by decide +kernel
set_option maxRecDepth 20000 in
theorem ggX0_rows_X0_checkShard : GoodIn wsX0_rows wsX0_checkShard := goodIn_ca (goodIn_r _ [4, 5, 6, 7, 8, 3, 9] (by decide +kernel) (by decide +kernel)) (goodIn_sub (fun _ h => List.mem_cons_of_mem _ (List.mem_append_right _ h)) (by decide +kernel))
set_option maxRecDepth 20000 in
theorem gX0_rows_X0_checkShard : GoodIn wsX0_rows (va_wsS RX0 129 yX0_checkShard wsX0_checkShard) := goodIn_app (goodIn_of _ (by decide +kernel)) ggX0_rows_X0_checkShard
set_option maxRecDepth 20000 in
theorem ggX0_rows_X0_countRows : GoodIn wsX0_rows wsX0_countRows := goodIn_r _ [13, 14, 15, 16, 3, 17, 18, 7, 8, 9, 19, 20, 21, 22, 23, 24, 25, 26, 27, 28, 29, 30, 31, 32, 33, 34, 35, 36, 37] (by decide +kernel) (by decide +kernel)
set_option maxRecDepth 20000 in
theorem gX0_rows_X0_countRows : GoodIn wsX0_rows (wsV RX0 139 RX0 yX0_countRows wsX0_countRows) := goodIn_app (goodIn_of _ (by decide +kernel)) ggX0_rows_X0_countRows
theorem dX0_rows_0 : decode cX0_rows 0 = .ok (.iload_n 1, 1) := by decide +kernel
theorem dX0_rows_1 : decode cX0_rows 1 = .ok (.invokestatic 129, 3) := by decide +kernel
theorem dX0_rows_4 : decode cX0_rows 4 = .ok (.aload_n 0, 1) := by decide +kernel
theorem dX0_rows_5 : decode cX0_rows 5 = .ok (.iload_n 1, 1) := by decide +kernel
theorem dX0_rows_6 : decode cX0_rows 6 = .ok (.iconst 0, 1) := by decide +kernel
theorem dX0_rows_7 : decode cX0_rows 7 = .ok (.bipush 99, 2) := by decide +kernel
theorem dX0_rows_9 : decode cX0_rows 9 = .ok (.invokevirtual 139, 3) := by decide +kernel
theorem dX0_rows_12 : decode cX0_rows 12 = .ok (.ireturn, 1) := by decide +kernel
set_option maxRecDepth 20000 in
theorem ggX0_fix_X0_read : GoodIn wsX0_fix wsX0_read := goodIn_r _ [11, 12, 13, 14, 10, 15, 16, 17, 18, 19, 20, 21, 22, 23, 24, 25, 26, 27, 28, 29, 30, 31, 32, 33, 34, 35, 36, 37, 41, 42, 43, 44, 45, 46, 47, 48, 49, 50, 51, 52, 53, 54, 55, 56] (by decide +kernel) (by decide +kernel)
set_option maxRecDepth 20000 in
theorem gX0_fix_X0_read : GoodIn wsX0_fix (wsV RX0 83 RX0 yX0_read wsX0_read) := goodIn_app (goodIn_of _ (by decide +kernel)) ggX0_fix_X0_read
set_option maxRecDepth 20000 in
theorem ggX0_fix_X0_districtOf : GoodIn wsX0_fix wsX0_districtOf := goodIn_r _ [40] (by decide +kernel) (by decide +kernel)
set_option maxRecDepth 20000 in
theorem gX0_fix_X0_districtOf : GoodIn wsX0_fix (va_wsS RX0 90 yX0_districtOf wsX0_districtOf) := goodIn_app (goodIn_of _ (by decide +kernel)) ggX0_fix_X0_districtOf
theorem dX0_fix_0 : decode cX0_fix 0 = .ok (.aload_n 0, 1) := by decide +kernel
theorem dX0_fix_1 : decode cX0_fix 1 = .ok (.getfield 160, 3) := by decide +kernel
theorem dX0_fix_4 : decode cX0_fix 4 = .ok (.ifCond .eq 13, 3) := by decide +kernel
theorem dX0_fix_7 : decode cX0_fix 7 = .ok (.new 64, 3) := by decide +kernel
theorem dX0_fix_10 : decode cX0_fix 10 = .ok (.dup, 1) := by decide +kernel
theorem dX0_fix_11 : decode cX0_fix 11 = .ok (.ldc 164, 2) := by decide +kernel
theorem dX0_fix_13 : decode cX0_fix 13 = .ok (.invokespecial 68, 3) := by decide +kernel
theorem dX0_fix_16 : decode cX0_fix 16 = .ok (.athrow, 1) := by decide +kernel
theorem dX0_fix_17 : decode cX0_fix 17 = .ok (.iconst 0, 1) := by decide +kernel
theorem dX0_fix_18 : decode cX0_fix 18 = .ok (.istore_n 1, 1) := by decide +kernel
theorem dX0_fix_19 : decode cX0_fix 19 = .ok (.iload_n 1, 1) := by decide +kernel
theorem dX0_fix_20 : decode cX0_fix 20 = .ok (.bipush 100, 2) := by decide +kernel
theorem dX0_fix_22 : decode cX0_fix 22 = .ok (.if_icmp .ge 23, 3) := by decide +kernel
theorem dX0_fix_25 : decode cX0_fix 25 = .ok (.aload_n 0, 1) := by decide +kernel
theorem dX0_fix_26 : decode cX0_fix 26 = .ok (.getfield 22, 3) := by decide +kernel
theorem dX0_fix_29 : decode cX0_fix 29 = .ok (.iload_n 1, 1) := by decide +kernel
theorem dX0_fix_30 : decode cX0_fix 30 = .ok (.aload_n 0, 1) := by decide +kernel
theorem dX0_fix_31 : decode cX0_fix 31 = .ok (.iload_n 1, 1) := by decide +kernel
theorem dX0_fix_32 : decode cX0_fix 32 = .ok (.invokevirtual 83, 3) := by decide +kernel
theorem dX0_fix_35 : decode cX0_fix 35 = .ok (.invokestatic 90, 3) := by decide +kernel
theorem dX0_fix_38 : decode cX0_fix 38 = .ok (.iastore, 1) := by decide +kernel
theorem dX0_fix_39 : decode cX0_fix 39 = .ok (.iinc 1 1, 3) := by decide +kernel
theorem dX0_fix_42 : decode cX0_fix 42 = .ok (.goto (-23), 3) := by decide +kernel
theorem dX0_fix_45 : decode cX0_fix 45 = .ok (.aload_n 0, 1) := by decide +kernel
theorem dX0_fix_46 : decode cX0_fix 46 = .ok (.iconst 1, 1) := by decide +kernel
theorem dX0_fix_47 : decode cX0_fix 47 = .ok (.putfield 160, 3) := by decide +kernel
theorem dX0_fix_50 : decode cX0_fix 50 = .ok (.aload_n 0, 1) := by decide +kernel
theorem dX0_fix_51 : decode cX0_fix 51 = .ok (.dup, 1) := by decide +kernel
theorem dX0_fix_52 : decode cX0_fix 52 = .ok (.getfield 166, 3) := by decide +kernel
theorem dX0_fix_55 : decode cX0_fix 55 = .ok (.iconst 1, 1) := by decide +kernel
theorem dX0_fix_56 : decode cX0_fix 56 = .ok (.iadd, 1) := by decide +kernel
theorem dX0_fix_57 : decode cX0_fix 57 = .ok (.putfield 166, 3) := by decide +kernel
theorem dX0_fix_60 : decode cX0_fix 60 = .ok (.aload_n 0, 1) := by decide +kernel
theorem dX0_fix_61 : decode cX0_fix 61 = .ok (.getfield 71, 3) := by decide +kernel
theorem dX0_fix_64 : decode cX0_fix 64 = .ok (.ireturn, 1) := by decide +kernel
set_option maxRecDepth 20000 in
theorem ggX0_onRoll_X0_checkKey : GoodIn wsX0_onRoll wsX0_checkKey := goodIn_ca (goodIn_r _ [6, 7, 8, 9, 10, 5, 11] (by decide +kernel) (by decide +kernel)) (goodIn_sub (fun _ h => List.mem_cons_of_mem _ (List.mem_append_right _ h)) (by decide +kernel))
set_option maxRecDepth 20000 in
theorem gX0_onRoll_X0_checkKey : GoodIn wsX0_onRoll (va_wsS RX0 53 yX0_checkKey wsX0_checkKey) := goodIn_app (goodIn_of _ (by decide +kernel)) ggX0_onRoll_X0_checkKey
theorem dX0_onRoll_0 : decode cX0_onRoll 0 = .ok (.iload_n 1, 1) := by decide +kernel
theorem dX0_onRoll_1 : decode cX0_onRoll 1 = .ok (.invokestatic 53, 3) := by decide +kernel
theorem dX0_onRoll_4 : decode cX0_onRoll 4 = .ok (.aload_n 0, 1) := by decide +kernel
theorem dX0_onRoll_5 : decode cX0_onRoll 5 = .ok (.getfield 160, 3) := by decide +kernel
theorem dX0_onRoll_8 : decode cX0_onRoll 8 = .ok (.ifCond .eq 12, 3) := by decide +kernel
theorem dX0_onRoll_11 : decode cX0_onRoll 11 = .ok (.aload_n 0, 1) := by decide +kernel
theorem dX0_onRoll_12 : decode cX0_onRoll 12 = .ok (.getfield 22, 3) := by decide +kernel
theorem dX0_onRoll_15 : decode cX0_onRoll 15 = .ok (.iload_n 1, 1) := by decide +kernel
theorem dX0_onRoll_16 : decode cX0_onRoll 16 = .ok (.iaload, 1) := by decide +kernel
theorem dX0_onRoll_17 : decode cX0_onRoll 17 = .ok (.goto 4, 3) := by decide +kernel
theorem dX0_onRoll_20 : decode cX0_onRoll 20 = .ok (.iconst (-1), 1) := by decide +kernel
theorem dX0_onRoll_21 : decode cX0_onRoll 21 = .ok (.ireturn, 1) := by decide +kernel
set_option maxRecDepth 20000 in
theorem ggX0_send_X0_checkKey : GoodIn wsX0_send wsX0_checkKey := goodIn_ca (goodIn_r _ [15, 16, 17, 18, 19, 14, 20] (by decide +kernel) (by decide +kernel)) (goodIn_sub (fun _ h => List.mem_cons_of_mem _ (List.mem_append_right _ h)) (by decide +kernel))
set_option maxRecDepth 20000 in
theorem gX0_send_X0_checkKey : GoodIn wsX0_send (va_wsS RX0 53 yX0_checkKey wsX0_checkKey) := goodIn_app (goodIn_of _ (by decide +kernel)) ggX0_send_X0_checkKey
set_option maxRecDepth 20000 in
theorem ggX0_send_X0_checkMember : GoodIn wsX0_send wsX0_checkMember := goodIn_ca (goodIn_r _ [24, 1, 2, 25, 26, 27, 14, 28, 29, 30, 31, 32, 33, 34, 35, 36, 37, 38, 39, 40, 41, 42, 43, 44, 45, 46, 47, 48, 49, 50, 51, 52, 53, 54, 55, 18, 19, 20, 68, 69, 70, 71, 72, 73, 74, 75, 76, 77, 78, 79, 80, 81, 82, 83] (by decide +kernel) (by decide +kernel)) (goodIn_sub (fun _ h => List.mem_cons_of_mem _ (List.mem_append_left _ (List.mem_append_right _ h))) (by decide +kernel))
set_option maxRecDepth 20000 in
theorem gX0_send_X0_checkMember : GoodIn wsX0_send (wsV RX0 80 RX0 yX0_checkMember wsX0_checkMember) := goodIn_app (goodIn_of _ (by decide +kernel)) ggX0_send_X0_checkMember
set_option maxRecDepth 20000 in
theorem ggX0_send_X0_latestBallotTo : GoodIn wsX0_send wsX0_latestBallotTo := goodIn_r _ [59, 6, 7, 60, 61, 62, 14, 63, 3, 8, 9, 64, 65, 66, 67, 68, 69, 70, 71, 72, 73, 74, 75, 76, 77, 78, 79, 80, 81, 82, 83] (by decide +kernel) (by decide +kernel)
set_option maxRecDepth 20000 in
theorem gX0_send_X0_latestBallotTo : GoodIn wsX0_send (wsV RX0 171 RX0 yX0_latestBallotTo wsX0_latestBallotTo) := goodIn_app (goodIn_of _ (by decide +kernel)) ggX0_send_X0_latestBallotTo
set_option maxRecDepth 20000 in
theorem ggX0_send_X0_isBallot : GoodIn wsX0_send wsX0_isBallot := goodIn_r _ [67, 6, 68, 69, 70, 71, 72, 73, 74, 75, 76, 77, 78, 79, 80, 81, 82, 83] (by decide +kernel) (by decide +kernel)
set_option maxRecDepth 20000 in
theorem gX0_send_X0_isBallot : GoodIn wsX0_send (wsV RX0 174 RX0 yX0_isBallot wsX0_isBallot) := goodIn_app (goodIn_of _ (by decide +kernel)) ggX0_send_X0_isBallot
set_option maxRecDepth 20000 in
theorem ggX0_send_X0_read : GoodIn wsX0_send wsX0_read := goodIn_r _ [32, 33, 34, 35, 14, 36, 37, 38, 39, 40, 41, 42, 43, 44, 45, 46, 47, 48, 49, 50, 51, 52, 53, 54, 55, 18, 19, 20, 68, 69, 70, 71, 72, 73, 74, 75, 76, 77, 78, 79, 80, 81, 82, 83] (by decide +kernel) (by decide +kernel)
set_option maxRecDepth 20000 in
theorem gX0_send_X0_read : GoodIn wsX0_send (wsV RX0 83 RX0 yX0_read wsX0_read) := goodIn_app (goodIn_of _ (by decide +kernel)) ggX0_send_X0_read
theorem dX0_send_0 : decode cX0_send 0 = .ok (.iload_n 1, 1) := by decide +kernel
theorem dX0_send_1 : decode cX0_send 1 = .ok (.invokestatic 53, 3) := by decide +kernel
theorem dX0_send_4 : decode cX0_send 4 = .ok (.aload_n 0, 1) := by decide +kernel
theorem dX0_send_5 : decode cX0_send 5 = .ok (.getfield 160, 3) := by decide +kernel
theorem dX0_send_8 : decode cX0_send 8 = .ok (.ifCond .eq 13, 3) := by decide +kernel
theorem dX0_send_11 : decode cX0_send 11 = .ok (.aload_n 0, 1) := by decide +kernel
theorem dX0_send_12 : decode cX0_send 12 = .ok (.getfield 22, 3) := by decide +kernel
theorem dX0_send_15 : decode cX0_send 15 = .ok (.iload_n 1, 1) := by decide +kernel
theorem dX0_send_16 : decode cX0_send 16 = .ok (.iaload, 1) := by decide +kernel
theorem dX0_send_17 : decode cX0_send 17 = .ok (.iconst (-1), 1) := by decide +kernel
theorem dX0_send_18 : decode cX0_send 18 = .ok (.if_icmp .ne 13, 3) := by decide +kernel
theorem dX0_send_21 : decode cX0_send 21 = .ok (.new 64, 3) := by decide +kernel
theorem dX0_send_24 : decode cX0_send 24 = .ok (.dup, 1) := by decide +kernel
theorem dX0_send_25 : decode cX0_send 25 = .ok (.ldc 169, 2) := by decide +kernel
theorem dX0_send_27 : decode cX0_send 27 = .ok (.invokespecial 68, 3) := by decide +kernel
theorem dX0_send_30 : decode cX0_send 30 = .ok (.athrow, 1) := by decide +kernel
theorem dX0_send_31 : decode cX0_send 31 = .ok (.aload_n 0, 1) := by decide +kernel
theorem dX0_send_32 : decode cX0_send 32 = .ok (.iload_n 1, 1) := by decide +kernel
theorem dX0_send_33 : decode cX0_send 33 = .ok (.invokevirtual 80, 3) := by decide +kernel
theorem dX0_send_36 : decode cX0_send 36 = .ok (.aload_n 0, 1) := by decide +kernel
theorem dX0_send_37 : decode cX0_send 37 = .ok (.iload_n 1, 1) := by decide +kernel
theorem dX0_send_38 : decode cX0_send 38 = .ok (.invokevirtual 171, 3) := by decide +kernel
theorem dX0_send_41 : decode cX0_send 41 = .ok (.istore_n 2, 1) := by decide +kernel
theorem dX0_send_42 : decode cX0_send 42 = .ok (.aload_n 0, 1) := by decide +kernel
theorem dX0_send_43 : decode cX0_send 43 = .ok (.iload_n 2, 1) := by decide +kernel
theorem dX0_send_44 : decode cX0_send 44 = .ok (.invokevirtual 174, 3) := by decide +kernel
theorem dX0_send_47 : decode cX0_send 47 = .ok (.ifCond .eq 23, 3) := by decide +kernel
theorem dX0_send_50 : decode cX0_send 50 = .ok (.aload_n 0, 1) := by decide +kernel
theorem dX0_send_51 : decode cX0_send 51 = .ok (.getfield 37, 3) := by decide +kernel
theorem dX0_send_54 : decode cX0_send 54 = .ok (.iload_n 2, 1) := by decide +kernel
theorem dX0_send_55 : decode cX0_send 55 = .ok (.iaload, 1) := by decide +kernel
theorem dX0_send_56 : decode cX0_send 56 = .ok (.iconst 2, 1) := by decide +kernel
theorem dX0_send_57 : decode cX0_send 57 = .ok (.if_icmp .ne 13, 3) := by decide +kernel
theorem dX0_send_60 : decode cX0_send 60 = .ok (.new 64, 3) := by decide +kernel
theorem dX0_send_63 : decode cX0_send 63 = .ok (.dup, 1) := by decide +kernel
theorem dX0_send_64 : decode cX0_send 64 = .ok (.ldc 177, 2) := by decide +kernel
theorem dX0_send_66 : decode cX0_send 66 = .ok (.invokespecial 68, 3) := by decide +kernel
theorem dX0_send_69 : decode cX0_send 69 = .ok (.athrow, 1) := by decide +kernel
theorem dX0_send_70 : decode cX0_send 70 = .ok (.aload_n 0, 1) := by decide +kernel
theorem dX0_send_71 : decode cX0_send 71 = .ok (.getfield 179, 3) := by decide +kernel
theorem dX0_send_74 : decode cX0_send 74 = .ok (.bipush 60, 2) := by decide +kernel
theorem dX0_send_76 : decode cX0_send 76 = .ok (.if_icmp .lt 13, 3) := by decide +kernel
theorem dX0_send_79 : decode cX0_send 79 = .ok (.new 64, 3) := by decide +kernel
theorem dX0_send_82 : decode cX0_send 82 = .ok (.dup, 1) := by decide +kernel
theorem dX0_send_83 : decode cX0_send 83 = .ok (.ldc 182, 2) := by decide +kernel
theorem dX0_send_85 : decode cX0_send 85 = .ok (.invokespecial 68, 3) := by decide +kernel
theorem dX0_send_88 : decode cX0_send 88 = .ok (.athrow, 1) := by decide +kernel
theorem dX0_send_89 : decode cX0_send 89 = .ok (.aload_n 0, 1) := by decide +kernel
theorem dX0_send_90 : decode cX0_send 90 = .ok (.iload_n 2, 1) := by decide +kernel
theorem dX0_send_91 : decode cX0_send 91 = .ok (.invokevirtual 174, 3) := by decide +kernel
theorem dX0_send_94 : decode cX0_send 94 = .ok (.ifCond .eq 10, 3) := by decide +kernel
theorem dX0_send_97 : decode cX0_send 97 = .ok (.aload_n 0, 1) := by decide +kernel
theorem dX0_send_98 : decode cX0_send 98 = .ok (.getfield 37, 3) := by decide +kernel
theorem dX0_send_101 : decode cX0_send 101 = .ok (.iload_n 2, 1) := by decide +kernel
theorem dX0_send_102 : decode cX0_send 102 = .ok (.iconst 1, 1) := by decide +kernel
theorem dX0_send_103 : decode cX0_send 103 = .ok (.iastore, 1) := by decide +kernel
theorem dX0_send_104 : decode cX0_send 104 = .ok (.aload_n 0, 1) := by decide +kernel
theorem dX0_send_105 : decode cX0_send 105 = .ok (.getfield 179, 3) := by decide +kernel
theorem dX0_send_108 : decode cX0_send 108 = .ok (.istore_n 3, 1) := by decide +kernel
theorem dX0_send_109 : decode cX0_send 109 = .ok (.aload_n 0, 1) := by decide +kernel
theorem dX0_send_110 : decode cX0_send 110 = .ok (.getfield 25, 3) := by decide +kernel
theorem dX0_send_113 : decode cX0_send 113 = .ok (.iload_n 3, 1) := by decide +kernel
theorem dX0_send_114 : decode cX0_send 114 = .ok (.iload_n 1, 1) := by decide +kernel
theorem dX0_send_115 : decode cX0_send 115 = .ok (.iastore, 1) := by decide +kernel
theorem dX0_send_116 : decode cX0_send 116 = .ok (.aload_n 0, 1) := by decide +kernel
theorem dX0_send_117 : decode cX0_send 117 = .ok (.getfield 28, 3) := by decide +kernel
theorem dX0_send_120 : decode cX0_send 120 = .ok (.iload_n 3, 1) := by decide +kernel
theorem dX0_send_121 : decode cX0_send 121 = .ok (.aload_n 0, 1) := by decide +kernel
theorem dX0_send_122 : decode cX0_send 122 = .ok (.getfield 166, 3) := by decide +kernel
theorem dX0_send_125 : decode cX0_send 125 = .ok (.iastore, 1) := by decide +kernel
theorem dX0_send_126 : decode cX0_send 126 = .ok (.aload_n 0, 1) := by decide +kernel
theorem dX0_send_127 : decode cX0_send 127 = .ok (.getfield 31, 3) := by decide +kernel
theorem dX0_send_130 : decode cX0_send 130 = .ok (.iload_n 3, 1) := by decide +kernel
theorem dX0_send_131 : decode cX0_send 131 = .ok (.aload_n 0, 1) := by decide +kernel
theorem dX0_send_132 : decode cX0_send 132 = .ok (.iload_n 1, 1) := by decide +kernel
theorem dX0_send_133 : decode cX0_send 133 = .ok (.invokevirtual 83, 3) := by decide +kernel
theorem dX0_send_136 : decode cX0_send 136 = .ok (.iastore, 1) := by decide +kernel
theorem dX0_send_137 : decode cX0_send 137 = .ok (.aload_n 0, 1) := by decide +kernel
theorem dX0_send_138 : decode cX0_send 138 = .ok (.getfield 34, 3) := by decide +kernel
theorem dX0_send_141 : decode cX0_send 141 = .ok (.iload_n 3, 1) := by decide +kernel
theorem dX0_send_142 : decode cX0_send 142 = .ok (.aload_n 0, 1) := by decide +kernel
theorem dX0_send_143 : decode cX0_send 143 = .ok (.getfield 22, 3) := by decide +kernel
theorem dX0_send_146 : decode cX0_send 146 = .ok (.iload_n 1, 1) := by decide +kernel
theorem dX0_send_147 : decode cX0_send 147 = .ok (.iaload, 1) := by decide +kernel
theorem dX0_send_148 : decode cX0_send 148 = .ok (.iastore, 1) := by decide +kernel
theorem dX0_send_149 : decode cX0_send 149 = .ok (.aload_n 0, 1) := by decide +kernel
theorem dX0_send_150 : decode cX0_send 150 = .ok (.getfield 37, 3) := by decide +kernel
theorem dX0_send_153 : decode cX0_send 153 = .ok (.iload_n 3, 1) := by decide +kernel
theorem dX0_send_154 : decode cX0_send 154 = .ok (.iconst 0, 1) := by decide +kernel
theorem dX0_send_155 : decode cX0_send 155 = .ok (.iastore, 1) := by decide +kernel
theorem dX0_send_156 : decode cX0_send 156 = .ok (.aload_n 0, 1) := by decide +kernel
theorem dX0_send_157 : decode cX0_send 157 = .ok (.dup, 1) := by decide +kernel
theorem dX0_send_158 : decode cX0_send 158 = .ok (.getfield 179, 3) := by decide +kernel
theorem dX0_send_161 : decode cX0_send 161 = .ok (.iconst 1, 1) := by decide +kernel
theorem dX0_send_162 : decode cX0_send 162 = .ok (.iadd, 1) := by decide +kernel
theorem dX0_send_163 : decode cX0_send 163 = .ok (.putfield 179, 3) := by decide +kernel
theorem dX0_send_166 : decode cX0_send 166 = .ok (.iload_n 3, 1) := by decide +kernel
theorem dX0_send_167 : decode cX0_send 167 = .ok (.ireturn, 1) := by decide +kernel
set_option maxRecDepth 20000 in
theorem ggX0_sentTo_X0_checkBallot : GoodIn wsX0_sentTo wsX0_checkBallot := goodIn_ca (goodIn_r _ [6, 7, 8, 9, 10, 11, 5, 12, 13, 14, 15, 16, 17, 18, 19, 20, 21, 22, 23, 24, 25, 26, 27, 28, 29] (by decide +kernel) (by decide +kernel)) (goodIn_sub (fun _ h => List.mem_cons_of_mem _ (List.mem_append_right _ h)) (by decide +kernel))
set_option maxRecDepth 20000 in
theorem gX0_sentTo_X0_checkBallot : GoodIn wsX0_sentTo (wsV RX0 184 RX0 yX0_checkBallot wsX0_checkBallot) := goodIn_app (goodIn_of _ (by decide +kernel)) ggX0_sentTo_X0_checkBallot
theorem dX0_sentTo_0 : decode cX0_sentTo 0 = .ok (.aload_n 0, 1) := by decide +kernel
theorem dX0_sentTo_1 : decode cX0_sentTo 1 = .ok (.iload_n 1, 1) := by decide +kernel
theorem dX0_sentTo_2 : decode cX0_sentTo 2 = .ok (.invokevirtual 184, 3) := by decide +kernel
theorem dX0_sentTo_5 : decode cX0_sentTo 5 = .ok (.aload_n 0, 1) := by decide +kernel
theorem dX0_sentTo_6 : decode cX0_sentTo 6 = .ok (.getfield 31, 3) := by decide +kernel
theorem dX0_sentTo_9 : decode cX0_sentTo 9 = .ok (.iload_n 1, 1) := by decide +kernel
theorem dX0_sentTo_10 : decode cX0_sentTo 10 = .ok (.iaload, 1) := by decide +kernel
theorem dX0_sentTo_11 : decode cX0_sentTo 11 = .ok (.ireturn, 1) := by decide +kernel
set_option maxRecDepth 20000 in
theorem ggX0_giveBack_X0_checkBallot : GoodIn wsX0_giveBack wsX0_checkBallot := goodIn_ca (goodIn_r _ [10, 11, 12, 13, 14, 15, 9, 16, 17, 30, 31, 32, 33, 34, 35, 36, 37, 38, 39, 40, 41, 42, 43, 44, 45] (by decide +kernel) (by decide +kernel)) (goodIn_sub (fun _ h => List.mem_cons_of_mem _ (List.mem_append_left _ (List.mem_append_right _ h))) (by decide +kernel))
set_option maxRecDepth 20000 in
theorem gX0_giveBack_X0_checkBallot : GoodIn wsX0_giveBack (wsV RX0 184 RX0 yX0_checkBallot wsX0_checkBallot) := goodIn_app (goodIn_of _ (by decide +kernel)) ggX0_giveBack_X0_checkBallot
set_option maxRecDepth 20000 in
theorem ggX0_giveBack_X0_checkChoice : GoodIn wsX0_giveBack wsX0_checkChoice := goodIn_ca (goodIn_r _ [20, 21, 22] (by decide +kernel) (by decide +kernel)) (goodIn_sub (fun _ h => List.mem_cons_of_mem _ (List.mem_append_right _ h)) (by decide +kernel))
set_option maxRecDepth 20000 in
theorem gX0_giveBack_X0_checkChoice : GoodIn wsX0_giveBack (va_wsS RX0 187 yX0_checkChoice wsX0_checkChoice) := goodIn_app (goodIn_of _ (by decide +kernel)) ggX0_giveBack_X0_checkChoice
set_option maxRecDepth 20000 in
theorem ggX0_giveBack_X0_isOfOpenVote : GoodIn wsX0_giveBack wsX0_isOfOpenVote := goodIn_r _ [26, 27, 28, 29, 13, 14, 15, 9, 16, 17, 30, 31, 32, 33, 34, 35, 36, 37, 38, 39, 40, 41, 42, 43, 44, 45] (by decide +kernel) (by decide +kernel)
set_option maxRecDepth 20000 in
theorem gX0_giveBack_X0_isOfOpenVote : GoodIn wsX0_giveBack (wsV RX0 192 RX0 yX0_isOfOpenVote wsX0_isOfOpenVote) := goodIn_app (goodIn_of _ (by decide +kernel)) ggX0_giveBack_X0_isOfOpenVote
theorem dX0_giveBack_0 : decode cX0_giveBack 0 = .ok (.aload_n 0, 1) := by decide +kernel
theorem dX0_giveBack_1 : decode cX0_giveBack 1 = .ok (.iload_n 1, 1) := by decide +kernel
theorem dX0_giveBack_2 : decode cX0_giveBack 2 = .ok (.invokevirtual 184, 3) := by decide +kernel
theorem dX0_giveBack_5 : decode cX0_giveBack 5 = .ok (.iload_n 2, 1) := by decide +kernel
theorem dX0_giveBack_6 : decode cX0_giveBack 6 = .ok (.invokestatic 187, 3) := by decide +kernel
theorem dX0_giveBack_9 : decode cX0_giveBack 9 = .ok (.aload_n 0, 1) := by decide +kernel
theorem dX0_giveBack_10 : decode cX0_giveBack 10 = .ok (.getfield 37, 3) := by decide +kernel
theorem dX0_giveBack_13 : decode cX0_giveBack 13 = .ok (.iload_n 1, 1) := by decide +kernel
theorem dX0_giveBack_14 : decode cX0_giveBack 14 = .ok (.iaload, 1) := by decide +kernel
theorem dX0_giveBack_15 : decode cX0_giveBack 15 = .ok (.ifCond .eq 13, 3) := by decide +kernel
theorem dX0_giveBack_18 : decode cX0_giveBack 18 = .ok (.new 64, 3) := by decide +kernel
theorem dX0_giveBack_21 : decode cX0_giveBack 21 = .ok (.dup, 1) := by decide +kernel
theorem dX0_giveBack_22 : decode cX0_giveBack 22 = .ok (.ldc 190, 2) := by decide +kernel
theorem dX0_giveBack_24 : decode cX0_giveBack 24 = .ok (.invokespecial 68, 3) := by decide +kernel
theorem dX0_giveBack_27 : decode cX0_giveBack 27 = .ok (.athrow, 1) := by decide +kernel
theorem dX0_giveBack_28 : decode cX0_giveBack 28 = .ok (.aload_n 0, 1) := by decide +kernel
theorem dX0_giveBack_29 : decode cX0_giveBack 29 = .ok (.iload_n 1, 1) := by decide +kernel
theorem dX0_giveBack_30 : decode cX0_giveBack 30 = .ok (.invokevirtual 192, 3) := by decide +kernel
theorem dX0_giveBack_33 : decode cX0_giveBack 33 = .ok (.ifCond .ne 13, 3) := by decide +kernel
theorem dX0_giveBack_36 : decode cX0_giveBack 36 = .ok (.new 64, 3) := by decide +kernel
theorem dX0_giveBack_39 : decode cX0_giveBack 39 = .ok (.dup, 1) := by decide +kernel
theorem dX0_giveBack_40 : decode cX0_giveBack 40 = .ok (.ldc 195, 2) := by decide +kernel
theorem dX0_giveBack_42 : decode cX0_giveBack 42 = .ok (.invokespecial 68, 3) := by decide +kernel
theorem dX0_giveBack_45 : decode cX0_giveBack 45 = .ok (.athrow, 1) := by decide +kernel
theorem dX0_giveBack_46 : decode cX0_giveBack 46 = .ok (.aload_n 0, 1) := by decide +kernel
theorem dX0_giveBack_47 : decode cX0_giveBack 47 = .ok (.getfield 37, 3) := by decide +kernel
theorem dX0_giveBack_50 : decode cX0_giveBack 50 = .ok (.iload_n 1, 1) := by decide +kernel
theorem dX0_giveBack_51 : decode cX0_giveBack 51 = .ok (.iconst 2, 1) := by decide +kernel
theorem dX0_giveBack_52 : decode cX0_giveBack 52 = .ok (.iastore, 1) := by decide +kernel
theorem dX0_giveBack_53 : decode cX0_giveBack 53 = .ok (.aload_n 0, 1) := by decide +kernel
theorem dX0_giveBack_54 : decode cX0_giveBack 54 = .ok (.getfield 40, 3) := by decide +kernel
theorem dX0_giveBack_57 : decode cX0_giveBack 57 = .ok (.iload_n 1, 1) := by decide +kernel
theorem dX0_giveBack_58 : decode cX0_giveBack 58 = .ok (.iload_n 2, 1) := by decide +kernel
theorem dX0_giveBack_59 : decode cX0_giveBack 59 = .ok (.iastore, 1) := by decide +kernel
theorem dX0_giveBack_60 : decode cX0_giveBack 60 = .ok (.aload_n 0, 1) := by decide +kernel
theorem dX0_giveBack_61 : decode cX0_giveBack 61 = .ok (.getfield 34, 3) := by decide +kernel
theorem dX0_giveBack_64 : decode cX0_giveBack 64 = .ok (.iload_n 1, 1) := by decide +kernel
theorem dX0_giveBack_65 : decode cX0_giveBack 65 = .ok (.iaload, 1) := by decide +kernel
theorem dX0_giveBack_66 : decode cX0_giveBack 66 = .ok (.ireturn, 1) := by decide +kernel
set_option maxRecDepth 20000 in
theorem ggX0_stateOf_X0_checkBallot : GoodIn wsX0_stateOf wsX0_checkBallot := goodIn_ca (goodIn_r _ [6, 7, 8, 9, 10, 11, 5, 12, 13, 14, 15, 16, 17, 18, 19, 20, 21, 22, 23, 24, 25, 26, 27, 28, 29] (by decide +kernel) (by decide +kernel)) (goodIn_sub (fun _ h => List.mem_cons_of_mem _ (List.mem_append_right _ h)) (by decide +kernel))
set_option maxRecDepth 20000 in
theorem gX0_stateOf_X0_checkBallot : GoodIn wsX0_stateOf (wsV RX0 184 RX0 yX0_checkBallot wsX0_checkBallot) := goodIn_app (goodIn_of _ (by decide +kernel)) ggX0_stateOf_X0_checkBallot
theorem dX0_stateOf_0 : decode cX0_stateOf 0 = .ok (.aload_n 0, 1) := by decide +kernel
theorem dX0_stateOf_1 : decode cX0_stateOf 1 = .ok (.iload_n 1, 1) := by decide +kernel
theorem dX0_stateOf_2 : decode cX0_stateOf 2 = .ok (.invokevirtual 184, 3) := by decide +kernel
theorem dX0_stateOf_5 : decode cX0_stateOf 5 = .ok (.aload_n 0, 1) := by decide +kernel
theorem dX0_stateOf_6 : decode cX0_stateOf 6 = .ok (.getfield 37, 3) := by decide +kernel
theorem dX0_stateOf_9 : decode cX0_stateOf 9 = .ok (.iload_n 1, 1) := by decide +kernel
theorem dX0_stateOf_10 : decode cX0_stateOf 10 = .ok (.iaload, 1) := by decide +kernel
theorem dX0_stateOf_11 : decode cX0_stateOf 11 = .ok (.ireturn, 1) := by decide +kernel
set_option maxRecDepth 20000 in
theorem ggX0_counted_X0_checkDistrict : GoodIn wsX0_counted wsX0_checkDistrict := goodIn_ca (goodIn_r _ [8, 9, 10] (by decide +kernel) (by decide +kernel)) (goodIn_sub (fun _ h => List.mem_cons_of_mem _ (List.mem_append_left _ (List.mem_append_right _ h))) (by decide +kernel))
set_option maxRecDepth 20000 in
theorem gX0_counted_X0_checkDistrict : GoodIn wsX0_counted (va_wsS RX0 87 yX0_checkDistrict wsX0_checkDistrict) := goodIn_app (goodIn_of _ (by decide +kernel)) ggX0_counted_X0_checkDistrict
set_option maxRecDepth 20000 in
theorem ggX0_counted_X0_checkChoice : GoodIn wsX0_counted wsX0_checkChoice := goodIn_ca (goodIn_r _ [13, 14, 15] (by decide +kernel) (by decide +kernel)) (goodIn_sub (fun _ h => List.mem_cons_of_mem _ (List.mem_append_right _ h)) (by decide +kernel))
set_option maxRecDepth 20000 in
theorem gX0_counted_X0_checkChoice : GoodIn wsX0_counted (va_wsS RX0 187 yX0_checkChoice wsX0_checkChoice) := goodIn_app (goodIn_of _ (by decide +kernel)) ggX0_counted_X0_checkChoice
theorem dX0_counted_0 : decode cX0_counted 0 = .ok (.iload_n 1, 1) := by decide +kernel
theorem dX0_counted_1 : decode cX0_counted 1 = .ok (.invokestatic 87, 3) := by decide +kernel
theorem dX0_counted_4 : decode cX0_counted 4 = .ok (.iload_n 2, 1) := by decide +kernel
theorem dX0_counted_5 : decode cX0_counted 5 = .ok (.invokestatic 187, 3) := by decide +kernel
theorem dX0_counted_8 : decode cX0_counted 8 = .ok (.iconst 0, 1) := by decide +kernel
theorem dX0_counted_9 : decode cX0_counted 9 = .ok (.istore_n 3, 1) := by decide +kernel
theorem dX0_counted_10 : decode cX0_counted 10 = .ok (.iconst 0, 1) := by decide +kernel
theorem dX0_counted_11 : decode cX0_counted 11 = .ok (.istore 4, 2) := by decide +kernel
theorem dX0_counted_13 : decode cX0_counted 13 = .ok (.iload 4, 2) := by decide +kernel
theorem dX0_counted_15 : decode cX0_counted 15 = .ok (.aload_n 0, 1) := by decide +kernel
theorem dX0_counted_16 : decode cX0_counted 16 = .ok (.getfield 179, 3) := by decide +kernel
theorem dX0_counted_19 : decode cX0_counted 19 = .ok (.if_icmp .ge 45, 3) := by decide +kernel
theorem dX0_counted_22 : decode cX0_counted 22 = .ok (.aload_n 0, 1) := by decide +kernel
theorem dX0_counted_23 : decode cX0_counted 23 = .ok (.getfield 37, 3) := by decide +kernel
theorem dX0_counted_26 : decode cX0_counted 26 = .ok (.iload 4, 2) := by decide +kernel
theorem dX0_counted_28 : decode cX0_counted 28 = .ok (.iaload, 1) := by decide +kernel
theorem dX0_counted_29 : decode cX0_counted 29 = .ok (.iconst 2, 1) := by decide +kernel
theorem dX0_counted_30 : decode cX0_counted 30 = .ok (.if_icmp .ne 28, 3) := by decide +kernel
theorem dX0_counted_33 : decode cX0_counted 33 = .ok (.aload_n 0, 1) := by decide +kernel
theorem dX0_counted_34 : decode cX0_counted 34 = .ok (.getfield 34, 3) := by decide +kernel
theorem dX0_counted_37 : decode cX0_counted 37 = .ok (.iload 4, 2) := by decide +kernel
theorem dX0_counted_39 : decode cX0_counted 39 = .ok (.iaload, 1) := by decide +kernel
theorem dX0_counted_40 : decode cX0_counted 40 = .ok (.iload_n 1, 1) := by decide +kernel
theorem dX0_counted_41 : decode cX0_counted 41 = .ok (.if_icmp .ne 17, 3) := by decide +kernel
theorem dX0_counted_44 : decode cX0_counted 44 = .ok (.aload_n 0, 1) := by decide +kernel
theorem dX0_counted_45 : decode cX0_counted 45 = .ok (.getfield 40, 3) := by decide +kernel
theorem dX0_counted_48 : decode cX0_counted 48 = .ok (.iload 4, 2) := by decide +kernel
theorem dX0_counted_50 : decode cX0_counted 50 = .ok (.iaload, 1) := by decide +kernel
theorem dX0_counted_51 : decode cX0_counted 51 = .ok (.iload_n 2, 1) := by decide +kernel
theorem dX0_counted_52 : decode cX0_counted 52 = .ok (.if_icmp .ne 6, 3) := by decide +kernel
theorem dX0_counted_55 : decode cX0_counted 55 = .ok (.iinc 3 1, 3) := by decide +kernel
theorem dX0_counted_58 : decode cX0_counted 58 = .ok (.iinc 4 1, 3) := by decide +kernel
theorem dX0_counted_61 : decode cX0_counted 61 = .ok (.goto (-48), 3) := by decide +kernel
theorem dX0_counted_64 : decode cX0_counted 64 = .ok (.iload_n 3, 1) := by decide +kernel
theorem dX0_counted_65 : decode cX0_counted 65 = .ok (.ireturn, 1) := by decide +kernel
set_option maxRecDepth 20000 in
theorem ggX0_close_X0_isOfOpenVote : GoodIn wsX0_close wsX0_isOfOpenVote := goodIn_r _ [10, 3, 11, 12, 13, 14, 15, 9, 16, 4, 17, 18, 19, 20, 21, 22, 23, 24, 25, 26, 27, 28, 29, 30, 31, 32] (by decide +kernel) (by decide +kernel)
set_option maxRecDepth 20000 in
theorem gX0_close_X0_isOfOpenVote : GoodIn wsX0_close (wsV RX0 192 RX0 yX0_isOfOpenVote wsX0_isOfOpenVote) := goodIn_app (goodIn_of _ (by decide +kernel)) ggX0_close_X0_isOfOpenVote
theorem dX0_close_0 : decode cX0_close 0 = .ok (.aload_n 0, 1) := by decide +kernel
theorem dX0_close_1 : decode cX0_close 1 = .ok (.getfield 160, 3) := by decide +kernel
theorem dX0_close_4 : decode cX0_close 4 = .ok (.ifCond .ne 13, 3) := by decide +kernel
theorem dX0_close_7 : decode cX0_close 7 = .ok (.new 64, 3) := by decide +kernel
theorem dX0_close_10 : decode cX0_close 10 = .ok (.dup, 1) := by decide +kernel
theorem dX0_close_11 : decode cX0_close 11 = .ok (.ldc 197, 2) := by decide +kernel
theorem dX0_close_13 : decode cX0_close 13 = .ok (.invokespecial 68, 3) := by decide +kernel
theorem dX0_close_16 : decode cX0_close 16 = .ok (.athrow, 1) := by decide +kernel
theorem dX0_close_17 : decode cX0_close 17 = .ok (.iconst 0, 1) := by decide +kernel
theorem dX0_close_18 : decode cX0_close 18 = .ok (.istore_n 1, 1) := by decide +kernel
theorem dX0_close_19 : decode cX0_close 19 = .ok (.iconst 0, 1) := by decide +kernel
theorem dX0_close_20 : decode cX0_close 20 = .ok (.istore_n 2, 1) := by decide +kernel
theorem dX0_close_21 : decode cX0_close 21 = .ok (.iload_n 2, 1) := by decide +kernel
theorem dX0_close_22 : decode cX0_close 22 = .ok (.aload_n 0, 1) := by decide +kernel
theorem dX0_close_23 : decode cX0_close 23 = .ok (.getfield 179, 3) := by decide +kernel
theorem dX0_close_26 : decode cX0_close 26 = .ok (.if_icmp .ge 29, 3) := by decide +kernel
theorem dX0_close_29 : decode cX0_close 29 = .ok (.aload_n 0, 1) := by decide +kernel
theorem dX0_close_30 : decode cX0_close 30 = .ok (.iload_n 2, 1) := by decide +kernel
theorem dX0_close_31 : decode cX0_close 31 = .ok (.invokevirtual 192, 3) := by decide +kernel
theorem dX0_close_34 : decode cX0_close 34 = .ok (.ifCond .eq 15, 3) := by decide +kernel
theorem dX0_close_37 : decode cX0_close 37 = .ok (.aload_n 0, 1) := by decide +kernel
theorem dX0_close_38 : decode cX0_close 38 = .ok (.getfield 37, 3) := by decide +kernel
theorem dX0_close_41 : decode cX0_close 41 = .ok (.iload_n 2, 1) := by decide +kernel
theorem dX0_close_42 : decode cX0_close 42 = .ok (.iaload, 1) := by decide +kernel
theorem dX0_close_43 : decode cX0_close 43 = .ok (.ifCond .ne 6, 3) := by decide +kernel
theorem dX0_close_46 : decode cX0_close 46 = .ok (.iinc 1 1, 3) := by decide +kernel
theorem dX0_close_49 : decode cX0_close 49 = .ok (.iinc 2 1, 3) := by decide +kernel
theorem dX0_close_52 : decode cX0_close 52 = .ok (.goto (-31), 3) := by decide +kernel
theorem dX0_close_55 : decode cX0_close 55 = .ok (.aload_n 0, 1) := by decide +kernel
theorem dX0_close_56 : decode cX0_close 56 = .ok (.iconst 0, 1) := by decide +kernel
theorem dX0_close_57 : decode cX0_close 57 = .ok (.putfield 160, 3) := by decide +kernel
theorem dX0_close_60 : decode cX0_close 60 = .ok (.iload_n 1, 1) := by decide +kernel
theorem dX0_close_61 : decode cX0_close 61 = .ok (.ireturn, 1) := by decide +kernel
set_option maxRecDepth 20000 in
theorem ggX0_rowOf_X0_isShard : GoodIn wsX0_rowOf wsX0_isShard := goodIn_r _ [5] (by decide +kernel) (by decide +kernel)
set_option maxRecDepth 20000 in
theorem gX0_rowOf_X0_isShard : GoodIn wsX0_rowOf (va_wsS RX0 199 yX0_isShard wsX0_isShard) := goodIn_app (goodIn_of _ (by decide +kernel)) ggX0_rowOf_X0_isShard
set_option maxRecDepth 20000 in
theorem ggX0_rowOf_X0_isKey : GoodIn wsX0_rowOf wsX0_isKey := goodIn_r _ [8] (by decide +kernel) (by decide +kernel)
set_option maxRecDepth 20000 in
theorem gX0_rowOf_X0_isKey : GoodIn wsX0_rowOf (va_wsS RX0 202 yX0_isKey wsX0_isKey) := goodIn_app (goodIn_of _ (by decide +kernel)) ggX0_rowOf_X0_isKey
theorem dX0_rowOf_0 : decode cX0_rowOf 0 = .ok (.iload_n 1, 1) := by decide +kernel
theorem dX0_rowOf_1 : decode cX0_rowOf 1 = .ok (.invokestatic 199, 3) := by decide +kernel
theorem dX0_rowOf_4 : decode cX0_rowOf 4 = .ok (.ifCond .eq 24, 3) := by decide +kernel
theorem dX0_rowOf_7 : decode cX0_rowOf 7 = .ok (.iload_n 2, 1) := by decide +kernel
theorem dX0_rowOf_8 : decode cX0_rowOf 8 = .ok (.invokestatic 202, 3) := by decide +kernel
theorem dX0_rowOf_11 : decode cX0_rowOf 11 = .ok (.ifCond .eq 17, 3) := by decide +kernel
theorem dX0_rowOf_14 : decode cX0_rowOf 14 = .ok (.aload_n 0, 1) := by decide +kernel
theorem dX0_rowOf_15 : decode cX0_rowOf 15 = .ok (.getfield 9, 3) := by decide +kernel
theorem dX0_rowOf_18 : decode cX0_rowOf 18 = .ok (.iload_n 1, 1) := by decide +kernel
theorem dX0_rowOf_19 : decode cX0_rowOf 19 = .ok (.bipush 100, 2) := by decide +kernel
theorem dX0_rowOf_21 : decode cX0_rowOf 21 = .ok (.imul, 1) := by decide +kernel
theorem dX0_rowOf_22 : decode cX0_rowOf 22 = .ok (.iload_n 2, 1) := by decide +kernel
theorem dX0_rowOf_23 : decode cX0_rowOf 23 = .ok (.iadd, 1) := by decide +kernel
theorem dX0_rowOf_24 : decode cX0_rowOf 24 = .ok (.iaload, 1) := by decide +kernel
theorem dX0_rowOf_25 : decode cX0_rowOf 25 = .ok (.goto 4, 3) := by decide +kernel
theorem dX0_rowOf_28 : decode cX0_rowOf 28 = .ok (.iconst (-1), 1) := by decide +kernel
theorem dX0_rowOf_29 : decode cX0_rowOf 29 = .ok (.ireturn, 1) := by decide +kernel
set_option maxRecDepth 20000 in
theorem ggX0_putRow_X0_isShard : GoodIn wsX0_putRow wsX0_isShard := goodIn_r _ [5] (by decide +kernel) (by decide +kernel)
set_option maxRecDepth 20000 in
theorem gX0_putRow_X0_isShard : GoodIn wsX0_putRow (va_wsS RX0 199 yX0_isShard wsX0_isShard) := goodIn_app (goodIn_of _ (by decide +kernel)) ggX0_putRow_X0_isShard
set_option maxRecDepth 20000 in
theorem ggX0_putRow_X0_isKey : GoodIn wsX0_putRow wsX0_isKey := goodIn_r _ [8] (by decide +kernel) (by decide +kernel)
set_option maxRecDepth 20000 in
theorem gX0_putRow_X0_isKey : GoodIn wsX0_putRow (va_wsS RX0 202 yX0_isKey wsX0_isKey) := goodIn_app (goodIn_of _ (by decide +kernel)) ggX0_putRow_X0_isKey
theorem dX0_putRow_0 : decode cX0_putRow 0 = .ok (.iload_n 1, 1) := by decide +kernel
theorem dX0_putRow_1 : decode cX0_putRow 1 = .ok (.invokestatic 199, 3) := by decide +kernel
theorem dX0_putRow_4 : decode cX0_putRow 4 = .ok (.ifCond .eq 22, 3) := by decide +kernel
theorem dX0_putRow_7 : decode cX0_putRow 7 = .ok (.iload_n 2, 1) := by decide +kernel
theorem dX0_putRow_8 : decode cX0_putRow 8 = .ok (.invokestatic 202, 3) := by decide +kernel
theorem dX0_putRow_11 : decode cX0_putRow 11 = .ok (.ifCond .eq 15, 3) := by decide +kernel
theorem dX0_putRow_14 : decode cX0_putRow 14 = .ok (.aload_n 0, 1) := by decide +kernel
theorem dX0_putRow_15 : decode cX0_putRow 15 = .ok (.getfield 9, 3) := by decide +kernel
theorem dX0_putRow_18 : decode cX0_putRow 18 = .ok (.iload_n 1, 1) := by decide +kernel
theorem dX0_putRow_19 : decode cX0_putRow 19 = .ok (.bipush 100, 2) := by decide +kernel
theorem dX0_putRow_21 : decode cX0_putRow 21 = .ok (.imul, 1) := by decide +kernel
theorem dX0_putRow_22 : decode cX0_putRow 22 = .ok (.iload_n 2, 1) := by decide +kernel
theorem dX0_putRow_23 : decode cX0_putRow 23 = .ok (.iadd, 1) := by decide +kernel
theorem dX0_putRow_24 : decode cX0_putRow 24 = .ok (.iload_n 3, 1) := by decide +kernel
theorem dX0_putRow_25 : decode cX0_putRow 25 = .ok (.iastore, 1) := by decide +kernel
theorem dX0_putRow_26 : decode cX0_putRow 26 = .ok (.return_, 1) := by decide +kernel
set_option maxRecDepth 20000 in
theorem ggX0_read_X0_rangeHolding : GoodIn wsX0_read wsX0_rangeHolding := goodIn_r _ [5, 6, 7, 28, 29, 30, 31, 32, 33, 34, 35, 36, 37, 38, 39, 40, 41, 42, 43] (by decide +kernel) (by decide +kernel)
set_option maxRecDepth 20000 in
theorem gX0_read_X0_rangeHolding : GoodIn wsX0_read (wsV RX0 93 RX0 yX0_rangeHolding wsX0_rangeHolding) := goodIn_app (goodIn_of _ (by decide +kernel)) ggX0_read_X0_rangeHolding
set_option maxRecDepth 20000 in
theorem ggX0_read_X0_homeOf : GoodIn wsX0_read wsX0_homeOf := goodIn_r _ [11, 12, 13, 14, 15, 4, 16, 6, 28, 29, 30, 31, 32, 33, 34, 35, 36, 37, 38, 39, 40, 41, 42, 43] (by decide +kernel) (by decide +kernel)
set_option maxRecDepth 20000 in
theorem gX0_read_X0_homeOf : GoodIn wsX0_read (wsV RX0 119 RX0 yX0_homeOf wsX0_homeOf) := goodIn_app (goodIn_of _ (by decide +kernel)) ggX0_read_X0_homeOf
set_option maxRecDepth 20000 in
theorem ggX0_read_X0_rowOf : GoodIn wsX0_read wsX0_rowOf := goodIn_r _ [20, 21, 22, 23, 4, 24, 25, 26, 27, 28, 29, 30, 31, 32, 33, 34, 35, 36, 37, 38, 39, 40, 41, 42, 43] (by decide +kernel) (by decide +kernel)
set_option maxRecDepth 20000 in
theorem gX0_read_X0_rowOf : GoodIn wsX0_read (wsV RX0 149 RX0 yX0_rowOf wsX0_rowOf) := goodIn_app (goodIn_of _ (by decide +kernel)) ggX0_read_X0_rowOf
theorem dX0_read_0 : decode cX0_read 0 = .ok (.aload_n 0, 1) := by decide +kernel
theorem dX0_read_1 : decode cX0_read 1 = .ok (.aload_n 0, 1) := by decide +kernel
theorem dX0_read_2 : decode cX0_read 2 = .ok (.aload_n 0, 1) := by decide +kernel
theorem dX0_read_3 : decode cX0_read 3 = .ok (.iload_n 1, 1) := by decide +kernel
theorem dX0_read_4 : decode cX0_read 4 = .ok (.invokevirtual 93, 3) := by decide +kernel
theorem dX0_read_7 : decode cX0_read 7 = .ok (.invokevirtual 119, 3) := by decide +kernel
theorem dX0_read_10 : decode cX0_read 10 = .ok (.iload_n 1, 1) := by decide +kernel
theorem dX0_read_11 : decode cX0_read 11 = .ok (.invokevirtual 149, 3) := by decide +kernel
theorem dX0_read_14 : decode cX0_read 14 = .ok (.ireturn, 1) := by decide +kernel
set_option maxRecDepth 20000 in
theorem ggX0_write_X0_rangeHolding : GoodIn wsX0_write wsX0_rangeHolding := goodIn_r _ [5, 6, 7, 33, 34, 35, 36, 37, 38, 39, 40, 41, 42, 43, 44, 45, 46, 47, 48] (by decide +kernel) (by decide +kernel)
set_option maxRecDepth 20000 in
theorem gX0_write_X0_rangeHolding : GoodIn wsX0_write (wsV RX0 93 RX0 yX0_rangeHolding wsX0_rangeHolding) := goodIn_app (goodIn_of _ (by decide +kernel)) ggX0_write_X0_rangeHolding
set_option maxRecDepth 20000 in
theorem ggX0_write_X0_homeOf : GoodIn wsX0_write wsX0_homeOf := goodIn_r _ [11, 12, 13, 14, 15, 4, 16, 6, 33, 34, 35, 36, 37, 38, 39, 40, 41, 42, 43, 44, 45, 46, 47, 48] (by decide +kernel) (by decide +kernel)
set_option maxRecDepth 20000 in
theorem gX0_write_X0_homeOf : GoodIn wsX0_write (wsV RX0 119 RX0 yX0_homeOf wsX0_homeOf) := goodIn_app (goodIn_of _ (by decide +kernel)) ggX0_write_X0_homeOf
set_option maxRecDepth 20000 in
theorem ggX0_write_X0_putRow : GoodIn wsX0_write wsX0_putRow := goodIn_r _ [20, 21, 22, 23, 4, 24, 25, 26, 27, 33, 34, 35, 36, 37, 38, 39, 40, 41, 42, 43, 44, 45, 46, 47, 48] (by decide +kernel) (by decide +kernel)
set_option maxRecDepth 20000 in
theorem gX0_write_X0_putRow : GoodIn wsX0_write (wsV RX0 153 RX0 yX0_putRow wsX0_putRow) := goodIn_app (goodIn_of _ (by decide +kernel)) ggX0_write_X0_putRow
set_option maxRecDepth 20000 in
theorem ggX0_write_X0_targetOf : GoodIn wsX0_write wsX0_targetOf := goodIn_r _ [31, 32, 13, 14, 15, 4, 16, 6, 33, 34, 35, 36, 37, 38, 39, 40, 41, 42, 43, 44, 45, 46, 47, 48] (by decide +kernel) (by decide +kernel)
set_option maxRecDepth 20000 in
theorem gX0_write_X0_targetOf : GoodIn wsX0_write (wsV RX0 205 RX0 yX0_targetOf wsX0_targetOf) := goodIn_app (goodIn_of _ (by decide +kernel)) ggX0_write_X0_targetOf
theorem dX0_write_0 : decode cX0_write 0 = .ok (.aload_n 0, 1) := by decide +kernel
theorem dX0_write_1 : decode cX0_write 1 = .ok (.iload_n 1, 1) := by decide +kernel
theorem dX0_write_2 : decode cX0_write 2 = .ok (.invokevirtual 93, 3) := by decide +kernel
theorem dX0_write_5 : decode cX0_write 5 = .ok (.istore_n 3, 1) := by decide +kernel
theorem dX0_write_6 : decode cX0_write 6 = .ok (.aload_n 0, 1) := by decide +kernel
theorem dX0_write_7 : decode cX0_write 7 = .ok (.aload_n 0, 1) := by decide +kernel
theorem dX0_write_8 : decode cX0_write 8 = .ok (.iload_n 3, 1) := by decide +kernel
theorem dX0_write_9 : decode cX0_write 9 = .ok (.invokevirtual 119, 3) := by decide +kernel
theorem dX0_write_12 : decode cX0_write 12 = .ok (.iload_n 1, 1) := by decide +kernel
theorem dX0_write_13 : decode cX0_write 13 = .ok (.iload_n 2, 1) := by decide +kernel
theorem dX0_write_14 : decode cX0_write 14 = .ok (.invokevirtual 153, 3) := by decide +kernel
theorem dX0_write_17 : decode cX0_write 17 = .ok (.aload_n 0, 1) := by decide +kernel
theorem dX0_write_18 : decode cX0_write 18 = .ok (.aload_n 0, 1) := by decide +kernel
theorem dX0_write_19 : decode cX0_write 19 = .ok (.iload_n 3, 1) := by decide +kernel
theorem dX0_write_20 : decode cX0_write 20 = .ok (.invokevirtual 205, 3) := by decide +kernel
theorem dX0_write_23 : decode cX0_write 23 = .ok (.iload_n 1, 1) := by decide +kernel
theorem dX0_write_24 : decode cX0_write 24 = .ok (.iload_n 2, 1) := by decide +kernel
theorem dX0_write_25 : decode cX0_write 25 = .ok (.invokevirtual 153, 3) := by decide +kernel
theorem dX0_write_28 : decode cX0_write 28 = .ok (.return_, 1) := by decide +kernel
set_option maxRecDepth 20000 in
theorem ggX0_countRows_X0_rowOf : GoodIn wsX0_countRows wsX0_rowOf := goodIn_r _ [5, 6, 7, 8, 4, 9, 10, 11, 12, 13, 14, 15, 16, 17, 18, 19, 20, 21, 22, 23, 24, 25, 26, 27, 28] (by decide +kernel) (by decide +kernel)
set_option maxRecDepth 20000 in
theorem gX0_countRows_X0_rowOf : GoodIn wsX0_countRows (wsV RX0 149 RX0 yX0_rowOf wsX0_rowOf) := goodIn_app (goodIn_of _ (by decide +kernel)) ggX0_countRows_X0_rowOf
theorem dX0_countRows_0 : decode cX0_countRows 0 = .ok (.iconst 0, 1) := by decide +kernel
theorem dX0_countRows_1 : decode cX0_countRows 1 = .ok (.istore 4, 2) := by decide +kernel
theorem dX0_countRows_3 : decode cX0_countRows 3 = .ok (.iload_n 2, 1) := by decide +kernel
theorem dX0_countRows_4 : decode cX0_countRows 4 = .ok (.istore 5, 2) := by decide +kernel
theorem dX0_countRows_6 : decode cX0_countRows 6 = .ok (.iload 5, 2) := by decide +kernel
theorem dX0_countRows_8 : decode cX0_countRows 8 = .ok (.iload_n 3, 1) := by decide +kernel
theorem dX0_countRows_9 : decode cX0_countRows 9 = .ok (.if_icmp .gt 30, 3) := by decide +kernel
theorem dX0_countRows_12 : decode cX0_countRows 12 = .ok (.iload 5, 2) := by decide +kernel
theorem dX0_countRows_14 : decode cX0_countRows 14 = .ok (.bipush 100, 2) := by decide +kernel
theorem dX0_countRows_16 : decode cX0_countRows 16 = .ok (.if_icmp .ge 23, 3) := by decide +kernel
theorem dX0_countRows_19 : decode cX0_countRows 19 = .ok (.aload_n 0, 1) := by decide +kernel
theorem dX0_countRows_20 : decode cX0_countRows 20 = .ok (.iload_n 1, 1) := by decide +kernel
theorem dX0_countRows_21 : decode cX0_countRows 21 = .ok (.iload 5, 2) := by decide +kernel
theorem dX0_countRows_23 : decode cX0_countRows 23 = .ok (.invokevirtual 149, 3) := by decide +kernel
theorem dX0_countRows_26 : decode cX0_countRows 26 = .ok (.iconst (-1), 1) := by decide +kernel
theorem dX0_countRows_27 : decode cX0_countRows 27 = .ok (.if_icmp .eq 6, 3) := by decide +kernel
theorem dX0_countRows_30 : decode cX0_countRows 30 = .ok (.iinc 4 1, 3) := by decide +kernel
theorem dX0_countRows_33 : decode cX0_countRows 33 = .ok (.iinc 5 1, 3) := by decide +kernel
theorem dX0_countRows_36 : decode cX0_countRows 36 = .ok (.goto (-30), 3) := by decide +kernel
theorem dX0_countRows_39 : decode cX0_countRows 39 = .ok (.iload 4, 2) := by decide +kernel
theorem dX0_countRows_41 : decode cX0_countRows 41 = .ok (.ireturn, 1) := by decide +kernel
set_option maxRecDepth 20000 in
theorem ggX0_dropRows_X0_lastKeyOf : GoodIn wsX0_dropRows wsX0_lastKeyOf := goodIn_r _ [5, 6, 7, 8, 9, 4, 10, 11, 27, 28, 29, 30, 31, 32, 33, 34, 35, 36, 37, 38, 39, 40, 41, 42] (by decide +kernel) (by decide +kernel)
set_option maxRecDepth 20000 in
theorem gX0_dropRows_X0_lastKeyOf : GoodIn wsX0_dropRows (wsV RX0 96 RX0 yX0_lastKeyOf wsX0_lastKeyOf) := goodIn_app (goodIn_of _ (by decide +kernel)) ggX0_dropRows_X0_lastKeyOf
set_option maxRecDepth 20000 in
theorem ggX0_dropRows_X0_firstKeyOf : GoodIn wsX0_dropRows wsX0_firstKeyOf := goodIn_r _ [15, 1, 2, 3, 4, 5, 6, 7, 8, 9, 10, 11, 27, 28, 29, 30, 31, 32, 33, 34, 35, 36, 37, 38, 39, 40, 41, 42] (by decide +kernel) (by decide +kernel)
set_option maxRecDepth 20000 in
theorem gX0_dropRows_X0_firstKeyOf : GoodIn wsX0_dropRows (wsV RX0 136 RX0 yX0_firstKeyOf wsX0_firstKeyOf) := goodIn_app (goodIn_of _ (by decide +kernel)) ggX0_dropRows_X0_firstKeyOf
set_option maxRecDepth 20000 in
theorem ggX0_dropRows_X0_putRow : GoodIn wsX0_dropRows wsX0_putRow := goodIn_r _ [19, 20, 21, 22, 4, 23, 24, 25, 26, 27, 28, 29, 30, 31, 32, 33, 34, 35, 36, 37, 38, 39, 40, 41, 42] (by decide +kernel) (by decide +kernel)
set_option maxRecDepth 20000 in
theorem gX0_dropRows_X0_putRow : GoodIn wsX0_dropRows (wsV RX0 153 RX0 yX0_putRow wsX0_putRow) := goodIn_app (goodIn_of _ (by decide +kernel)) ggX0_dropRows_X0_putRow
theorem dX0_dropRows_0 : decode cX0_dropRows 0 = .ok (.aload_n 0, 1) := by decide +kernel
theorem dX0_dropRows_1 : decode cX0_dropRows 1 = .ok (.iload_n 2, 1) := by decide +kernel
theorem dX0_dropRows_2 : decode cX0_dropRows 2 = .ok (.invokevirtual 96, 3) := by decide +kernel
theorem dX0_dropRows_5 : decode cX0_dropRows 5 = .ok (.istore_n 3, 1) := by decide +kernel
theorem dX0_dropRows_6 : decode cX0_dropRows 6 = .ok (.aload_n 0, 1) := by decide +kernel
theorem dX0_dropRows_7 : decode cX0_dropRows 7 = .ok (.iload_n 2, 1) := by decide +kernel
theorem dX0_dropRows_8 : decode cX0_dropRows 8 = .ok (.invokevirtual 136, 3) := by decide +kernel
theorem dX0_dropRows_11 : decode cX0_dropRows 11 = .ok (.istore 4, 2) := by decide +kernel
theorem dX0_dropRows_13 : decode cX0_dropRows 13 = .ok (.iload 4, 2) := by decide +kernel
theorem dX0_dropRows_15 : decode cX0_dropRows 15 = .ok (.iload_n 3, 1) := by decide +kernel
theorem dX0_dropRows_16 : decode cX0_dropRows 16 = .ok (.if_icmp .gt 24, 3) := by decide +kernel
theorem dX0_dropRows_19 : decode cX0_dropRows 19 = .ok (.iload 4, 2) := by decide +kernel
theorem dX0_dropRows_21 : decode cX0_dropRows 21 = .ok (.bipush 100, 2) := by decide +kernel
theorem dX0_dropRows_23 : decode cX0_dropRows 23 = .ok (.if_icmp .ge 17, 3) := by decide +kernel
theorem dX0_dropRows_26 : decode cX0_dropRows 26 = .ok (.aload_n 0, 1) := by decide +kernel
theorem dX0_dropRows_27 : decode cX0_dropRows 27 = .ok (.iload_n 1, 1) := by decide +kernel
theorem dX0_dropRows_28 : decode cX0_dropRows 28 = .ok (.iload 4, 2) := by decide +kernel
theorem dX0_dropRows_30 : decode cX0_dropRows 30 = .ok (.iconst (-1), 1) := by decide +kernel
theorem dX0_dropRows_31 : decode cX0_dropRows 31 = .ok (.invokevirtual 153, 3) := by decide +kernel
theorem dX0_dropRows_34 : decode cX0_dropRows 34 = .ok (.iinc 4 1, 3) := by decide +kernel
theorem dX0_dropRows_37 : decode cX0_dropRows 37 = .ok (.goto (-24), 3) := by decide +kernel
theorem dX0_dropRows_40 : decode cX0_dropRows 40 = .ok (.return_, 1) := by decide +kernel
set_option maxRecDepth 20000 in
theorem ggX0_lowestKeyNotBrought_X0_homeOf : GoodIn wsX0_lowestKeyNotBrought wsX0_homeOf := goodIn_r _ [5, 6, 7, 8, 9, 4, 10, 11, 37, 38, 39, 40, 41, 42, 43, 44, 45, 46, 47, 48, 49, 50, 51, 52] (by decide +kernel) (by decide +kernel)
set_option maxRecDepth 20000 in
theorem gX0_lowestKeyNotBrought_X0_homeOf : GoodIn wsX0_lowestKeyNotBrought (wsV RX0 119 RX0 yX0_homeOf wsX0_homeOf) := goodIn_app (goodIn_of _ (by decide +kernel)) ggX0_lowestKeyNotBrought_X0_homeOf
set_option maxRecDepth 20000 in
theorem ggX0_lowestKeyNotBrought_X0_targetOf : GoodIn wsX0_lowestKeyNotBrought wsX0_targetOf := goodIn_r _ [15, 16, 7, 8, 9, 4, 10, 11, 37, 38, 39, 40, 41, 42, 43, 44, 45, 46, 47, 48, 49, 50, 51, 52] (by decide +kernel) (by decide +kernel)
set_option maxRecDepth 20000 in
theorem gX0_lowestKeyNotBrought_X0_targetOf : GoodIn wsX0_lowestKeyNotBrought (wsV RX0 205 RX0 yX0_targetOf wsX0_targetOf) := goodIn_app (goodIn_of _ (by decide +kernel)) ggX0_lowestKeyNotBrought_X0_targetOf
set_option maxRecDepth 20000 in
theorem ggX0_lowestKeyNotBrought_X0_lastKeyOf : GoodIn wsX0_lowestKeyNotBrought wsX0_lastKeyOf := goodIn_r _ [20, 21, 7, 8, 9, 4, 10, 11, 37, 38, 39, 40, 41, 42, 43, 44, 45, 46, 47, 48, 49, 50, 51, 52] (by decide +kernel) (by decide +kernel)
set_option maxRecDepth 20000 in
theorem gX0_lowestKeyNotBrought_X0_lastKeyOf : GoodIn wsX0_lowestKeyNotBrought (wsV RX0 96 RX0 yX0_lastKeyOf wsX0_lastKeyOf) := goodIn_app (goodIn_of _ (by decide +kernel)) ggX0_lowestKeyNotBrought_X0_lastKeyOf
set_option maxRecDepth 20000 in
theorem ggX0_lowestKeyNotBrought_X0_firstKeyOf : GoodIn wsX0_lowestKeyNotBrought wsX0_firstKeyOf := goodIn_r _ [25, 17, 18, 19, 4, 20, 21, 7, 8, 9, 10, 11, 37, 38, 39, 40, 41, 42, 43, 44, 45, 46, 47, 48, 49, 50, 51, 52] (by decide +kernel) (by decide +kernel)
set_option maxRecDepth 20000 in
theorem gX0_lowestKeyNotBrought_X0_firstKeyOf : GoodIn wsX0_lowestKeyNotBrought (wsV RX0 136 RX0 yX0_firstKeyOf wsX0_firstKeyOf) := goodIn_app (goodIn_of _ (by decide +kernel)) ggX0_lowestKeyNotBrought_X0_firstKeyOf
set_option maxRecDepth 20000 in
theorem ggX0_lowestKeyNotBrought_X0_rowOf : GoodIn wsX0_lowestKeyNotBrought wsX0_rowOf := goodIn_r _ [29, 30, 31, 32, 4, 33, 34, 35, 36, 37, 38, 39, 40, 41, 42, 43, 44, 45, 46, 47, 48, 49, 50, 51, 52] (by decide +kernel) (by decide +kernel)
set_option maxRecDepth 20000 in
theorem gX0_lowestKeyNotBrought_X0_rowOf : GoodIn wsX0_lowestKeyNotBrought (wsV RX0 149 RX0 yX0_rowOf wsX0_rowOf) := goodIn_app (goodIn_of _ (by decide +kernel)) ggX0_lowestKeyNotBrought_X0_rowOf
theorem dX0_lowestKeyNotBrought_0 : decode cX0_lowestKeyNotBrought 0 = .ok (.aload_n 0, 1) := by decide +kernel
theorem dX0_lowestKeyNotBrought_1 : decode cX0_lowestKeyNotBrought 1 = .ok (.iload_n 1, 1) := by decide +kernel
theorem dX0_lowestKeyNotBrought_2 : decode cX0_lowestKeyNotBrought 2 = .ok (.invokevirtual 119, 3) := by decide +kernel
theorem dX0_lowestKeyNotBrought_5 : decode cX0_lowestKeyNotBrought 5 = .ok (.istore_n 2, 1) := by decide +kernel
theorem dX0_lowestKeyNotBrought_6 : decode cX0_lowestKeyNotBrought 6 = .ok (.aload_n 0, 1) := by decide +kernel
theorem dX0_lowestKeyNotBrought_7 : decode cX0_lowestKeyNotBrought 7 = .ok (.iload_n 1, 1) := by decide +kernel
theorem dX0_lowestKeyNotBrought_8 : decode cX0_lowestKeyNotBrought 8 = .ok (.invokevirtual 205, 3) := by decide +kernel
theorem dX0_lowestKeyNotBrought_11 : decode cX0_lowestKeyNotBrought 11 = .ok (.istore_n 3, 1) := by decide +kernel
theorem dX0_lowestKeyNotBrought_12 : decode cX0_lowestKeyNotBrought 12 = .ok (.aload_n 0, 1) := by decide +kernel
theorem dX0_lowestKeyNotBrought_13 : decode cX0_lowestKeyNotBrought 13 = .ok (.iload_n 1, 1) := by decide +kernel
theorem dX0_lowestKeyNotBrought_14 : decode cX0_lowestKeyNotBrought 14 = .ok (.invokevirtual 96, 3) := by decide +kernel
theorem dX0_lowestKeyNotBrought_17 : decode cX0_lowestKeyNotBrought 17 = .ok (.istore 4, 2) := by decide +kernel
theorem dX0_lowestKeyNotBrought_19 : decode cX0_lowestKeyNotBrought 19 = .ok (.aload_n 0, 1) := by decide +kernel
theorem dX0_lowestKeyNotBrought_20 : decode cX0_lowestKeyNotBrought 20 = .ok (.iload_n 1, 1) := by decide +kernel
theorem dX0_lowestKeyNotBrought_21 : decode cX0_lowestKeyNotBrought 21 = .ok (.invokevirtual 136, 3) := by decide +kernel
theorem dX0_lowestKeyNotBrought_24 : decode cX0_lowestKeyNotBrought 24 = .ok (.istore 5, 2) := by decide +kernel
theorem dX0_lowestKeyNotBrought_26 : decode cX0_lowestKeyNotBrought 26 = .ok (.iload 5, 2) := by decide +kernel
theorem dX0_lowestKeyNotBrought_28 : decode cX0_lowestKeyNotBrought 28 = .ok (.iload 4, 2) := by decide +kernel
theorem dX0_lowestKeyNotBrought_30 : decode cX0_lowestKeyNotBrought 30 = .ok (.if_icmp .gt 41, 3) := by decide +kernel
theorem dX0_lowestKeyNotBrought_33 : decode cX0_lowestKeyNotBrought 33 = .ok (.iload 5, 2) := by decide +kernel
theorem dX0_lowestKeyNotBrought_35 : decode cX0_lowestKeyNotBrought 35 = .ok (.bipush 100, 2) := by decide +kernel
theorem dX0_lowestKeyNotBrought_37 : decode cX0_lowestKeyNotBrought 37 = .ok (.if_icmp .ge 34, 3) := by decide +kernel
theorem dX0_lowestKeyNotBrought_40 : decode cX0_lowestKeyNotBrought 40 = .ok (.aload_n 0, 1) := by decide +kernel
theorem dX0_lowestKeyNotBrought_41 : decode cX0_lowestKeyNotBrought 41 = .ok (.iload_n 2, 1) := by decide +kernel
theorem dX0_lowestKeyNotBrought_42 : decode cX0_lowestKeyNotBrought 42 = .ok (.iload 5, 2) := by decide +kernel
theorem dX0_lowestKeyNotBrought_44 : decode cX0_lowestKeyNotBrought 44 = .ok (.invokevirtual 149, 3) := by decide +kernel
theorem dX0_lowestKeyNotBrought_47 : decode cX0_lowestKeyNotBrought 47 = .ok (.iconst (-1), 1) := by decide +kernel
theorem dX0_lowestKeyNotBrought_48 : decode cX0_lowestKeyNotBrought 48 = .ok (.if_icmp .eq 17, 3) := by decide +kernel
theorem dX0_lowestKeyNotBrought_51 : decode cX0_lowestKeyNotBrought 51 = .ok (.aload_n 0, 1) := by decide +kernel
theorem dX0_lowestKeyNotBrought_52 : decode cX0_lowestKeyNotBrought 52 = .ok (.iload_n 3, 1) := by decide +kernel
theorem dX0_lowestKeyNotBrought_53 : decode cX0_lowestKeyNotBrought 53 = .ok (.iload 5, 2) := by decide +kernel
theorem dX0_lowestKeyNotBrought_55 : decode cX0_lowestKeyNotBrought 55 = .ok (.invokevirtual 149, 3) := by decide +kernel
theorem dX0_lowestKeyNotBrought_58 : decode cX0_lowestKeyNotBrought 58 = .ok (.iconst (-1), 1) := by decide +kernel
theorem dX0_lowestKeyNotBrought_59 : decode cX0_lowestKeyNotBrought 59 = .ok (.if_icmp .ne 6, 3) := by decide +kernel
theorem dX0_lowestKeyNotBrought_62 : decode cX0_lowestKeyNotBrought 62 = .ok (.iload 5, 2) := by decide +kernel
theorem dX0_lowestKeyNotBrought_64 : decode cX0_lowestKeyNotBrought 64 = .ok (.ireturn, 1) := by decide +kernel
theorem dX0_lowestKeyNotBrought_65 : decode cX0_lowestKeyNotBrought 65 = .ok (.iinc 5 1, 3) := by decide +kernel
theorem dX0_lowestKeyNotBrought_68 : decode cX0_lowestKeyNotBrought 68 = .ok (.goto (-42), 3) := by decide +kernel
theorem dX0_lowestKeyNotBrought_71 : decode cX0_lowestKeyNotBrought 71 = .ok (.iconst (-1), 1) := by decide +kernel
theorem dX0_lowestKeyNotBrought_72 : decode cX0_lowestKeyNotBrought 72 = .ok (.ireturn, 1) := by decide +kernel
theorem dX0_districtOf_0 : decode cX0_districtOf 0 = .ok (.iload_n 0, 1) := by decide +kernel
theorem dX0_districtOf_1 : decode cX0_districtOf 1 = .ok (.iconst (-1), 1) := by decide +kernel
theorem dX0_districtOf_2 : decode cX0_districtOf 2 = .ok (.if_icmp .ne 7, 3) := by decide +kernel
theorem dX0_districtOf_5 : decode cX0_districtOf 5 = .ok (.iconst (-1), 1) := by decide +kernel
theorem dX0_districtOf_6 : decode cX0_districtOf 6 = .ok (.goto 7, 3) := by decide +kernel
theorem dX0_districtOf_9 : decode cX0_districtOf 9 = .ok (.iload_n 0, 1) := by decide +kernel
theorem dX0_districtOf_10 : decode cX0_districtOf 10 = .ok (.bipush 10, 2) := by decide +kernel
theorem dX0_districtOf_12 : decode cX0_districtOf 12 = .ok (.idiv, 1) := by decide +kernel
theorem dX0_districtOf_13 : decode cX0_districtOf 13 = .ok (.ireturn, 1) := by decide +kernel
theorem dX0_rangeHolding_0 : decode cX0_rangeHolding 0 = .ok (.aload_n 0, 1) := by decide +kernel
theorem dX0_rangeHolding_1 : decode cX0_rangeHolding 1 = .ok (.getfield 49, 3) := by decide +kernel
theorem dX0_rangeHolding_4 : decode cX0_rangeHolding 4 = .ok (.iconst 1, 1) := by decide +kernel
theorem dX0_rangeHolding_5 : decode cX0_rangeHolding 5 = .ok (.isub, 1) := by decide +kernel
theorem dX0_rangeHolding_6 : decode cX0_rangeHolding 6 = .ok (.istore_n 2, 1) := by decide +kernel
theorem dX0_rangeHolding_7 : decode cX0_rangeHolding 7 = .ok (.iconst 0, 1) := by decide +kernel
theorem dX0_rangeHolding_8 : decode cX0_rangeHolding 8 = .ok (.istore_n 3, 1) := by decide +kernel
theorem dX0_rangeHolding_9 : decode cX0_rangeHolding 9 = .ok (.iload_n 3, 1) := by decide +kernel
theorem dX0_rangeHolding_10 : decode cX0_rangeHolding 10 = .ok (.iload_n 2, 1) := by decide +kernel
theorem dX0_rangeHolding_11 : decode cX0_rangeHolding 11 = .ok (.if_icmp .ge 21, 3) := by decide +kernel
theorem dX0_rangeHolding_14 : decode cX0_rangeHolding 14 = .ok (.iload_n 1, 1) := by decide +kernel
theorem dX0_rangeHolding_15 : decode cX0_rangeHolding 15 = .ok (.aload_n 0, 1) := by decide +kernel
theorem dX0_rangeHolding_16 : decode cX0_rangeHolding 16 = .ok (.getfield 13, 3) := by decide +kernel
theorem dX0_rangeHolding_19 : decode cX0_rangeHolding 19 = .ok (.iload_n 3, 1) := by decide +kernel
theorem dX0_rangeHolding_20 : decode cX0_rangeHolding 20 = .ok (.iaload, 1) := by decide +kernel
theorem dX0_rangeHolding_21 : decode cX0_rangeHolding 21 = .ok (.if_icmp .gt 5, 3) := by decide +kernel
theorem dX0_rangeHolding_24 : decode cX0_rangeHolding 24 = .ok (.iload_n 3, 1) := by decide +kernel
theorem dX0_rangeHolding_25 : decode cX0_rangeHolding 25 = .ok (.ireturn, 1) := by decide +kernel
theorem dX0_rangeHolding_26 : decode cX0_rangeHolding 26 = .ok (.iinc 3 1, 3) := by decide +kernel
theorem dX0_rangeHolding_29 : decode cX0_rangeHolding 29 = .ok (.goto (-20), 3) := by decide +kernel
theorem dX0_rangeHolding_32 : decode cX0_rangeHolding 32 = .ok (.iload_n 2, 1) := by decide +kernel
theorem dX0_rangeHolding_33 : decode cX0_rangeHolding 33 = .ok (.ireturn, 1) := by decide +kernel
set_option maxRecDepth 20000 in
theorem ggX0_homeOf_X0_isRange : GoodIn wsX0_homeOf wsX0_isRange := goodIn_r _ [6, 7, 8, 9, 10, 11, 12, 13, 14, 15, 16, 17, 18, 19, 20, 21, 22, 23] (by decide +kernel) (by decide +kernel)
set_option maxRecDepth 20000 in
theorem gX0_homeOf_X0_isRange : GoodIn wsX0_homeOf (wsV RX0 114 RX0 yX0_isRange wsX0_isRange) := goodIn_app (goodIn_of _ (by decide +kernel)) ggX0_homeOf_X0_isRange
theorem dX0_homeOf_0 : decode cX0_homeOf 0 = .ok (.aload_n 0, 1) := by decide +kernel
theorem dX0_homeOf_1 : decode cX0_homeOf 1 = .ok (.iload_n 1, 1) := by decide +kernel
theorem dX0_homeOf_2 : decode cX0_homeOf 2 = .ok (.invokevirtual 114, 3) := by decide +kernel
theorem dX0_homeOf_5 : decode cX0_homeOf 5 = .ok (.ifCond .eq 12, 3) := by decide +kernel
theorem dX0_homeOf_8 : decode cX0_homeOf 8 = .ok (.aload_n 0, 1) := by decide +kernel
theorem dX0_homeOf_9 : decode cX0_homeOf 9 = .ok (.getfield 16, 3) := by decide +kernel
theorem dX0_homeOf_12 : decode cX0_homeOf 12 = .ok (.iload_n 1, 1) := by decide +kernel
theorem dX0_homeOf_13 : decode cX0_homeOf 13 = .ok (.iaload, 1) := by decide +kernel
theorem dX0_homeOf_14 : decode cX0_homeOf 14 = .ok (.goto 4, 3) := by decide +kernel
theorem dX0_homeOf_17 : decode cX0_homeOf 17 = .ok (.iconst (-1), 1) := by decide +kernel
theorem dX0_homeOf_18 : decode cX0_homeOf 18 = .ok (.ireturn, 1) := by decide +kernel
set_option maxRecDepth 20000 in
theorem ggX0_targetOf_X0_isRange : GoodIn wsX0_targetOf wsX0_isRange := goodIn_r _ [6, 7, 8, 9, 10, 11, 12, 13, 14, 15, 16, 17, 18, 19, 20, 21, 22, 23] (by decide +kernel) (by decide +kernel)
set_option maxRecDepth 20000 in
theorem gX0_targetOf_X0_isRange : GoodIn wsX0_targetOf (wsV RX0 114 RX0 yX0_isRange wsX0_isRange) := goodIn_app (goodIn_of _ (by decide +kernel)) ggX0_targetOf_X0_isRange
theorem dX0_targetOf_0 : decode cX0_targetOf 0 = .ok (.aload_n 0, 1) := by decide +kernel
theorem dX0_targetOf_1 : decode cX0_targetOf 1 = .ok (.iload_n 1, 1) := by decide +kernel
theorem dX0_targetOf_2 : decode cX0_targetOf 2 = .ok (.invokevirtual 114, 3) := by decide +kernel
theorem dX0_targetOf_5 : decode cX0_targetOf 5 = .ok (.ifCond .eq 12, 3) := by decide +kernel
theorem dX0_targetOf_8 : decode cX0_targetOf 8 = .ok (.aload_n 0, 1) := by decide +kernel
theorem dX0_targetOf_9 : decode cX0_targetOf 9 = .ok (.getfield 19, 3) := by decide +kernel
theorem dX0_targetOf_12 : decode cX0_targetOf 12 = .ok (.iload_n 1, 1) := by decide +kernel
theorem dX0_targetOf_13 : decode cX0_targetOf 13 = .ok (.iaload, 1) := by decide +kernel
theorem dX0_targetOf_14 : decode cX0_targetOf 14 = .ok (.goto 4, 3) := by decide +kernel
theorem dX0_targetOf_17 : decode cX0_targetOf 17 = .ok (.iconst (-1), 1) := by decide +kernel
theorem dX0_targetOf_18 : decode cX0_targetOf 18 = .ok (.ireturn, 1) := by decide +kernel
set_option maxRecDepth 20000 in
theorem ggX0_isMoved_X0_targetOf : GoodIn wsX0_isMoved wsX0_targetOf := goodIn_r _ [5, 6, 7, 8, 9, 4, 10, 11, 12, 13, 14, 15, 16, 17, 18, 19, 20, 21, 22, 23, 24, 25, 26, 27] (by decide +kernel) (by decide +kernel)
set_option maxRecDepth 20000 in
theorem gX0_isMoved_X0_targetOf : GoodIn wsX0_isMoved (wsV RX0 205 RX0 yX0_targetOf wsX0_targetOf) := goodIn_app (goodIn_of _ (by decide +kernel)) ggX0_isMoved_X0_targetOf
theorem dX0_isMoved_0 : decode cX0_isMoved 0 = .ok (.aload_n 0, 1) := by decide +kernel
theorem dX0_isMoved_1 : decode cX0_isMoved 1 = .ok (.iload_n 1, 1) := by decide +kernel
theorem dX0_isMoved_2 : decode cX0_isMoved 2 = .ok (.invokevirtual 205, 3) := by decide +kernel
theorem dX0_isMoved_5 : decode cX0_isMoved 5 = .ok (.iconst (-1), 1) := by decide +kernel
theorem dX0_isMoved_6 : decode cX0_isMoved 6 = .ok (.if_icmp .eq 7, 3) := by decide +kernel
theorem dX0_isMoved_9 : decode cX0_isMoved 9 = .ok (.iconst 1, 1) := by decide +kernel
theorem dX0_isMoved_10 : decode cX0_isMoved 10 = .ok (.goto 4, 3) := by decide +kernel
theorem dX0_isMoved_13 : decode cX0_isMoved 13 = .ok (.iconst 0, 1) := by decide +kernel
theorem dX0_isMoved_14 : decode cX0_isMoved 14 = .ok (.ireturn, 1) := by decide +kernel
set_option maxRecDepth 20000 in
theorem ggX0_firstKeyOf_X0_lastKeyOf : GoodIn wsX0_firstKeyOf wsX0_lastKeyOf := goodIn_r _ [5, 6, 7, 8, 9, 4, 10, 11, 12, 13, 14, 15, 16, 17, 18, 19, 20, 21, 22, 23, 24, 25, 26, 27] (by decide +kernel) (by decide +kernel)
set_option maxRecDepth 20000 in
theorem gX0_firstKeyOf_X0_lastKeyOf : GoodIn wsX0_firstKeyOf (wsV RX0 96 RX0 yX0_lastKeyOf wsX0_lastKeyOf) := goodIn_app (goodIn_of _ (by decide +kernel)) ggX0_firstKeyOf_X0_lastKeyOf
theorem dX0_firstKeyOf_0 : decode cX0_firstKeyOf 0 = .ok (.iload_n 1, 1) := by decide +kernel
theorem dX0_firstKeyOf_1 : decode cX0_firstKeyOf 1 = .ok (.ifCond .ne 7, 3) := by decide +kernel
theorem dX0_firstKeyOf_4 : decode cX0_firstKeyOf 4 = .ok (.iconst 0, 1) := by decide +kernel
theorem dX0_firstKeyOf_5 : decode cX0_firstKeyOf 5 = .ok (.goto 12, 3) := by decide +kernel
theorem dX0_firstKeyOf_8 : decode cX0_firstKeyOf 8 = .ok (.aload_n 0, 1) := by decide +kernel
theorem dX0_firstKeyOf_9 : decode cX0_firstKeyOf 9 = .ok (.iload_n 1, 1) := by decide +kernel
theorem dX0_firstKeyOf_10 : decode cX0_firstKeyOf 10 = .ok (.iconst 1, 1) := by decide +kernel
theorem dX0_firstKeyOf_11 : decode cX0_firstKeyOf 11 = .ok (.isub, 1) := by decide +kernel
theorem dX0_firstKeyOf_12 : decode cX0_firstKeyOf 12 = .ok (.invokevirtual 96, 3) := by decide +kernel
theorem dX0_firstKeyOf_15 : decode cX0_firstKeyOf 15 = .ok (.iconst 1, 1) := by decide +kernel
theorem dX0_firstKeyOf_16 : decode cX0_firstKeyOf 16 = .ok (.iadd, 1) := by decide +kernel
theorem dX0_firstKeyOf_17 : decode cX0_firstKeyOf 17 = .ok (.ireturn, 1) := by decide +kernel
set_option maxRecDepth 20000 in
theorem ggX0_lastKeyOf_X0_isRange : GoodIn wsX0_lastKeyOf wsX0_isRange := goodIn_r _ [6, 7, 8, 9, 10, 11, 12, 13, 14, 15, 16, 17, 18, 19, 20, 21, 22, 23] (by decide +kernel) (by decide +kernel)
set_option maxRecDepth 20000 in
theorem gX0_lastKeyOf_X0_isRange : GoodIn wsX0_lastKeyOf (wsV RX0 114 RX0 yX0_isRange wsX0_isRange) := goodIn_app (goodIn_of _ (by decide +kernel)) ggX0_lastKeyOf_X0_isRange
theorem dX0_lastKeyOf_0 : decode cX0_lastKeyOf 0 = .ok (.aload_n 0, 1) := by decide +kernel
theorem dX0_lastKeyOf_1 : decode cX0_lastKeyOf 1 = .ok (.iload_n 1, 1) := by decide +kernel
theorem dX0_lastKeyOf_2 : decode cX0_lastKeyOf 2 = .ok (.invokevirtual 114, 3) := by decide +kernel
theorem dX0_lastKeyOf_5 : decode cX0_lastKeyOf 5 = .ok (.ifCond .eq 12, 3) := by decide +kernel
theorem dX0_lastKeyOf_8 : decode cX0_lastKeyOf 8 = .ok (.aload_n 0, 1) := by decide +kernel
theorem dX0_lastKeyOf_9 : decode cX0_lastKeyOf 9 = .ok (.getfield 13, 3) := by decide +kernel
theorem dX0_lastKeyOf_12 : decode cX0_lastKeyOf 12 = .ok (.iload_n 1, 1) := by decide +kernel
theorem dX0_lastKeyOf_13 : decode cX0_lastKeyOf 13 = .ok (.iaload, 1) := by decide +kernel
theorem dX0_lastKeyOf_14 : decode cX0_lastKeyOf 14 = .ok (.goto 4, 3) := by decide +kernel
theorem dX0_lastKeyOf_17 : decode cX0_lastKeyOf 17 = .ok (.iconst (-1), 1) := by decide +kernel
theorem dX0_lastKeyOf_18 : decode cX0_lastKeyOf 18 = .ok (.ireturn, 1) := by decide +kernel
set_option maxRecDepth 20000 in
theorem ggX0_insertCopyBehind_X0_copyRange : GoodIn wsX0_insertCopyBehind wsX0_copyRange := goodIn_r _ [6, 7, 8, 9, 10, 11, 12, 13, 14, 15, 16, 17, 18, 19, 20, 21, 22, 23, 24, 25] (by decide +kernel) (by decide +kernel)
set_option maxRecDepth 20000 in
theorem gX0_insertCopyBehind_X0_copyRange : GoodIn wsX0_insertCopyBehind (wsV RX0 208 RX0 yX0_copyRange wsX0_copyRange) := goodIn_app (goodIn_of _ (by decide +kernel)) ggX0_insertCopyBehind_X0_copyRange
theorem dX0_insertCopyBehind_0 : decode cX0_insertCopyBehind 0 = .ok (.aload_n 0, 1) := by decide +kernel
theorem dX0_insertCopyBehind_1 : decode cX0_insertCopyBehind 1 = .ok (.getfield 49, 3) := by decide +kernel
theorem dX0_insertCopyBehind_4 : decode cX0_insertCopyBehind 4 = .ok (.istore_n 2, 1) := by decide +kernel
theorem dX0_insertCopyBehind_5 : decode cX0_insertCopyBehind 5 = .ok (.iload_n 2, 1) := by decide +kernel
theorem dX0_insertCopyBehind_6 : decode cX0_insertCopyBehind 6 = .ok (.iload_n 1, 1) := by decide +kernel
theorem dX0_insertCopyBehind_7 : decode cX0_insertCopyBehind 7 = .ok (.if_icmp .le 17, 3) := by decide +kernel
theorem dX0_insertCopyBehind_10 : decode cX0_insertCopyBehind 10 = .ok (.aload_n 0, 1) := by decide +kernel
theorem dX0_insertCopyBehind_11 : decode cX0_insertCopyBehind 11 = .ok (.iload_n 2, 1) := by decide +kernel
theorem dX0_insertCopyBehind_12 : decode cX0_insertCopyBehind 12 = .ok (.iconst 1, 1) := by decide +kernel
theorem dX0_insertCopyBehind_13 : decode cX0_insertCopyBehind 13 = .ok (.isub, 1) := by decide +kernel
theorem dX0_insertCopyBehind_14 : decode cX0_insertCopyBehind 14 = .ok (.iload_n 2, 1) := by decide +kernel
theorem dX0_insertCopyBehind_15 : decode cX0_insertCopyBehind 15 = .ok (.invokevirtual 208, 3) := by decide +kernel
theorem dX0_insertCopyBehind_18 : decode cX0_insertCopyBehind 18 = .ok (.iinc 2 (-1), 3) := by decide +kernel
theorem dX0_insertCopyBehind_21 : decode cX0_insertCopyBehind 21 = .ok (.goto (-16), 3) := by decide +kernel
theorem dX0_insertCopyBehind_24 : decode cX0_insertCopyBehind 24 = .ok (.aload_n 0, 1) := by decide +kernel
theorem dX0_insertCopyBehind_25 : decode cX0_insertCopyBehind 25 = .ok (.dup, 1) := by decide +kernel
theorem dX0_insertCopyBehind_26 : decode cX0_insertCopyBehind 26 = .ok (.getfield 49, 3) := by decide +kernel
theorem dX0_insertCopyBehind_29 : decode cX0_insertCopyBehind 29 = .ok (.iconst 1, 1) := by decide +kernel
theorem dX0_insertCopyBehind_30 : decode cX0_insertCopyBehind 30 = .ok (.iadd, 1) := by decide +kernel
theorem dX0_insertCopyBehind_31 : decode cX0_insertCopyBehind 31 = .ok (.putfield 49, 3) := by decide +kernel
theorem dX0_insertCopyBehind_34 : decode cX0_insertCopyBehind 34 = .ok (.return_, 1) := by decide +kernel
set_option maxRecDepth 20000 in
theorem ggX0_remove_X0_copyRange : GoodIn wsX0_remove wsX0_copyRange := goodIn_r _ [6, 7, 8, 9, 10, 11, 12, 13, 14, 15, 16, 17, 18, 19, 20, 21, 22, 23, 24, 25] (by decide +kernel) (by decide +kernel)
set_option maxRecDepth 20000 in
theorem gX0_remove_X0_copyRange : GoodIn wsX0_remove (wsV RX0 208 RX0 yX0_copyRange wsX0_copyRange) := goodIn_app (goodIn_of _ (by decide +kernel)) ggX0_remove_X0_copyRange
theorem dX0_remove_0 : decode cX0_remove 0 = .ok (.aload_n 0, 1) := by decide +kernel
theorem dX0_remove_1 : decode cX0_remove 1 = .ok (.dup, 1) := by decide +kernel
theorem dX0_remove_2 : decode cX0_remove 2 = .ok (.getfield 49, 3) := by decide +kernel
theorem dX0_remove_5 : decode cX0_remove 5 = .ok (.iconst 1, 1) := by decide +kernel
theorem dX0_remove_6 : decode cX0_remove 6 = .ok (.isub, 1) := by decide +kernel
theorem dX0_remove_7 : decode cX0_remove 7 = .ok (.putfield 49, 3) := by decide +kernel
theorem dX0_remove_10 : decode cX0_remove 10 = .ok (.iload_n 1, 1) := by decide +kernel
theorem dX0_remove_11 : decode cX0_remove 11 = .ok (.istore_n 2, 1) := by decide +kernel
theorem dX0_remove_12 : decode cX0_remove 12 = .ok (.iload_n 2, 1) := by decide +kernel
theorem dX0_remove_13 : decode cX0_remove 13 = .ok (.aload_n 0, 1) := by decide +kernel
theorem dX0_remove_14 : decode cX0_remove 14 = .ok (.getfield 49, 3) := by decide +kernel
theorem dX0_remove_17 : decode cX0_remove 17 = .ok (.if_icmp .ge 17, 3) := by decide +kernel
theorem dX0_remove_20 : decode cX0_remove 20 = .ok (.aload_n 0, 1) := by decide +kernel
theorem dX0_remove_21 : decode cX0_remove 21 = .ok (.iload_n 2, 1) := by decide +kernel
theorem dX0_remove_22 : decode cX0_remove 22 = .ok (.iconst 1, 1) := by decide +kernel
theorem dX0_remove_23 : decode cX0_remove 23 = .ok (.iadd, 1) := by decide +kernel
theorem dX0_remove_24 : decode cX0_remove 24 = .ok (.iload_n 2, 1) := by decide +kernel
theorem dX0_remove_25 : decode cX0_remove 25 = .ok (.invokevirtual 208, 3) := by decide +kernel
theorem dX0_remove_28 : decode cX0_remove 28 = .ok (.iinc 2 1, 3) := by decide +kernel
theorem dX0_remove_31 : decode cX0_remove 31 = .ok (.goto (-19), 3) := by decide +kernel
theorem dX0_remove_34 : decode cX0_remove 34 = .ok (.return_, 1) := by decide +kernel
theorem dX0_copyRange_0 : decode cX0_copyRange 0 = .ok (.aload_n 0, 1) := by decide +kernel
theorem dX0_copyRange_1 : decode cX0_copyRange 1 = .ok (.getfield 13, 3) := by decide +kernel
theorem dX0_copyRange_4 : decode cX0_copyRange 4 = .ok (.iload_n 2, 1) := by decide +kernel
theorem dX0_copyRange_5 : decode cX0_copyRange 5 = .ok (.aload_n 0, 1) := by decide +kernel
theorem dX0_copyRange_6 : decode cX0_copyRange 6 = .ok (.getfield 13, 3) := by decide +kernel
theorem dX0_copyRange_9 : decode cX0_copyRange 9 = .ok (.iload_n 1, 1) := by decide +kernel
theorem dX0_copyRange_10 : decode cX0_copyRange 10 = .ok (.iaload, 1) := by decide +kernel
theorem dX0_copyRange_11 : decode cX0_copyRange 11 = .ok (.iastore, 1) := by decide +kernel
theorem dX0_copyRange_12 : decode cX0_copyRange 12 = .ok (.aload_n 0, 1) := by decide +kernel
theorem dX0_copyRange_13 : decode cX0_copyRange 13 = .ok (.getfield 16, 3) := by decide +kernel
theorem dX0_copyRange_16 : decode cX0_copyRange 16 = .ok (.iload_n 2, 1) := by decide +kernel
theorem dX0_copyRange_17 : decode cX0_copyRange 17 = .ok (.aload_n 0, 1) := by decide +kernel
theorem dX0_copyRange_18 : decode cX0_copyRange 18 = .ok (.getfield 16, 3) := by decide +kernel
theorem dX0_copyRange_21 : decode cX0_copyRange 21 = .ok (.iload_n 1, 1) := by decide +kernel
theorem dX0_copyRange_22 : decode cX0_copyRange 22 = .ok (.iaload, 1) := by decide +kernel
theorem dX0_copyRange_23 : decode cX0_copyRange 23 = .ok (.iastore, 1) := by decide +kernel
theorem dX0_copyRange_24 : decode cX0_copyRange 24 = .ok (.aload_n 0, 1) := by decide +kernel
theorem dX0_copyRange_25 : decode cX0_copyRange 25 = .ok (.getfield 19, 3) := by decide +kernel
theorem dX0_copyRange_28 : decode cX0_copyRange 28 = .ok (.iload_n 2, 1) := by decide +kernel
theorem dX0_copyRange_29 : decode cX0_copyRange 29 = .ok (.aload_n 0, 1) := by decide +kernel
theorem dX0_copyRange_30 : decode cX0_copyRange 30 = .ok (.getfield 19, 3) := by decide +kernel
theorem dX0_copyRange_33 : decode cX0_copyRange 33 = .ok (.iload_n 1, 1) := by decide +kernel
theorem dX0_copyRange_34 : decode cX0_copyRange 34 = .ok (.iaload, 1) := by decide +kernel
theorem dX0_copyRange_35 : decode cX0_copyRange 35 = .ok (.iastore, 1) := by decide +kernel
theorem dX0_copyRange_36 : decode cX0_copyRange 36 = .ok (.return_, 1) := by decide +kernel
set_option maxRecDepth 20000 in
theorem ggX0_isOfOpenVote_X0_isBallot : GoodIn wsX0_isOfOpenVote wsX0_isBallot := goodIn_r _ [8, 9, 10, 11, 12, 13, 14, 15, 16, 17, 18, 19, 20, 21, 22, 23, 24, 25] (by decide +kernel) (by decide +kernel)
set_option maxRecDepth 20000 in
theorem gX0_isOfOpenVote_X0_isBallot : GoodIn wsX0_isOfOpenVote (wsV RX0 174 RX0 yX0_isBallot wsX0_isBallot) := goodIn_app (goodIn_of _ (by decide +kernel)) ggX0_isOfOpenVote_X0_isBallot
theorem dX0_isOfOpenVote_0 : decode cX0_isOfOpenVote 0 = .ok (.aload_n 0, 1) := by decide +kernel
theorem dX0_isOfOpenVote_1 : decode cX0_isOfOpenVote 1 = .ok (.getfield 160, 3) := by decide +kernel
theorem dX0_isOfOpenVote_4 : decode cX0_isOfOpenVote 4 = .ok (.ifCond .eq 28, 3) := by decide +kernel
theorem dX0_isOfOpenVote_7 : decode cX0_isOfOpenVote 7 = .ok (.aload_n 0, 1) := by decide +kernel
theorem dX0_isOfOpenVote_8 : decode cX0_isOfOpenVote 8 = .ok (.iload_n 1, 1) := by decide +kernel
theorem dX0_isOfOpenVote_9 : decode cX0_isOfOpenVote 9 = .ok (.invokevirtual 174, 3) := by decide +kernel
theorem dX0_isOfOpenVote_12 : decode cX0_isOfOpenVote 12 = .ok (.ifCond .eq 20, 3) := by decide +kernel
theorem dX0_isOfOpenVote_15 : decode cX0_isOfOpenVote 15 = .ok (.aload_n 0, 1) := by decide +kernel
theorem dX0_isOfOpenVote_16 : decode cX0_isOfOpenVote 16 = .ok (.getfield 28, 3) := by decide +kernel
theorem dX0_isOfOpenVote_19 : decode cX0_isOfOpenVote 19 = .ok (.iload_n 1, 1) := by decide +kernel
theorem dX0_isOfOpenVote_20 : decode cX0_isOfOpenVote 20 = .ok (.iaload, 1) := by decide +kernel
theorem dX0_isOfOpenVote_21 : decode cX0_isOfOpenVote 21 = .ok (.aload_n 0, 1) := by decide +kernel
theorem dX0_isOfOpenVote_22 : decode cX0_isOfOpenVote 22 = .ok (.getfield 166, 3) := by decide +kernel
theorem dX0_isOfOpenVote_25 : decode cX0_isOfOpenVote 25 = .ok (.if_icmp .ne 7, 3) := by decide +kernel
theorem dX0_isOfOpenVote_28 : decode cX0_isOfOpenVote 28 = .ok (.iconst 1, 1) := by decide +kernel
theorem dX0_isOfOpenVote_29 : decode cX0_isOfOpenVote 29 = .ok (.goto 4, 3) := by decide +kernel
theorem dX0_isOfOpenVote_32 : decode cX0_isOfOpenVote 32 = .ok (.iconst 0, 1) := by decide +kernel
theorem dX0_isOfOpenVote_33 : decode cX0_isOfOpenVote 33 = .ok (.ireturn, 1) := by decide +kernel
set_option maxRecDepth 20000 in
theorem ggX0_latestBallotTo_X0_isOfOpenVote : GoodIn wsX0_latestBallotTo wsX0_isOfOpenVote := goodIn_r _ [7, 8, 9, 10, 11, 12, 13, 6, 14, 1, 15, 16, 17, 18, 19, 20, 21, 22, 23, 24, 25, 26, 27, 28, 29, 30] (by decide +kernel) (by decide +kernel)
set_option maxRecDepth 20000 in
theorem gX0_latestBallotTo_X0_isOfOpenVote : GoodIn wsX0_latestBallotTo (wsV RX0 192 RX0 yX0_isOfOpenVote wsX0_isOfOpenVote) := goodIn_app (goodIn_of _ (by decide +kernel)) ggX0_latestBallotTo_X0_isOfOpenVote
theorem dX0_latestBallotTo_0 : decode cX0_latestBallotTo 0 = .ok (.aload_n 0, 1) := by decide +kernel
theorem dX0_latestBallotTo_1 : decode cX0_latestBallotTo 1 = .ok (.getfield 179, 3) := by decide +kernel
theorem dX0_latestBallotTo_4 : decode cX0_latestBallotTo 4 = .ok (.iconst 1, 1) := by decide +kernel
theorem dX0_latestBallotTo_5 : decode cX0_latestBallotTo 5 = .ok (.isub, 1) := by decide +kernel
theorem dX0_latestBallotTo_6 : decode cX0_latestBallotTo 6 = .ok (.istore_n 2, 1) := by decide +kernel
theorem dX0_latestBallotTo_7 : decode cX0_latestBallotTo 7 = .ok (.iload_n 2, 1) := by decide +kernel
theorem dX0_latestBallotTo_8 : decode cX0_latestBallotTo 8 = .ok (.ifCond .lt 29, 3) := by decide +kernel
theorem dX0_latestBallotTo_11 : decode cX0_latestBallotTo 11 = .ok (.aload_n 0, 1) := by decide +kernel
theorem dX0_latestBallotTo_12 : decode cX0_latestBallotTo 12 = .ok (.iload_n 2, 1) := by decide +kernel
theorem dX0_latestBallotTo_13 : decode cX0_latestBallotTo 13 = .ok (.invokevirtual 192, 3) := by decide +kernel
theorem dX0_latestBallotTo_16 : decode cX0_latestBallotTo 16 = .ok (.ifCond .eq 15, 3) := by decide +kernel
theorem dX0_latestBallotTo_19 : decode cX0_latestBallotTo 19 = .ok (.aload_n 0, 1) := by decide +kernel
theorem dX0_latestBallotTo_20 : decode cX0_latestBallotTo 20 = .ok (.getfield 25, 3) := by decide +kernel
theorem dX0_latestBallotTo_23 : decode cX0_latestBallotTo 23 = .ok (.iload_n 2, 1) := by decide +kernel
theorem dX0_latestBallotTo_24 : decode cX0_latestBallotTo 24 = .ok (.iaload, 1) := by decide +kernel
theorem dX0_latestBallotTo_25 : decode cX0_latestBallotTo 25 = .ok (.iload_n 1, 1) := by decide +kernel
theorem dX0_latestBallotTo_26 : decode cX0_latestBallotTo 26 = .ok (.if_icmp .ne 5, 3) := by decide +kernel
theorem dX0_latestBallotTo_29 : decode cX0_latestBallotTo 29 = .ok (.iload_n 2, 1) := by decide +kernel
theorem dX0_latestBallotTo_30 : decode cX0_latestBallotTo 30 = .ok (.ireturn, 1) := by decide +kernel
theorem dX0_latestBallotTo_31 : decode cX0_latestBallotTo 31 = .ok (.iinc 2 (-1), 3) := by decide +kernel
theorem dX0_latestBallotTo_34 : decode cX0_latestBallotTo 34 = .ok (.goto (-27), 3) := by decide +kernel
theorem dX0_latestBallotTo_37 : decode cX0_latestBallotTo 37 = .ok (.iconst (-1), 1) := by decide +kernel
theorem dX0_latestBallotTo_38 : decode cX0_latestBallotTo 38 = .ok (.ireturn, 1) := by decide +kernel
theorem dX0_isKey_0 : decode cX0_isKey 0 = .ok (.iload_n 0, 1) := by decide +kernel
theorem dX0_isKey_1 : decode cX0_isKey 1 = .ok (.ifCond .lt 13, 3) := by decide +kernel
theorem dX0_isKey_4 : decode cX0_isKey 4 = .ok (.iload_n 0, 1) := by decide +kernel
theorem dX0_isKey_5 : decode cX0_isKey 5 = .ok (.bipush 100, 2) := by decide +kernel
theorem dX0_isKey_7 : decode cX0_isKey 7 = .ok (.if_icmp .ge 7, 3) := by decide +kernel
theorem dX0_isKey_10 : decode cX0_isKey 10 = .ok (.iconst 1, 1) := by decide +kernel
theorem dX0_isKey_11 : decode cX0_isKey 11 = .ok (.goto 4, 3) := by decide +kernel
theorem dX0_isKey_14 : decode cX0_isKey 14 = .ok (.iconst 0, 1) := by decide +kernel
theorem dX0_isKey_15 : decode cX0_isKey 15 = .ok (.ireturn, 1) := by decide +kernel
theorem dX0_isShard_0 : decode cX0_isShard 0 = .ok (.iload_n 0, 1) := by decide +kernel
theorem dX0_isShard_1 : decode cX0_isShard 1 = .ok (.ifCond .lt 12, 3) := by decide +kernel
theorem dX0_isShard_4 : decode cX0_isShard 4 = .ok (.iload_n 0, 1) := by decide +kernel
theorem dX0_isShard_5 : decode cX0_isShard 5 = .ok (.iconst 4, 1) := by decide +kernel
theorem dX0_isShard_6 : decode cX0_isShard 6 = .ok (.if_icmp .ge 7, 3) := by decide +kernel
theorem dX0_isShard_9 : decode cX0_isShard 9 = .ok (.iconst 1, 1) := by decide +kernel
theorem dX0_isShard_10 : decode cX0_isShard 10 = .ok (.goto 4, 3) := by decide +kernel
theorem dX0_isShard_13 : decode cX0_isShard 13 = .ok (.iconst 0, 1) := by decide +kernel
theorem dX0_isShard_14 : decode cX0_isShard 14 = .ok (.ireturn, 1) := by decide +kernel
theorem dX0_isRange_0 : decode cX0_isRange 0 = .ok (.iload_n 1, 1) := by decide +kernel
theorem dX0_isRange_1 : decode cX0_isRange 1 = .ok (.ifCond .lt 15, 3) := by decide +kernel
theorem dX0_isRange_4 : decode cX0_isRange 4 = .ok (.iload_n 1, 1) := by decide +kernel
theorem dX0_isRange_5 : decode cX0_isRange 5 = .ok (.aload_n 0, 1) := by decide +kernel
theorem dX0_isRange_6 : decode cX0_isRange 6 = .ok (.getfield 49, 3) := by decide +kernel
theorem dX0_isRange_9 : decode cX0_isRange 9 = .ok (.if_icmp .ge 7, 3) := by decide +kernel
theorem dX0_isRange_12 : decode cX0_isRange 12 = .ok (.iconst 1, 1) := by decide +kernel
theorem dX0_isRange_13 : decode cX0_isRange 13 = .ok (.goto 4, 3) := by decide +kernel
theorem dX0_isRange_16 : decode cX0_isRange 16 = .ok (.iconst 0, 1) := by decide +kernel
theorem dX0_isRange_17 : decode cX0_isRange 17 = .ok (.ireturn, 1) := by decide +kernel
theorem dX0_isBallot_0 : decode cX0_isBallot 0 = .ok (.iload_n 1, 1) := by decide +kernel
theorem dX0_isBallot_1 : decode cX0_isBallot 1 = .ok (.ifCond .lt 15, 3) := by decide +kernel
theorem dX0_isBallot_4 : decode cX0_isBallot 4 = .ok (.iload_n 1, 1) := by decide +kernel
theorem dX0_isBallot_5 : decode cX0_isBallot 5 = .ok (.aload_n 0, 1) := by decide +kernel
theorem dX0_isBallot_6 : decode cX0_isBallot 6 = .ok (.getfield 179, 3) := by decide +kernel
theorem dX0_isBallot_9 : decode cX0_isBallot 9 = .ok (.if_icmp .ge 7, 3) := by decide +kernel
theorem dX0_isBallot_12 : decode cX0_isBallot 12 = .ok (.iconst 1, 1) := by decide +kernel
theorem dX0_isBallot_13 : decode cX0_isBallot 13 = .ok (.goto 4, 3) := by decide +kernel
theorem dX0_isBallot_16 : decode cX0_isBallot 16 = .ok (.iconst 0, 1) := by decide +kernel
theorem dX0_isBallot_17 : decode cX0_isBallot 17 = .ok (.ireturn, 1) := by decide +kernel
set_option maxRecDepth 20000 in
theorem ggX0_isMember_X0_read : GoodIn wsX0_isMember wsX0_read := goodIn_r _ [5, 6, 7, 8, 4, 9, 10, 11, 12, 13, 14, 15, 16, 17, 18, 19, 20, 21, 22, 23, 24, 25, 26, 27, 28, 29, 30, 31, 32, 33, 34, 35, 36, 37, 38, 39, 40, 41, 42, 43, 44, 45, 46, 47] (by decide +kernel) (by decide +kernel)
set_option maxRecDepth 20000 in
theorem gX0_isMember_X0_read : GoodIn wsX0_isMember (wsV RX0 83 RX0 yX0_read wsX0_read) := goodIn_app (goodIn_of _ (by decide +kernel)) ggX0_isMember_X0_read
theorem dX0_isMember_0 : decode cX0_isMember 0 = .ok (.aload_n 0, 1) := by decide +kernel
theorem dX0_isMember_1 : decode cX0_isMember 1 = .ok (.iload_n 1, 1) := by decide +kernel
theorem dX0_isMember_2 : decode cX0_isMember 2 = .ok (.invokevirtual 83, 3) := by decide +kernel
theorem dX0_isMember_5 : decode cX0_isMember 5 = .ok (.iconst (-1), 1) := by decide +kernel
theorem dX0_isMember_6 : decode cX0_isMember 6 = .ok (.if_icmp .eq 7, 3) := by decide +kernel
theorem dX0_isMember_9 : decode cX0_isMember 9 = .ok (.iconst 1, 1) := by decide +kernel
theorem dX0_isMember_10 : decode cX0_isMember 10 = .ok (.goto 4, 3) := by decide +kernel
theorem dX0_isMember_13 : decode cX0_isMember 13 = .ok (.iconst 0, 1) := by decide +kernel
theorem dX0_isMember_14 : decode cX0_isMember 14 = .ok (.ireturn, 1) := by decide +kernel
set_option maxRecDepth 20000 in
theorem ggX0_checkKey_X0_isKey : GoodIn wsX0_checkKey wsX0_isKey := goodIn_r _ [6] (by decide +kernel) (by decide +kernel)
set_option maxRecDepth 20000 in
theorem gX0_checkKey_X0_isKey : GoodIn wsX0_checkKey (va_wsS RX0 202 yX0_isKey wsX0_isKey) := goodIn_app (goodIn_of _ (by decide +kernel)) ggX0_checkKey_X0_isKey
theorem dX0_checkKey_0 : decode cX0_checkKey 0 = .ok (.iload_n 0, 1) := by decide +kernel
theorem dX0_checkKey_1 : decode cX0_checkKey 1 = .ok (.invokestatic 202, 3) := by decide +kernel
theorem dX0_checkKey_4 : decode cX0_checkKey 4 = .ok (.ifCond .ne 13, 3) := by decide +kernel
theorem dX0_checkKey_7 : decode cX0_checkKey 7 = .ok (.new 211, 3) := by decide +kernel
theorem dX0_checkKey_10 : decode cX0_checkKey 10 = .ok (.dup, 1) := by decide +kernel
theorem dX0_checkKey_11 : decode cX0_checkKey 11 = .ok (.ldc 213, 2) := by decide +kernel
theorem dX0_checkKey_13 : decode cX0_checkKey 13 = .ok (.invokespecial 215, 3) := by decide +kernel
theorem dX0_checkKey_16 : decode cX0_checkKey 16 = .ok (.athrow, 1) := by decide +kernel
theorem dX0_checkKey_17 : decode cX0_checkKey 17 = .ok (.return_, 1) := by decide +kernel
set_option maxRecDepth 20000 in
theorem ggX0_checkShard_X0_isShard : GoodIn wsX0_checkShard wsX0_isShard := goodIn_r _ [6] (by decide +kernel) (by decide +kernel)
set_option maxRecDepth 20000 in
theorem gX0_checkShard_X0_isShard : GoodIn wsX0_checkShard (va_wsS RX0 199 yX0_isShard wsX0_isShard) := goodIn_app (goodIn_of _ (by decide +kernel)) ggX0_checkShard_X0_isShard
theorem dX0_checkShard_0 : decode cX0_checkShard 0 = .ok (.iload_n 0, 1) := by decide +kernel
theorem dX0_checkShard_1 : decode cX0_checkShard 1 = .ok (.invokestatic 199, 3) := by decide +kernel
theorem dX0_checkShard_4 : decode cX0_checkShard 4 = .ok (.ifCond .ne 13, 3) := by decide +kernel
theorem dX0_checkShard_7 : decode cX0_checkShard 7 = .ok (.new 211, 3) := by decide +kernel
theorem dX0_checkShard_10 : decode cX0_checkShard 10 = .ok (.dup, 1) := by decide +kernel
theorem dX0_checkShard_11 : decode cX0_checkShard 11 = .ok (.ldc 216, 2) := by decide +kernel
theorem dX0_checkShard_13 : decode cX0_checkShard 13 = .ok (.invokespecial 215, 3) := by decide +kernel
theorem dX0_checkShard_16 : decode cX0_checkShard 16 = .ok (.athrow, 1) := by decide +kernel
theorem dX0_checkShard_17 : decode cX0_checkShard 17 = .ok (.return_, 1) := by decide +kernel
theorem dX0_checkDistrict_0 : decode cX0_checkDistrict 0 = .ok (.iload_n 0, 1) := by decide +kernel
theorem dX0_checkDistrict_1 : decode cX0_checkDistrict 1 = .ok (.ifCond .lt 8, 3) := by decide +kernel
theorem dX0_checkDistrict_4 : decode cX0_checkDistrict 4 = .ok (.iload_n 0, 1) := by decide +kernel
theorem dX0_checkDistrict_5 : decode cX0_checkDistrict 5 = .ok (.iconst 4, 1) := by decide +kernel
theorem dX0_checkDistrict_6 : decode cX0_checkDistrict 6 = .ok (.if_icmp .lt 13, 3) := by decide +kernel
theorem dX0_checkDistrict_9 : decode cX0_checkDistrict 9 = .ok (.new 211, 3) := by decide +kernel
theorem dX0_checkDistrict_12 : decode cX0_checkDistrict 12 = .ok (.dup, 1) := by decide +kernel
theorem dX0_checkDistrict_13 : decode cX0_checkDistrict 13 = .ok (.ldc 218, 2) := by decide +kernel
theorem dX0_checkDistrict_15 : decode cX0_checkDistrict 15 = .ok (.invokespecial 215, 3) := by decide +kernel
theorem dX0_checkDistrict_18 : decode cX0_checkDistrict 18 = .ok (.athrow, 1) := by decide +kernel
theorem dX0_checkDistrict_19 : decode cX0_checkDistrict 19 = .ok (.return_, 1) := by decide +kernel
set_option maxRecDepth 20000 in
theorem ggX0_checkRange_X0_isRange : GoodIn wsX0_checkRange wsX0_isRange := goodIn_r _ [7, 8, 9, 10, 11, 12, 13, 14, 15, 16, 17, 18, 19, 20, 21, 22, 23, 24] (by decide +kernel) (by decide +kernel)
set_option maxRecDepth 20000 in
theorem gX0_checkRange_X0_isRange : GoodIn wsX0_checkRange (wsV RX0 114 RX0 yX0_isRange wsX0_isRange) := goodIn_app (goodIn_of _ (by decide +kernel)) ggX0_checkRange_X0_isRange
theorem dX0_checkRange_0 : decode cX0_checkRange 0 = .ok (.aload_n 0, 1) := by decide +kernel
theorem dX0_checkRange_1 : decode cX0_checkRange 1 = .ok (.iload_n 1, 1) := by decide +kernel
theorem dX0_checkRange_2 : decode cX0_checkRange 2 = .ok (.invokevirtual 114, 3) := by decide +kernel
theorem dX0_checkRange_5 : decode cX0_checkRange 5 = .ok (.ifCond .ne 13, 3) := by decide +kernel
theorem dX0_checkRange_8 : decode cX0_checkRange 8 = .ok (.new 211, 3) := by decide +kernel
theorem dX0_checkRange_11 : decode cX0_checkRange 11 = .ok (.dup, 1) := by decide +kernel
theorem dX0_checkRange_12 : decode cX0_checkRange 12 = .ok (.ldc 220, 2) := by decide +kernel
theorem dX0_checkRange_14 : decode cX0_checkRange 14 = .ok (.invokespecial 215, 3) := by decide +kernel
theorem dX0_checkRange_17 : decode cX0_checkRange 17 = .ok (.athrow, 1) := by decide +kernel
theorem dX0_checkRange_18 : decode cX0_checkRange 18 = .ok (.return_, 1) := by decide +kernel
set_option maxRecDepth 20000 in
theorem ggX0_checkBallot_X0_isBallot : GoodIn wsX0_checkBallot wsX0_isBallot := goodIn_r _ [7, 8, 9, 10, 11, 12, 13, 14, 15, 16, 17, 18, 19, 20, 21, 22, 23, 24] (by decide +kernel) (by decide +kernel)
set_option maxRecDepth 20000 in
theorem gX0_checkBallot_X0_isBallot : GoodIn wsX0_checkBallot (wsV RX0 174 RX0 yX0_isBallot wsX0_isBallot) := goodIn_app (goodIn_of _ (by decide +kernel)) ggX0_checkBallot_X0_isBallot
theorem dX0_checkBallot_0 : decode cX0_checkBallot 0 = .ok (.aload_n 0, 1) := by decide +kernel
theorem dX0_checkBallot_1 : decode cX0_checkBallot 1 = .ok (.iload_n 1, 1) := by decide +kernel
theorem dX0_checkBallot_2 : decode cX0_checkBallot 2 = .ok (.invokevirtual 174, 3) := by decide +kernel
theorem dX0_checkBallot_5 : decode cX0_checkBallot 5 = .ok (.ifCond .ne 13, 3) := by decide +kernel
theorem dX0_checkBallot_8 : decode cX0_checkBallot 8 = .ok (.new 211, 3) := by decide +kernel
theorem dX0_checkBallot_11 : decode cX0_checkBallot 11 = .ok (.dup, 1) := by decide +kernel
theorem dX0_checkBallot_12 : decode cX0_checkBallot 12 = .ok (.ldc 222, 2) := by decide +kernel
theorem dX0_checkBallot_14 : decode cX0_checkBallot 14 = .ok (.invokespecial 215, 3) := by decide +kernel
theorem dX0_checkBallot_17 : decode cX0_checkBallot 17 = .ok (.athrow, 1) := by decide +kernel
theorem dX0_checkBallot_18 : decode cX0_checkBallot 18 = .ok (.return_, 1) := by decide +kernel
theorem dX0_checkAddress_0 : decode cX0_checkAddress 0 = .ok (.iload_n 0, 1) := by decide +kernel
theorem dX0_checkAddress_1 : decode cX0_checkAddress 1 = .ok (.ifCond .lt 9, 3) := by decide +kernel
theorem dX0_checkAddress_4 : decode cX0_checkAddress 4 = .ok (.iload_n 0, 1) := by decide +kernel
theorem dX0_checkAddress_5 : decode cX0_checkAddress 5 = .ok (.bipush 40, 2) := by decide +kernel
theorem dX0_checkAddress_7 : decode cX0_checkAddress 7 = .ok (.if_icmp .lt 13, 3) := by decide +kernel
theorem dX0_checkAddress_10 : decode cX0_checkAddress 10 = .ok (.new 224, 3) := by decide +kernel
theorem dX0_checkAddress_13 : decode cX0_checkAddress 13 = .ok (.dup, 1) := by decide +kernel
theorem dX0_checkAddress_14 : decode cX0_checkAddress 14 = .ok (.ldc 226, 2) := by decide +kernel
theorem dX0_checkAddress_16 : decode cX0_checkAddress 16 = .ok (.invokespecial 228, 3) := by decide +kernel
theorem dX0_checkAddress_19 : decode cX0_checkAddress 19 = .ok (.athrow, 1) := by decide +kernel
theorem dX0_checkAddress_20 : decode cX0_checkAddress 20 = .ok (.return_, 1) := by decide +kernel
theorem dX0_checkChoice_0 : decode cX0_checkChoice 0 = .ok (.iload_n 0, 1) := by decide +kernel
theorem dX0_checkChoice_1 : decode cX0_checkChoice 1 = .ok (.ifCond .lt 8, 3) := by decide +kernel
theorem dX0_checkChoice_4 : decode cX0_checkChoice 4 = .ok (.iload_n 0, 1) := by decide +kernel
theorem dX0_checkChoice_5 : decode cX0_checkChoice 5 = .ok (.iconst 3, 1) := by decide +kernel
theorem dX0_checkChoice_6 : decode cX0_checkChoice 6 = .ok (.if_icmp .lt 13, 3) := by decide +kernel
theorem dX0_checkChoice_9 : decode cX0_checkChoice 9 = .ok (.new 224, 3) := by decide +kernel
theorem dX0_checkChoice_12 : decode cX0_checkChoice 12 = .ok (.dup, 1) := by decide +kernel
theorem dX0_checkChoice_13 : decode cX0_checkChoice 13 = .ok (.ldc 229, 2) := by decide +kernel
theorem dX0_checkChoice_15 : decode cX0_checkChoice 15 = .ok (.invokespecial 228, 3) := by decide +kernel
theorem dX0_checkChoice_18 : decode cX0_checkChoice 18 = .ok (.athrow, 1) := by decide +kernel
theorem dX0_checkChoice_19 : decode cX0_checkChoice 19 = .ok (.return_, 1) := by decide +kernel
set_option maxRecDepth 20000 in
theorem ggX0_checkMember_X0_isMember : GoodIn wsX0_checkMember wsX0_isMember := goodIn_r _ [7, 8, 9, 10, 6, 11, 12, 13, 14, 15, 16, 17, 18, 19, 20, 21, 22, 23, 24, 25, 26, 27, 28, 29, 30, 31, 32, 33, 34, 35, 36, 37, 38, 39, 40, 41, 42, 43, 44, 45, 46, 47, 48, 49, 50, 51, 52, 53] (by decide +kernel) (by decide +kernel)
set_option maxRecDepth 20000 in
theorem gX0_checkMember_X0_isMember : GoodIn wsX0_checkMember (wsV RX0 60 RX0 yX0_isMember wsX0_isMember) := goodIn_app (goodIn_of _ (by decide +kernel)) ggX0_checkMember_X0_isMember
theorem dX0_checkMember_0 : decode cX0_checkMember 0 = .ok (.aload_n 0, 1) := by decide +kernel
theorem dX0_checkMember_1 : decode cX0_checkMember 1 = .ok (.iload_n 1, 1) := by decide +kernel
theorem dX0_checkMember_2 : decode cX0_checkMember 2 = .ok (.invokevirtual 60, 3) := by decide +kernel
theorem dX0_checkMember_5 : decode cX0_checkMember 5 = .ok (.ifCond .ne 13, 3) := by decide +kernel
theorem dX0_checkMember_8 : decode cX0_checkMember 8 = .ok (.new 64, 3) := by decide +kernel
theorem dX0_checkMember_11 : decode cX0_checkMember 11 = .ok (.dup, 1) := by decide +kernel
theorem dX0_checkMember_12 : decode cX0_checkMember 12 = .ok (.ldc 231, 2) := by decide +kernel
theorem dX0_checkMember_14 : decode cX0_checkMember 14 = .ok (.invokespecial 68, 3) := by decide +kernel
theorem dX0_checkMember_17 : decode cX0_checkMember 17 = .ok (.athrow, 1) := by decide +kernel
theorem dX0_checkMember_18 : decode cX0_checkMember 18 = .ok (.return_, 1) := by decide +kernel
set_option maxRecDepth 20000 in
theorem ggX0_checkMoved_X0_isMoved : GoodIn wsX0_checkMoved wsX0_isMoved := goodIn_r _ [7, 8, 9, 10, 6, 11, 12, 13, 14, 15, 16, 17, 18, 19, 20, 21, 22, 23, 24, 25, 26, 27, 28, 29, 30, 31, 32, 33] (by decide +kernel) (by decide +kernel)
set_option maxRecDepth 20000 in
theorem gX0_checkMoved_X0_isMoved : GoodIn wsX0_checkMoved (wsV RX0 101 RX0 yX0_isMoved wsX0_isMoved) := goodIn_app (goodIn_of _ (by decide +kernel)) ggX0_checkMoved_X0_isMoved
theorem dX0_checkMoved_0 : decode cX0_checkMoved 0 = .ok (.aload_n 0, 1) := by decide +kernel
theorem dX0_checkMoved_1 : decode cX0_checkMoved 1 = .ok (.iload_n 1, 1) := by decide +kernel
theorem dX0_checkMoved_2 : decode cX0_checkMoved 2 = .ok (.invokevirtual 101, 3) := by decide +kernel
theorem dX0_checkMoved_5 : decode cX0_checkMoved 5 = .ok (.ifCond .ne 13, 3) := by decide +kernel
theorem dX0_checkMoved_8 : decode cX0_checkMoved 8 = .ok (.new 64, 3) := by decide +kernel
theorem dX0_checkMoved_11 : decode cX0_checkMoved 11 = .ok (.dup, 1) := by decide +kernel
theorem dX0_checkMoved_12 : decode cX0_checkMoved 12 = .ok (.ldc 233, 2) := by decide +kernel
theorem dX0_checkMoved_14 : decode cX0_checkMoved 14 = .ok (.invokespecial 68, 3) := by decide +kernel
theorem dX0_checkMoved_17 : decode cX0_checkMoved 17 = .ok (.athrow, 1) := by decide +kernel
theorem dX0_checkMoved_18 : decode cX0_checkMoved 18 = .ok (.return_, 1) := by decide +kernel
end
section
theorem dX1_init_0 : decode cX1_init 0 = .ok (.aload_n 0, 1) := by decide +kernel
theorem dX1_init_1 : decode cX1_init 1 = .ok (.invokespecial 1, 3) := by decide +kernel
theorem dX1_init_4 : decode cX1_init 4 = .ok (.aload_n 0, 1) := by decide +kernel
theorem dX1_init_5 : decode cX1_init 5 = .ok (.bipush 100, 2) := by decide +kernel
theorem dX1_init_7 : decode cX1_init 7 = .ok (.newarray .int, 2) := by decide +kernel
theorem dX1_init_9 : decode cX1_init 9 = .ok (.putfield 7, 3) := by decide +kernel
theorem dX1_init_12 : decode cX1_init 12 = .ok (.aload_n 0, 1) := by decide +kernel
theorem dX1_init_13 : decode cX1_init 13 = .ok (.iconst 1, 1) := by decide +kernel
theorem dX1_init_14 : decode cX1_init 14 = .ok (.putfield 13, 3) := by decide +kernel
theorem dX1_init_17 : decode cX1_init 17 = .ok (.aload_n 0, 1) := by decide +kernel
theorem dX1_init_18 : decode cX1_init 18 = .ok (.bipush 9, 2) := by decide +kernel
theorem dX1_init_20 : decode cX1_init 20 = .ok (.newarray .int, 2) := by decide +kernel
theorem dX1_init_22 : decode cX1_init 22 = .ok (.putfield 17, 3) := by decide +kernel
theorem dX1_init_25 : decode cX1_init 25 = .ok (.aload_n 0, 1) := by decide +kernel
theorem dX1_init_26 : decode cX1_init 26 = .ok (.bipush 9, 2) := by decide +kernel
theorem dX1_init_28 : decode cX1_init 28 = .ok (.newarray .int, 2) := by decide +kernel
theorem dX1_init_30 : decode cX1_init 30 = .ok (.putfield 20, 3) := by decide +kernel
theorem dX1_init_33 : decode cX1_init 33 = .ok (.aload_n 0, 1) := by decide +kernel
theorem dX1_init_34 : decode cX1_init 34 = .ok (.bipush 9, 2) := by decide +kernel
theorem dX1_init_36 : decode cX1_init 36 = .ok (.newarray .int, 2) := by decide +kernel
theorem dX1_init_38 : decode cX1_init 38 = .ok (.dup, 1) := by decide +kernel
theorem dX1_init_39 : decode cX1_init 39 = .ok (.iconst 0, 1) := by decide +kernel
theorem dX1_init_40 : decode cX1_init 40 = .ok (.iconst (-1), 1) := by decide +kernel
theorem dX1_init_41 : decode cX1_init 41 = .ok (.iastore, 1) := by decide +kernel
theorem dX1_init_42 : decode cX1_init 42 = .ok (.dup, 1) := by decide +kernel
theorem dX1_init_43 : decode cX1_init 43 = .ok (.iconst 1, 1) := by decide +kernel
theorem dX1_init_44 : decode cX1_init 44 = .ok (.iconst (-1), 1) := by decide +kernel
theorem dX1_init_45 : decode cX1_init 45 = .ok (.iastore, 1) := by decide +kernel
theorem dX1_init_46 : decode cX1_init 46 = .ok (.dup, 1) := by decide +kernel
theorem dX1_init_47 : decode cX1_init 47 = .ok (.iconst 2, 1) := by decide +kernel
theorem dX1_init_48 : decode cX1_init 48 = .ok (.iconst (-1), 1) := by decide +kernel
theorem dX1_init_49 : decode cX1_init 49 = .ok (.iastore, 1) := by decide +kernel
theorem dX1_init_50 : decode cX1_init 50 = .ok (.dup, 1) := by decide +kernel
theorem dX1_init_51 : decode cX1_init 51 = .ok (.iconst 3, 1) := by decide +kernel
theorem dX1_init_52 : decode cX1_init 52 = .ok (.iconst (-1), 1) := by decide +kernel
theorem dX1_init_53 : decode cX1_init 53 = .ok (.iastore, 1) := by decide +kernel
theorem dX1_init_54 : decode cX1_init 54 = .ok (.dup, 1) := by decide +kernel
theorem dX1_init_55 : decode cX1_init 55 = .ok (.iconst 4, 1) := by decide +kernel
theorem dX1_init_56 : decode cX1_init 56 = .ok (.iconst (-1), 1) := by decide +kernel
theorem dX1_init_57 : decode cX1_init 57 = .ok (.iastore, 1) := by decide +kernel
theorem dX1_init_58 : decode cX1_init 58 = .ok (.dup, 1) := by decide +kernel
theorem dX1_init_59 : decode cX1_init 59 = .ok (.iconst 5, 1) := by decide +kernel
theorem dX1_init_60 : decode cX1_init 60 = .ok (.iconst (-1), 1) := by decide +kernel
theorem dX1_init_61 : decode cX1_init 61 = .ok (.iastore, 1) := by decide +kernel
theorem dX1_init_62 : decode cX1_init 62 = .ok (.dup, 1) := by decide +kernel
theorem dX1_init_63 : decode cX1_init 63 = .ok (.bipush 6, 2) := by decide +kernel
theorem dX1_init_65 : decode cX1_init 65 = .ok (.iconst (-1), 1) := by decide +kernel
theorem dX1_init_66 : decode cX1_init 66 = .ok (.iastore, 1) := by decide +kernel
theorem dX1_init_67 : decode cX1_init 67 = .ok (.dup, 1) := by decide +kernel
theorem dX1_init_68 : decode cX1_init 68 = .ok (.bipush 7, 2) := by decide +kernel
theorem dX1_init_70 : decode cX1_init 70 = .ok (.iconst (-1), 1) := by decide +kernel
theorem dX1_init_71 : decode cX1_init 71 = .ok (.iastore, 1) := by decide +kernel
theorem dX1_init_72 : decode cX1_init 72 = .ok (.dup, 1) := by decide +kernel
theorem dX1_init_73 : decode cX1_init 73 = .ok (.bipush 8, 2) := by decide +kernel
theorem dX1_init_75 : decode cX1_init 75 = .ok (.iconst (-1), 1) := by decide +kernel
theorem dX1_init_76 : decode cX1_init 76 = .ok (.iastore, 1) := by decide +kernel
theorem dX1_init_77 : decode cX1_init 77 = .ok (.putfield 23, 3) := by decide +kernel
theorem dX1_init_80 : decode cX1_init 80 = .ok (.aload_n 0, 1) := by decide +kernel
theorem dX1_init_81 : decode cX1_init 81 = .ok (.bipush 100, 2) := by decide +kernel
theorem dX1_init_83 : decode cX1_init 83 = .ok (.newarray .boolean, 2) := by decide +kernel
theorem dX1_init_85 : decode cX1_init 85 = .ok (.putfield 26, 3) := by decide +kernel
theorem dX1_init_88 : decode cX1_init 88 = .ok (.aload_n 0, 1) := by decide +kernel
theorem dX1_init_89 : decode cX1_init 89 = .ok (.bipush 100, 2) := by decide +kernel
theorem dX1_init_91 : decode cX1_init 91 = .ok (.newarray .int, 2) := by decide +kernel
theorem dX1_init_93 : decode cX1_init 93 = .ok (.putfield 30, 3) := by decide +kernel
theorem dX1_init_96 : decode cX1_init 96 = .ok (.aload_n 0, 1) := by decide +kernel
theorem dX1_init_97 : decode cX1_init 97 = .ok (.bipush 100, 2) := by decide +kernel
theorem dX1_init_99 : decode cX1_init 99 = .ok (.newarray .int, 2) := by decide +kernel
theorem dX1_init_101 : decode cX1_init 101 = .ok (.putfield 33, 3) := by decide +kernel
theorem dX1_init_104 : decode cX1_init 104 = .ok (.aload_n 0, 1) := by decide +kernel
theorem dX1_init_105 : decode cX1_init 105 = .ok (.bipush 60, 2) := by decide +kernel
theorem dX1_init_107 : decode cX1_init 107 = .ok (.newarray .int, 2) := by decide +kernel
theorem dX1_init_109 : decode cX1_init 109 = .ok (.putfield 36, 3) := by decide +kernel
theorem dX1_init_112 : decode cX1_init 112 = .ok (.aload_n 0, 1) := by decide +kernel
theorem dX1_init_113 : decode cX1_init 113 = .ok (.bipush 60, 2) := by decide +kernel
theorem dX1_init_115 : decode cX1_init 115 = .ok (.newarray .int, 2) := by decide +kernel
theorem dX1_init_117 : decode cX1_init 117 = .ok (.putfield 39, 3) := by decide +kernel
theorem dX1_init_120 : decode cX1_init 120 = .ok (.aload_n 0, 1) := by decide +kernel
theorem dX1_init_121 : decode cX1_init 121 = .ok (.bipush 60, 2) := by decide +kernel
theorem dX1_init_123 : decode cX1_init 123 = .ok (.newarray .int, 2) := by decide +kernel
theorem dX1_init_125 : decode cX1_init 125 = .ok (.putfield 42, 3) := by decide +kernel
theorem dX1_init_128 : decode cX1_init 128 = .ok (.aload_n 0, 1) := by decide +kernel
theorem dX1_init_129 : decode cX1_init 129 = .ok (.bipush 60, 2) := by decide +kernel
theorem dX1_init_131 : decode cX1_init 131 = .ok (.newarray .int, 2) := by decide +kernel
theorem dX1_init_133 : decode cX1_init 133 = .ok (.putfield 45, 3) := by decide +kernel
theorem dX1_init_136 : decode cX1_init 136 = .ok (.aload_n 0, 1) := by decide +kernel
theorem dX1_init_137 : decode cX1_init 137 = .ok (.bipush 12, 2) := by decide +kernel
theorem dX1_init_139 : decode cX1_init 139 = .ok (.newarray .int, 2) := by decide +kernel
theorem dX1_init_141 : decode cX1_init 141 = .ok (.putfield 48, 3) := by decide +kernel
theorem dX1_init_144 : decode cX1_init 144 = .ok (.return_, 1) := by decide +kernel
theorem dX1_thrown_0 : decode cX1_thrown 0 = .ok (.aload_n 0, 1) := by decide +kernel
theorem dX1_thrown_1 : decode cX1_thrown 1 = .ok (.getfield 51, 3) := by decide +kernel
theorem dX1_thrown_4 : decode cX1_thrown 4 = .ok (.ireturn, 1) := by decide +kernel
theorem dX1_in_0 : decode cX1_in 0 = .ok (.iload_n 0, 1) := by decide +kernel
theorem dX1_in_1 : decode cX1_in 1 = .ok (.iload_n 1, 1) := by decide +kernel
theorem dX1_in_2 : decode cX1_in 2 = .ok (.if_icmp .lt 12, 3) := by decide +kernel
theorem dX1_in_5 : decode cX1_in 5 = .ok (.iload_n 0, 1) := by decide +kernel
theorem dX1_in_6 : decode cX1_in 6 = .ok (.iload_n 2, 1) := by decide +kernel
theorem dX1_in_7 : decode cX1_in 7 = .ok (.if_icmp .gt 7, 3) := by decide +kernel
theorem dX1_in_10 : decode cX1_in 10 = .ok (.iconst 1, 1) := by decide +kernel
theorem dX1_in_11 : decode cX1_in 11 = .ok (.goto 4, 3) := by decide +kernel
theorem dX1_in_14 : decode cX1_in 14 = .ok (.iconst 0, 1) := by decide +kernel
theorem dX1_in_15 : decode cX1_in 15 = .ok (.ireturn, 1) := by decide +kernel
set_option maxRecDepth 20000 in
theorem ggX1_isKey_X1_in : GoodIn wsX1_isKey wsX1_in := goodIn_r _ [4] (by decide +kernel) (by decide +kernel)
set_option maxRecDepth 20000 in
theorem gX1_isKey_X1_in : GoodIn wsX1_isKey (va_wsS RX1 54 yX1_in wsX1_in) := goodIn_app (goodIn_of _ (by decide +kernel)) ggX1_isKey_X1_in
theorem dX1_isKey_0 : decode cX1_isKey 0 = .ok (.iload_n 0, 1) := by decide +kernel
theorem dX1_isKey_1 : decode cX1_isKey 1 = .ok (.iconst 0, 1) := by decide +kernel
theorem dX1_isKey_2 : decode cX1_isKey 2 = .ok (.bipush 99, 2) := by decide +kernel
theorem dX1_isKey_4 : decode cX1_isKey 4 = .ok (.invokestatic 54, 3) := by decide +kernel
theorem dX1_isKey_7 : decode cX1_isKey 7 = .ok (.ireturn, 1) := by decide +kernel
set_option maxRecDepth 20000 in
theorem ggX1_isRange_X1_in : GoodIn wsX1_isRange wsX1_in := goodIn_r _ [5] (by decide +kernel) (by decide +kernel)
set_option maxRecDepth 20000 in
theorem gX1_isRange_X1_in : GoodIn wsX1_isRange (va_wsS RX1 54 yX1_in wsX1_in) := goodIn_app (goodIn_of _ (by decide +kernel)) ggX1_isRange_X1_in
theorem dX1_isRange_0 : decode cX1_isRange 0 = .ok (.iload_n 1, 1) := by decide +kernel
theorem dX1_isRange_1 : decode cX1_isRange 1 = .ok (.iconst 0, 1) := by decide +kernel
theorem dX1_isRange_2 : decode cX1_isRange 2 = .ok (.aload_n 0, 1) := by decide +kernel
theorem dX1_isRange_3 : decode cX1_isRange 3 = .ok (.getfield 13, 3) := by decide +kernel
theorem dX1_isRange_6 : decode cX1_isRange 6 = .ok (.iconst 1, 1) := by decide +kernel
theorem dX1_isRange_7 : decode cX1_isRange 7 = .ok (.isub, 1) := by decide +kernel
theorem dX1_isRange_8 : decode cX1_isRange 8 = .ok (.invokestatic 54, 3) := by decide +kernel
theorem dX1_isRange_11 : decode cX1_isRange 11 = .ok (.ireturn, 1) := by decide +kernel
set_option maxRecDepth 20000 in
theorem ggX1_isShard_X1_in : GoodIn wsX1_isShard wsX1_in := goodIn_r _ [4] (by decide +kernel) (by decide +kernel)
set_option maxRecDepth 20000 in
theorem gX1_isShard_X1_in : GoodIn wsX1_isShard (va_wsS RX1 54 yX1_in wsX1_in) := goodIn_app (goodIn_of _ (by decide +kernel)) ggX1_isShard_X1_in
theorem dX1_isShard_0 : decode cX1_isShard 0 = .ok (.iload_n 0, 1) := by decide +kernel
theorem dX1_isShard_1 : decode cX1_isShard 1 = .ok (.iconst 0, 1) := by decide +kernel
theorem dX1_isShard_2 : decode cX1_isShard 2 = .ok (.iconst 3, 1) := by decide +kernel
theorem dX1_isShard_3 : decode cX1_isShard 3 = .ok (.invokestatic 54, 3) := by decide +kernel
theorem dX1_isShard_6 : decode cX1_isShard 6 = .ok (.ireturn, 1) := by decide +kernel
theorem dX1_isThere_0 : decode cX1_isThere 0 = .ok (.aload_n 0, 1) := by decide +kernel
theorem dX1_isThere_1 : decode cX1_isThere 1 = .ok (.getfield 7, 3) := by decide +kernel
theorem dX1_isThere_4 : decode cX1_isThere 4 = .ok (.iload_n 1, 1) := by decide +kernel
theorem dX1_isThere_5 : decode cX1_isThere 5 = .ok (.iaload, 1) := by decide +kernel
theorem dX1_isThere_6 : decode cX1_isThere 6 = .ok (.ifCond .le 7, 3) := by decide +kernel
theorem dX1_isThere_9 : decode cX1_isThere 9 = .ok (.iconst 1, 1) := by decide +kernel
theorem dX1_isThere_10 : decode cX1_isThere 10 = .ok (.goto 4, 3) := by decide +kernel
theorem dX1_isThere_13 : decode cX1_isThere 13 = .ok (.iconst 0, 1) := by decide +kernel
theorem dX1_isThere_14 : decode cX1_isThere 14 = .ok (.ireturn, 1) := by decide +kernel
set_option maxRecDepth 20000 in
theorem ggX1_join_X1_isKey : GoodIn wsX1_join wsX1_isKey := goodIn_r _ [8, 9, 10, 7, 11] (by decide +kernel) (by decide +kernel)
set_option maxRecDepth 20000 in
theorem gX1_join_X1_isKey : GoodIn wsX1_join (va_wsS RX1 58 yX1_isKey wsX1_isKey) := goodIn_app (goodIn_of _ (by decide +kernel)) ggX1_join_X1_isKey
set_option maxRecDepth 20000 in
theorem ggX1_join_X1_in : GoodIn wsX1_join wsX1_in := goodIn_r _ [11] (by decide +kernel) (by decide +kernel)
set_option maxRecDepth 20000 in
theorem gX1_join_X1_in : GoodIn wsX1_join (va_wsS RX1 54 yX1_in wsX1_in) := goodIn_app (goodIn_of _ (by decide +kernel)) ggX1_join_X1_in
set_option maxRecDepth 20000 in
theorem ggX1_join_X1_isThere : GoodIn wsX1_join wsX1_isThere := goodIn_r _ [15, 3, 16, 17, 18, 19, 20, 21, 22, 23, 24, 25, 26, 27, 28, 29, 30, 31, 32, 33] (by decide +kernel) (by decide +kernel)
set_option maxRecDepth 20000 in
theorem gX1_join_X1_isThere : GoodIn wsX1_join (wsV RX1 62 RX1 yX1_isThere wsX1_isThere) := goodIn_app (goodIn_of _ (by decide +kernel)) ggX1_join_X1_isThere
theorem dX1_join_0 : decode cX1_join 0 = .ok (.aload_n 0, 1) := by decide +kernel
theorem dX1_join_1 : decode cX1_join 1 = .ok (.iload_n 1, 1) := by decide +kernel
theorem dX1_join_2 : decode cX1_join 2 = .ok (.invokestatic 58, 3) := by decide +kernel
theorem dX1_join_5 : decode cX1_join 5 = .ok (.ifCond .ne 7, 3) := by decide +kernel
theorem dX1_join_8 : decode cX1_join 8 = .ok (.iconst 1, 1) := by decide +kernel
theorem dX1_join_9 : decode cX1_join 9 = .ok (.goto 39, 3) := by decide +kernel
theorem dX1_join_12 : decode cX1_join 12 = .ok (.iload_n 2, 1) := by decide +kernel
theorem dX1_join_13 : decode cX1_join 13 = .ok (.iconst 0, 1) := by decide +kernel
theorem dX1_join_14 : decode cX1_join 14 = .ok (.bipush 39, 2) := by decide +kernel
theorem dX1_join_16 : decode cX1_join 16 = .ok (.invokestatic 54, 3) := by decide +kernel
theorem dX1_join_19 : decode cX1_join 19 = .ok (.ifCond .ne 7, 3) := by decide +kernel
theorem dX1_join_22 : decode cX1_join 22 = .ok (.iconst 2, 1) := by decide +kernel
theorem dX1_join_23 : decode cX1_join 23 = .ok (.goto 25, 3) := by decide +kernel
theorem dX1_join_26 : decode cX1_join 26 = .ok (.aload_n 0, 1) := by decide +kernel
theorem dX1_join_27 : decode cX1_join 27 = .ok (.iload_n 1, 1) := by decide +kernel
theorem dX1_join_28 : decode cX1_join 28 = .ok (.invokevirtual 62, 3) := by decide +kernel
theorem dX1_join_31 : decode cX1_join 31 = .ok (.ifCond .ne 12, 3) := by decide +kernel
theorem dX1_join_34 : decode cX1_join 34 = .ok (.aload_n 0, 1) := by decide +kernel
theorem dX1_join_35 : decode cX1_join 35 = .ok (.getfield 65, 3) := by decide +kernel
theorem dX1_join_38 : decode cX1_join 38 = .ok (.bipush 40, 2) := by decide +kernel
theorem dX1_join_40 : decode cX1_join 40 = .ok (.if_icmp .ne 7, 3) := by decide +kernel
theorem dX1_join_43 : decode cX1_join 43 = .ok (.iconst 3, 1) := by decide +kernel
theorem dX1_join_44 : decode cX1_join 44 = .ok (.goto 4, 3) := by decide +kernel
theorem dX1_join_47 : decode cX1_join 47 = .ok (.iconst 0, 1) := by decide +kernel
theorem dX1_join_48 : decode cX1_join 48 = .ok (.putfield 51, 3) := by decide +kernel
theorem dX1_join_51 : decode cX1_join 51 = .ok (.aload_n 0, 1) := by decide +kernel
theorem dX1_join_52 : decode cX1_join 52 = .ok (.getfield 51, 3) := by decide +kernel
theorem dX1_join_55 : decode cX1_join 55 = .ok (.ifCond .le 5, 3) := by decide +kernel
theorem dX1_join_58 : decode cX1_join 58 = .ok (.iconst 0, 1) := by decide +kernel
theorem dX1_join_59 : decode cX1_join 59 = .ok (.ireturn, 1) := by decide +kernel
theorem dX1_join_60 : decode cX1_join 60 = .ok (.aload_n 0, 1) := by decide +kernel
theorem dX1_join_61 : decode cX1_join 61 = .ok (.getfield 7, 3) := by decide +kernel
theorem dX1_join_64 : decode cX1_join 64 = .ok (.iload_n 1, 1) := by decide +kernel
theorem dX1_join_65 : decode cX1_join 65 = .ok (.iload_n 2, 1) := by decide +kernel
theorem dX1_join_66 : decode cX1_join 66 = .ok (.iconst 1, 1) := by decide +kernel
theorem dX1_join_67 : decode cX1_join 67 = .ok (.iadd, 1) := by decide +kernel
theorem dX1_join_68 : decode cX1_join 68 = .ok (.iastore, 1) := by decide +kernel
theorem dX1_join_69 : decode cX1_join 69 = .ok (.aload_n 0, 1) := by decide +kernel
theorem dX1_join_70 : decode cX1_join 70 = .ok (.getfield 26, 3) := by decide +kernel
theorem dX1_join_73 : decode cX1_join 73 = .ok (.iload_n 1, 1) := by decide +kernel
theorem dX1_join_74 : decode cX1_join 74 = .ok (.iconst 1, 1) := by decide +kernel
theorem dX1_join_75 : decode cX1_join 75 = .ok (.bastore, 1) := by decide +kernel
theorem dX1_join_76 : decode cX1_join 76 = .ok (.aload_n 0, 1) := by decide +kernel
theorem dX1_join_77 : decode cX1_join 77 = .ok (.dup, 1) := by decide +kernel
theorem dX1_join_78 : decode cX1_join 78 = .ok (.getfield 65, 3) := by decide +kernel
theorem dX1_join_81 : decode cX1_join 81 = .ok (.iconst 1, 1) := by decide +kernel
theorem dX1_join_82 : decode cX1_join 82 = .ok (.iadd, 1) := by decide +kernel
theorem dX1_join_83 : decode cX1_join 83 = .ok (.putfield 65, 3) := by decide +kernel
theorem dX1_join_86 : decode cX1_join 86 = .ok (.aload_n 0, 1) := by decide +kernel
theorem dX1_join_87 : decode cX1_join 87 = .ok (.getfield 65, 3) := by decide +kernel
theorem dX1_join_90 : decode cX1_join 90 = .ok (.ireturn, 1) := by decide +kernel
set_option maxRecDepth 20000 in
theorem ggX1_change_X1_isKey : GoodIn wsX1_change wsX1_isKey := goodIn_r _ [7, 8, 9, 6, 10] (by decide +kernel) (by decide +kernel)
set_option maxRecDepth 20000 in
theorem gX1_change_X1_isKey : GoodIn wsX1_change (va_wsS RX1 58 yX1_isKey wsX1_isKey) := goodIn_app (goodIn_of _ (by decide +kernel)) ggX1_change_X1_isKey
set_option maxRecDepth 20000 in
theorem ggX1_change_X1_in : GoodIn wsX1_change wsX1_in := goodIn_r _ [10] (by decide +kernel) (by decide +kernel)
set_option maxRecDepth 20000 in
theorem gX1_change_X1_in : GoodIn wsX1_change (va_wsS RX1 54 yX1_in wsX1_in) := goodIn_app (goodIn_of _ (by decide +kernel)) ggX1_change_X1_in
set_option maxRecDepth 20000 in
theorem ggX1_change_X1_isThere : GoodIn wsX1_change wsX1_isThere := goodIn_r _ [14, 2, 15, 16, 17, 18, 19, 20, 21, 22, 23, 24, 25, 26, 27, 28, 29, 30, 31, 32] (by decide +kernel) (by decide +kernel)
set_option maxRecDepth 20000 in
theorem gX1_change_X1_isThere : GoodIn wsX1_change (wsV RX1 62 RX1 yX1_isThere wsX1_isThere) := goodIn_app (goodIn_of _ (by decide +kernel)) ggX1_change_X1_isThere
theorem dX1_change_0 : decode cX1_change 0 = .ok (.aload_n 0, 1) := by decide +kernel
theorem dX1_change_1 : decode cX1_change 1 = .ok (.iload_n 1, 1) := by decide +kernel
theorem dX1_change_2 : decode cX1_change 2 = .ok (.invokestatic 58, 3) := by decide +kernel
theorem dX1_change_5 : decode cX1_change 5 = .ok (.ifCond .ne 7, 3) := by decide +kernel
theorem dX1_change_8 : decode cX1_change 8 = .ok (.iconst 1, 1) := by decide +kernel
theorem dX1_change_9 : decode cX1_change 9 = .ok (.goto 30, 3) := by decide +kernel
theorem dX1_change_12 : decode cX1_change 12 = .ok (.iload_n 2, 1) := by decide +kernel
theorem dX1_change_13 : decode cX1_change 13 = .ok (.iconst 0, 1) := by decide +kernel
theorem dX1_change_14 : decode cX1_change 14 = .ok (.bipush 39, 2) := by decide +kernel
theorem dX1_change_16 : decode cX1_change 16 = .ok (.invokestatic 54, 3) := by decide +kernel
theorem dX1_change_19 : decode cX1_change 19 = .ok (.ifCond .ne 7, 3) := by decide +kernel
theorem dX1_change_22 : decode cX1_change 22 = .ok (.iconst 2, 1) := by decide +kernel
theorem dX1_change_23 : decode cX1_change 23 = .ok (.goto 16, 3) := by decide +kernel
theorem dX1_change_26 : decode cX1_change 26 = .ok (.aload_n 0, 1) := by decide +kernel
theorem dX1_change_27 : decode cX1_change 27 = .ok (.iload_n 1, 1) := by decide +kernel
theorem dX1_change_28 : decode cX1_change 28 = .ok (.invokevirtual 62, 3) := by decide +kernel
theorem dX1_change_31 : decode cX1_change 31 = .ok (.ifCond .eq 7, 3) := by decide +kernel
theorem dX1_change_34 : decode cX1_change 34 = .ok (.iconst 0, 1) := by decide +kernel
theorem dX1_change_35 : decode cX1_change 35 = .ok (.goto 4, 3) := by decide +kernel
theorem dX1_change_38 : decode cX1_change 38 = .ok (.iconst 3, 1) := by decide +kernel
theorem dX1_change_39 : decode cX1_change 39 = .ok (.putfield 51, 3) := by decide +kernel
theorem dX1_change_42 : decode cX1_change 42 = .ok (.aload_n 0, 1) := by decide +kernel
theorem dX1_change_43 : decode cX1_change 43 = .ok (.getfield 51, 3) := by decide +kernel
theorem dX1_change_46 : decode cX1_change 46 = .ok (.ifCond .le 5, 3) := by decide +kernel
theorem dX1_change_49 : decode cX1_change 49 = .ok (.iconst 0, 1) := by decide +kernel
theorem dX1_change_50 : decode cX1_change 50 = .ok (.ireturn, 1) := by decide +kernel
theorem dX1_change_51 : decode cX1_change 51 = .ok (.aload_n 0, 1) := by decide +kernel
theorem dX1_change_52 : decode cX1_change 52 = .ok (.getfield 7, 3) := by decide +kernel
theorem dX1_change_55 : decode cX1_change 55 = .ok (.iload_n 1, 1) := by decide +kernel
theorem dX1_change_56 : decode cX1_change 56 = .ok (.iaload, 1) := by decide +kernel
theorem dX1_change_57 : decode cX1_change 57 = .ok (.iconst 1, 1) := by decide +kernel
theorem dX1_change_58 : decode cX1_change 58 = .ok (.isub, 1) := by decide +kernel
theorem dX1_change_59 : decode cX1_change 59 = .ok (.istore_n 3, 1) := by decide +kernel
theorem dX1_change_60 : decode cX1_change 60 = .ok (.aload_n 0, 1) := by decide +kernel
theorem dX1_change_61 : decode cX1_change 61 = .ok (.getfield 7, 3) := by decide +kernel
theorem dX1_change_64 : decode cX1_change 64 = .ok (.iload_n 1, 1) := by decide +kernel
theorem dX1_change_65 : decode cX1_change 65 = .ok (.iload_n 2, 1) := by decide +kernel
theorem dX1_change_66 : decode cX1_change 66 = .ok (.iconst 1, 1) := by decide +kernel
theorem dX1_change_67 : decode cX1_change 67 = .ok (.iadd, 1) := by decide +kernel
theorem dX1_change_68 : decode cX1_change 68 = .ok (.iastore, 1) := by decide +kernel
theorem dX1_change_69 : decode cX1_change 69 = .ok (.aload_n 0, 1) := by decide +kernel
theorem dX1_change_70 : decode cX1_change 70 = .ok (.getfield 26, 3) := by decide +kernel
theorem dX1_change_73 : decode cX1_change 73 = .ok (.iload_n 1, 1) := by decide +kernel
theorem dX1_change_74 : decode cX1_change 74 = .ok (.iconst 1, 1) := by decide +kernel
theorem dX1_change_75 : decode cX1_change 75 = .ok (.bastore, 1) := by decide +kernel
theorem dX1_change_76 : decode cX1_change 76 = .ok (.iload_n 3, 1) := by decide +kernel
theorem dX1_change_77 : decode cX1_change 77 = .ok (.ireturn, 1) := by decide +kernel
set_option maxRecDepth 20000 in
theorem ggX1_leave_X1_isKey : GoodIn wsX1_leave wsX1_isKey := goodIn_r _ [7, 8, 9, 6, 10] (by decide +kernel) (by decide +kernel)
set_option maxRecDepth 20000 in
theorem gX1_leave_X1_isKey : GoodIn wsX1_leave (va_wsS RX1 58 yX1_isKey wsX1_isKey) := goodIn_app (goodIn_of _ (by decide +kernel)) ggX1_leave_X1_isKey
set_option maxRecDepth 20000 in
theorem ggX1_leave_X1_isThere : GoodIn wsX1_leave wsX1_isThere := goodIn_r _ [14, 2, 15, 16, 17, 18, 19, 20, 21, 22, 23, 24, 25, 26, 27, 28, 29, 30, 31, 32] (by decide +kernel) (by decide +kernel)
set_option maxRecDepth 20000 in
theorem gX1_leave_X1_isThere : GoodIn wsX1_leave (wsV RX1 62 RX1 yX1_isThere wsX1_isThere) := goodIn_app (goodIn_of _ (by decide +kernel)) ggX1_leave_X1_isThere
theorem dX1_leave_0 : decode cX1_leave 0 = .ok (.aload_n 0, 1) := by decide +kernel
theorem dX1_leave_1 : decode cX1_leave 1 = .ok (.iload_n 1, 1) := by decide +kernel
theorem dX1_leave_2 : decode cX1_leave 2 = .ok (.invokestatic 58, 3) := by decide +kernel
theorem dX1_leave_5 : decode cX1_leave 5 = .ok (.ifCond .ne 7, 3) := by decide +kernel
theorem dX1_leave_8 : decode cX1_leave 8 = .ok (.iconst 1, 1) := by decide +kernel
theorem dX1_leave_9 : decode cX1_leave 9 = .ok (.goto 16, 3) := by decide +kernel
theorem dX1_leave_12 : decode cX1_leave 12 = .ok (.aload_n 0, 1) := by decide +kernel
theorem dX1_leave_13 : decode cX1_leave 13 = .ok (.iload_n 1, 1) := by decide +kernel
theorem dX1_leave_14 : decode cX1_leave 14 = .ok (.invokevirtual 62, 3) := by decide +kernel
theorem dX1_leave_17 : decode cX1_leave 17 = .ok (.ifCond .eq 7, 3) := by decide +kernel
theorem dX1_leave_20 : decode cX1_leave 20 = .ok (.iconst 0, 1) := by decide +kernel
theorem dX1_leave_21 : decode cX1_leave 21 = .ok (.goto 4, 3) := by decide +kernel
theorem dX1_leave_24 : decode cX1_leave 24 = .ok (.iconst 2, 1) := by decide +kernel
theorem dX1_leave_25 : decode cX1_leave 25 = .ok (.putfield 51, 3) := by decide +kernel
theorem dX1_leave_28 : decode cX1_leave 28 = .ok (.aload_n 0, 1) := by decide +kernel
theorem dX1_leave_29 : decode cX1_leave 29 = .ok (.getfield 51, 3) := by decide +kernel
theorem dX1_leave_32 : decode cX1_leave 32 = .ok (.ifCond .le 5, 3) := by decide +kernel
theorem dX1_leave_35 : decode cX1_leave 35 = .ok (.iconst 0, 1) := by decide +kernel
theorem dX1_leave_36 : decode cX1_leave 36 = .ok (.ireturn, 1) := by decide +kernel
theorem dX1_leave_37 : decode cX1_leave 37 = .ok (.aload_n 0, 1) := by decide +kernel
theorem dX1_leave_38 : decode cX1_leave 38 = .ok (.getfield 7, 3) := by decide +kernel
theorem dX1_leave_41 : decode cX1_leave 41 = .ok (.iload_n 1, 1) := by decide +kernel
theorem dX1_leave_42 : decode cX1_leave 42 = .ok (.iaload, 1) := by decide +kernel
theorem dX1_leave_43 : decode cX1_leave 43 = .ok (.iconst 1, 1) := by decide +kernel
theorem dX1_leave_44 : decode cX1_leave 44 = .ok (.isub, 1) := by decide +kernel
theorem dX1_leave_45 : decode cX1_leave 45 = .ok (.istore_n 2, 1) := by decide +kernel
theorem dX1_leave_46 : decode cX1_leave 46 = .ok (.aload_n 0, 1) := by decide +kernel
theorem dX1_leave_47 : decode cX1_leave 47 = .ok (.getfield 7, 3) := by decide +kernel
theorem dX1_leave_50 : decode cX1_leave 50 = .ok (.iload_n 1, 1) := by decide +kernel
theorem dX1_leave_51 : decode cX1_leave 51 = .ok (.iconst 0, 1) := by decide +kernel
theorem dX1_leave_52 : decode cX1_leave 52 = .ok (.iastore, 1) := by decide +kernel
theorem dX1_leave_53 : decode cX1_leave 53 = .ok (.aload_n 0, 1) := by decide +kernel
theorem dX1_leave_54 : decode cX1_leave 54 = .ok (.dup, 1) := by decide +kernel
theorem dX1_leave_55 : decode cX1_leave 55 = .ok (.getfield 65, 3) := by decide +kernel
theorem dX1_leave_58 : decode cX1_leave 58 = .ok (.iconst 1, 1) := by decide +kernel
theorem dX1_leave_59 : decode cX1_leave 59 = .ok (.isub, 1) := by decide +kernel
theorem dX1_leave_60 : decode cX1_leave 60 = .ok (.putfield 65, 3) := by decide +kernel
theorem dX1_leave_63 : decode cX1_leave 63 = .ok (.iload_n 2, 1) := by decide +kernel
theorem dX1_leave_64 : decode cX1_leave 64 = .ok (.ireturn, 1) := by decide +kernel
set_option maxRecDepth 20000 in
theorem ggX1_asksKey_X1_isKey : GoodIn wsX1_asksKey wsX1_isKey := goodIn_r _ [5, 6, 7, 4, 8] (by decide +kernel) (by decide +kernel)
set_option maxRecDepth 20000 in
theorem gX1_asksKey_X1_isKey : GoodIn wsX1_asksKey (va_wsS RX1 58 yX1_isKey wsX1_isKey) := goodIn_app (goodIn_of _ (by decide +kernel)) ggX1_asksKey_X1_isKey
theorem dX1_asksKey_0 : decode cX1_asksKey 0 = .ok (.aload_n 0, 1) := by decide +kernel
theorem dX1_asksKey_1 : decode cX1_asksKey 1 = .ok (.iload_n 1, 1) := by decide +kernel
theorem dX1_asksKey_2 : decode cX1_asksKey 2 = .ok (.invokestatic 58, 3) := by decide +kernel
theorem dX1_asksKey_5 : decode cX1_asksKey 5 = .ok (.ifCond .eq 7, 3) := by decide +kernel
theorem dX1_asksKey_8 : decode cX1_asksKey 8 = .ok (.iconst 0, 1) := by decide +kernel
theorem dX1_asksKey_9 : decode cX1_asksKey 9 = .ok (.goto 4, 3) := by decide +kernel
theorem dX1_asksKey_12 : decode cX1_asksKey 12 = .ok (.iconst 1, 1) := by decide +kernel
theorem dX1_asksKey_13 : decode cX1_asksKey 13 = .ok (.putfield 51, 3) := by decide +kernel
theorem dX1_asksKey_16 : decode cX1_asksKey 16 = .ok (.aload_n 0, 1) := by decide +kernel
theorem dX1_asksKey_17 : decode cX1_asksKey 17 = .ok (.getfield 51, 3) := by decide +kernel
theorem dX1_asksKey_20 : decode cX1_asksKey 20 = .ok (.ifCond .ne 7, 3) := by decide +kernel
theorem dX1_asksKey_23 : decode cX1_asksKey 23 = .ok (.iconst 1, 1) := by decide +kernel
theorem dX1_asksKey_24 : decode cX1_asksKey 24 = .ok (.goto 4, 3) := by decide +kernel
theorem dX1_asksKey_27 : decode cX1_asksKey 27 = .ok (.iconst 0, 1) := by decide +kernel
theorem dX1_asksKey_28 : decode cX1_asksKey 28 = .ok (.ireturn, 1) := by decide +kernel
set_option maxRecDepth 20000 in
theorem ggX1_address_X1_asksKey : GoodIn wsX1_address wsX1_asksKey := goodIn_r _ [6, 7, 8, 9, 5, 10, 11, 12, 13, 14, 15, 16, 17, 18, 19, 20, 21, 22, 23, 24, 25, 26, 27, 28, 29, 30, 31] (by decide +kernel) (by decide +kernel)
set_option maxRecDepth 20000 in
theorem gX1_address_X1_asksKey : GoodIn wsX1_address (wsV RX1 68 RX1 yX1_asksKey wsX1_asksKey) := goodIn_app (goodIn_of _ (by decide +kernel)) ggX1_address_X1_asksKey
theorem dX1_address_0 : decode cX1_address 0 = .ok (.aload_n 0, 1) := by decide +kernel
theorem dX1_address_1 : decode cX1_address 1 = .ok (.iload_n 1, 1) := by decide +kernel
theorem dX1_address_2 : decode cX1_address 2 = .ok (.invokevirtual 68, 3) := by decide +kernel
theorem dX1_address_5 : decode cX1_address 5 = .ok (.ifCond .eq 14, 3) := by decide +kernel
theorem dX1_address_8 : decode cX1_address 8 = .ok (.aload_n 0, 1) := by decide +kernel
theorem dX1_address_9 : decode cX1_address 9 = .ok (.getfield 7, 3) := by decide +kernel
theorem dX1_address_12 : decode cX1_address 12 = .ok (.iload_n 1, 1) := by decide +kernel
theorem dX1_address_13 : decode cX1_address 13 = .ok (.iaload, 1) := by decide +kernel
theorem dX1_address_14 : decode cX1_address 14 = .ok (.iconst 1, 1) := by decide +kernel
theorem dX1_address_15 : decode cX1_address 15 = .ok (.isub, 1) := by decide +kernel
theorem dX1_address_16 : decode cX1_address 16 = .ok (.goto 4, 3) := by decide +kernel
theorem dX1_address_19 : decode cX1_address 19 = .ok (.iconst 0, 1) := by decide +kernel
theorem dX1_address_20 : decode cX1_address 20 = .ok (.ireturn, 1) := by decide +kernel
set_option maxRecDepth 20000 in
theorem ggX1_inDistrict_X1_isShard : GoodIn wsX1_inDistrict wsX1_isShard := goodIn_r _ [6, 7, 8, 5, 9] (by decide +kernel) (by decide +kernel)
set_option maxRecDepth 20000 in
theorem gX1_inDistrict_X1_isShard : GoodIn wsX1_inDistrict (va_wsS RX1 71 yX1_isShard wsX1_isShard) := goodIn_app (goodIn_of _ (by decide +kernel)) ggX1_inDistrict_X1_isShard
set_option maxRecDepth 20000 in
theorem ggX1_inDistrict_X1_isThere : GoodIn wsX1_inDistrict wsX1_isThere := goodIn_r _ [13, 2, 14, 15, 16, 17, 18, 19, 20, 21, 22, 23, 24, 25, 26, 27, 28, 29, 30, 31] (by decide +kernel) (by decide +kernel)
set_option maxRecDepth 20000 in
theorem gX1_inDistrict_X1_isThere : GoodIn wsX1_inDistrict (wsV RX1 62 RX1 yX1_isThere wsX1_isThere) := goodIn_app (goodIn_of _ (by decide +kernel)) ggX1_inDistrict_X1_isThere
theorem dX1_inDistrict_0 : decode cX1_inDistrict 0 = .ok (.aload_n 0, 1) := by decide +kernel
theorem dX1_inDistrict_1 : decode cX1_inDistrict 1 = .ok (.iload_n 1, 1) := by decide +kernel
theorem dX1_inDistrict_2 : decode cX1_inDistrict 2 = .ok (.invokestatic 71, 3) := by decide +kernel
theorem dX1_inDistrict_5 : decode cX1_inDistrict 5 = .ok (.ifCond .eq 7, 3) := by decide +kernel
theorem dX1_inDistrict_8 : decode cX1_inDistrict 8 = .ok (.iconst 0, 1) := by decide +kernel
theorem dX1_inDistrict_9 : decode cX1_inDistrict 9 = .ok (.goto 4, 3) := by decide +kernel
theorem dX1_inDistrict_12 : decode cX1_inDistrict 12 = .ok (.iconst 1, 1) := by decide +kernel
theorem dX1_inDistrict_13 : decode cX1_inDistrict 13 = .ok (.putfield 51, 3) := by decide +kernel
theorem dX1_inDistrict_16 : decode cX1_inDistrict 16 = .ok (.iconst 0, 1) := by decide +kernel
theorem dX1_inDistrict_17 : decode cX1_inDistrict 17 = .ok (.istore_n 2, 1) := by decide +kernel
theorem dX1_inDistrict_18 : decode cX1_inDistrict 18 = .ok (.iconst 0, 1) := by decide +kernel
theorem dX1_inDistrict_19 : decode cX1_inDistrict 19 = .ok (.istore_n 3, 1) := by decide +kernel
theorem dX1_inDistrict_20 : decode cX1_inDistrict 20 = .ok (.iload_n 3, 1) := by decide +kernel
theorem dX1_inDistrict_21 : decode cX1_inDistrict 21 = .ok (.bipush 100, 2) := by decide +kernel
theorem dX1_inDistrict_23 : decode cX1_inDistrict 23 = .ok (.if_icmp .ge 47, 3) := by decide +kernel
theorem dX1_inDistrict_26 : decode cX1_inDistrict 26 = .ok (.aload_n 0, 1) := by decide +kernel
theorem dX1_inDistrict_27 : decode cX1_inDistrict 27 = .ok (.getfield 51, 3) := by decide +kernel
theorem dX1_inDistrict_30 : decode cX1_inDistrict 30 = .ok (.ifCond .ne 40, 3) := by decide +kernel
theorem dX1_inDistrict_33 : decode cX1_inDistrict 33 = .ok (.iload_n 2, 1) := by decide +kernel
theorem dX1_inDistrict_34 : decode cX1_inDistrict 34 = .ok (.aload_n 0, 1) := by decide +kernel
theorem dX1_inDistrict_35 : decode cX1_inDistrict 35 = .ok (.iload_n 3, 1) := by decide +kernel
theorem dX1_inDistrict_36 : decode cX1_inDistrict 36 = .ok (.invokevirtual 62, 3) := by decide +kernel
theorem dX1_inDistrict_39 : decode cX1_inDistrict 39 = .ok (.ifCond .eq 22, 3) := by decide +kernel
theorem dX1_inDistrict_42 : decode cX1_inDistrict 42 = .ok (.aload_n 0, 1) := by decide +kernel
theorem dX1_inDistrict_43 : decode cX1_inDistrict 43 = .ok (.getfield 7, 3) := by decide +kernel
theorem dX1_inDistrict_46 : decode cX1_inDistrict 46 = .ok (.iload_n 3, 1) := by decide +kernel
theorem dX1_inDistrict_47 : decode cX1_inDistrict 47 = .ok (.iaload, 1) := by decide +kernel
theorem dX1_inDistrict_48 : decode cX1_inDistrict 48 = .ok (.iconst 1, 1) := by decide +kernel
theorem dX1_inDistrict_49 : decode cX1_inDistrict 49 = .ok (.isub, 1) := by decide +kernel
theorem dX1_inDistrict_50 : decode cX1_inDistrict 50 = .ok (.bipush 10, 2) := by decide +kernel
theorem dX1_inDistrict_52 : decode cX1_inDistrict 52 = .ok (.idiv, 1) := by decide +kernel
theorem dX1_inDistrict_53 : decode cX1_inDistrict 53 = .ok (.iload_n 1, 1) := by decide +kernel
theorem dX1_inDistrict_54 : decode cX1_inDistrict 54 = .ok (.if_icmp .ne 7, 3) := by decide +kernel
theorem dX1_inDistrict_57 : decode cX1_inDistrict 57 = .ok (.iconst 1, 1) := by decide +kernel
theorem dX1_inDistrict_58 : decode cX1_inDistrict 58 = .ok (.goto 4, 3) := by decide +kernel
theorem dX1_inDistrict_61 : decode cX1_inDistrict 61 = .ok (.iconst 0, 1) := by decide +kernel
theorem dX1_inDistrict_62 : decode cX1_inDistrict 62 = .ok (.iadd, 1) := by decide +kernel
theorem dX1_inDistrict_63 : decode cX1_inDistrict 63 = .ok (.istore_n 2, 1) := by decide +kernel
theorem dX1_inDistrict_64 : decode cX1_inDistrict 64 = .ok (.iinc 3 1, 3) := by decide +kernel
theorem dX1_inDistrict_67 : decode cX1_inDistrict 67 = .ok (.goto (-47), 3) := by decide +kernel
theorem dX1_inDistrict_70 : decode cX1_inDistrict 70 = .ok (.iload_n 2, 1) := by decide +kernel
theorem dX1_inDistrict_71 : decode cX1_inDistrict 71 = .ok (.ireturn, 1) := by decide +kernel
theorem dX1_behind_0 : decode cX1_behind 0 = .ok (.iload_n 1, 1) := by decide +kernel
theorem dX1_behind_1 : decode cX1_behind 1 = .ok (.iconst 1, 1) := by decide +kernel
theorem dX1_behind_2 : decode cX1_behind 2 = .ok (.iadd, 1) := by decide +kernel
theorem dX1_behind_3 : decode cX1_behind 3 = .ok (.aload_n 0, 1) := by decide +kernel
theorem dX1_behind_4 : decode cX1_behind 4 = .ok (.getfield 13, 3) := by decide +kernel
theorem dX1_behind_7 : decode cX1_behind 7 = .ok (.if_icmp .ne 8, 3) := by decide +kernel
theorem dX1_behind_10 : decode cX1_behind 10 = .ok (.bipush 100, 2) := by decide +kernel
theorem dX1_behind_12 : decode cX1_behind 12 = .ok (.goto 11, 3) := by decide +kernel
theorem dX1_behind_15 : decode cX1_behind 15 = .ok (.aload_n 0, 1) := by decide +kernel
theorem dX1_behind_16 : decode cX1_behind 16 = .ok (.getfield 17, 3) := by decide +kernel
theorem dX1_behind_19 : decode cX1_behind 19 = .ok (.iload_n 1, 1) := by decide +kernel
theorem dX1_behind_20 : decode cX1_behind 20 = .ok (.iconst 1, 1) := by decide +kernel
theorem dX1_behind_21 : decode cX1_behind 21 = .ok (.iadd, 1) := by decide +kernel
theorem dX1_behind_22 : decode cX1_behind 22 = .ok (.iaload, 1) := by decide +kernel
theorem dX1_behind_23 : decode cX1_behind 23 = .ok (.ireturn, 1) := by decide +kernel
theorem dX1_rangeAt_0 : decode cX1_rangeAt 0 = .ok (.iconst 0, 1) := by decide +kernel
theorem dX1_rangeAt_1 : decode cX1_rangeAt 1 = .ok (.istore_n 2, 1) := by decide +kernel
theorem dX1_rangeAt_2 : decode cX1_rangeAt 2 = .ok (.iconst 0, 1) := by decide +kernel
theorem dX1_rangeAt_3 : decode cX1_rangeAt 3 = .ok (.istore_n 3, 1) := by decide +kernel
theorem dX1_rangeAt_4 : decode cX1_rangeAt 4 = .ok (.iload_n 3, 1) := by decide +kernel
theorem dX1_rangeAt_5 : decode cX1_rangeAt 5 = .ok (.aload_n 0, 1) := by decide +kernel
theorem dX1_rangeAt_6 : decode cX1_rangeAt 6 = .ok (.getfield 13, 3) := by decide +kernel
theorem dX1_rangeAt_9 : decode cX1_rangeAt 9 = .ok (.if_icmp .ge 25, 3) := by decide +kernel
theorem dX1_rangeAt_12 : decode cX1_rangeAt 12 = .ok (.aload_n 0, 1) := by decide +kernel
theorem dX1_rangeAt_13 : decode cX1_rangeAt 13 = .ok (.getfield 17, 3) := by decide +kernel
theorem dX1_rangeAt_16 : decode cX1_rangeAt 16 = .ok (.iload_n 3, 1) := by decide +kernel
theorem dX1_rangeAt_17 : decode cX1_rangeAt 17 = .ok (.iaload, 1) := by decide +kernel
theorem dX1_rangeAt_18 : decode cX1_rangeAt 18 = .ok (.iload_n 1, 1) := by decide +kernel
theorem dX1_rangeAt_19 : decode cX1_rangeAt 19 = .ok (.if_icmp .gt 7, 3) := by decide +kernel
theorem dX1_rangeAt_22 : decode cX1_rangeAt 22 = .ok (.iload_n 3, 1) := by decide +kernel
theorem dX1_rangeAt_23 : decode cX1_rangeAt 23 = .ok (.goto 4, 3) := by decide +kernel
theorem dX1_rangeAt_26 : decode cX1_rangeAt 26 = .ok (.iload_n 2, 1) := by decide +kernel
theorem dX1_rangeAt_27 : decode cX1_rangeAt 27 = .ok (.istore_n 2, 1) := by decide +kernel
theorem dX1_rangeAt_28 : decode cX1_rangeAt 28 = .ok (.iinc 3 1, 3) := by decide +kernel
theorem dX1_rangeAt_31 : decode cX1_rangeAt 31 = .ok (.goto (-27), 3) := by decide +kernel
theorem dX1_rangeAt_34 : decode cX1_rangeAt 34 = .ok (.iload_n 2, 1) := by decide +kernel
theorem dX1_rangeAt_35 : decode cX1_rangeAt 35 = .ok (.ireturn, 1) := by decide +kernel
theorem dX1_copies_0 : decode cX1_copies 0 = .ok (.aload_n 0, 1) := by decide +kernel
theorem dX1_copies_1 : decode cX1_copies 1 = .ok (.getfield 17, 3) := by decide +kernel
theorem dX1_copies_4 : decode cX1_copies 4 = .ok (.iload_n 2, 1) := by decide +kernel
theorem dX1_copies_5 : decode cX1_copies 5 = .ok (.aload_n 0, 1) := by decide +kernel
theorem dX1_copies_6 : decode cX1_copies 6 = .ok (.getfield 17, 3) := by decide +kernel
theorem dX1_copies_9 : decode cX1_copies 9 = .ok (.iload_n 1, 1) := by decide +kernel
theorem dX1_copies_10 : decode cX1_copies 10 = .ok (.iaload, 1) := by decide +kernel
theorem dX1_copies_11 : decode cX1_copies 11 = .ok (.iastore, 1) := by decide +kernel
theorem dX1_copies_12 : decode cX1_copies 12 = .ok (.aload_n 0, 1) := by decide +kernel
theorem dX1_copies_13 : decode cX1_copies 13 = .ok (.getfield 20, 3) := by decide +kernel
theorem dX1_copies_16 : decode cX1_copies 16 = .ok (.iload_n 2, 1) := by decide +kernel
theorem dX1_copies_17 : decode cX1_copies 17 = .ok (.aload_n 0, 1) := by decide +kernel
theorem dX1_copies_18 : decode cX1_copies 18 = .ok (.getfield 20, 3) := by decide +kernel
theorem dX1_copies_21 : decode cX1_copies 21 = .ok (.iload_n 1, 1) := by decide +kernel
theorem dX1_copies_22 : decode cX1_copies 22 = .ok (.iaload, 1) := by decide +kernel
theorem dX1_copies_23 : decode cX1_copies 23 = .ok (.iastore, 1) := by decide +kernel
theorem dX1_copies_24 : decode cX1_copies 24 = .ok (.aload_n 0, 1) := by decide +kernel
theorem dX1_copies_25 : decode cX1_copies 25 = .ok (.getfield 23, 3) := by decide +kernel
theorem dX1_copies_28 : decode cX1_copies 28 = .ok (.iload_n 2, 1) := by decide +kernel
theorem dX1_copies_29 : decode cX1_copies 29 = .ok (.aload_n 0, 1) := by decide +kernel
theorem dX1_copies_30 : decode cX1_copies 30 = .ok (.getfield 23, 3) := by decide +kernel
theorem dX1_copies_33 : decode cX1_copies 33 = .ok (.iload_n 1, 1) := by decide +kernel
theorem dX1_copies_34 : decode cX1_copies 34 = .ok (.iaload, 1) := by decide +kernel
theorem dX1_copies_35 : decode cX1_copies 35 = .ok (.iastore, 1) := by decide +kernel
theorem dX1_copies_36 : decode cX1_copies 36 = .ok (.return_, 1) := by decide +kernel
set_option maxRecDepth 20000 in
theorem ggX1_split_X1_asksKey : GoodIn wsX1_split wsX1_asksKey := goodIn_r _ [10, 3, 11, 12, 9, 13, 14, 15, 16, 29, 30, 31, 32, 33, 34, 35, 36, 37, 38, 39, 40, 41, 42, 43, 44, 45, 46] (by decide +kernel) (by decide +kernel)
set_option maxRecDepth 20000 in
theorem gX1_split_X1_asksKey : GoodIn wsX1_split (wsV RX1 68 RX1 yX1_asksKey wsX1_asksKey) := goodIn_app (goodIn_of _ (by decide +kernel)) ggX1_split_X1_asksKey
set_option maxRecDepth 20000 in
theorem ggX1_split_X1_rangeAt : GoodIn wsX1_split wsX1_rangeAt := goodIn_r _ [20, 2, 4, 29, 30, 31, 32, 33, 34, 35, 36, 37, 38, 39, 40, 41, 42, 43, 44, 45, 46] (by decide +kernel) (by decide +kernel)
set_option maxRecDepth 20000 in
theorem gX1_split_X1_rangeAt : GoodIn wsX1_split (wsV RX1 74 RX1 yX1_rangeAt wsX1_rangeAt) := goodIn_app (goodIn_of _ (by decide +kernel)) ggX1_split_X1_rangeAt
set_option maxRecDepth 20000 in
theorem ggX1_split_X1_behind : GoodIn wsX1_split wsX1_behind := goodIn_r _ [24, 2, 4, 29, 30, 31, 32, 33, 34, 35, 36, 37, 38, 39, 40, 41, 42, 43, 44, 45, 46] (by decide +kernel) (by decide +kernel)
set_option maxRecDepth 20000 in
theorem gX1_split_X1_behind : GoodIn wsX1_split (wsV RX1 78 RX1 yX1_behind wsX1_behind) := goodIn_app (goodIn_of _ (by decide +kernel)) ggX1_split_X1_behind
set_option maxRecDepth 20000 in
theorem ggX1_split_X1_copies : GoodIn wsX1_split wsX1_copies := goodIn_r _ [28, 4, 5, 1, 29, 30, 31, 32, 33, 34, 35, 36, 37, 38, 39, 40, 41, 42, 43, 44, 45, 46] (by decide +kernel) (by decide +kernel)
set_option maxRecDepth 20000 in
theorem gX1_split_X1_copies : GoodIn wsX1_split (wsV RX1 81 RX1 yX1_copies wsX1_copies) := goodIn_app (goodIn_of _ (by decide +kernel)) ggX1_split_X1_copies
theorem dX1_split_0 : decode cX1_split 0 = .ok (.aload_n 0, 1) := by decide +kernel
theorem dX1_split_1 : decode cX1_split 1 = .ok (.iload_n 1, 1) := by decide +kernel
theorem dX1_split_2 : decode cX1_split 2 = .ok (.invokevirtual 68, 3) := by decide +kernel
theorem dX1_split_5 : decode cX1_split 5 = .ok (.ifCond .ne 5, 3) := by decide +kernel
theorem dX1_split_8 : decode cX1_split 8 = .ok (.iconst 0, 1) := by decide +kernel
theorem dX1_split_9 : decode cX1_split 9 = .ok (.ireturn, 1) := by decide +kernel
theorem dX1_split_10 : decode cX1_split 10 = .ok (.aload_n 0, 1) := by decide +kernel
theorem dX1_split_11 : decode cX1_split 11 = .ok (.iload_n 1, 1) := by decide +kernel
theorem dX1_split_12 : decode cX1_split 12 = .ok (.invokevirtual 74, 3) := by decide +kernel
theorem dX1_split_15 : decode cX1_split 15 = .ok (.istore_n 2, 1) := by decide +kernel
theorem dX1_split_16 : decode cX1_split 16 = .ok (.aload_n 0, 1) := by decide +kernel
theorem dX1_split_17 : decode cX1_split 17 = .ok (.iload_n 1, 1) := by decide +kernel
theorem dX1_split_18 : decode cX1_split 18 = .ok (.iconst 1, 1) := by decide +kernel
theorem dX1_split_19 : decode cX1_split 19 = .ok (.iadd, 1) := by decide +kernel
theorem dX1_split_20 : decode cX1_split 20 = .ok (.aload_n 0, 1) := by decide +kernel
theorem dX1_split_21 : decode cX1_split 21 = .ok (.iload_n 2, 1) := by decide +kernel
theorem dX1_split_22 : decode cX1_split 22 = .ok (.invokevirtual 78, 3) := by decide +kernel
theorem dX1_split_25 : decode cX1_split 25 = .ok (.if_icmp .eq 22, 3) := by decide +kernel
theorem dX1_split_28 : decode cX1_split 28 = .ok (.aload_n 0, 1) := by decide +kernel
theorem dX1_split_29 : decode cX1_split 29 = .ok (.getfield 23, 3) := by decide +kernel
theorem dX1_split_32 : decode cX1_split 32 = .ok (.iload_n 2, 1) := by decide +kernel
theorem dX1_split_33 : decode cX1_split 33 = .ok (.iaload, 1) := by decide +kernel
theorem dX1_split_34 : decode cX1_split 34 = .ok (.iconst (-1), 1) := by decide +kernel
theorem dX1_split_35 : decode cX1_split 35 = .ok (.if_icmp .ne 12, 3) := by decide +kernel
theorem dX1_split_38 : decode cX1_split 38 = .ok (.aload_n 0, 1) := by decide +kernel
theorem dX1_split_39 : decode cX1_split 39 = .ok (.getfield 13, 3) := by decide +kernel
theorem dX1_split_42 : decode cX1_split 42 = .ok (.bipush 8, 2) := by decide +kernel
theorem dX1_split_44 : decode cX1_split 44 = .ok (.if_icmp .ne 7, 3) := by decide +kernel
theorem dX1_split_47 : decode cX1_split 47 = .ok (.iconst 2, 1) := by decide +kernel
theorem dX1_split_48 : decode cX1_split 48 = .ok (.goto 4, 3) := by decide +kernel
theorem dX1_split_51 : decode cX1_split 51 = .ok (.iconst 0, 1) := by decide +kernel
theorem dX1_split_52 : decode cX1_split 52 = .ok (.putfield 51, 3) := by decide +kernel
theorem dX1_split_55 : decode cX1_split 55 = .ok (.aload_n 0, 1) := by decide +kernel
theorem dX1_split_56 : decode cX1_split 56 = .ok (.getfield 51, 3) := by decide +kernel
theorem dX1_split_59 : decode cX1_split 59 = .ok (.ifCond .le 5, 3) := by decide +kernel
theorem dX1_split_62 : decode cX1_split 62 = .ok (.iconst 0, 1) := by decide +kernel
theorem dX1_split_63 : decode cX1_split 63 = .ok (.ireturn, 1) := by decide +kernel
theorem dX1_split_64 : decode cX1_split 64 = .ok (.aload_n 0, 1) := by decide +kernel
theorem dX1_split_65 : decode cX1_split 65 = .ok (.getfield 13, 3) := by decide +kernel
theorem dX1_split_68 : decode cX1_split 68 = .ok (.istore_n 3, 1) := by decide +kernel
theorem dX1_split_69 : decode cX1_split 69 = .ok (.iload_n 3, 1) := by decide +kernel
theorem dX1_split_70 : decode cX1_split 70 = .ok (.iload_n 2, 1) := by decide +kernel
theorem dX1_split_71 : decode cX1_split 71 = .ok (.iconst 1, 1) := by decide +kernel
theorem dX1_split_72 : decode cX1_split 72 = .ok (.iadd, 1) := by decide +kernel
theorem dX1_split_73 : decode cX1_split 73 = .ok (.if_icmp .le 17, 3) := by decide +kernel
theorem dX1_split_76 : decode cX1_split 76 = .ok (.aload_n 0, 1) := by decide +kernel
theorem dX1_split_77 : decode cX1_split 77 = .ok (.iload_n 3, 1) := by decide +kernel
theorem dX1_split_78 : decode cX1_split 78 = .ok (.iconst 1, 1) := by decide +kernel
theorem dX1_split_79 : decode cX1_split 79 = .ok (.isub, 1) := by decide +kernel
theorem dX1_split_80 : decode cX1_split 80 = .ok (.iload_n 3, 1) := by decide +kernel
theorem dX1_split_81 : decode cX1_split 81 = .ok (.invokevirtual 81, 3) := by decide +kernel
theorem dX1_split_84 : decode cX1_split 84 = .ok (.iinc 3 (-1), 3) := by decide +kernel
theorem dX1_split_87 : decode cX1_split 87 = .ok (.goto (-18), 3) := by decide +kernel
theorem dX1_split_90 : decode cX1_split 90 = .ok (.aload_n 0, 1) := by decide +kernel
theorem dX1_split_91 : decode cX1_split 91 = .ok (.getfield 17, 3) := by decide +kernel
theorem dX1_split_94 : decode cX1_split 94 = .ok (.iload_n 2, 1) := by decide +kernel
theorem dX1_split_95 : decode cX1_split 95 = .ok (.iconst 1, 1) := by decide +kernel
theorem dX1_split_96 : decode cX1_split 96 = .ok (.iadd, 1) := by decide +kernel
theorem dX1_split_97 : decode cX1_split 97 = .ok (.iload_n 1, 1) := by decide +kernel
theorem dX1_split_98 : decode cX1_split 98 = .ok (.iconst 1, 1) := by decide +kernel
theorem dX1_split_99 : decode cX1_split 99 = .ok (.iadd, 1) := by decide +kernel
theorem dX1_split_100 : decode cX1_split 100 = .ok (.iastore, 1) := by decide +kernel
theorem dX1_split_101 : decode cX1_split 101 = .ok (.aload_n 0, 1) := by decide +kernel
theorem dX1_split_102 : decode cX1_split 102 = .ok (.getfield 20, 3) := by decide +kernel
theorem dX1_split_105 : decode cX1_split 105 = .ok (.iload_n 2, 1) := by decide +kernel
theorem dX1_split_106 : decode cX1_split 106 = .ok (.iconst 1, 1) := by decide +kernel
theorem dX1_split_107 : decode cX1_split 107 = .ok (.iadd, 1) := by decide +kernel
theorem dX1_split_108 : decode cX1_split 108 = .ok (.aload_n 0, 1) := by decide +kernel
theorem dX1_split_109 : decode cX1_split 109 = .ok (.getfield 20, 3) := by decide +kernel
theorem dX1_split_112 : decode cX1_split 112 = .ok (.iload_n 2, 1) := by decide +kernel
theorem dX1_split_113 : decode cX1_split 113 = .ok (.iaload, 1) := by decide +kernel
theorem dX1_split_114 : decode cX1_split 114 = .ok (.iastore, 1) := by decide +kernel
theorem dX1_split_115 : decode cX1_split 115 = .ok (.aload_n 0, 1) := by decide +kernel
theorem dX1_split_116 : decode cX1_split 116 = .ok (.getfield 23, 3) := by decide +kernel
theorem dX1_split_119 : decode cX1_split 119 = .ok (.iload_n 2, 1) := by decide +kernel
theorem dX1_split_120 : decode cX1_split 120 = .ok (.iconst 1, 1) := by decide +kernel
theorem dX1_split_121 : decode cX1_split 121 = .ok (.iadd, 1) := by decide +kernel
theorem dX1_split_122 : decode cX1_split 122 = .ok (.iconst (-1), 1) := by decide +kernel
theorem dX1_split_123 : decode cX1_split 123 = .ok (.iastore, 1) := by decide +kernel
theorem dX1_split_124 : decode cX1_split 124 = .ok (.aload_n 0, 1) := by decide +kernel
theorem dX1_split_125 : decode cX1_split 125 = .ok (.dup, 1) := by decide +kernel
theorem dX1_split_126 : decode cX1_split 126 = .ok (.getfield 13, 3) := by decide +kernel
theorem dX1_split_129 : decode cX1_split 129 = .ok (.iconst 1, 1) := by decide +kernel
theorem dX1_split_130 : decode cX1_split 130 = .ok (.iadd, 1) := by decide +kernel
theorem dX1_split_131 : decode cX1_split 131 = .ok (.putfield 13, 3) := by decide +kernel
theorem dX1_split_134 : decode cX1_split 134 = .ok (.iload_n 2, 1) := by decide +kernel
theorem dX1_split_135 : decode cX1_split 135 = .ok (.iconst 1, 1) := by decide +kernel
theorem dX1_split_136 : decode cX1_split 136 = .ok (.iadd, 1) := by decide +kernel
theorem dX1_split_137 : decode cX1_split 137 = .ok (.ireturn, 1) := by decide +kernel
set_option maxRecDepth 20000 in
theorem ggX1_merge_X1_isRange : GoodIn wsX1_merge wsX1_isRange := goodIn_r _ [9, 2, 10, 11, 8, 12, 18, 19, 20, 21, 22, 23, 24, 25, 26, 27, 28, 29, 30, 31, 32, 33, 34, 35] (by decide +kernel) (by decide +kernel)
set_option maxRecDepth 20000 in
theorem gX1_merge_X1_isRange : GoodIn wsX1_merge (wsV RX1 85 RX1 yX1_isRange wsX1_isRange) := goodIn_app (goodIn_of _ (by decide +kernel)) ggX1_merge_X1_isRange
set_option maxRecDepth 20000 in
theorem ggX1_merge_X1_copies : GoodIn wsX1_merge wsX1_copies := goodIn_r _ [16, 17, 3, 4, 18, 19, 20, 21, 22, 23, 24, 25, 26, 27, 28, 29, 30, 31, 32, 33, 34, 35] (by decide +kernel) (by decide +kernel)
set_option maxRecDepth 20000 in
theorem gX1_merge_X1_copies : GoodIn wsX1_merge (wsV RX1 81 RX1 yX1_copies wsX1_copies) := goodIn_app (goodIn_of _ (by decide +kernel)) ggX1_merge_X1_copies
theorem dX1_merge_0 : decode cX1_merge 0 = .ok (.aload_n 0, 1) := by decide +kernel
theorem dX1_merge_1 : decode cX1_merge 1 = .ok (.aload_n 0, 1) := by decide +kernel
theorem dX1_merge_2 : decode cX1_merge 2 = .ok (.iload_n 1, 1) := by decide +kernel
theorem dX1_merge_3 : decode cX1_merge 3 = .ok (.invokevirtual 85, 3) := by decide +kernel
theorem dX1_merge_6 : decode cX1_merge 6 = .ok (.ifCond .eq 7, 3) := by decide +kernel
theorem dX1_merge_9 : decode cX1_merge 9 = .ok (.iconst 0, 1) := by decide +kernel
theorem dX1_merge_10 : decode cX1_merge 10 = .ok (.goto 4, 3) := by decide +kernel
theorem dX1_merge_13 : decode cX1_merge 13 = .ok (.iconst 1, 1) := by decide +kernel
theorem dX1_merge_14 : decode cX1_merge 14 = .ok (.putfield 51, 3) := by decide +kernel
theorem dX1_merge_17 : decode cX1_merge 17 = .ok (.aload_n 0, 1) := by decide +kernel
theorem dX1_merge_18 : decode cX1_merge 18 = .ok (.getfield 51, 3) := by decide +kernel
theorem dX1_merge_21 : decode cX1_merge 21 = .ok (.ifCond .ne 71, 3) := by decide +kernel
theorem dX1_merge_24 : decode cX1_merge 24 = .ok (.iload_n 1, 1) := by decide +kernel
theorem dX1_merge_25 : decode cX1_merge 25 = .ok (.iconst 1, 1) := by decide +kernel
theorem dX1_merge_26 : decode cX1_merge 26 = .ok (.iadd, 1) := by decide +kernel
theorem dX1_merge_27 : decode cX1_merge 27 = .ok (.aload_n 0, 1) := by decide +kernel
theorem dX1_merge_28 : decode cX1_merge 28 = .ok (.getfield 13, 3) := by decide +kernel
theorem dX1_merge_31 : decode cX1_merge 31 = .ok (.if_icmp .ge 46, 3) := by decide +kernel
theorem dX1_merge_34 : decode cX1_merge 34 = .ok (.aload_n 0, 1) := by decide +kernel
theorem dX1_merge_35 : decode cX1_merge 35 = .ok (.getfield 20, 3) := by decide +kernel
theorem dX1_merge_38 : decode cX1_merge 38 = .ok (.iload_n 1, 1) := by decide +kernel
theorem dX1_merge_39 : decode cX1_merge 39 = .ok (.iaload, 1) := by decide +kernel
theorem dX1_merge_40 : decode cX1_merge 40 = .ok (.aload_n 0, 1) := by decide +kernel
theorem dX1_merge_41 : decode cX1_merge 41 = .ok (.getfield 20, 3) := by decide +kernel
theorem dX1_merge_44 : decode cX1_merge 44 = .ok (.iload_n 1, 1) := by decide +kernel
theorem dX1_merge_45 : decode cX1_merge 45 = .ok (.iconst 1, 1) := by decide +kernel
theorem dX1_merge_46 : decode cX1_merge 46 = .ok (.iadd, 1) := by decide +kernel
theorem dX1_merge_47 : decode cX1_merge 47 = .ok (.iaload, 1) := by decide +kernel
theorem dX1_merge_48 : decode cX1_merge 48 = .ok (.if_icmp .ne 29, 3) := by decide +kernel
theorem dX1_merge_51 : decode cX1_merge 51 = .ok (.aload_n 0, 1) := by decide +kernel
theorem dX1_merge_52 : decode cX1_merge 52 = .ok (.getfield 23, 3) := by decide +kernel
theorem dX1_merge_55 : decode cX1_merge 55 = .ok (.iload_n 1, 1) := by decide +kernel
theorem dX1_merge_56 : decode cX1_merge 56 = .ok (.iaload, 1) := by decide +kernel
theorem dX1_merge_57 : decode cX1_merge 57 = .ok (.iconst (-1), 1) := by decide +kernel
theorem dX1_merge_58 : decode cX1_merge 58 = .ok (.if_icmp .ne 19, 3) := by decide +kernel
theorem dX1_merge_61 : decode cX1_merge 61 = .ok (.aload_n 0, 1) := by decide +kernel
theorem dX1_merge_62 : decode cX1_merge 62 = .ok (.getfield 23, 3) := by decide +kernel
theorem dX1_merge_65 : decode cX1_merge 65 = .ok (.iload_n 1, 1) := by decide +kernel
theorem dX1_merge_66 : decode cX1_merge 66 = .ok (.iconst 1, 1) := by decide +kernel
theorem dX1_merge_67 : decode cX1_merge 67 = .ok (.iadd, 1) := by decide +kernel
theorem dX1_merge_68 : decode cX1_merge 68 = .ok (.iaload, 1) := by decide +kernel
theorem dX1_merge_69 : decode cX1_merge 69 = .ok (.iconst (-1), 1) := by decide +kernel
theorem dX1_merge_70 : decode cX1_merge 70 = .ok (.if_icmp .ne 7, 3) := by decide +kernel
theorem dX1_merge_73 : decode cX1_merge 73 = .ok (.iconst 1, 1) := by decide +kernel
theorem dX1_merge_74 : decode cX1_merge 74 = .ok (.goto 4, 3) := by decide +kernel
theorem dX1_merge_77 : decode cX1_merge 77 = .ok (.iconst 0, 1) := by decide +kernel
theorem dX1_merge_78 : decode cX1_merge 78 = .ok (.istore_n 2, 1) := by decide +kernel
theorem dX1_merge_79 : decode cX1_merge 79 = .ok (.aload_n 0, 1) := by decide +kernel
theorem dX1_merge_80 : decode cX1_merge 80 = .ok (.iload_n 2, 1) := by decide +kernel
theorem dX1_merge_81 : decode cX1_merge 81 = .ok (.ifCond .eq 7, 3) := by decide +kernel
theorem dX1_merge_84 : decode cX1_merge 84 = .ok (.iconst 0, 1) := by decide +kernel
theorem dX1_merge_85 : decode cX1_merge 85 = .ok (.goto 4, 3) := by decide +kernel
theorem dX1_merge_88 : decode cX1_merge 88 = .ok (.iconst 2, 1) := by decide +kernel
theorem dX1_merge_89 : decode cX1_merge 89 = .ok (.putfield 51, 3) := by decide +kernel
theorem dX1_merge_92 : decode cX1_merge 92 = .ok (.aload_n 0, 1) := by decide +kernel
theorem dX1_merge_93 : decode cX1_merge 93 = .ok (.getfield 51, 3) := by decide +kernel
theorem dX1_merge_96 : decode cX1_merge 96 = .ok (.ifCond .le 5, 3) := by decide +kernel
theorem dX1_merge_99 : decode cX1_merge 99 = .ok (.iconst 0, 1) := by decide +kernel
theorem dX1_merge_100 : decode cX1_merge 100 = .ok (.ireturn, 1) := by decide +kernel
theorem dX1_merge_101 : decode cX1_merge 101 = .ok (.iload_n 1, 1) := by decide +kernel
theorem dX1_merge_102 : decode cX1_merge 102 = .ok (.iconst 2, 1) := by decide +kernel
theorem dX1_merge_103 : decode cX1_merge 103 = .ok (.iadd, 1) := by decide +kernel
theorem dX1_merge_104 : decode cX1_merge 104 = .ok (.istore_n 2, 1) := by decide +kernel
theorem dX1_merge_105 : decode cX1_merge 105 = .ok (.iload_n 2, 1) := by decide +kernel
theorem dX1_merge_106 : decode cX1_merge 106 = .ok (.aload_n 0, 1) := by decide +kernel
theorem dX1_merge_107 : decode cX1_merge 107 = .ok (.getfield 13, 3) := by decide +kernel
theorem dX1_merge_110 : decode cX1_merge 110 = .ok (.if_icmp .ge 17, 3) := by decide +kernel
theorem dX1_merge_113 : decode cX1_merge 113 = .ok (.aload_n 0, 1) := by decide +kernel
theorem dX1_merge_114 : decode cX1_merge 114 = .ok (.iload_n 2, 1) := by decide +kernel
theorem dX1_merge_115 : decode cX1_merge 115 = .ok (.iload_n 2, 1) := by decide +kernel
theorem dX1_merge_116 : decode cX1_merge 116 = .ok (.iconst 1, 1) := by decide +kernel
theorem dX1_merge_117 : decode cX1_merge 117 = .ok (.isub, 1) := by decide +kernel
theorem dX1_merge_118 : decode cX1_merge 118 = .ok (.invokevirtual 81, 3) := by decide +kernel
theorem dX1_merge_121 : decode cX1_merge 121 = .ok (.iinc 2 1, 3) := by decide +kernel
theorem dX1_merge_124 : decode cX1_merge 124 = .ok (.goto (-19), 3) := by decide +kernel
theorem dX1_merge_127 : decode cX1_merge 127 = .ok (.aload_n 0, 1) := by decide +kernel
theorem dX1_merge_128 : decode cX1_merge 128 = .ok (.dup, 1) := by decide +kernel
theorem dX1_merge_129 : decode cX1_merge 129 = .ok (.getfield 13, 3) := by decide +kernel
theorem dX1_merge_132 : decode cX1_merge 132 = .ok (.iconst 1, 1) := by decide +kernel
theorem dX1_merge_133 : decode cX1_merge 133 = .ok (.isub, 1) := by decide +kernel
theorem dX1_merge_134 : decode cX1_merge 134 = .ok (.putfield 13, 3) := by decide +kernel
theorem dX1_merge_137 : decode cX1_merge 137 = .ok (.aload_n 0, 1) := by decide +kernel
theorem dX1_merge_138 : decode cX1_merge 138 = .ok (.getfield 23, 3) := by decide +kernel
theorem dX1_merge_141 : decode cX1_merge 141 = .ok (.aload_n 0, 1) := by decide +kernel
theorem dX1_merge_142 : decode cX1_merge 142 = .ok (.getfield 13, 3) := by decide +kernel
theorem dX1_merge_145 : decode cX1_merge 145 = .ok (.iconst (-1), 1) := by decide +kernel
theorem dX1_merge_146 : decode cX1_merge 146 = .ok (.iastore, 1) := by decide +kernel
theorem dX1_merge_147 : decode cX1_merge 147 = .ok (.aload_n 0, 1) := by decide +kernel
theorem dX1_merge_148 : decode cX1_merge 148 = .ok (.getfield 13, 3) := by decide +kernel
theorem dX1_merge_151 : decode cX1_merge 151 = .ok (.ireturn, 1) := by decide +kernel
set_option maxRecDepth 20000 in
theorem ggX1_many_X1_behind : GoodIn wsX1_many wsX1_behind := goodIn_r _ [7, 8, 1, 14, 15, 16, 17, 18, 19, 20, 21, 22, 23, 24, 25, 26, 27, 28, 29, 30, 31] (by decide +kernel) (by decide +kernel)
set_option maxRecDepth 20000 in
theorem gX1_many_X1_behind : GoodIn wsX1_many (wsV RX1 78 RX1 yX1_behind wsX1_behind) := goodIn_app (goodIn_of _ (by decide +kernel)) ggX1_many_X1_behind
set_option maxRecDepth 20000 in
theorem ggX1_many_X1_isThere : GoodIn wsX1_many wsX1_isThere := goodIn_r _ [12, 13, 14, 15, 16, 17, 18, 19, 20, 21, 22, 23, 24, 25, 26, 27, 28, 29, 30, 31] (by decide +kernel) (by decide +kernel)
set_option maxRecDepth 20000 in
theorem gX1_many_X1_isThere : GoodIn wsX1_many (wsV RX1 62 RX1 yX1_isThere wsX1_isThere) := goodIn_app (goodIn_of _ (by decide +kernel)) ggX1_many_X1_isThere
theorem dX1_many_0 : decode cX1_many 0 = .ok (.iconst 0, 1) := by decide +kernel
theorem dX1_many_1 : decode cX1_many 1 = .ok (.istore_n 3, 1) := by decide +kernel
theorem dX1_many_2 : decode cX1_many 2 = .ok (.aload_n 0, 1) := by decide +kernel
theorem dX1_many_3 : decode cX1_many 3 = .ok (.getfield 17, 3) := by decide +kernel
theorem dX1_many_6 : decode cX1_many 6 = .ok (.iload_n 1, 1) := by decide +kernel
theorem dX1_many_7 : decode cX1_many 7 = .ok (.iaload, 1) := by decide +kernel
theorem dX1_many_8 : decode cX1_many 8 = .ok (.istore 4, 2) := by decide +kernel
theorem dX1_many_10 : decode cX1_many 10 = .ok (.iload 4, 2) := by decide +kernel
theorem dX1_many_12 : decode cX1_many 12 = .ok (.aload_n 0, 1) := by decide +kernel
theorem dX1_many_13 : decode cX1_many 13 = .ok (.iload_n 1, 1) := by decide +kernel
theorem dX1_many_14 : decode cX1_many 14 = .ok (.invokevirtual 78, 3) := by decide +kernel
theorem dX1_many_17 : decode cX1_many 17 = .ok (.if_icmp .ge 40, 3) := by decide +kernel
theorem dX1_many_20 : decode cX1_many 20 = .ok (.iload_n 3, 1) := by decide +kernel
theorem dX1_many_21 : decode cX1_many 21 = .ok (.aload_n 0, 1) := by decide +kernel
theorem dX1_many_22 : decode cX1_many 22 = .ok (.iload 4, 2) := by decide +kernel
theorem dX1_many_24 : decode cX1_many 24 = .ok (.invokevirtual 62, 3) := by decide +kernel
theorem dX1_many_27 : decode cX1_many 27 = .ok (.ifCond .eq 21, 3) := by decide +kernel
theorem dX1_many_30 : decode cX1_many 30 = .ok (.aload_n 0, 1) := by decide +kernel
theorem dX1_many_31 : decode cX1_many 31 = .ok (.getfield 26, 3) := by decide +kernel
theorem dX1_many_34 : decode cX1_many 34 = .ok (.iload 4, 2) := by decide +kernel
theorem dX1_many_36 : decode cX1_many 36 = .ok (.baload, 1) := by decide +kernel
theorem dX1_many_37 : decode cX1_many 37 = .ok (.ifCond .ne 7, 3) := by decide +kernel
theorem dX1_many_40 : decode cX1_many 40 = .ok (.iload_n 2, 1) := by decide +kernel
theorem dX1_many_41 : decode cX1_many 41 = .ok (.ifCond .ne 7, 3) := by decide +kernel
theorem dX1_many_44 : decode cX1_many 44 = .ok (.iconst 1, 1) := by decide +kernel
theorem dX1_many_45 : decode cX1_many 45 = .ok (.goto 4, 3) := by decide +kernel
theorem dX1_many_48 : decode cX1_many 48 = .ok (.iconst 0, 1) := by decide +kernel
theorem dX1_many_49 : decode cX1_many 49 = .ok (.iadd, 1) := by decide +kernel
theorem dX1_many_50 : decode cX1_many 50 = .ok (.istore_n 3, 1) := by decide +kernel
theorem dX1_many_51 : decode cX1_many 51 = .ok (.iinc 4 1, 3) := by decide +kernel
theorem dX1_many_54 : decode cX1_many 54 = .ok (.goto (-44), 3) := by decide +kernel
theorem dX1_many_57 : decode cX1_many 57 = .ok (.iload_n 3, 1) := by decide +kernel
theorem dX1_many_58 : decode cX1_many 58 = .ok (.ireturn, 1) := by decide +kernel
set_option maxRecDepth 20000 in
theorem ggX1_move_X1_isRange : GoodIn wsX1_move wsX1_isRange := goodIn_r _ [10, 11, 12, 13, 9, 14, 31, 32, 33, 34, 35, 36, 37, 38, 39, 40, 41, 42, 43, 44, 45, 46, 47, 48] (by decide +kernel) (by decide +kernel)
set_option maxRecDepth 20000 in
theorem gX1_move_X1_isRange : GoodIn wsX1_move (wsV RX1 85 RX1 yX1_isRange wsX1_isRange) := goodIn_app (goodIn_of _ (by decide +kernel)) ggX1_move_X1_isRange
set_option maxRecDepth 20000 in
theorem ggX1_move_X1_isShard : GoodIn wsX1_move wsX1_isShard := goodIn_r _ [17, 12, 13, 9, 14] (by decide +kernel) (by decide +kernel)
set_option maxRecDepth 20000 in
theorem gX1_move_X1_isShard : GoodIn wsX1_move (va_wsS RX1 71 yX1_isShard wsX1_isShard) := goodIn_app (goodIn_of _ (by decide +kernel)) ggX1_move_X1_isShard
set_option maxRecDepth 20000 in
theorem ggX1_move_X1_behind : GoodIn wsX1_move wsX1_behind := goodIn_r _ [21, 11, 4, 31, 32, 33, 34, 35, 36, 37, 38, 39, 40, 41, 42, 43, 44, 45, 46, 47, 48] (by decide +kernel) (by decide +kernel)
set_option maxRecDepth 20000 in
theorem gX1_move_X1_behind : GoodIn wsX1_move (wsV RX1 78 RX1 yX1_behind wsX1_behind) := goodIn_app (goodIn_of _ (by decide +kernel)) ggX1_move_X1_behind
set_option maxRecDepth 20000 in
theorem ggX1_move_X1_many : GoodIn wsX1_move wsX1_many := goodIn_r _ [25, 4, 5, 18, 19, 20, 9, 21, 11, 26, 27, 28, 29, 30, 31, 32, 33, 34, 35, 36, 37, 38, 39, 40, 41, 42, 43, 44, 45, 46, 47, 48] (by decide +kernel) (by decide +kernel)
set_option maxRecDepth 20000 in
theorem gX1_move_X1_many : GoodIn wsX1_move (wsV RX1 88 RX1 yX1_many wsX1_many) := goodIn_app (goodIn_of _ (by decide +kernel)) ggX1_move_X1_many
theorem dX1_move_0 : decode cX1_move 0 = .ok (.aload_n 0, 1) := by decide +kernel
theorem dX1_move_1 : decode cX1_move 1 = .ok (.aload_n 0, 1) := by decide +kernel
theorem dX1_move_2 : decode cX1_move 2 = .ok (.iload_n 1, 1) := by decide +kernel
theorem dX1_move_3 : decode cX1_move 3 = .ok (.invokevirtual 85, 3) := by decide +kernel
theorem dX1_move_6 : decode cX1_move 6 = .ok (.ifCond .eq 10, 3) := by decide +kernel
theorem dX1_move_9 : decode cX1_move 9 = .ok (.iload_n 2, 1) := by decide +kernel
theorem dX1_move_10 : decode cX1_move 10 = .ok (.invokestatic 71, 3) := by decide +kernel
theorem dX1_move_13 : decode cX1_move 13 = .ok (.ifCond .ne 7, 3) := by decide +kernel
theorem dX1_move_16 : decode cX1_move 16 = .ok (.iconst 1, 1) := by decide +kernel
theorem dX1_move_17 : decode cX1_move 17 = .ok (.goto 28, 3) := by decide +kernel
theorem dX1_move_20 : decode cX1_move 20 = .ok (.aload_n 0, 1) := by decide +kernel
theorem dX1_move_21 : decode cX1_move 21 = .ok (.getfield 23, 3) := by decide +kernel
theorem dX1_move_24 : decode cX1_move 24 = .ok (.iload_n 1, 1) := by decide +kernel
theorem dX1_move_25 : decode cX1_move 25 = .ok (.iaload, 1) := by decide +kernel
theorem dX1_move_26 : decode cX1_move 26 = .ok (.iconst (-1), 1) := by decide +kernel
theorem dX1_move_27 : decode cX1_move 27 = .ok (.if_icmp .ne 13, 3) := by decide +kernel
theorem dX1_move_30 : decode cX1_move 30 = .ok (.aload_n 0, 1) := by decide +kernel
theorem dX1_move_31 : decode cX1_move 31 = .ok (.getfield 20, 3) := by decide +kernel
theorem dX1_move_34 : decode cX1_move 34 = .ok (.iload_n 1, 1) := by decide +kernel
theorem dX1_move_35 : decode cX1_move 35 = .ok (.iaload, 1) := by decide +kernel
theorem dX1_move_36 : decode cX1_move 36 = .ok (.iload_n 2, 1) := by decide +kernel
theorem dX1_move_37 : decode cX1_move 37 = .ok (.if_icmp .ne 7, 3) := by decide +kernel
theorem dX1_move_40 : decode cX1_move 40 = .ok (.iconst 2, 1) := by decide +kernel
theorem dX1_move_41 : decode cX1_move 41 = .ok (.goto 4, 3) := by decide +kernel
theorem dX1_move_44 : decode cX1_move 44 = .ok (.iconst 0, 1) := by decide +kernel
theorem dX1_move_45 : decode cX1_move 45 = .ok (.putfield 51, 3) := by decide +kernel
theorem dX1_move_48 : decode cX1_move 48 = .ok (.aload_n 0, 1) := by decide +kernel
theorem dX1_move_49 : decode cX1_move 49 = .ok (.getfield 51, 3) := by decide +kernel
theorem dX1_move_52 : decode cX1_move 52 = .ok (.ifCond .le 5, 3) := by decide +kernel
theorem dX1_move_55 : decode cX1_move 55 = .ok (.iconst 0, 1) := by decide +kernel
theorem dX1_move_56 : decode cX1_move 56 = .ok (.ireturn, 1) := by decide +kernel
theorem dX1_move_57 : decode cX1_move 57 = .ok (.aload_n 0, 1) := by decide +kernel
theorem dX1_move_58 : decode cX1_move 58 = .ok (.getfield 23, 3) := by decide +kernel
theorem dX1_move_61 : decode cX1_move 61 = .ok (.iload_n 1, 1) := by decide +kernel
theorem dX1_move_62 : decode cX1_move 62 = .ok (.iload_n 2, 1) := by decide +kernel
theorem dX1_move_63 : decode cX1_move 63 = .ok (.iastore, 1) := by decide +kernel
theorem dX1_move_64 : decode cX1_move 64 = .ok (.aload_n 0, 1) := by decide +kernel
theorem dX1_move_65 : decode cX1_move 65 = .ok (.getfield 17, 3) := by decide +kernel
theorem dX1_move_68 : decode cX1_move 68 = .ok (.iload_n 1, 1) := by decide +kernel
theorem dX1_move_69 : decode cX1_move 69 = .ok (.iaload, 1) := by decide +kernel
theorem dX1_move_70 : decode cX1_move 70 = .ok (.istore_n 3, 1) := by decide +kernel
theorem dX1_move_71 : decode cX1_move 71 = .ok (.iload_n 3, 1) := by decide +kernel
theorem dX1_move_72 : decode cX1_move 72 = .ok (.aload_n 0, 1) := by decide +kernel
theorem dX1_move_73 : decode cX1_move 73 = .ok (.iload_n 1, 1) := by decide +kernel
theorem dX1_move_74 : decode cX1_move 74 = .ok (.invokevirtual 78, 3) := by decide +kernel
theorem dX1_move_77 : decode cX1_move 77 = .ok (.if_icmp .ge 16, 3) := by decide +kernel
theorem dX1_move_80 : decode cX1_move 80 = .ok (.aload_n 0, 1) := by decide +kernel
theorem dX1_move_81 : decode cX1_move 81 = .ok (.getfield 26, 3) := by decide +kernel
theorem dX1_move_84 : decode cX1_move 84 = .ok (.iload_n 3, 1) := by decide +kernel
theorem dX1_move_85 : decode cX1_move 85 = .ok (.iconst 0, 1) := by decide +kernel
theorem dX1_move_86 : decode cX1_move 86 = .ok (.bastore, 1) := by decide +kernel
theorem dX1_move_87 : decode cX1_move 87 = .ok (.iinc 3 1, 3) := by decide +kernel
theorem dX1_move_90 : decode cX1_move 90 = .ok (.goto (-19), 3) := by decide +kernel
theorem dX1_move_93 : decode cX1_move 93 = .ok (.aload_n 0, 1) := by decide +kernel
theorem dX1_move_94 : decode cX1_move 94 = .ok (.iload_n 1, 1) := by decide +kernel
theorem dX1_move_95 : decode cX1_move 95 = .ok (.iconst 0, 1) := by decide +kernel
theorem dX1_move_96 : decode cX1_move 96 = .ok (.invokevirtual 88, 3) := by decide +kernel
theorem dX1_move_99 : decode cX1_move 99 = .ok (.ireturn, 1) := by decide +kernel
set_option maxRecDepth 20000 in
theorem ggX1_asksMoved_X1_isRange : GoodIn wsX1_asksMoved wsX1_isRange := goodIn_r _ [7, 8, 9, 10, 6, 11, 12, 13, 14, 15, 16, 17, 18, 19, 20, 21, 22, 23, 24, 25, 26, 27, 28, 29] (by decide +kernel) (by decide +kernel)
set_option maxRecDepth 20000 in
theorem gX1_asksMoved_X1_isRange : GoodIn wsX1_asksMoved (wsV RX1 85 RX1 yX1_isRange wsX1_isRange) := goodIn_app (goodIn_of _ (by decide +kernel)) ggX1_asksMoved_X1_isRange
theorem dX1_asksMoved_0 : decode cX1_asksMoved 0 = .ok (.aload_n 0, 1) := by decide +kernel
theorem dX1_asksMoved_1 : decode cX1_asksMoved 1 = .ok (.aload_n 0, 1) := by decide +kernel
theorem dX1_asksMoved_2 : decode cX1_asksMoved 2 = .ok (.iload_n 1, 1) := by decide +kernel
theorem dX1_asksMoved_3 : decode cX1_asksMoved 3 = .ok (.invokevirtual 85, 3) := by decide +kernel
theorem dX1_asksMoved_6 : decode cX1_asksMoved 6 = .ok (.ifCond .ne 7, 3) := by decide +kernel
theorem dX1_asksMoved_9 : decode cX1_asksMoved 9 = .ok (.iconst 1, 1) := by decide +kernel
theorem dX1_asksMoved_10 : decode cX1_asksMoved 10 = .ok (.goto 18, 3) := by decide +kernel
theorem dX1_asksMoved_13 : decode cX1_asksMoved 13 = .ok (.aload_n 0, 1) := by decide +kernel
theorem dX1_asksMoved_14 : decode cX1_asksMoved 14 = .ok (.getfield 23, 3) := by decide +kernel
theorem dX1_asksMoved_17 : decode cX1_asksMoved 17 = .ok (.iload_n 1, 1) := by decide +kernel
theorem dX1_asksMoved_18 : decode cX1_asksMoved 18 = .ok (.iaload, 1) := by decide +kernel
theorem dX1_asksMoved_19 : decode cX1_asksMoved 19 = .ok (.iconst (-1), 1) := by decide +kernel
theorem dX1_asksMoved_20 : decode cX1_asksMoved 20 = .ok (.if_icmp .ne 7, 3) := by decide +kernel
theorem dX1_asksMoved_23 : decode cX1_asksMoved 23 = .ok (.iconst 2, 1) := by decide +kernel
theorem dX1_asksMoved_24 : decode cX1_asksMoved 24 = .ok (.goto 4, 3) := by decide +kernel
theorem dX1_asksMoved_27 : decode cX1_asksMoved 27 = .ok (.iconst 0, 1) := by decide +kernel
theorem dX1_asksMoved_28 : decode cX1_asksMoved 28 = .ok (.putfield 51, 3) := by decide +kernel
theorem dX1_asksMoved_31 : decode cX1_asksMoved 31 = .ok (.aload_n 0, 1) := by decide +kernel
theorem dX1_asksMoved_32 : decode cX1_asksMoved 32 = .ok (.getfield 51, 3) := by decide +kernel
theorem dX1_asksMoved_35 : decode cX1_asksMoved 35 = .ok (.ifCond .ne 7, 3) := by decide +kernel
theorem dX1_asksMoved_38 : decode cX1_asksMoved 38 = .ok (.iconst 1, 1) := by decide +kernel
theorem dX1_asksMoved_39 : decode cX1_asksMoved 39 = .ok (.goto 4, 3) := by decide +kernel
theorem dX1_asksMoved_42 : decode cX1_asksMoved 42 = .ok (.iconst 0, 1) := by decide +kernel
theorem dX1_asksMoved_43 : decode cX1_asksMoved 43 = .ok (.ireturn, 1) := by decide +kernel
set_option maxRecDepth 20000 in
theorem ggX1_step_X1_asksMoved : GoodIn wsX1_step wsX1_asksMoved := goodIn_r _ [9, 4, 10, 11, 12, 13, 8, 14, 15, 16, 17, 18, 28, 29, 30, 31, 32, 33, 34, 35, 36, 37, 38, 39, 40, 41, 42, 43, 44, 45] (by decide +kernel) (by decide +kernel)
set_option maxRecDepth 20000 in
theorem gX1_step_X1_asksMoved : GoodIn wsX1_step (wsV RX1 92 RX1 yX1_asksMoved wsX1_asksMoved) := goodIn_app (goodIn_of _ (by decide +kernel)) ggX1_step_X1_asksMoved
set_option maxRecDepth 20000 in
theorem ggX1_step_X1_behind : GoodIn wsX1_step wsX1_behind := goodIn_r _ [22, 15, 1, 28, 29, 30, 31, 32, 33, 34, 35, 36, 37, 38, 39, 40, 41, 42, 43, 44, 45] (by decide +kernel) (by decide +kernel)
set_option maxRecDepth 20000 in
theorem gX1_step_X1_behind : GoodIn wsX1_step (wsV RX1 78 RX1 yX1_behind wsX1_behind) := goodIn_app (goodIn_of _ (by decide +kernel)) ggX1_step_X1_behind
set_option maxRecDepth 20000 in
theorem ggX1_step_X1_isThere : GoodIn wsX1_step wsX1_isThere := goodIn_r _ [26, 27, 28, 29, 30, 31, 32, 33, 34, 35, 36, 37, 38, 39, 40, 41, 42, 43, 44, 45] (by decide +kernel) (by decide +kernel)
set_option maxRecDepth 20000 in
theorem gX1_step_X1_isThere : GoodIn wsX1_step (wsV RX1 62 RX1 yX1_isThere wsX1_isThere) := goodIn_app (goodIn_of _ (by decide +kernel)) ggX1_step_X1_isThere
theorem dX1_step_0 : decode cX1_step 0 = .ok (.aload_n 0, 1) := by decide +kernel
theorem dX1_step_1 : decode cX1_step 1 = .ok (.iload_n 1, 1) := by decide +kernel
theorem dX1_step_2 : decode cX1_step 2 = .ok (.invokevirtual 92, 3) := by decide +kernel
theorem dX1_step_5 : decode cX1_step 5 = .ok (.ifCond .ne 5, 3) := by decide +kernel
theorem dX1_step_8 : decode cX1_step 8 = .ok (.iconst 0, 1) := by decide +kernel
theorem dX1_step_9 : decode cX1_step 9 = .ok (.ireturn, 1) := by decide +kernel
theorem dX1_step_10 : decode cX1_step 10 = .ok (.iconst (-1), 1) := by decide +kernel
theorem dX1_step_11 : decode cX1_step 11 = .ok (.istore_n 2, 1) := by decide +kernel
theorem dX1_step_12 : decode cX1_step 12 = .ok (.aload_n 0, 1) := by decide +kernel
theorem dX1_step_13 : decode cX1_step 13 = .ok (.iload_n 1, 1) := by decide +kernel
theorem dX1_step_14 : decode cX1_step 14 = .ok (.invokevirtual 78, 3) := by decide +kernel
theorem dX1_step_17 : decode cX1_step 17 = .ok (.iconst 1, 1) := by decide +kernel
theorem dX1_step_18 : decode cX1_step 18 = .ok (.isub, 1) := by decide +kernel
theorem dX1_step_19 : decode cX1_step 19 = .ok (.istore_n 3, 1) := by decide +kernel
theorem dX1_step_20 : decode cX1_step 20 = .ok (.iload_n 3, 1) := by decide +kernel
theorem dX1_step_21 : decode cX1_step 21 = .ok (.aload_n 0, 1) := by decide +kernel
theorem dX1_step_22 : decode cX1_step 22 = .ok (.getfield 17, 3) := by decide +kernel
theorem dX1_step_25 : decode cX1_step 25 = .ok (.iload_n 1, 1) := by decide +kernel
theorem dX1_step_26 : decode cX1_step 26 = .ok (.iaload, 1) := by decide +kernel
theorem dX1_step_27 : decode cX1_step 27 = .ok (.if_icmp .lt 32, 3) := by decide +kernel
theorem dX1_step_30 : decode cX1_step 30 = .ok (.aload_n 0, 1) := by decide +kernel
theorem dX1_step_31 : decode cX1_step 31 = .ok (.iload_n 3, 1) := by decide +kernel
theorem dX1_step_32 : decode cX1_step 32 = .ok (.invokevirtual 62, 3) := by decide +kernel
theorem dX1_step_35 : decode cX1_step 35 = .ok (.ifCond .eq 16, 3) := by decide +kernel
theorem dX1_step_38 : decode cX1_step 38 = .ok (.aload_n 0, 1) := by decide +kernel
theorem dX1_step_39 : decode cX1_step 39 = .ok (.getfield 26, 3) := by decide +kernel
theorem dX1_step_42 : decode cX1_step 42 = .ok (.iload_n 3, 1) := by decide +kernel
theorem dX1_step_43 : decode cX1_step 43 = .ok (.baload, 1) := by decide +kernel
theorem dX1_step_44 : decode cX1_step 44 = .ok (.ifCond .ne 7, 3) := by decide +kernel
theorem dX1_step_47 : decode cX1_step 47 = .ok (.iload_n 3, 1) := by decide +kernel
theorem dX1_step_48 : decode cX1_step 48 = .ok (.goto 4, 3) := by decide +kernel
theorem dX1_step_51 : decode cX1_step 51 = .ok (.iload_n 2, 1) := by decide +kernel
theorem dX1_step_52 : decode cX1_step 52 = .ok (.istore_n 2, 1) := by decide +kernel
theorem dX1_step_53 : decode cX1_step 53 = .ok (.iinc 3 (-1), 3) := by decide +kernel
theorem dX1_step_56 : decode cX1_step 56 = .ok (.goto (-36), 3) := by decide +kernel
theorem dX1_step_59 : decode cX1_step 59 = .ok (.iload_n 2, 1) := by decide +kernel
theorem dX1_step_60 : decode cX1_step 60 = .ok (.iconst (-1), 1) := by decide +kernel
theorem dX1_step_61 : decode cX1_step 61 = .ok (.if_icmp .ne 25, 3) := by decide +kernel
theorem dX1_step_64 : decode cX1_step 64 = .ok (.aload_n 0, 1) := by decide +kernel
theorem dX1_step_65 : decode cX1_step 65 = .ok (.getfield 20, 3) := by decide +kernel
theorem dX1_step_68 : decode cX1_step 68 = .ok (.iload_n 1, 1) := by decide +kernel
theorem dX1_step_69 : decode cX1_step 69 = .ok (.aload_n 0, 1) := by decide +kernel
theorem dX1_step_70 : decode cX1_step 70 = .ok (.getfield 23, 3) := by decide +kernel
theorem dX1_step_73 : decode cX1_step 73 = .ok (.iload_n 1, 1) := by decide +kernel
theorem dX1_step_74 : decode cX1_step 74 = .ok (.iaload, 1) := by decide +kernel
theorem dX1_step_75 : decode cX1_step 75 = .ok (.iastore, 1) := by decide +kernel
theorem dX1_step_76 : decode cX1_step 76 = .ok (.aload_n 0, 1) := by decide +kernel
theorem dX1_step_77 : decode cX1_step 77 = .ok (.getfield 23, 3) := by decide +kernel
theorem dX1_step_80 : decode cX1_step 80 = .ok (.iload_n 1, 1) := by decide +kernel
theorem dX1_step_81 : decode cX1_step 81 = .ok (.iconst (-1), 1) := by decide +kernel
theorem dX1_step_82 : decode cX1_step 82 = .ok (.iastore, 1) := by decide +kernel
theorem dX1_step_83 : decode cX1_step 83 = .ok (.goto 10, 3) := by decide +kernel
theorem dX1_step_86 : decode cX1_step 86 = .ok (.aload_n 0, 1) := by decide +kernel
theorem dX1_step_87 : decode cX1_step 87 = .ok (.getfield 26, 3) := by decide +kernel
theorem dX1_step_90 : decode cX1_step 90 = .ok (.iload_n 2, 1) := by decide +kernel
theorem dX1_step_91 : decode cX1_step 91 = .ok (.iconst 1, 1) := by decide +kernel
theorem dX1_step_92 : decode cX1_step 92 = .ok (.bastore, 1) := by decide +kernel
theorem dX1_step_93 : decode cX1_step 93 = .ok (.iload_n 2, 1) := by decide +kernel
theorem dX1_step_94 : decode cX1_step 94 = .ok (.ireturn, 1) := by decide +kernel
set_option maxRecDepth 20000 in
theorem ggX1_giveUp_X1_asksMoved : GoodIn wsX1_giveUp wsX1_asksMoved := goodIn_r _ [6, 1, 7, 8, 9, 10, 5, 11, 12, 13, 14, 15, 31, 32, 33, 34, 35, 36, 37, 38, 39, 40, 41, 42, 43, 44, 45, 46, 47, 48] (by decide +kernel) (by decide +kernel)
set_option maxRecDepth 20000 in
theorem gX1_giveUp_X1_asksMoved : GoodIn wsX1_giveUp (wsV RX1 92 RX1 yX1_asksMoved wsX1_asksMoved) := goodIn_app (goodIn_of _ (by decide +kernel)) ggX1_giveUp_X1_asksMoved
set_option maxRecDepth 20000 in
theorem ggX1_giveUp_X1_many : GoodIn wsX1_giveUp wsX1_many := goodIn_r _ [19, 20, 21, 22, 23, 24, 5, 25, 12, 26, 27, 28, 29, 30, 31, 32, 33, 34, 35, 36, 37, 38, 39, 40, 41, 42, 43, 44, 45, 46, 47, 48] (by decide +kernel) (by decide +kernel)
set_option maxRecDepth 20000 in
theorem gX1_giveUp_X1_many : GoodIn wsX1_giveUp (wsV RX1 88 RX1 yX1_many wsX1_many) := goodIn_app (goodIn_of _ (by decide +kernel)) ggX1_giveUp_X1_many
theorem dX1_giveUp_0 : decode cX1_giveUp 0 = .ok (.aload_n 0, 1) := by decide +kernel
theorem dX1_giveUp_1 : decode cX1_giveUp 1 = .ok (.iload_n 1, 1) := by decide +kernel
theorem dX1_giveUp_2 : decode cX1_giveUp 2 = .ok (.invokevirtual 92, 3) := by decide +kernel
theorem dX1_giveUp_5 : decode cX1_giveUp 5 = .ok (.ifCond .ne 5, 3) := by decide +kernel
theorem dX1_giveUp_8 : decode cX1_giveUp 8 = .ok (.iconst 0, 1) := by decide +kernel
theorem dX1_giveUp_9 : decode cX1_giveUp 9 = .ok (.ireturn, 1) := by decide +kernel
theorem dX1_giveUp_10 : decode cX1_giveUp 10 = .ok (.aload_n 0, 1) := by decide +kernel
theorem dX1_giveUp_11 : decode cX1_giveUp 11 = .ok (.getfield 23, 3) := by decide +kernel
theorem dX1_giveUp_14 : decode cX1_giveUp 14 = .ok (.iload_n 1, 1) := by decide +kernel
theorem dX1_giveUp_15 : decode cX1_giveUp 15 = .ok (.iconst (-1), 1) := by decide +kernel
theorem dX1_giveUp_16 : decode cX1_giveUp 16 = .ok (.iastore, 1) := by decide +kernel
theorem dX1_giveUp_17 : decode cX1_giveUp 17 = .ok (.aload_n 0, 1) := by decide +kernel
theorem dX1_giveUp_18 : decode cX1_giveUp 18 = .ok (.iload_n 1, 1) := by decide +kernel
theorem dX1_giveUp_19 : decode cX1_giveUp 19 = .ok (.iconst 1, 1) := by decide +kernel
theorem dX1_giveUp_20 : decode cX1_giveUp 20 = .ok (.invokevirtual 88, 3) := by decide +kernel
theorem dX1_giveUp_23 : decode cX1_giveUp 23 = .ok (.ireturn, 1) := by decide +kernel
theorem dX1_ranges_0 : decode cX1_ranges 0 = .ok (.aload_n 0, 1) := by decide +kernel
theorem dX1_ranges_1 : decode cX1_ranges 1 = .ok (.iconst 0, 1) := by decide +kernel
theorem dX1_ranges_2 : decode cX1_ranges 2 = .ok (.putfield 51, 3) := by decide +kernel
theorem dX1_ranges_5 : decode cX1_ranges 5 = .ok (.aload_n 0, 1) := by decide +kernel
theorem dX1_ranges_6 : decode cX1_ranges 6 = .ok (.getfield 13, 3) := by decide +kernel
theorem dX1_ranges_9 : decode cX1_ranges 9 = .ok (.ireturn, 1) := by decide +kernel
set_option maxRecDepth 20000 in
theorem ggX1_rangeOf_X1_asksKey : GoodIn wsX1_rangeOf wsX1_asksKey := goodIn_r _ [5, 6, 7, 8, 4, 9, 10, 11, 12, 19, 20, 21, 22, 23, 24, 25, 26, 27, 28, 29, 30, 31, 32, 33, 34, 35, 36] (by decide +kernel) (by decide +kernel)
set_option maxRecDepth 20000 in
theorem gX1_rangeOf_X1_asksKey : GoodIn wsX1_rangeOf (wsV RX1 68 RX1 yX1_asksKey wsX1_asksKey) := goodIn_app (goodIn_of _ (by decide +kernel)) ggX1_rangeOf_X1_asksKey
set_option maxRecDepth 20000 in
theorem ggX1_rangeOf_X1_rangeAt : GoodIn wsX1_rangeOf wsX1_rangeAt := goodIn_r _ [16, 17, 18, 19, 20, 21, 22, 23, 24, 25, 26, 27, 28, 29, 30, 31, 32, 33, 34, 35, 36] (by decide +kernel) (by decide +kernel)
set_option maxRecDepth 20000 in
theorem gX1_rangeOf_X1_rangeAt : GoodIn wsX1_rangeOf (wsV RX1 74 RX1 yX1_rangeAt wsX1_rangeAt) := goodIn_app (goodIn_of _ (by decide +kernel)) ggX1_rangeOf_X1_rangeAt
theorem dX1_rangeOf_0 : decode cX1_rangeOf 0 = .ok (.aload_n 0, 1) := by decide +kernel
theorem dX1_rangeOf_1 : decode cX1_rangeOf 1 = .ok (.iload_n 1, 1) := by decide +kernel
theorem dX1_rangeOf_2 : decode cX1_rangeOf 2 = .ok (.invokevirtual 68, 3) := by decide +kernel
theorem dX1_rangeOf_5 : decode cX1_rangeOf 5 = .ok (.ifCond .eq 11, 3) := by decide +kernel
theorem dX1_rangeOf_8 : decode cX1_rangeOf 8 = .ok (.aload_n 0, 1) := by decide +kernel
theorem dX1_rangeOf_9 : decode cX1_rangeOf 9 = .ok (.iload_n 1, 1) := by decide +kernel
theorem dX1_rangeOf_10 : decode cX1_rangeOf 10 = .ok (.invokevirtual 74, 3) := by decide +kernel
theorem dX1_rangeOf_13 : decode cX1_rangeOf 13 = .ok (.goto 4, 3) := by decide +kernel
theorem dX1_rangeOf_16 : decode cX1_rangeOf 16 = .ok (.iconst 0, 1) := by decide +kernel
theorem dX1_rangeOf_17 : decode cX1_rangeOf 17 = .ok (.ireturn, 1) := by decide +kernel
set_option maxRecDepth 20000 in
theorem ggX1_shardOf_X1_isRange : GoodIn wsX1_shardOf wsX1_isRange := goodIn_r _ [7, 8, 9, 10, 6, 11, 12, 13, 14, 15, 16, 17, 18, 19, 20, 21, 22, 23, 24, 25, 26, 27, 28, 29] (by decide +kernel) (by decide +kernel)
set_option maxRecDepth 20000 in
theorem gX1_shardOf_X1_isRange : GoodIn wsX1_shardOf (wsV RX1 85 RX1 yX1_isRange wsX1_isRange) := goodIn_app (goodIn_of _ (by decide +kernel)) ggX1_shardOf_X1_isRange
theorem dX1_shardOf_0 : decode cX1_shardOf 0 = .ok (.aload_n 0, 1) := by decide +kernel
theorem dX1_shardOf_1 : decode cX1_shardOf 1 = .ok (.aload_n 0, 1) := by decide +kernel
theorem dX1_shardOf_2 : decode cX1_shardOf 2 = .ok (.iload_n 1, 1) := by decide +kernel
theorem dX1_shardOf_3 : decode cX1_shardOf 3 = .ok (.invokevirtual 85, 3) := by decide +kernel
theorem dX1_shardOf_6 : decode cX1_shardOf 6 = .ok (.ifCond .eq 7, 3) := by decide +kernel
theorem dX1_shardOf_9 : decode cX1_shardOf 9 = .ok (.iconst 0, 1) := by decide +kernel
theorem dX1_shardOf_10 : decode cX1_shardOf 10 = .ok (.goto 4, 3) := by decide +kernel
theorem dX1_shardOf_13 : decode cX1_shardOf 13 = .ok (.iconst 1, 1) := by decide +kernel
theorem dX1_shardOf_14 : decode cX1_shardOf 14 = .ok (.putfield 51, 3) := by decide +kernel
theorem dX1_shardOf_17 : decode cX1_shardOf 17 = .ok (.aload_n 0, 1) := by decide +kernel
theorem dX1_shardOf_18 : decode cX1_shardOf 18 = .ok (.getfield 51, 3) := by decide +kernel
theorem dX1_shardOf_21 : decode cX1_shardOf 21 = .ok (.ifCond .le 7, 3) := by decide +kernel
theorem dX1_shardOf_24 : decode cX1_shardOf 24 = .ok (.iconst 0, 1) := by decide +kernel
theorem dX1_shardOf_25 : decode cX1_shardOf 25 = .ok (.goto 9, 3) := by decide +kernel
theorem dX1_shardOf_28 : decode cX1_shardOf 28 = .ok (.aload_n 0, 1) := by decide +kernel
theorem dX1_shardOf_29 : decode cX1_shardOf 29 = .ok (.getfield 20, 3) := by decide +kernel
theorem dX1_shardOf_32 : decode cX1_shardOf 32 = .ok (.iload_n 1, 1) := by decide +kernel
theorem dX1_shardOf_33 : decode cX1_shardOf 33 = .ok (.iaload, 1) := by decide +kernel
theorem dX1_shardOf_34 : decode cX1_shardOf 34 = .ok (.ireturn, 1) := by decide +kernel
set_option maxRecDepth 20000 in
theorem ggX1_rows_X1_isShard : GoodIn wsX1_rows wsX1_isShard := goodIn_r _ [8, 9, 10, 7, 11] (by decide +kernel) (by decide +kernel)
set_option maxRecDepth 20000 in
theorem gX1_rows_X1_isShard : GoodIn wsX1_rows (va_wsS RX1 71 yX1_isShard wsX1_isShard) := goodIn_app (goodIn_of _ (by decide +kernel)) ggX1_rows_X1_isShard
set_option maxRecDepth 20000 in
theorem ggX1_rows_X1_many : GoodIn wsX1_rows wsX1_many := goodIn_r _ [15, 16, 17, 18, 19, 20, 7, 21, 2, 22, 23, 24, 25, 26, 27, 28, 29, 30, 31, 32, 33, 34, 35, 36, 37, 38, 39, 40, 41, 42, 43, 44] (by decide +kernel) (by decide +kernel)
set_option maxRecDepth 20000 in
theorem gX1_rows_X1_many : GoodIn wsX1_rows (wsV RX1 88 RX1 yX1_many wsX1_many) := goodIn_app (goodIn_of _ (by decide +kernel)) ggX1_rows_X1_many
theorem dX1_rows_0 : decode cX1_rows 0 = .ok (.aload_n 0, 1) := by decide +kernel
theorem dX1_rows_1 : decode cX1_rows 1 = .ok (.iload_n 1, 1) := by decide +kernel
theorem dX1_rows_2 : decode cX1_rows 2 = .ok (.invokestatic 71, 3) := by decide +kernel
theorem dX1_rows_5 : decode cX1_rows 5 = .ok (.ifCond .eq 7, 3) := by decide +kernel
theorem dX1_rows_8 : decode cX1_rows 8 = .ok (.iconst 0, 1) := by decide +kernel
theorem dX1_rows_9 : decode cX1_rows 9 = .ok (.goto 4, 3) := by decide +kernel
theorem dX1_rows_12 : decode cX1_rows 12 = .ok (.iconst 1, 1) := by decide +kernel
theorem dX1_rows_13 : decode cX1_rows 13 = .ok (.putfield 51, 3) := by decide +kernel
theorem dX1_rows_16 : decode cX1_rows 16 = .ok (.iconst 0, 1) := by decide +kernel
theorem dX1_rows_17 : decode cX1_rows 17 = .ok (.istore_n 2, 1) := by decide +kernel
theorem dX1_rows_18 : decode cX1_rows 18 = .ok (.iconst 0, 1) := by decide +kernel
theorem dX1_rows_19 : decode cX1_rows 19 = .ok (.istore_n 3, 1) := by decide +kernel
theorem dX1_rows_20 : decode cX1_rows 20 = .ok (.iload_n 3, 1) := by decide +kernel
theorem dX1_rows_21 : decode cX1_rows 21 = .ok (.aload_n 0, 1) := by decide +kernel
theorem dX1_rows_22 : decode cX1_rows 22 = .ok (.getfield 13, 3) := by decide +kernel
theorem dX1_rows_25 : decode cX1_rows 25 = .ok (.if_icmp .ge 58, 3) := by decide +kernel
theorem dX1_rows_28 : decode cX1_rows 28 = .ok (.aload_n 0, 1) := by decide +kernel
theorem dX1_rows_29 : decode cX1_rows 29 = .ok (.getfield 51, 3) := by decide +kernel
theorem dX1_rows_32 : decode cX1_rows 32 = .ok (.ifCond .ne 51, 3) := by decide +kernel
theorem dX1_rows_35 : decode cX1_rows 35 = .ok (.iload_n 2, 1) := by decide +kernel
theorem dX1_rows_36 : decode cX1_rows 36 = .ok (.aload_n 0, 1) := by decide +kernel
theorem dX1_rows_37 : decode cX1_rows 37 = .ok (.getfield 20, 3) := by decide +kernel
theorem dX1_rows_40 : decode cX1_rows 40 = .ok (.iload_n 3, 1) := by decide +kernel
theorem dX1_rows_41 : decode cX1_rows 41 = .ok (.iaload, 1) := by decide +kernel
theorem dX1_rows_42 : decode cX1_rows 42 = .ok (.iload_n 1, 1) := by decide +kernel
theorem dX1_rows_43 : decode cX1_rows 43 = .ok (.if_icmp .ne 12, 3) := by decide +kernel
theorem dX1_rows_46 : decode cX1_rows 46 = .ok (.aload_n 0, 1) := by decide +kernel
theorem dX1_rows_47 : decode cX1_rows 47 = .ok (.iload_n 3, 1) := by decide +kernel
theorem dX1_rows_48 : decode cX1_rows 48 = .ok (.iconst 0, 1) := by decide +kernel
theorem dX1_rows_49 : decode cX1_rows 49 = .ok (.invokevirtual 88, 3) := by decide +kernel
theorem dX1_rows_52 : decode cX1_rows 52 = .ok (.goto 23, 3) := by decide +kernel
theorem dX1_rows_55 : decode cX1_rows 55 = .ok (.aload_n 0, 1) := by decide +kernel
theorem dX1_rows_56 : decode cX1_rows 56 = .ok (.getfield 23, 3) := by decide +kernel
theorem dX1_rows_59 : decode cX1_rows 59 = .ok (.iload_n 3, 1) := by decide +kernel
theorem dX1_rows_60 : decode cX1_rows 60 = .ok (.iaload, 1) := by decide +kernel
theorem dX1_rows_61 : decode cX1_rows 61 = .ok (.iload_n 1, 1) := by decide +kernel
theorem dX1_rows_62 : decode cX1_rows 62 = .ok (.if_icmp .ne 12, 3) := by decide +kernel
theorem dX1_rows_65 : decode cX1_rows 65 = .ok (.aload_n 0, 1) := by decide +kernel
theorem dX1_rows_66 : decode cX1_rows 66 = .ok (.iload_n 3, 1) := by decide +kernel
theorem dX1_rows_67 : decode cX1_rows 67 = .ok (.iconst 1, 1) := by decide +kernel
theorem dX1_rows_68 : decode cX1_rows 68 = .ok (.invokevirtual 88, 3) := by decide +kernel
theorem dX1_rows_71 : decode cX1_rows 71 = .ok (.goto 4, 3) := by decide +kernel
theorem dX1_rows_74 : decode cX1_rows 74 = .ok (.iconst 0, 1) := by decide +kernel
theorem dX1_rows_75 : decode cX1_rows 75 = .ok (.iadd, 1) := by decide +kernel
theorem dX1_rows_76 : decode cX1_rows 76 = .ok (.istore_n 2, 1) := by decide +kernel
theorem dX1_rows_77 : decode cX1_rows 77 = .ok (.iinc 3 1, 3) := by decide +kernel
theorem dX1_rows_80 : decode cX1_rows 80 = .ok (.goto (-60), 3) := by decide +kernel
theorem dX1_rows_83 : decode cX1_rows 83 = .ok (.iload_n 2, 1) := by decide +kernel
theorem dX1_rows_84 : decode cX1_rows 84 = .ok (.ireturn, 1) := by decide +kernel
set_option maxRecDepth 20000 in
theorem ggX1_fix_X1_isThere : GoodIn wsX1_fix wsX1_isThere := goodIn_r _ [12, 5, 13, 14, 15, 16, 17, 18, 19, 20, 21, 22, 23, 24, 25, 26, 27, 28, 29, 30] (by decide +kernel) (by decide +kernel)
set_option maxRecDepth 20000 in
theorem gX1_fix_X1_isThere : GoodIn wsX1_fix (wsV RX1 62 RX1 yX1_isThere wsX1_isThere) := goodIn_app (goodIn_of _ (by decide +kernel)) ggX1_fix_X1_isThere
theorem dX1_fix_0 : decode cX1_fix 0 = .ok (.aload_n 0, 1) := by decide +kernel
theorem dX1_fix_1 : decode cX1_fix 1 = .ok (.aload_n 0, 1) := by decide +kernel
theorem dX1_fix_2 : decode cX1_fix 2 = .ok (.getfield 95, 3) := by decide +kernel
theorem dX1_fix_5 : decode cX1_fix 5 = .ok (.ifCond .eq 7, 3) := by decide +kernel
theorem dX1_fix_8 : decode cX1_fix 8 = .ok (.iconst 1, 1) := by decide +kernel
theorem dX1_fix_9 : decode cX1_fix 9 = .ok (.goto 4, 3) := by decide +kernel
theorem dX1_fix_12 : decode cX1_fix 12 = .ok (.iconst 0, 1) := by decide +kernel
theorem dX1_fix_13 : decode cX1_fix 13 = .ok (.putfield 51, 3) := by decide +kernel
theorem dX1_fix_16 : decode cX1_fix 16 = .ok (.aload_n 0, 1) := by decide +kernel
theorem dX1_fix_17 : decode cX1_fix 17 = .ok (.getfield 51, 3) := by decide +kernel
theorem dX1_fix_20 : decode cX1_fix 20 = .ok (.ifCond .le 5, 3) := by decide +kernel
theorem dX1_fix_23 : decode cX1_fix 23 = .ok (.iconst 0, 1) := by decide +kernel
theorem dX1_fix_24 : decode cX1_fix 24 = .ok (.ireturn, 1) := by decide +kernel
theorem dX1_fix_25 : decode cX1_fix 25 = .ok (.aload_n 0, 1) := by decide +kernel
theorem dX1_fix_26 : decode cX1_fix 26 = .ok (.iconst 1, 1) := by decide +kernel
theorem dX1_fix_27 : decode cX1_fix 27 = .ok (.putfield 95, 3) := by decide +kernel
theorem dX1_fix_30 : decode cX1_fix 30 = .ok (.aload_n 0, 1) := by decide +kernel
theorem dX1_fix_31 : decode cX1_fix 31 = .ok (.dup, 1) := by decide +kernel
theorem dX1_fix_32 : decode cX1_fix 32 = .ok (.getfield 99, 3) := by decide +kernel
theorem dX1_fix_35 : decode cX1_fix 35 = .ok (.iconst 1, 1) := by decide +kernel
theorem dX1_fix_36 : decode cX1_fix 36 = .ok (.iadd, 1) := by decide +kernel
theorem dX1_fix_37 : decode cX1_fix 37 = .ok (.putfield 99, 3) := by decide +kernel
theorem dX1_fix_40 : decode cX1_fix 40 = .ok (.iconst 0, 1) := by decide +kernel
theorem dX1_fix_41 : decode cX1_fix 41 = .ok (.istore_n 1, 1) := by decide +kernel
theorem dX1_fix_42 : decode cX1_fix 42 = .ok (.iload_n 1, 1) := by decide +kernel
theorem dX1_fix_43 : decode cX1_fix 43 = .ok (.bipush 100, 2) := by decide +kernel
theorem dX1_fix_45 : decode cX1_fix 45 = .ok (.if_icmp .ge 47, 3) := by decide +kernel
theorem dX1_fix_48 : decode cX1_fix 48 = .ok (.aload_n 0, 1) := by decide +kernel
theorem dX1_fix_49 : decode cX1_fix 49 = .ok (.getfield 30, 3) := by decide +kernel
theorem dX1_fix_52 : decode cX1_fix 52 = .ok (.iload_n 1, 1) := by decide +kernel
theorem dX1_fix_53 : decode cX1_fix 53 = .ok (.aload_n 0, 1) := by decide +kernel
theorem dX1_fix_54 : decode cX1_fix 54 = .ok (.iload_n 1, 1) := by decide +kernel
theorem dX1_fix_55 : decode cX1_fix 55 = .ok (.invokevirtual 62, 3) := by decide +kernel
theorem dX1_fix_58 : decode cX1_fix 58 = .ok (.ifCond .eq 19, 3) := by decide +kernel
theorem dX1_fix_61 : decode cX1_fix 61 = .ok (.aload_n 0, 1) := by decide +kernel
theorem dX1_fix_62 : decode cX1_fix 62 = .ok (.getfield 7, 3) := by decide +kernel
theorem dX1_fix_65 : decode cX1_fix 65 = .ok (.iload_n 1, 1) := by decide +kernel
theorem dX1_fix_66 : decode cX1_fix 66 = .ok (.iaload, 1) := by decide +kernel
theorem dX1_fix_67 : decode cX1_fix 67 = .ok (.iconst 1, 1) := by decide +kernel
theorem dX1_fix_68 : decode cX1_fix 68 = .ok (.isub, 1) := by decide +kernel
theorem dX1_fix_69 : decode cX1_fix 69 = .ok (.bipush 10, 2) := by decide +kernel
theorem dX1_fix_71 : decode cX1_fix 71 = .ok (.idiv, 1) := by decide +kernel
theorem dX1_fix_72 : decode cX1_fix 72 = .ok (.iconst 1, 1) := by decide +kernel
theorem dX1_fix_73 : decode cX1_fix 73 = .ok (.iadd, 1) := by decide +kernel
theorem dX1_fix_74 : decode cX1_fix 74 = .ok (.goto 4, 3) := by decide +kernel
theorem dX1_fix_77 : decode cX1_fix 77 = .ok (.iconst 0, 1) := by decide +kernel
theorem dX1_fix_78 : decode cX1_fix 78 = .ok (.iastore, 1) := by decide +kernel
theorem dX1_fix_79 : decode cX1_fix 79 = .ok (.aload_n 0, 1) := by decide +kernel
theorem dX1_fix_80 : decode cX1_fix 80 = .ok (.getfield 33, 3) := by decide +kernel
theorem dX1_fix_83 : decode cX1_fix 83 = .ok (.iload_n 1, 1) := by decide +kernel
theorem dX1_fix_84 : decode cX1_fix 84 = .ok (.iconst 0, 1) := by decide +kernel
theorem dX1_fix_85 : decode cX1_fix 85 = .ok (.iastore, 1) := by decide +kernel
theorem dX1_fix_86 : decode cX1_fix 86 = .ok (.iinc 1 1, 3) := by decide +kernel
theorem dX1_fix_89 : decode cX1_fix 89 = .ok (.goto (-47), 3) := by decide +kernel
theorem dX1_fix_92 : decode cX1_fix 92 = .ok (.aload_n 0, 1) := by decide +kernel
theorem dX1_fix_93 : decode cX1_fix 93 = .ok (.getfield 65, 3) := by decide +kernel
theorem dX1_fix_96 : decode cX1_fix 96 = .ok (.ireturn, 1) := by decide +kernel
set_option maxRecDepth 20000 in
theorem ggX1_onRoll_X1_asksKey : GoodIn wsX1_onRoll wsX1_asksKey := goodIn_r _ [7, 8, 9, 10, 6, 11, 12, 13, 14, 15, 16, 17, 18, 19, 20, 21, 22, 23, 24, 25, 26, 27, 28, 29, 30, 31, 32] (by decide +kernel) (by decide +kernel)
set_option maxRecDepth 20000 in
theorem gX1_onRoll_X1_asksKey : GoodIn wsX1_onRoll (wsV RX1 68 RX1 yX1_asksKey wsX1_asksKey) := goodIn_app (goodIn_of _ (by decide +kernel)) ggX1_onRoll_X1_asksKey
theorem dX1_onRoll_0 : decode cX1_onRoll 0 = .ok (.aload_n 0, 1) := by decide +kernel
theorem dX1_onRoll_1 : decode cX1_onRoll 1 = .ok (.iload_n 1, 1) := by decide +kernel
theorem dX1_onRoll_2 : decode cX1_onRoll 2 = .ok (.invokevirtual 68, 3) := by decide +kernel
theorem dX1_onRoll_5 : decode cX1_onRoll 5 = .ok (.ifCond .ne 7, 3) := by decide +kernel
theorem dX1_onRoll_8 : decode cX1_onRoll 8 = .ok (.iconst 0, 1) := by decide +kernel
theorem dX1_onRoll_9 : decode cX1_onRoll 9 = .ok (.goto 22, 3) := by decide +kernel
theorem dX1_onRoll_12 : decode cX1_onRoll 12 = .ok (.aload_n 0, 1) := by decide +kernel
theorem dX1_onRoll_13 : decode cX1_onRoll 13 = .ok (.getfield 95, 3) := by decide +kernel
theorem dX1_onRoll_16 : decode cX1_onRoll 16 = .ok (.ifCond .eq 14, 3) := by decide +kernel
theorem dX1_onRoll_19 : decode cX1_onRoll 19 = .ok (.aload_n 0, 1) := by decide +kernel
theorem dX1_onRoll_20 : decode cX1_onRoll 20 = .ok (.getfield 30, 3) := by decide +kernel
theorem dX1_onRoll_23 : decode cX1_onRoll 23 = .ok (.iload_n 1, 1) := by decide +kernel
theorem dX1_onRoll_24 : decode cX1_onRoll 24 = .ok (.iaload, 1) := by decide +kernel
theorem dX1_onRoll_25 : decode cX1_onRoll 25 = .ok (.iconst 1, 1) := by decide +kernel
theorem dX1_onRoll_26 : decode cX1_onRoll 26 = .ok (.isub, 1) := by decide +kernel
theorem dX1_onRoll_27 : decode cX1_onRoll 27 = .ok (.goto 4, 3) := by decide +kernel
theorem dX1_onRoll_30 : decode cX1_onRoll 30 = .ok (.iconst (-1), 1) := by decide +kernel
theorem dX1_onRoll_31 : decode cX1_onRoll 31 = .ok (.ireturn, 1) := by decide +kernel
set_option maxRecDepth 20000 in
theorem ggX1_send_X1_isKey : GoodIn wsX1_send wsX1_isKey := goodIn_r _ [15, 16, 17, 14, 18] (by decide +kernel) (by decide +kernel)
set_option maxRecDepth 20000 in
theorem gX1_send_X1_isKey : GoodIn wsX1_send (va_wsS RX1 58 yX1_isKey wsX1_isKey) := goodIn_app (goodIn_of _ (by decide +kernel)) ggX1_send_X1_isKey
set_option maxRecDepth 20000 in
theorem ggX1_send_X1_isThere : GoodIn wsX1_send wsX1_isThere := goodIn_r _ [22, 8, 23, 24, 25, 26, 27, 28, 29, 30, 31, 32, 33, 34, 35, 36, 37, 38, 39, 40] (by decide +kernel) (by decide +kernel)
set_option maxRecDepth 20000 in
theorem gX1_send_X1_isThere : GoodIn wsX1_send (wsV RX1 62 RX1 yX1_isThere wsX1_isThere) := goodIn_app (goodIn_of _ (by decide +kernel)) ggX1_send_X1_isThere
theorem dX1_send_0 : decode cX1_send 0 = .ok (.aload_n 0, 1) := by decide +kernel
theorem dX1_send_1 : decode cX1_send 1 = .ok (.iload_n 1, 1) := by decide +kernel
theorem dX1_send_2 : decode cX1_send 2 = .ok (.invokestatic 58, 3) := by decide +kernel
theorem dX1_send_5 : decode cX1_send 5 = .ok (.ifCond .eq 7, 3) := by decide +kernel
theorem dX1_send_8 : decode cX1_send 8 = .ok (.iconst 0, 1) := by decide +kernel
theorem dX1_send_9 : decode cX1_send 9 = .ok (.goto 4, 3) := by decide +kernel
theorem dX1_send_12 : decode cX1_send 12 = .ok (.iconst 1, 1) := by decide +kernel
theorem dX1_send_13 : decode cX1_send 13 = .ok (.putfield 51, 3) := by decide +kernel
theorem dX1_send_16 : decode cX1_send 16 = .ok (.aload_n 0, 1) := by decide +kernel
theorem dX1_send_17 : decode cX1_send 17 = .ok (.getfield 51, 3) := by decide +kernel
theorem dX1_send_20 : decode cX1_send 20 = .ok (.ifCond .ne 81, 3) := by decide +kernel
theorem dX1_send_23 : decode cX1_send 23 = .ok (.aload_n 0, 1) := by decide +kernel
theorem dX1_send_24 : decode cX1_send 24 = .ok (.getfield 95, 3) := by decide +kernel
theorem dX1_send_27 : decode cX1_send 27 = .ok (.ifCond .eq 33, 3) := by decide +kernel
theorem dX1_send_30 : decode cX1_send 30 = .ok (.aload_n 0, 1) := by decide +kernel
theorem dX1_send_31 : decode cX1_send 31 = .ok (.getfield 30, 3) := by decide +kernel
theorem dX1_send_34 : decode cX1_send 34 = .ok (.iload_n 1, 1) := by decide +kernel
theorem dX1_send_35 : decode cX1_send 35 = .ok (.iaload, 1) := by decide +kernel
theorem dX1_send_36 : decode cX1_send 36 = .ok (.ifCond .le 24, 3) := by decide +kernel
theorem dX1_send_39 : decode cX1_send 39 = .ok (.aload_n 0, 1) := by decide +kernel
theorem dX1_send_40 : decode cX1_send 40 = .ok (.iload_n 1, 1) := by decide +kernel
theorem dX1_send_41 : decode cX1_send 41 = .ok (.invokevirtual 62, 3) := by decide +kernel
theorem dX1_send_44 : decode cX1_send 44 = .ok (.ifCond .eq 16, 3) := by decide +kernel
theorem dX1_send_47 : decode cX1_send 47 = .ok (.aload_n 0, 1) := by decide +kernel
theorem dX1_send_48 : decode cX1_send 48 = .ok (.getfield 102, 3) := by decide +kernel
theorem dX1_send_51 : decode cX1_send 51 = .ok (.bipush 60, 2) := by decide +kernel
theorem dX1_send_53 : decode cX1_send 53 = .ok (.if_icmp .ge 7, 3) := by decide +kernel
theorem dX1_send_56 : decode cX1_send 56 = .ok (.iconst 1, 1) := by decide +kernel
theorem dX1_send_57 : decode cX1_send 57 = .ok (.goto 4, 3) := by decide +kernel
theorem dX1_send_60 : decode cX1_send 60 = .ok (.iconst 0, 1) := by decide +kernel
theorem dX1_send_61 : decode cX1_send 61 = .ok (.istore_n 2, 1) := by decide +kernel
theorem dX1_send_62 : decode cX1_send 62 = .ok (.aload_n 0, 1) := by decide +kernel
theorem dX1_send_63 : decode cX1_send 63 = .ok (.iload_n 2, 1) := by decide +kernel
theorem dX1_send_64 : decode cX1_send 64 = .ok (.ifCond .eq 29, 3) := by decide +kernel
theorem dX1_send_67 : decode cX1_send 67 = .ok (.aload_n 0, 1) := by decide +kernel
theorem dX1_send_68 : decode cX1_send 68 = .ok (.getfield 33, 3) := by decide +kernel
theorem dX1_send_71 : decode cX1_send 71 = .ok (.iload_n 1, 1) := by decide +kernel
theorem dX1_send_72 : decode cX1_send 72 = .ok (.iaload, 1) := by decide +kernel
theorem dX1_send_73 : decode cX1_send 73 = .ok (.ifCond .le 24, 3) := by decide +kernel
theorem dX1_send_76 : decode cX1_send 76 = .ok (.aload_n 0, 1) := by decide +kernel
theorem dX1_send_77 : decode cX1_send 77 = .ok (.getfield 39, 3) := by decide +kernel
theorem dX1_send_80 : decode cX1_send 80 = .ok (.aload_n 0, 1) := by decide +kernel
theorem dX1_send_81 : decode cX1_send 81 = .ok (.getfield 33, 3) := by decide +kernel
theorem dX1_send_84 : decode cX1_send 84 = .ok (.iload_n 1, 1) := by decide +kernel
theorem dX1_send_85 : decode cX1_send 85 = .ok (.iaload, 1) := by decide +kernel
theorem dX1_send_86 : decode cX1_send 86 = .ok (.iconst 1, 1) := by decide +kernel
theorem dX1_send_87 : decode cX1_send 87 = .ok (.isub, 1) := by decide +kernel
theorem dX1_send_88 : decode cX1_send 88 = .ok (.iaload, 1) := by decide +kernel
theorem dX1_send_89 : decode cX1_send 89 = .ok (.iconst 2, 1) := by decide +kernel
theorem dX1_send_90 : decode cX1_send 90 = .ok (.if_icmp .ne 7, 3) := by decide +kernel
theorem dX1_send_93 : decode cX1_send 93 = .ok (.iconst 2, 1) := by decide +kernel
theorem dX1_send_94 : decode cX1_send 94 = .ok (.goto 4, 3) := by decide +kernel
theorem dX1_send_97 : decode cX1_send 97 = .ok (.iconst 0, 1) := by decide +kernel
theorem dX1_send_98 : decode cX1_send 98 = .ok (.putfield 51, 3) := by decide +kernel
theorem dX1_send_101 : decode cX1_send 101 = .ok (.aload_n 0, 1) := by decide +kernel
theorem dX1_send_102 : decode cX1_send 102 = .ok (.getfield 51, 3) := by decide +kernel
theorem dX1_send_105 : decode cX1_send 105 = .ok (.ifCond .le 5, 3) := by decide +kernel
theorem dX1_send_108 : decode cX1_send 108 = .ok (.iconst 0, 1) := by decide +kernel
theorem dX1_send_109 : decode cX1_send 109 = .ok (.ireturn, 1) := by decide +kernel
theorem dX1_send_110 : decode cX1_send 110 = .ok (.aload_n 0, 1) := by decide +kernel
theorem dX1_send_111 : decode cX1_send 111 = .ok (.getfield 33, 3) := by decide +kernel
theorem dX1_send_114 : decode cX1_send 114 = .ok (.iload_n 1, 1) := by decide +kernel
theorem dX1_send_115 : decode cX1_send 115 = .ok (.iaload, 1) := by decide +kernel
theorem dX1_send_116 : decode cX1_send 116 = .ok (.ifCond .le 17, 3) := by decide +kernel
theorem dX1_send_119 : decode cX1_send 119 = .ok (.aload_n 0, 1) := by decide +kernel
theorem dX1_send_120 : decode cX1_send 120 = .ok (.getfield 39, 3) := by decide +kernel
theorem dX1_send_123 : decode cX1_send 123 = .ok (.aload_n 0, 1) := by decide +kernel
theorem dX1_send_124 : decode cX1_send 124 = .ok (.getfield 33, 3) := by decide +kernel
theorem dX1_send_127 : decode cX1_send 127 = .ok (.iload_n 1, 1) := by decide +kernel
theorem dX1_send_128 : decode cX1_send 128 = .ok (.iaload, 1) := by decide +kernel
theorem dX1_send_129 : decode cX1_send 129 = .ok (.iconst 1, 1) := by decide +kernel
theorem dX1_send_130 : decode cX1_send 130 = .ok (.isub, 1) := by decide +kernel
theorem dX1_send_131 : decode cX1_send 131 = .ok (.iconst 1, 1) := by decide +kernel
theorem dX1_send_132 : decode cX1_send 132 = .ok (.iastore, 1) := by decide +kernel
theorem dX1_send_133 : decode cX1_send 133 = .ok (.aload_n 0, 1) := by decide +kernel
theorem dX1_send_134 : decode cX1_send 134 = .ok (.getfield 36, 3) := by decide +kernel
theorem dX1_send_137 : decode cX1_send 137 = .ok (.aload_n 0, 1) := by decide +kernel
theorem dX1_send_138 : decode cX1_send 138 = .ok (.getfield 102, 3) := by decide +kernel
theorem dX1_send_141 : decode cX1_send 141 = .ok (.aload_n 0, 1) := by decide +kernel
theorem dX1_send_142 : decode cX1_send 142 = .ok (.getfield 7, 3) := by decide +kernel
theorem dX1_send_145 : decode cX1_send 145 = .ok (.iload_n 1, 1) := by decide +kernel
theorem dX1_send_146 : decode cX1_send 146 = .ok (.iaload, 1) := by decide +kernel
theorem dX1_send_147 : decode cX1_send 147 = .ok (.iconst 1, 1) := by decide +kernel
theorem dX1_send_148 : decode cX1_send 148 = .ok (.isub, 1) := by decide +kernel
theorem dX1_send_149 : decode cX1_send 149 = .ok (.iastore, 1) := by decide +kernel
theorem dX1_send_150 : decode cX1_send 150 = .ok (.aload_n 0, 1) := by decide +kernel
theorem dX1_send_151 : decode cX1_send 151 = .ok (.getfield 39, 3) := by decide +kernel
theorem dX1_send_154 : decode cX1_send 154 = .ok (.aload_n 0, 1) := by decide +kernel
theorem dX1_send_155 : decode cX1_send 155 = .ok (.getfield 102, 3) := by decide +kernel
theorem dX1_send_158 : decode cX1_send 158 = .ok (.iconst 0, 1) := by decide +kernel
theorem dX1_send_159 : decode cX1_send 159 = .ok (.iastore, 1) := by decide +kernel
theorem dX1_send_160 : decode cX1_send 160 = .ok (.aload_n 0, 1) := by decide +kernel
theorem dX1_send_161 : decode cX1_send 161 = .ok (.getfield 42, 3) := by decide +kernel
theorem dX1_send_164 : decode cX1_send 164 = .ok (.aload_n 0, 1) := by decide +kernel
theorem dX1_send_165 : decode cX1_send 165 = .ok (.getfield 102, 3) := by decide +kernel
theorem dX1_send_168 : decode cX1_send 168 = .ok (.aload_n 0, 1) := by decide +kernel
theorem dX1_send_169 : decode cX1_send 169 = .ok (.getfield 99, 3) := by decide +kernel
theorem dX1_send_172 : decode cX1_send 172 = .ok (.iastore, 1) := by decide +kernel
theorem dX1_send_173 : decode cX1_send 173 = .ok (.aload_n 0, 1) := by decide +kernel
theorem dX1_send_174 : decode cX1_send 174 = .ok (.getfield 45, 3) := by decide +kernel
theorem dX1_send_177 : decode cX1_send 177 = .ok (.aload_n 0, 1) := by decide +kernel
theorem dX1_send_178 : decode cX1_send 178 = .ok (.getfield 102, 3) := by decide +kernel
theorem dX1_send_181 : decode cX1_send 181 = .ok (.aload_n 0, 1) := by decide +kernel
theorem dX1_send_182 : decode cX1_send 182 = .ok (.getfield 30, 3) := by decide +kernel
theorem dX1_send_185 : decode cX1_send 185 = .ok (.iload_n 1, 1) := by decide +kernel
theorem dX1_send_186 : decode cX1_send 186 = .ok (.iaload, 1) := by decide +kernel
theorem dX1_send_187 : decode cX1_send 187 = .ok (.iconst 1, 1) := by decide +kernel
theorem dX1_send_188 : decode cX1_send 188 = .ok (.isub, 1) := by decide +kernel
theorem dX1_send_189 : decode cX1_send 189 = .ok (.iastore, 1) := by decide +kernel
theorem dX1_send_190 : decode cX1_send 190 = .ok (.aload_n 0, 1) := by decide +kernel
theorem dX1_send_191 : decode cX1_send 191 = .ok (.dup, 1) := by decide +kernel
theorem dX1_send_192 : decode cX1_send 192 = .ok (.getfield 102, 3) := by decide +kernel
theorem dX1_send_195 : decode cX1_send 195 = .ok (.iconst 1, 1) := by decide +kernel
theorem dX1_send_196 : decode cX1_send 196 = .ok (.iadd, 1) := by decide +kernel
theorem dX1_send_197 : decode cX1_send 197 = .ok (.putfield 102, 3) := by decide +kernel
theorem dX1_send_200 : decode cX1_send 200 = .ok (.aload_n 0, 1) := by decide +kernel
theorem dX1_send_201 : decode cX1_send 201 = .ok (.getfield 33, 3) := by decide +kernel
theorem dX1_send_204 : decode cX1_send 204 = .ok (.iload_n 1, 1) := by decide +kernel
theorem dX1_send_205 : decode cX1_send 205 = .ok (.aload_n 0, 1) := by decide +kernel
theorem dX1_send_206 : decode cX1_send 206 = .ok (.getfield 102, 3) := by decide +kernel
theorem dX1_send_209 : decode cX1_send 209 = .ok (.iastore, 1) := by decide +kernel
theorem dX1_send_210 : decode cX1_send 210 = .ok (.aload_n 0, 1) := by decide +kernel
theorem dX1_send_211 : decode cX1_send 211 = .ok (.getfield 102, 3) := by decide +kernel
theorem dX1_send_214 : decode cX1_send 214 = .ok (.iconst 1, 1) := by decide +kernel
theorem dX1_send_215 : decode cX1_send 215 = .ok (.isub, 1) := by decide +kernel
theorem dX1_send_216 : decode cX1_send 216 = .ok (.ireturn, 1) := by decide +kernel
set_option maxRecDepth 20000 in
theorem ggX1_asksBallot_X1_in : GoodIn wsX1_asksBallot wsX1_in := goodIn_r _ [6] (by decide +kernel) (by decide +kernel)
set_option maxRecDepth 20000 in
theorem gX1_asksBallot_X1_in : GoodIn wsX1_asksBallot (va_wsS RX1 54 yX1_in wsX1_in) := goodIn_app (goodIn_of _ (by decide +kernel)) ggX1_asksBallot_X1_in
theorem dX1_asksBallot_0 : decode cX1_asksBallot 0 = .ok (.aload_n 0, 1) := by decide +kernel
theorem dX1_asksBallot_1 : decode cX1_asksBallot 1 = .ok (.iload_n 1, 1) := by decide +kernel
theorem dX1_asksBallot_2 : decode cX1_asksBallot 2 = .ok (.iconst 0, 1) := by decide +kernel
theorem dX1_asksBallot_3 : decode cX1_asksBallot 3 = .ok (.aload_n 0, 1) := by decide +kernel
theorem dX1_asksBallot_4 : decode cX1_asksBallot 4 = .ok (.getfield 102, 3) := by decide +kernel
theorem dX1_asksBallot_7 : decode cX1_asksBallot 7 = .ok (.iconst 1, 1) := by decide +kernel
theorem dX1_asksBallot_8 : decode cX1_asksBallot 8 = .ok (.isub, 1) := by decide +kernel
theorem dX1_asksBallot_9 : decode cX1_asksBallot 9 = .ok (.invokestatic 54, 3) := by decide +kernel
theorem dX1_asksBallot_12 : decode cX1_asksBallot 12 = .ok (.ifCond .eq 7, 3) := by decide +kernel
theorem dX1_asksBallot_15 : decode cX1_asksBallot 15 = .ok (.iconst 0, 1) := by decide +kernel
theorem dX1_asksBallot_16 : decode cX1_asksBallot 16 = .ok (.goto 4, 3) := by decide +kernel
theorem dX1_asksBallot_19 : decode cX1_asksBallot 19 = .ok (.iconst 1, 1) := by decide +kernel
theorem dX1_asksBallot_20 : decode cX1_asksBallot 20 = .ok (.putfield 51, 3) := by decide +kernel
theorem dX1_asksBallot_23 : decode cX1_asksBallot 23 = .ok (.aload_n 0, 1) := by decide +kernel
theorem dX1_asksBallot_24 : decode cX1_asksBallot 24 = .ok (.getfield 51, 3) := by decide +kernel
theorem dX1_asksBallot_27 : decode cX1_asksBallot 27 = .ok (.ifCond .ne 7, 3) := by decide +kernel
theorem dX1_asksBallot_30 : decode cX1_asksBallot 30 = .ok (.iconst 1, 1) := by decide +kernel
theorem dX1_asksBallot_31 : decode cX1_asksBallot 31 = .ok (.goto 4, 3) := by decide +kernel
theorem dX1_asksBallot_34 : decode cX1_asksBallot 34 = .ok (.iconst 0, 1) := by decide +kernel
theorem dX1_asksBallot_35 : decode cX1_asksBallot 35 = .ok (.ireturn, 1) := by decide +kernel
set_option maxRecDepth 20000 in
theorem ggX1_sentTo_X1_asksBallot : GoodIn wsX1_sentTo wsX1_asksBallot := goodIn_r _ [6, 7, 8, 9, 10, 5, 11, 12, 13, 14, 15, 16, 17, 18, 19, 20, 21, 22, 23, 24, 25, 26, 27, 28, 29] (by decide +kernel) (by decide +kernel)
set_option maxRecDepth 20000 in
theorem gX1_sentTo_X1_asksBallot : GoodIn wsX1_sentTo (wsV RX1 105 RX1 yX1_asksBallot wsX1_asksBallot) := goodIn_app (goodIn_of _ (by decide +kernel)) ggX1_sentTo_X1_asksBallot
theorem dX1_sentTo_0 : decode cX1_sentTo 0 = .ok (.aload_n 0, 1) := by decide +kernel
theorem dX1_sentTo_1 : decode cX1_sentTo 1 = .ok (.iload_n 1, 1) := by decide +kernel
theorem dX1_sentTo_2 : decode cX1_sentTo 2 = .ok (.invokevirtual 105, 3) := by decide +kernel
theorem dX1_sentTo_5 : decode cX1_sentTo 5 = .ok (.ifCond .eq 12, 3) := by decide +kernel
theorem dX1_sentTo_8 : decode cX1_sentTo 8 = .ok (.aload_n 0, 1) := by decide +kernel
theorem dX1_sentTo_9 : decode cX1_sentTo 9 = .ok (.getfield 36, 3) := by decide +kernel
theorem dX1_sentTo_12 : decode cX1_sentTo 12 = .ok (.iload_n 1, 1) := by decide +kernel
theorem dX1_sentTo_13 : decode cX1_sentTo 13 = .ok (.iaload, 1) := by decide +kernel
theorem dX1_sentTo_14 : decode cX1_sentTo 14 = .ok (.goto 4, 3) := by decide +kernel
theorem dX1_sentTo_17 : decode cX1_sentTo 17 = .ok (.iconst 0, 1) := by decide +kernel
theorem dX1_sentTo_18 : decode cX1_sentTo 18 = .ok (.ireturn, 1) := by decide +kernel
set_option maxRecDepth 20000 in
theorem ggX1_giveBack_X1_in : GoodIn wsX1_giveBack wsX1_in := goodIn_r _ [12] (by decide +kernel) (by decide +kernel)
set_option maxRecDepth 20000 in
theorem gX1_giveBack_X1_in : GoodIn wsX1_giveBack (va_wsS RX1 54 yX1_in wsX1_in) := goodIn_app (goodIn_of _ (by decide +kernel)) ggX1_giveBack_X1_in
theorem dX1_giveBack_0 : decode cX1_giveBack 0 = .ok (.aload_n 0, 1) := by decide +kernel
theorem dX1_giveBack_1 : decode cX1_giveBack 1 = .ok (.iload_n 1, 1) := by decide +kernel
theorem dX1_giveBack_2 : decode cX1_giveBack 2 = .ok (.iconst 0, 1) := by decide +kernel
theorem dX1_giveBack_3 : decode cX1_giveBack 3 = .ok (.aload_n 0, 1) := by decide +kernel
theorem dX1_giveBack_4 : decode cX1_giveBack 4 = .ok (.getfield 102, 3) := by decide +kernel
theorem dX1_giveBack_7 : decode cX1_giveBack 7 = .ok (.iconst 1, 1) := by decide +kernel
theorem dX1_giveBack_8 : decode cX1_giveBack 8 = .ok (.isub, 1) := by decide +kernel
theorem dX1_giveBack_9 : decode cX1_giveBack 9 = .ok (.invokestatic 54, 3) := by decide +kernel
theorem dX1_giveBack_12 : decode cX1_giveBack 12 = .ok (.ifCond .ne 7, 3) := by decide +kernel
theorem dX1_giveBack_15 : decode cX1_giveBack 15 = .ok (.iconst 1, 1) := by decide +kernel
theorem dX1_giveBack_16 : decode cX1_giveBack 16 = .ok (.goto 17, 3) := by decide +kernel
theorem dX1_giveBack_19 : decode cX1_giveBack 19 = .ok (.iload_n 2, 1) := by decide +kernel
theorem dX1_giveBack_20 : decode cX1_giveBack 20 = .ok (.iconst 0, 1) := by decide +kernel
theorem dX1_giveBack_21 : decode cX1_giveBack 21 = .ok (.iconst 2, 1) := by decide +kernel
theorem dX1_giveBack_22 : decode cX1_giveBack 22 = .ok (.invokestatic 54, 3) := by decide +kernel
theorem dX1_giveBack_25 : decode cX1_giveBack 25 = .ok (.ifCond .ne 7, 3) := by decide +kernel
theorem dX1_giveBack_28 : decode cX1_giveBack 28 = .ok (.iconst 2, 1) := by decide +kernel
theorem dX1_giveBack_29 : decode cX1_giveBack 29 = .ok (.goto 4, 3) := by decide +kernel
theorem dX1_giveBack_32 : decode cX1_giveBack 32 = .ok (.iconst 0, 1) := by decide +kernel
theorem dX1_giveBack_33 : decode cX1_giveBack 33 = .ok (.putfield 51, 3) := by decide +kernel
theorem dX1_giveBack_36 : decode cX1_giveBack 36 = .ok (.aload_n 0, 1) := by decide +kernel
theorem dX1_giveBack_37 : decode cX1_giveBack 37 = .ok (.getfield 51, 3) := by decide +kernel
theorem dX1_giveBack_40 : decode cX1_giveBack 40 = .ok (.ifCond .ne 41, 3) := by decide +kernel
theorem dX1_giveBack_43 : decode cX1_giveBack 43 = .ok (.aload_n 0, 1) := by decide +kernel
theorem dX1_giveBack_44 : decode cX1_giveBack 44 = .ok (.aload_n 0, 1) := by decide +kernel
theorem dX1_giveBack_45 : decode cX1_giveBack 45 = .ok (.getfield 39, 3) := by decide +kernel
theorem dX1_giveBack_48 : decode cX1_giveBack 48 = .ok (.iload_n 1, 1) := by decide +kernel
theorem dX1_giveBack_49 : decode cX1_giveBack 49 = .ok (.iaload, 1) := by decide +kernel
theorem dX1_giveBack_50 : decode cX1_giveBack 50 = .ok (.ifCond .ne 23, 3) := by decide +kernel
theorem dX1_giveBack_53 : decode cX1_giveBack 53 = .ok (.aload_n 0, 1) := by decide +kernel
theorem dX1_giveBack_54 : decode cX1_giveBack 54 = .ok (.getfield 95, 3) := by decide +kernel
theorem dX1_giveBack_57 : decode cX1_giveBack 57 = .ok (.ifCond .eq 16, 3) := by decide +kernel
theorem dX1_giveBack_60 : decode cX1_giveBack 60 = .ok (.aload_n 0, 1) := by decide +kernel
theorem dX1_giveBack_61 : decode cX1_giveBack 61 = .ok (.getfield 42, 3) := by decide +kernel
theorem dX1_giveBack_64 : decode cX1_giveBack 64 = .ok (.iload_n 1, 1) := by decide +kernel
theorem dX1_giveBack_65 : decode cX1_giveBack 65 = .ok (.iaload, 1) := by decide +kernel
theorem dX1_giveBack_66 : decode cX1_giveBack 66 = .ok (.aload_n 0, 1) := by decide +kernel
theorem dX1_giveBack_67 : decode cX1_giveBack 67 = .ok (.getfield 99, 3) := by decide +kernel
theorem dX1_giveBack_70 : decode cX1_giveBack 70 = .ok (.if_icmp .eq 7, 3) := by decide +kernel
theorem dX1_giveBack_73 : decode cX1_giveBack 73 = .ok (.iconst 3, 1) := by decide +kernel
theorem dX1_giveBack_74 : decode cX1_giveBack 74 = .ok (.goto 4, 3) := by decide +kernel
theorem dX1_giveBack_77 : decode cX1_giveBack 77 = .ok (.iconst 0, 1) := by decide +kernel
theorem dX1_giveBack_78 : decode cX1_giveBack 78 = .ok (.putfield 51, 3) := by decide +kernel
theorem dX1_giveBack_81 : decode cX1_giveBack 81 = .ok (.aload_n 0, 1) := by decide +kernel
theorem dX1_giveBack_82 : decode cX1_giveBack 82 = .ok (.getfield 51, 3) := by decide +kernel
theorem dX1_giveBack_85 : decode cX1_giveBack 85 = .ok (.ifCond .le 5, 3) := by decide +kernel
theorem dX1_giveBack_88 : decode cX1_giveBack 88 = .ok (.iconst 0, 1) := by decide +kernel
theorem dX1_giveBack_89 : decode cX1_giveBack 89 = .ok (.ireturn, 1) := by decide +kernel
theorem dX1_giveBack_90 : decode cX1_giveBack 90 = .ok (.aload_n 0, 1) := by decide +kernel
theorem dX1_giveBack_91 : decode cX1_giveBack 91 = .ok (.getfield 39, 3) := by decide +kernel
theorem dX1_giveBack_94 : decode cX1_giveBack 94 = .ok (.iload_n 1, 1) := by decide +kernel
theorem dX1_giveBack_95 : decode cX1_giveBack 95 = .ok (.iconst 2, 1) := by decide +kernel
theorem dX1_giveBack_96 : decode cX1_giveBack 96 = .ok (.iastore, 1) := by decide +kernel
theorem dX1_giveBack_97 : decode cX1_giveBack 97 = .ok (.aload_n 0, 1) := by decide +kernel
theorem dX1_giveBack_98 : decode cX1_giveBack 98 = .ok (.getfield 48, 3) := by decide +kernel
theorem dX1_giveBack_101 : decode cX1_giveBack 101 = .ok (.iconst 3, 1) := by decide +kernel
theorem dX1_giveBack_102 : decode cX1_giveBack 102 = .ok (.aload_n 0, 1) := by decide +kernel
theorem dX1_giveBack_103 : decode cX1_giveBack 103 = .ok (.getfield 45, 3) := by decide +kernel
theorem dX1_giveBack_106 : decode cX1_giveBack 106 = .ok (.iload_n 1, 1) := by decide +kernel
theorem dX1_giveBack_107 : decode cX1_giveBack 107 = .ok (.iaload, 1) := by decide +kernel
theorem dX1_giveBack_108 : decode cX1_giveBack 108 = .ok (.imul, 1) := by decide +kernel
theorem dX1_giveBack_109 : decode cX1_giveBack 109 = .ok (.iload_n 2, 1) := by decide +kernel
theorem dX1_giveBack_110 : decode cX1_giveBack 110 = .ok (.iadd, 1) := by decide +kernel
theorem dX1_giveBack_111 : decode cX1_giveBack 111 = .ok (.dup2, 1) := by decide +kernel
theorem dX1_giveBack_112 : decode cX1_giveBack 112 = .ok (.iaload, 1) := by decide +kernel
theorem dX1_giveBack_113 : decode cX1_giveBack 113 = .ok (.iconst 1, 1) := by decide +kernel
theorem dX1_giveBack_114 : decode cX1_giveBack 114 = .ok (.iadd, 1) := by decide +kernel
theorem dX1_giveBack_115 : decode cX1_giveBack 115 = .ok (.iastore, 1) := by decide +kernel
theorem dX1_giveBack_116 : decode cX1_giveBack 116 = .ok (.aload_n 0, 1) := by decide +kernel
theorem dX1_giveBack_117 : decode cX1_giveBack 117 = .ok (.getfield 45, 3) := by decide +kernel
theorem dX1_giveBack_120 : decode cX1_giveBack 120 = .ok (.iload_n 1, 1) := by decide +kernel
theorem dX1_giveBack_121 : decode cX1_giveBack 121 = .ok (.iaload, 1) := by decide +kernel
theorem dX1_giveBack_122 : decode cX1_giveBack 122 = .ok (.ireturn, 1) := by decide +kernel
set_option maxRecDepth 20000 in
theorem ggX1_stateOf_X1_asksBallot : GoodIn wsX1_stateOf wsX1_asksBallot := goodIn_r _ [6, 7, 8, 9, 10, 5, 11, 12, 13, 14, 15, 16, 17, 18, 19, 20, 21, 22, 23, 24, 25, 26, 27, 28, 29] (by decide +kernel) (by decide +kernel)
set_option maxRecDepth 20000 in
theorem gX1_stateOf_X1_asksBallot : GoodIn wsX1_stateOf (wsV RX1 105 RX1 yX1_asksBallot wsX1_asksBallot) := goodIn_app (goodIn_of _ (by decide +kernel)) ggX1_stateOf_X1_asksBallot
theorem dX1_stateOf_0 : decode cX1_stateOf 0 = .ok (.aload_n 0, 1) := by decide +kernel
theorem dX1_stateOf_1 : decode cX1_stateOf 1 = .ok (.iload_n 1, 1) := by decide +kernel
theorem dX1_stateOf_2 : decode cX1_stateOf 2 = .ok (.invokevirtual 105, 3) := by decide +kernel
theorem dX1_stateOf_5 : decode cX1_stateOf 5 = .ok (.ifCond .eq 12, 3) := by decide +kernel
theorem dX1_stateOf_8 : decode cX1_stateOf 8 = .ok (.aload_n 0, 1) := by decide +kernel
theorem dX1_stateOf_9 : decode cX1_stateOf 9 = .ok (.getfield 39, 3) := by decide +kernel
theorem dX1_stateOf_12 : decode cX1_stateOf 12 = .ok (.iload_n 1, 1) := by decide +kernel
theorem dX1_stateOf_13 : decode cX1_stateOf 13 = .ok (.iaload, 1) := by decide +kernel
theorem dX1_stateOf_14 : decode cX1_stateOf 14 = .ok (.goto 4, 3) := by decide +kernel
theorem dX1_stateOf_17 : decode cX1_stateOf 17 = .ok (.iconst 0, 1) := by decide +kernel
theorem dX1_stateOf_18 : decode cX1_stateOf 18 = .ok (.ireturn, 1) := by decide +kernel
set_option maxRecDepth 20000 in
theorem ggX1_counted_X1_isShard : GoodIn wsX1_counted wsX1_isShard := goodIn_r _ [6, 7, 8, 5, 9] (by decide +kernel) (by decide +kernel)
set_option maxRecDepth 20000 in
theorem gX1_counted_X1_isShard : GoodIn wsX1_counted (va_wsS RX1 71 yX1_isShard wsX1_isShard) := goodIn_app (goodIn_of _ (by decide +kernel)) ggX1_counted_X1_isShard
set_option maxRecDepth 20000 in
theorem ggX1_counted_X1_in : GoodIn wsX1_counted wsX1_in := goodIn_r _ [9] (by decide +kernel) (by decide +kernel)
set_option maxRecDepth 20000 in
theorem gX1_counted_X1_in : GoodIn wsX1_counted (va_wsS RX1 54 yX1_in wsX1_in) := goodIn_app (goodIn_of _ (by decide +kernel)) ggX1_counted_X1_in
theorem dX1_counted_0 : decode cX1_counted 0 = .ok (.aload_n 0, 1) := by decide +kernel
theorem dX1_counted_1 : decode cX1_counted 1 = .ok (.iload_n 1, 1) := by decide +kernel
theorem dX1_counted_2 : decode cX1_counted 2 = .ok (.invokestatic 71, 3) := by decide +kernel
theorem dX1_counted_5 : decode cX1_counted 5 = .ok (.ifCond .ne 7, 3) := by decide +kernel
theorem dX1_counted_8 : decode cX1_counted 8 = .ok (.iconst 1, 1) := by decide +kernel
theorem dX1_counted_9 : decode cX1_counted 9 = .ok (.goto 17, 3) := by decide +kernel
theorem dX1_counted_12 : decode cX1_counted 12 = .ok (.iload_n 2, 1) := by decide +kernel
theorem dX1_counted_13 : decode cX1_counted 13 = .ok (.iconst 0, 1) := by decide +kernel
theorem dX1_counted_14 : decode cX1_counted 14 = .ok (.iconst 2, 1) := by decide +kernel
theorem dX1_counted_15 : decode cX1_counted 15 = .ok (.invokestatic 54, 3) := by decide +kernel
theorem dX1_counted_18 : decode cX1_counted 18 = .ok (.ifCond .eq 7, 3) := by decide +kernel
theorem dX1_counted_21 : decode cX1_counted 21 = .ok (.iconst 0, 1) := by decide +kernel
theorem dX1_counted_22 : decode cX1_counted 22 = .ok (.goto 4, 3) := by decide +kernel
theorem dX1_counted_25 : decode cX1_counted 25 = .ok (.iconst 2, 1) := by decide +kernel
theorem dX1_counted_26 : decode cX1_counted 26 = .ok (.putfield 51, 3) := by decide +kernel
theorem dX1_counted_29 : decode cX1_counted 29 = .ok (.aload_n 0, 1) := by decide +kernel
theorem dX1_counted_30 : decode cX1_counted 30 = .ok (.getfield 51, 3) := by decide +kernel
theorem dX1_counted_33 : decode cX1_counted 33 = .ok (.ifCond .le 7, 3) := by decide +kernel
theorem dX1_counted_36 : decode cX1_counted 36 = .ok (.iconst 0, 1) := by decide +kernel
theorem dX1_counted_37 : decode cX1_counted 37 = .ok (.goto 13, 3) := by decide +kernel
theorem dX1_counted_40 : decode cX1_counted 40 = .ok (.aload_n 0, 1) := by decide +kernel
theorem dX1_counted_41 : decode cX1_counted 41 = .ok (.getfield 48, 3) := by decide +kernel
theorem dX1_counted_44 : decode cX1_counted 44 = .ok (.iconst 3, 1) := by decide +kernel
theorem dX1_counted_45 : decode cX1_counted 45 = .ok (.iload_n 1, 1) := by decide +kernel
theorem dX1_counted_46 : decode cX1_counted 46 = .ok (.imul, 1) := by decide +kernel
theorem dX1_counted_47 : decode cX1_counted 47 = .ok (.iload_n 2, 1) := by decide +kernel
theorem dX1_counted_48 : decode cX1_counted 48 = .ok (.iadd, 1) := by decide +kernel
theorem dX1_counted_49 : decode cX1_counted 49 = .ok (.iaload, 1) := by decide +kernel
theorem dX1_counted_50 : decode cX1_counted 50 = .ok (.ireturn, 1) := by decide +kernel
theorem dX1_close_0 : decode cX1_close 0 = .ok (.aload_n 0, 1) := by decide +kernel
theorem dX1_close_1 : decode cX1_close 1 = .ok (.aload_n 0, 1) := by decide +kernel
theorem dX1_close_2 : decode cX1_close 2 = .ok (.getfield 95, 3) := by decide +kernel
theorem dX1_close_5 : decode cX1_close 5 = .ok (.ifCond .eq 7, 3) := by decide +kernel
theorem dX1_close_8 : decode cX1_close 8 = .ok (.iconst 0, 1) := by decide +kernel
theorem dX1_close_9 : decode cX1_close 9 = .ok (.goto 4, 3) := by decide +kernel
theorem dX1_close_12 : decode cX1_close 12 = .ok (.iconst 1, 1) := by decide +kernel
theorem dX1_close_13 : decode cX1_close 13 = .ok (.putfield 51, 3) := by decide +kernel
theorem dX1_close_16 : decode cX1_close 16 = .ok (.aload_n 0, 1) := by decide +kernel
theorem dX1_close_17 : decode cX1_close 17 = .ok (.getfield 51, 3) := by decide +kernel
theorem dX1_close_20 : decode cX1_close 20 = .ok (.ifCond .le 5, 3) := by decide +kernel
theorem dX1_close_23 : decode cX1_close 23 = .ok (.iconst 0, 1) := by decide +kernel
theorem dX1_close_24 : decode cX1_close 24 = .ok (.ireturn, 1) := by decide +kernel
theorem dX1_close_25 : decode cX1_close 25 = .ok (.aload_n 0, 1) := by decide +kernel
theorem dX1_close_26 : decode cX1_close 26 = .ok (.iconst 0, 1) := by decide +kernel
theorem dX1_close_27 : decode cX1_close 27 = .ok (.putfield 95, 3) := by decide +kernel
theorem dX1_close_30 : decode cX1_close 30 = .ok (.iconst 0, 1) := by decide +kernel
theorem dX1_close_31 : decode cX1_close 31 = .ok (.istore_n 1, 1) := by decide +kernel
theorem dX1_close_32 : decode cX1_close 32 = .ok (.iconst 0, 1) := by decide +kernel
theorem dX1_close_33 : decode cX1_close 33 = .ok (.istore_n 2, 1) := by decide +kernel
theorem dX1_close_34 : decode cX1_close 34 = .ok (.iload_n 2, 1) := by decide +kernel
theorem dX1_close_35 : decode cX1_close 35 = .ok (.aload_n 0, 1) := by decide +kernel
theorem dX1_close_36 : decode cX1_close 36 = .ok (.getfield 102, 3) := by decide +kernel
theorem dX1_close_39 : decode cX1_close 39 = .ok (.if_icmp .ge 39, 3) := by decide +kernel
theorem dX1_close_42 : decode cX1_close 42 = .ok (.iload_n 1, 1) := by decide +kernel
theorem dX1_close_43 : decode cX1_close 43 = .ok (.aload_n 0, 1) := by decide +kernel
theorem dX1_close_44 : decode cX1_close 44 = .ok (.getfield 42, 3) := by decide +kernel
theorem dX1_close_47 : decode cX1_close 47 = .ok (.iload_n 2, 1) := by decide +kernel
theorem dX1_close_48 : decode cX1_close 48 = .ok (.iaload, 1) := by decide +kernel
theorem dX1_close_49 : decode cX1_close 49 = .ok (.aload_n 0, 1) := by decide +kernel
theorem dX1_close_50 : decode cX1_close 50 = .ok (.getfield 99, 3) := by decide +kernel
theorem dX1_close_53 : decode cX1_close 53 = .ok (.if_icmp .ne 16, 3) := by decide +kernel
theorem dX1_close_56 : decode cX1_close 56 = .ok (.aload_n 0, 1) := by decide +kernel
theorem dX1_close_57 : decode cX1_close 57 = .ok (.getfield 39, 3) := by decide +kernel
theorem dX1_close_60 : decode cX1_close 60 = .ok (.iload_n 2, 1) := by decide +kernel
theorem dX1_close_61 : decode cX1_close 61 = .ok (.iaload, 1) := by decide +kernel
theorem dX1_close_62 : decode cX1_close 62 = .ok (.ifCond .ne 7, 3) := by decide +kernel
theorem dX1_close_65 : decode cX1_close 65 = .ok (.iconst 1, 1) := by decide +kernel
theorem dX1_close_66 : decode cX1_close 66 = .ok (.goto 4, 3) := by decide +kernel
theorem dX1_close_69 : decode cX1_close 69 = .ok (.iconst 0, 1) := by decide +kernel
theorem dX1_close_70 : decode cX1_close 70 = .ok (.iadd, 1) := by decide +kernel
theorem dX1_close_71 : decode cX1_close 71 = .ok (.istore_n 1, 1) := by decide +kernel
theorem dX1_close_72 : decode cX1_close 72 = .ok (.iinc 2 1, 3) := by decide +kernel
theorem dX1_close_75 : decode cX1_close 75 = .ok (.goto (-41), 3) := by decide +kernel
theorem dX1_close_78 : decode cX1_close 78 = .ok (.iload_n 1, 1) := by decide +kernel
theorem dX1_close_79 : decode cX1_close 79 = .ok (.ireturn, 1) := by decide +kernel
theorem dJ7_fill_53178_0 : decode cJ7_fill_53178 0 = .ok (.iconst 0, 1) := by decide +kernel
theorem dJ7_fill_53178_1 : decode cJ7_fill_53178 1 = .ok (.istore_n 2, 1) := by decide +kernel
theorem dJ7_fill_53178_2 : decode cJ7_fill_53178 2 = .ok (.aload_n 0, 1) := by decide +kernel
theorem dJ7_fill_53178_3 : decode cJ7_fill_53178 3 = .ok (.arraylength, 1) := by decide +kernel
theorem dJ7_fill_53178_4 : decode cJ7_fill_53178 4 = .ok (.istore_n 3, 1) := by decide +kernel
theorem dJ7_fill_53178_5 : decode cJ7_fill_53178 5 = .ok (.iload_n 2, 1) := by decide +kernel
theorem dJ7_fill_53178_6 : decode cJ7_fill_53178 6 = .ok (.iload_n 3, 1) := by decide +kernel
theorem dJ7_fill_53178_7 : decode cJ7_fill_53178 7 = .ok (.if_icmp .ge 13, 3) := by decide +kernel
theorem dJ7_fill_53178_10 : decode cJ7_fill_53178 10 = .ok (.aload_n 0, 1) := by decide +kernel
theorem dJ7_fill_53178_11 : decode cJ7_fill_53178 11 = .ok (.iload_n 2, 1) := by decide +kernel
theorem dJ7_fill_53178_12 : decode cJ7_fill_53178 12 = .ok (.iload_n 1, 1) := by decide +kernel
theorem dJ7_fill_53178_13 : decode cJ7_fill_53178 13 = .ok (.iastore, 1) := by decide +kernel
theorem dJ7_fill_53178_14 : decode cJ7_fill_53178 14 = .ok (.iinc 2 1, 3) := by decide +kernel
theorem dJ7_fill_53178_17 : decode cJ7_fill_53178 17 = .ok (.goto (-12), 3) := by decide +kernel
theorem dJ7_fill_53178_20 : decode cJ7_fill_53178 20 = .ok (.return_, 1) := by decide +kernel
end
section
set_option maxRecDepth 20000 in
theorem ggL_join_X0_join : GoodIn wsL_join wsX0_join := goodIn_ca (goodIn_ca (goodIn_ca (goodIn_r _ [8, 9, 10, 11, 12, 13, 7, 14, 15, 16, 17, 18, 19, 20, 21, 22, 23, 24, 25, 26, 27, 28, 29, 30, 31, 32, 33, 34, 35, 36, 37, 38, 39, 40, 41, 42, 43, 44, 45, 46, 47, 48, 49, 50, 51, 52, 53, 54, 55, 56, 57, 58, 59, 60, 61, 62, 63, 64, 65, 66, 67, 68, 69, 70, 71, 72, 73, 74, 75, 76, 77, 78, 79, 80, 81, 82, 83, 84] (by decide +kernel) (by decide +kernel)) (goodIn_sub (fun _ h => List.mem_cons_of_mem _ (List.mem_append_left _ (List.mem_append_left _ (List.mem_append_right _ h)))) (by decide +kernel))) (goodIn_sub (fun _ h => List.mem_cons_of_mem _ (List.mem_append_left _ (List.mem_append_right _ h))) (by decide +kernel))) (goodIn_sub (fun _ h => List.mem_cons_of_mem _ (List.mem_append_right _ h)) (by decide +kernel))
set_option maxRecDepth 20000 in
theorem gL_join_X0_join : GoodIn wsL_join (wsV RL 7 RX0 yX0_join wsX0_join) := goodIn_app (goodIn_of _ (by decide +kernel)) ggL_join_X0_join
theorem dL_join_0 : decode cL_join 0 = .ok (.aload_n 3, 1) := by decide +kernel
theorem dL_join_1 : decode cL_join 1 = .ok (.iconst 0, 1) := by decide +kernel
theorem dL_join_2 : decode cL_join 2 = .ok (.aload_n 0, 1) := by decide +kernel
theorem dL_join_3 : decode cL_join 3 = .ok (.iload_n 1, 1) := by decide +kernel
theorem dL_join_4 : decode cL_join 4 = .ok (.iload_n 2, 1) := by decide +kernel
theorem dL_join_5 : decode cL_join 5 = .ok (.invokevirtual 7, 3) := by decide +kernel
theorem dL_join_8 : decode cL_join 8 = .ok (.i2l, 1) := by decide +kernel
theorem dL_join_9 : decode cL_join 9 = .ok (.lastore, 1) := by decide +kernel
theorem dL_join_10 : decode cL_join 10 = .ok (.goto 15, 3) := by decide +kernel
theorem dL_join_13 : decode cL_join 13 = .ok (.astore 4, 2) := by decide +kernel
theorem dL_join_15 : decode cL_join 15 = .ok (.iconst 1, 1) := by decide +kernel
theorem dL_join_16 : decode cL_join 16 = .ok (.ireturn, 1) := by decide +kernel
theorem dL_join_17 : decode cL_join 17 = .ok (.astore 4, 2) := by decide +kernel
theorem dL_join_19 : decode cL_join 19 = .ok (.iconst 2, 1) := by decide +kernel
theorem dL_join_20 : decode cL_join 20 = .ok (.ireturn, 1) := by decide +kernel
theorem dL_join_21 : decode cL_join 21 = .ok (.astore 4, 2) := by decide +kernel
theorem dL_join_23 : decode cL_join 23 = .ok (.iconst 3, 1) := by decide +kernel
theorem dL_join_24 : decode cL_join 24 = .ok (.ireturn, 1) := by decide +kernel
theorem dL_join_25 : decode cL_join 25 = .ok (.iconst 0, 1) := by decide +kernel
theorem dL_join_26 : decode cL_join 26 = .ok (.ireturn, 1) := by decide +kernel
set_option maxRecDepth 20000 in
theorem ggL_change_X0_change : GoodIn wsL_change wsX0_change := goodIn_ca (goodIn_ca (goodIn_ca (goodIn_r _ [8, 9, 10, 7, 11, 12, 13, 14, 15, 16, 17, 18, 19, 20, 21, 22, 23, 24, 25, 26, 27, 28, 29, 30, 31, 32, 33, 34, 35, 36, 37, 38, 39, 40, 41, 42, 43, 44, 45, 46, 47, 48, 49, 50, 51, 52, 53, 54, 55, 56, 57, 58, 59, 60, 61, 62, 63, 64, 65, 66, 67, 68, 69, 70, 71, 72, 73, 74, 75, 76, 77, 78, 79, 80, 81, 82, 83, 84, 85, 86, 87] (by decide +kernel) (by decide +kernel)) (goodIn_sub (fun _ h => List.mem_cons_of_mem _ (List.mem_append_left _ (List.mem_append_left _ (List.mem_append_right _ h)))) (by decide +kernel))) (goodIn_sub (fun _ h => List.mem_cons_of_mem _ (List.mem_append_left _ (List.mem_append_right _ h))) (by decide +kernel))) (goodIn_sub (fun _ h => List.mem_cons_of_mem _ (List.mem_append_right _ h)) (by decide +kernel))
set_option maxRecDepth 20000 in
theorem gL_change_X0_change : GoodIn wsL_change (wsV RL 19 RX0 yX0_change wsX0_change) := goodIn_app (goodIn_of _ (by decide +kernel)) ggL_change_X0_change
theorem dL_change_0 : decode cL_change 0 = .ok (.aload_n 3, 1) := by decide +kernel
theorem dL_change_1 : decode cL_change 1 = .ok (.iconst 0, 1) := by decide +kernel
theorem dL_change_2 : decode cL_change 2 = .ok (.aload_n 0, 1) := by decide +kernel
theorem dL_change_3 : decode cL_change 3 = .ok (.iload_n 1, 1) := by decide +kernel
theorem dL_change_4 : decode cL_change 4 = .ok (.iload_n 2, 1) := by decide +kernel
theorem dL_change_5 : decode cL_change 5 = .ok (.invokevirtual 19, 3) := by decide +kernel
theorem dL_change_8 : decode cL_change 8 = .ok (.i2l, 1) := by decide +kernel
theorem dL_change_9 : decode cL_change 9 = .ok (.lastore, 1) := by decide +kernel
theorem dL_change_10 : decode cL_change 10 = .ok (.goto 15, 3) := by decide +kernel
theorem dL_change_13 : decode cL_change 13 = .ok (.astore 4, 2) := by decide +kernel
theorem dL_change_15 : decode cL_change 15 = .ok (.iconst 1, 1) := by decide +kernel
theorem dL_change_16 : decode cL_change 16 = .ok (.ireturn, 1) := by decide +kernel
theorem dL_change_17 : decode cL_change 17 = .ok (.astore 4, 2) := by decide +kernel
theorem dL_change_19 : decode cL_change 19 = .ok (.iconst 2, 1) := by decide +kernel
theorem dL_change_20 : decode cL_change 20 = .ok (.ireturn, 1) := by decide +kernel
theorem dL_change_21 : decode cL_change 21 = .ok (.astore 4, 2) := by decide +kernel
theorem dL_change_23 : decode cL_change 23 = .ok (.iconst 3, 1) := by decide +kernel
theorem dL_change_24 : decode cL_change 24 = .ok (.ireturn, 1) := by decide +kernel
theorem dL_change_25 : decode cL_change 25 = .ok (.iconst 0, 1) := by decide +kernel
theorem dL_change_26 : decode cL_change 26 = .ok (.ireturn, 1) := by decide +kernel
set_option maxRecDepth 20000 in
theorem ggL_leave_X0_leave : GoodIn wsL_leave wsX0_leave := goodIn_ca (goodIn_ca (goodIn_r _ [7, 8, 9, 10, 6, 11, 12, 13, 14, 15, 16, 17, 18, 19, 20, 21, 22, 23, 24, 25, 26, 27, 28, 29, 30, 31, 32, 33, 34, 35, 36, 37, 38, 39, 40, 41, 42, 43, 44, 45, 46, 47, 48, 49, 50, 51, 52, 53, 54, 55, 56, 57, 58, 59, 60, 61, 62, 63, 64, 65, 66, 67, 68, 69, 70, 71, 72, 73, 74, 75, 76, 77, 78, 79, 80, 81, 82] (by decide +kernel) (by decide +kernel)) (goodIn_sub (fun _ h => List.mem_cons_of_mem _ (List.mem_append_left _ (List.mem_append_right _ h))) (by decide +kernel))) (goodIn_sub (fun _ h => List.mem_cons_of_mem _ (List.mem_append_right _ h)) (by decide +kernel))
set_option maxRecDepth 20000 in
theorem gL_leave_X0_leave : GoodIn wsL_leave (wsV RL 22 RX0 yX0_leave wsX0_leave) := goodIn_app (goodIn_of _ (by decide +kernel)) ggL_leave_X0_leave
theorem dL_leave_0 : decode cL_leave 0 = .ok (.aload_n 2, 1) := by decide +kernel
theorem dL_leave_1 : decode cL_leave 1 = .ok (.iconst 0, 1) := by decide +kernel
theorem dL_leave_2 : decode cL_leave 2 = .ok (.aload_n 0, 1) := by decide +kernel
theorem dL_leave_3 : decode cL_leave 3 = .ok (.iload_n 1, 1) := by decide +kernel
theorem dL_leave_4 : decode cL_leave 4 = .ok (.invokevirtual 22, 3) := by decide +kernel
theorem dL_leave_7 : decode cL_leave 7 = .ok (.i2l, 1) := by decide +kernel
theorem dL_leave_8 : decode cL_leave 8 = .ok (.lastore, 1) := by decide +kernel
theorem dL_leave_9 : decode cL_leave 9 = .ok (.goto 9, 3) := by decide +kernel
theorem dL_leave_12 : decode cL_leave 12 = .ok (.astore_n 3, 1) := by decide +kernel
theorem dL_leave_13 : decode cL_leave 13 = .ok (.iconst 1, 1) := by decide +kernel
theorem dL_leave_14 : decode cL_leave 14 = .ok (.ireturn, 1) := by decide +kernel
theorem dL_leave_15 : decode cL_leave 15 = .ok (.astore_n 3, 1) := by decide +kernel
theorem dL_leave_16 : decode cL_leave 16 = .ok (.iconst 2, 1) := by decide +kernel
theorem dL_leave_17 : decode cL_leave 17 = .ok (.ireturn, 1) := by decide +kernel
theorem dL_leave_18 : decode cL_leave 18 = .ok (.iconst 0, 1) := by decide +kernel
theorem dL_leave_19 : decode cL_leave 19 = .ok (.ireturn, 1) := by decide +kernel
set_option maxRecDepth 20000 in
theorem ggL_address_X0_address : GoodIn wsL_address wsX0_address := goodIn_ca (goodIn_r _ [6, 7, 8, 5, 9, 10, 11, 12, 13, 14, 15, 16, 17, 18, 19, 20, 21, 22, 23, 24, 25, 26, 27, 28, 29, 30, 31, 32, 33, 34, 35, 36, 37, 38, 39, 40, 41, 42, 43, 44, 45, 46, 47, 48, 49, 50, 51, 52, 53, 54, 55, 56, 57] (by decide +kernel) (by decide +kernel)) (goodIn_sub (fun _ h => List.mem_cons_of_mem _ (List.mem_append_right _ h)) (by decide +kernel))
set_option maxRecDepth 20000 in
theorem gL_address_X0_address : GoodIn wsL_address (wsV RL 26 RX0 yX0_address wsX0_address) := goodIn_app (goodIn_of _ (by decide +kernel)) ggL_address_X0_address
theorem dL_address_0 : decode cL_address 0 = .ok (.aload_n 2, 1) := by decide +kernel
theorem dL_address_1 : decode cL_address 1 = .ok (.iconst 0, 1) := by decide +kernel
theorem dL_address_2 : decode cL_address 2 = .ok (.aload_n 0, 1) := by decide +kernel
theorem dL_address_3 : decode cL_address 3 = .ok (.iload_n 1, 1) := by decide +kernel
theorem dL_address_4 : decode cL_address 4 = .ok (.invokevirtual 26, 3) := by decide +kernel
theorem dL_address_7 : decode cL_address 7 = .ok (.i2l, 1) := by decide +kernel
theorem dL_address_8 : decode cL_address 8 = .ok (.lastore, 1) := by decide +kernel
theorem dL_address_9 : decode cL_address 9 = .ok (.goto 6, 3) := by decide +kernel
theorem dL_address_12 : decode cL_address 12 = .ok (.astore_n 3, 1) := by decide +kernel
theorem dL_address_13 : decode cL_address 13 = .ok (.iconst 1, 1) := by decide +kernel
theorem dL_address_14 : decode cL_address 14 = .ok (.ireturn, 1) := by decide +kernel
theorem dL_address_15 : decode cL_address 15 = .ok (.iconst 0, 1) := by decide +kernel
theorem dL_address_16 : decode cL_address 16 = .ok (.ireturn, 1) := by decide +kernel
set_option maxRecDepth 20000 in
theorem ggL_inDistrict_X0_inDistrict : GoodIn wsL_inDistrict wsX0_inDistrict := goodIn_ca (goodIn_r _ [6, 7, 8, 5, 9, 10, 11, 12, 13, 14, 15, 16, 17, 18, 19, 20, 21, 22, 23, 24, 25, 26, 27, 28, 29, 30, 31, 32, 33, 34, 35, 36, 37, 38, 39, 40, 41, 42, 43, 44, 45, 46, 47, 48, 49, 50, 51, 52, 53, 54, 55, 56, 57, 58, 59, 60] (by decide +kernel) (by decide +kernel)) (goodIn_sub (fun _ h => List.mem_cons_of_mem _ (List.mem_append_right _ h)) (by decide +kernel))
set_option maxRecDepth 20000 in
theorem gL_inDistrict_X0_inDistrict : GoodIn wsL_inDistrict (wsV RL 29 RX0 yX0_inDistrict wsX0_inDistrict) := goodIn_app (goodIn_of _ (by decide +kernel)) ggL_inDistrict_X0_inDistrict
theorem dL_inDistrict_0 : decode cL_inDistrict 0 = .ok (.aload_n 2, 1) := by decide +kernel
theorem dL_inDistrict_1 : decode cL_inDistrict 1 = .ok (.iconst 0, 1) := by decide +kernel
theorem dL_inDistrict_2 : decode cL_inDistrict 2 = .ok (.aload_n 0, 1) := by decide +kernel
theorem dL_inDistrict_3 : decode cL_inDistrict 3 = .ok (.iload_n 1, 1) := by decide +kernel
theorem dL_inDistrict_4 : decode cL_inDistrict 4 = .ok (.invokevirtual 29, 3) := by decide +kernel
theorem dL_inDistrict_7 : decode cL_inDistrict 7 = .ok (.i2l, 1) := by decide +kernel
theorem dL_inDistrict_8 : decode cL_inDistrict 8 = .ok (.lastore, 1) := by decide +kernel
theorem dL_inDistrict_9 : decode cL_inDistrict 9 = .ok (.goto 6, 3) := by decide +kernel
theorem dL_inDistrict_12 : decode cL_inDistrict 12 = .ok (.astore_n 3, 1) := by decide +kernel
theorem dL_inDistrict_13 : decode cL_inDistrict 13 = .ok (.iconst 1, 1) := by decide +kernel
theorem dL_inDistrict_14 : decode cL_inDistrict 14 = .ok (.ireturn, 1) := by decide +kernel
theorem dL_inDistrict_15 : decode cL_inDistrict 15 = .ok (.iconst 0, 1) := by decide +kernel
theorem dL_inDistrict_16 : decode cL_inDistrict 16 = .ok (.ireturn, 1) := by decide +kernel
set_option maxRecDepth 20000 in
theorem ggL_split_X0_split : GoodIn wsL_split wsX0_split := goodIn_ca (goodIn_ca (goodIn_r _ [7, 8, 9, 10, 11, 12, 13, 6, 14, 15, 16, 17, 18, 19, 20, 21, 22, 23, 24, 25, 26, 27, 28, 29, 30, 31, 32, 33, 34, 35, 36, 37, 38, 39, 40, 41, 42, 43, 44, 45, 46, 47, 48, 49, 50, 51, 52, 53, 54, 55, 56, 57, 58, 59, 60, 61, 62, 63, 64, 65] (by decide +kernel) (by decide +kernel)) (goodIn_sub (fun _ h => List.mem_cons_of_mem _ (List.mem_append_left _ (List.mem_append_right _ h))) (by decide +kernel))) (goodIn_sub (fun _ h => List.mem_cons_of_mem _ (List.mem_append_right _ h)) (by decide +kernel))
set_option maxRecDepth 20000 in
theorem gL_split_X0_split : GoodIn wsL_split (wsV RL 32 RX0 yX0_split wsX0_split) := goodIn_app (goodIn_of _ (by decide +kernel)) ggL_split_X0_split
theorem dL_split_0 : decode cL_split 0 = .ok (.aload_n 2, 1) := by decide +kernel
theorem dL_split_1 : decode cL_split 1 = .ok (.iconst 0, 1) := by decide +kernel
theorem dL_split_2 : decode cL_split 2 = .ok (.aload_n 0, 1) := by decide +kernel
theorem dL_split_3 : decode cL_split 3 = .ok (.iload_n 1, 1) := by decide +kernel
theorem dL_split_4 : decode cL_split 4 = .ok (.invokevirtual 32, 3) := by decide +kernel
theorem dL_split_7 : decode cL_split 7 = .ok (.i2l, 1) := by decide +kernel
theorem dL_split_8 : decode cL_split 8 = .ok (.lastore, 1) := by decide +kernel
theorem dL_split_9 : decode cL_split 9 = .ok (.goto 9, 3) := by decide +kernel
theorem dL_split_12 : decode cL_split 12 = .ok (.astore_n 3, 1) := by decide +kernel
theorem dL_split_13 : decode cL_split 13 = .ok (.iconst 1, 1) := by decide +kernel
theorem dL_split_14 : decode cL_split 14 = .ok (.ireturn, 1) := by decide +kernel
theorem dL_split_15 : decode cL_split 15 = .ok (.astore_n 3, 1) := by decide +kernel
theorem dL_split_16 : decode cL_split 16 = .ok (.iconst 2, 1) := by decide +kernel
theorem dL_split_17 : decode cL_split 17 = .ok (.ireturn, 1) := by decide +kernel
theorem dL_split_18 : decode cL_split 18 = .ok (.iconst 0, 1) := by decide +kernel
theorem dL_split_19 : decode cL_split 19 = .ok (.ireturn, 1) := by decide +kernel
set_option maxRecDepth 20000 in
theorem ggL_merge_X0_merge : GoodIn wsL_merge wsX0_merge := goodIn_ca (goodIn_ca (goodIn_r _ [7, 8, 9, 10, 11, 12, 13, 6, 14, 15, 16, 17, 18, 19, 20, 21, 22, 23, 24, 25, 26, 27, 28, 29, 30, 31, 32, 33, 34, 35, 36, 37, 38, 39, 40, 41, 42, 43, 44, 45, 46, 47, 48, 49, 50, 51, 52, 53, 54, 55, 56, 57, 58, 59] (by decide +kernel) (by decide +kernel)) (goodIn_sub (fun _ h => List.mem_cons_of_mem _ (List.mem_append_left _ (List.mem_append_right _ h))) (by decide +kernel))) (goodIn_sub (fun _ h => List.mem_cons_of_mem _ (List.mem_append_right _ h)) (by decide +kernel))
set_option maxRecDepth 20000 in
theorem gL_merge_X0_merge : GoodIn wsL_merge (wsV RL 35 RX0 yX0_merge wsX0_merge) := goodIn_app (goodIn_of _ (by decide +kernel)) ggL_merge_X0_merge
theorem dL_merge_0 : decode cL_merge 0 = .ok (.aload_n 2, 1) := by decide +kernel
theorem dL_merge_1 : decode cL_merge 1 = .ok (.iconst 0, 1) := by decide +kernel
theorem dL_merge_2 : decode cL_merge 2 = .ok (.aload_n 0, 1) := by decide +kernel
theorem dL_merge_3 : decode cL_merge 3 = .ok (.iload_n 1, 1) := by decide +kernel
theorem dL_merge_4 : decode cL_merge 4 = .ok (.invokevirtual 35, 3) := by decide +kernel
theorem dL_merge_7 : decode cL_merge 7 = .ok (.i2l, 1) := by decide +kernel
theorem dL_merge_8 : decode cL_merge 8 = .ok (.lastore, 1) := by decide +kernel
theorem dL_merge_9 : decode cL_merge 9 = .ok (.goto 9, 3) := by decide +kernel
theorem dL_merge_12 : decode cL_merge 12 = .ok (.astore_n 3, 1) := by decide +kernel
theorem dL_merge_13 : decode cL_merge 13 = .ok (.iconst 1, 1) := by decide +kernel
theorem dL_merge_14 : decode cL_merge 14 = .ok (.ireturn, 1) := by decide +kernel
theorem dL_merge_15 : decode cL_merge 15 = .ok (.astore_n 3, 1) := by decide +kernel
theorem dL_merge_16 : decode cL_merge 16 = .ok (.iconst 2, 1) := by decide +kernel
theorem dL_merge_17 : decode cL_merge 17 = .ok (.ireturn, 1) := by decide +kernel
theorem dL_merge_18 : decode cL_merge 18 = .ok (.iconst 0, 1) := by decide +kernel
theorem dL_merge_19 : decode cL_merge 19 = .ok (.ireturn, 1) := by decide +kernel
set_option maxRecDepth 20000 in
theorem ggL_move_X0_move : GoodIn wsL_move wsX0_move := goodIn_ca (goodIn_ca (goodIn_r _ [7, 8, 9, 10, 11, 12, 13, 14, 6, 15, 16, 17, 18, 19, 20, 21, 22, 23, 24, 25, 26, 27, 28, 29, 30, 31, 32, 33, 34, 35, 36, 37, 38, 39, 40, 41, 42, 43, 44, 45, 46, 47, 48, 49, 50, 51, 52, 53, 54, 55, 56, 57, 58, 59, 60, 61, 62, 63, 64, 65, 66, 67, 68, 69, 70, 71, 72, 73] (by decide +kernel) (by decide +kernel)) (goodIn_sub (fun _ h => List.mem_cons_of_mem _ (List.mem_append_left _ (List.mem_append_right _ h))) (by decide +kernel))) (goodIn_sub (fun _ h => List.mem_cons_of_mem _ (List.mem_append_right _ h)) (by decide +kernel))
set_option maxRecDepth 20000 in
theorem gL_move_X0_move : GoodIn wsL_move (wsV RL 38 RX0 yX0_move wsX0_move) := goodIn_app (goodIn_of _ (by decide +kernel)) ggL_move_X0_move
theorem dL_move_0 : decode cL_move 0 = .ok (.aload_n 3, 1) := by decide +kernel
theorem dL_move_1 : decode cL_move 1 = .ok (.iconst 0, 1) := by decide +kernel
theorem dL_move_2 : decode cL_move 2 = .ok (.aload_n 0, 1) := by decide +kernel
theorem dL_move_3 : decode cL_move 3 = .ok (.iload_n 1, 1) := by decide +kernel
theorem dL_move_4 : decode cL_move 4 = .ok (.iload_n 2, 1) := by decide +kernel
theorem dL_move_5 : decode cL_move 5 = .ok (.invokevirtual 38, 3) := by decide +kernel
theorem dL_move_8 : decode cL_move 8 = .ok (.i2l, 1) := by decide +kernel
theorem dL_move_9 : decode cL_move 9 = .ok (.lastore, 1) := by decide +kernel
theorem dL_move_10 : decode cL_move 10 = .ok (.goto 11, 3) := by decide +kernel
theorem dL_move_13 : decode cL_move 13 = .ok (.astore 4, 2) := by decide +kernel
theorem dL_move_15 : decode cL_move 15 = .ok (.iconst 1, 1) := by decide +kernel
theorem dL_move_16 : decode cL_move 16 = .ok (.ireturn, 1) := by decide +kernel
theorem dL_move_17 : decode cL_move 17 = .ok (.astore 4, 2) := by decide +kernel
theorem dL_move_19 : decode cL_move 19 = .ok (.iconst 2, 1) := by decide +kernel
theorem dL_move_20 : decode cL_move 20 = .ok (.ireturn, 1) := by decide +kernel
theorem dL_move_21 : decode cL_move 21 = .ok (.iconst 0, 1) := by decide +kernel
theorem dL_move_22 : decode cL_move 22 = .ok (.ireturn, 1) := by decide +kernel
set_option maxRecDepth 20000 in
theorem ggL_step_X0_step : GoodIn wsL_step wsX0_step := goodIn_ca (goodIn_ca (goodIn_r _ [7, 8, 9, 10, 11, 12, 6, 13, 14, 15, 16, 17, 18, 19, 20, 21, 22, 23, 24, 25, 26, 27, 28, 29, 30, 31, 32, 33, 34, 35, 36, 37, 38, 39, 40, 41, 42, 43, 44, 45, 46, 47, 48, 49, 50, 51, 52, 53, 54, 55, 56, 57, 58, 59, 60, 61, 62, 63, 64, 65, 66, 67, 68, 69, 70, 71, 72, 73, 74, 75, 76, 77, 78, 79, 80, 81, 82, 83, 84, 85, 86] (by decide +kernel) (by decide +kernel)) (goodIn_sub (fun _ h => List.mem_cons_of_mem _ (List.mem_append_left _ (List.mem_append_right _ h))) (by decide +kernel))) (goodIn_sub (fun _ h => List.mem_cons_of_mem _ (List.mem_append_right _ h)) (by decide +kernel))
set_option maxRecDepth 20000 in
theorem gL_step_X0_step : GoodIn wsL_step (wsV RL 41 RX0 yX0_step wsX0_step) := goodIn_app (goodIn_of _ (by decide +kernel)) ggL_step_X0_step
theorem dL_step_0 : decode cL_step 0 = .ok (.aload_n 2, 1) := by decide +kernel
theorem dL_step_1 : decode cL_step 1 = .ok (.iconst 0, 1) := by decide +kernel
theorem dL_step_2 : decode cL_step 2 = .ok (.aload_n 0, 1) := by decide +kernel
theorem dL_step_3 : decode cL_step 3 = .ok (.iload_n 1, 1) := by decide +kernel
theorem dL_step_4 : decode cL_step 4 = .ok (.invokevirtual 41, 3) := by decide +kernel
theorem dL_step_7 : decode cL_step 7 = .ok (.i2l, 1) := by decide +kernel
theorem dL_step_8 : decode cL_step 8 = .ok (.lastore, 1) := by decide +kernel
theorem dL_step_9 : decode cL_step 9 = .ok (.goto 9, 3) := by decide +kernel
theorem dL_step_12 : decode cL_step 12 = .ok (.astore_n 3, 1) := by decide +kernel
theorem dL_step_13 : decode cL_step 13 = .ok (.iconst 1, 1) := by decide +kernel
theorem dL_step_14 : decode cL_step 14 = .ok (.ireturn, 1) := by decide +kernel
theorem dL_step_15 : decode cL_step 15 = .ok (.astore_n 3, 1) := by decide +kernel
theorem dL_step_16 : decode cL_step 16 = .ok (.iconst 2, 1) := by decide +kernel
theorem dL_step_17 : decode cL_step 17 = .ok (.ireturn, 1) := by decide +kernel
theorem dL_step_18 : decode cL_step 18 = .ok (.iconst 0, 1) := by decide +kernel
theorem dL_step_19 : decode cL_step 19 = .ok (.ireturn, 1) := by decide +kernel
set_option maxRecDepth 20000 in
theorem ggL_giveUp_X0_giveUp : GoodIn wsL_giveUp wsX0_giveUp := goodIn_ca (goodIn_ca (goodIn_r _ [7, 8, 9, 10, 11, 6, 12, 13, 14, 15, 16, 17, 18, 19, 20, 21, 22, 23, 24, 25, 26, 27, 28, 29, 30, 31, 32, 33, 34, 35, 36, 37, 38, 39, 40, 41, 42, 43, 44, 45, 46, 47, 48, 49, 50, 51, 52, 53, 54, 55, 56, 57, 58, 59, 60, 61, 62, 63, 64, 65, 66, 67, 68, 69, 70, 71, 72, 73, 74, 75, 76, 77, 78, 79, 80, 81] (by decide +kernel) (by decide +kernel)) (goodIn_sub (fun _ h => List.mem_cons_of_mem _ (List.mem_append_left _ (List.mem_append_right _ h))) (by decide +kernel))) (goodIn_sub (fun _ h => List.mem_cons_of_mem _ (List.mem_append_right _ h)) (by decide +kernel))
set_option maxRecDepth 20000 in
theorem gL_giveUp_X0_giveUp : GoodIn wsL_giveUp (wsV RL 44 RX0 yX0_giveUp wsX0_giveUp) := goodIn_app (goodIn_of _ (by decide +kernel)) ggL_giveUp_X0_giveUp
theorem dL_giveUp_0 : decode cL_giveUp 0 = .ok (.aload_n 2, 1) := by decide +kernel
theorem dL_giveUp_1 : decode cL_giveUp 1 = .ok (.iconst 0, 1) := by decide +kernel
theorem dL_giveUp_2 : decode cL_giveUp 2 = .ok (.aload_n 0, 1) := by decide +kernel
theorem dL_giveUp_3 : decode cL_giveUp 3 = .ok (.iload_n 1, 1) := by decide +kernel
theorem dL_giveUp_4 : decode cL_giveUp 4 = .ok (.invokevirtual 44, 3) := by decide +kernel
theorem dL_giveUp_7 : decode cL_giveUp 7 = .ok (.i2l, 1) := by decide +kernel
theorem dL_giveUp_8 : decode cL_giveUp 8 = .ok (.lastore, 1) := by decide +kernel
theorem dL_giveUp_9 : decode cL_giveUp 9 = .ok (.goto 9, 3) := by decide +kernel
theorem dL_giveUp_12 : decode cL_giveUp 12 = .ok (.astore_n 3, 1) := by decide +kernel
theorem dL_giveUp_13 : decode cL_giveUp 13 = .ok (.iconst 1, 1) := by decide +kernel
theorem dL_giveUp_14 : decode cL_giveUp 14 = .ok (.ireturn, 1) := by decide +kernel
theorem dL_giveUp_15 : decode cL_giveUp 15 = .ok (.astore_n 3, 1) := by decide +kernel
theorem dL_giveUp_16 : decode cL_giveUp 16 = .ok (.iconst 2, 1) := by decide +kernel
theorem dL_giveUp_17 : decode cL_giveUp 17 = .ok (.ireturn, 1) := by decide +kernel
theorem dL_giveUp_18 : decode cL_giveUp 18 = .ok (.iconst 0, 1) := by decide +kernel
theorem dL_giveUp_19 : decode cL_giveUp 19 = .ok (.ireturn, 1) := by decide +kernel
set_option maxRecDepth 20000 in
theorem ggL_rangeOf_X0_rangeOf : GoodIn wsL_rangeOf wsX0_rangeOf := goodIn_ca (goodIn_r _ [6, 7, 8, 5, 9, 10, 11, 12, 13, 14, 15, 16, 17, 18, 19, 20, 21, 22, 23, 24, 25, 26, 27, 28, 29, 30, 31, 32, 33, 34, 35, 36] (by decide +kernel) (by decide +kernel)) (goodIn_sub (fun _ h => List.mem_cons_of_mem _ (List.mem_append_right _ h)) (by decide +kernel))
set_option maxRecDepth 20000 in
theorem gL_rangeOf_X0_rangeOf : GoodIn wsL_rangeOf (wsV RL 47 RX0 yX0_rangeOf wsX0_rangeOf) := goodIn_app (goodIn_of _ (by decide +kernel)) ggL_rangeOf_X0_rangeOf
theorem dL_rangeOf_0 : decode cL_rangeOf 0 = .ok (.aload_n 2, 1) := by decide +kernel
theorem dL_rangeOf_1 : decode cL_rangeOf 1 = .ok (.iconst 0, 1) := by decide +kernel
theorem dL_rangeOf_2 : decode cL_rangeOf 2 = .ok (.aload_n 0, 1) := by decide +kernel
theorem dL_rangeOf_3 : decode cL_rangeOf 3 = .ok (.iload_n 1, 1) := by decide +kernel
theorem dL_rangeOf_4 : decode cL_rangeOf 4 = .ok (.invokevirtual 47, 3) := by decide +kernel
theorem dL_rangeOf_7 : decode cL_rangeOf 7 = .ok (.i2l, 1) := by decide +kernel
theorem dL_rangeOf_8 : decode cL_rangeOf 8 = .ok (.lastore, 1) := by decide +kernel
theorem dL_rangeOf_9 : decode cL_rangeOf 9 = .ok (.goto 6, 3) := by decide +kernel
theorem dL_rangeOf_12 : decode cL_rangeOf 12 = .ok (.astore_n 3, 1) := by decide +kernel
theorem dL_rangeOf_13 : decode cL_rangeOf 13 = .ok (.iconst 1, 1) := by decide +kernel
theorem dL_rangeOf_14 : decode cL_rangeOf 14 = .ok (.ireturn, 1) := by decide +kernel
theorem dL_rangeOf_15 : decode cL_rangeOf 15 = .ok (.iconst 0, 1) := by decide +kernel
theorem dL_rangeOf_16 : decode cL_rangeOf 16 = .ok (.ireturn, 1) := by decide +kernel
set_option maxRecDepth 20000 in
theorem ggL_shardOf_X0_shardOf : GoodIn wsL_shardOf wsX0_shardOf := goodIn_ca (goodIn_r _ [6, 7, 8, 9, 10, 5, 11, 12, 13, 14, 15, 16, 17, 18, 19, 20, 21, 22, 23, 24, 25, 26, 27, 28, 29, 30, 31, 32, 33, 34] (by decide +kernel) (by decide +kernel)) (goodIn_sub (fun _ h => List.mem_cons_of_mem _ (List.mem_append_right _ h)) (by decide +kernel))
set_option maxRecDepth 20000 in
theorem gL_shardOf_X0_shardOf : GoodIn wsL_shardOf (wsV RL 50 RX0 yX0_shardOf wsX0_shardOf) := goodIn_app (goodIn_of _ (by decide +kernel)) ggL_shardOf_X0_shardOf
theorem dL_shardOf_0 : decode cL_shardOf 0 = .ok (.aload_n 2, 1) := by decide +kernel
theorem dL_shardOf_1 : decode cL_shardOf 1 = .ok (.iconst 0, 1) := by decide +kernel
theorem dL_shardOf_2 : decode cL_shardOf 2 = .ok (.aload_n 0, 1) := by decide +kernel
theorem dL_shardOf_3 : decode cL_shardOf 3 = .ok (.iload_n 1, 1) := by decide +kernel
theorem dL_shardOf_4 : decode cL_shardOf 4 = .ok (.invokevirtual 50, 3) := by decide +kernel
theorem dL_shardOf_7 : decode cL_shardOf 7 = .ok (.i2l, 1) := by decide +kernel
theorem dL_shardOf_8 : decode cL_shardOf 8 = .ok (.lastore, 1) := by decide +kernel
theorem dL_shardOf_9 : decode cL_shardOf 9 = .ok (.goto 6, 3) := by decide +kernel
theorem dL_shardOf_12 : decode cL_shardOf 12 = .ok (.astore_n 3, 1) := by decide +kernel
theorem dL_shardOf_13 : decode cL_shardOf 13 = .ok (.iconst 1, 1) := by decide +kernel
theorem dL_shardOf_14 : decode cL_shardOf 14 = .ok (.ireturn, 1) := by decide +kernel
theorem dL_shardOf_15 : decode cL_shardOf 15 = .ok (.iconst 0, 1) := by decide +kernel
theorem dL_shardOf_16 : decode cL_shardOf 16 = .ok (.ireturn, 1) := by decide +kernel
set_option maxRecDepth 20000 in
theorem ggL_rows_X0_rows : GoodIn wsL_rows wsX0_rows := goodIn_ca (goodIn_r _ [6, 7, 8, 5, 9, 10, 11, 12, 13, 14, 15, 16, 17, 18, 19, 20, 21, 22, 23, 24, 25, 26, 27, 28, 29, 30, 31, 32, 33, 34, 35, 36, 37, 38, 39, 40, 41, 42] (by decide +kernel) (by decide +kernel)) (goodIn_sub (fun _ h => List.mem_cons_of_mem _ (List.mem_append_right _ h)) (by decide +kernel))
set_option maxRecDepth 20000 in
theorem gL_rows_X0_rows : GoodIn wsL_rows (wsV RL 53 RX0 yX0_rows wsX0_rows) := goodIn_app (goodIn_of _ (by decide +kernel)) ggL_rows_X0_rows
theorem dL_rows_0 : decode cL_rows 0 = .ok (.aload_n 2, 1) := by decide +kernel
theorem dL_rows_1 : decode cL_rows 1 = .ok (.iconst 0, 1) := by decide +kernel
theorem dL_rows_2 : decode cL_rows 2 = .ok (.aload_n 0, 1) := by decide +kernel
theorem dL_rows_3 : decode cL_rows 3 = .ok (.iload_n 1, 1) := by decide +kernel
theorem dL_rows_4 : decode cL_rows 4 = .ok (.invokevirtual 53, 3) := by decide +kernel
theorem dL_rows_7 : decode cL_rows 7 = .ok (.i2l, 1) := by decide +kernel
theorem dL_rows_8 : decode cL_rows 8 = .ok (.lastore, 1) := by decide +kernel
theorem dL_rows_9 : decode cL_rows 9 = .ok (.goto 6, 3) := by decide +kernel
theorem dL_rows_12 : decode cL_rows 12 = .ok (.astore_n 3, 1) := by decide +kernel
theorem dL_rows_13 : decode cL_rows 13 = .ok (.iconst 1, 1) := by decide +kernel
theorem dL_rows_14 : decode cL_rows 14 = .ok (.ireturn, 1) := by decide +kernel
theorem dL_rows_15 : decode cL_rows 15 = .ok (.iconst 0, 1) := by decide +kernel
theorem dL_rows_16 : decode cL_rows 16 = .ok (.ireturn, 1) := by decide +kernel
set_option maxRecDepth 20000 in
theorem ggL_fix_X0_fix : GoodIn wsL_fix wsX0_fix := goodIn_ca (goodIn_r _ [6, 7, 8, 9, 10, 11, 12, 13, 14, 15, 5, 16, 17, 18, 19, 20, 21, 22, 23, 24, 25, 26, 27, 28, 29, 30, 31, 32, 33, 34, 35, 36, 37, 38, 39, 40, 41, 42, 43, 44, 45, 46, 47, 48, 49, 50, 51, 52, 53, 54, 55, 56, 57, 58, 59, 60, 61] (by decide +kernel) (by decide +kernel)) (goodIn_sub (fun _ h => List.mem_cons_of_mem _ (List.mem_append_right _ h)) (by decide +kernel))
set_option maxRecDepth 20000 in
theorem gL_fix_X0_fix : GoodIn wsL_fix (wsV RL 56 RX0 yX0_fix wsX0_fix) := goodIn_app (goodIn_of _ (by decide +kernel)) ggL_fix_X0_fix
theorem dL_fix_0 : decode cL_fix 0 = .ok (.aload_n 1, 1) := by decide +kernel
theorem dL_fix_1 : decode cL_fix 1 = .ok (.iconst 0, 1) := by decide +kernel
theorem dL_fix_2 : decode cL_fix 2 = .ok (.aload_n 0, 1) := by decide +kernel
theorem dL_fix_3 : decode cL_fix 3 = .ok (.invokevirtual 56, 3) := by decide +kernel
theorem dL_fix_6 : decode cL_fix 6 = .ok (.i2l, 1) := by decide +kernel
theorem dL_fix_7 : decode cL_fix 7 = .ok (.lastore, 1) := by decide +kernel
theorem dL_fix_8 : decode cL_fix 8 = .ok (.goto 6, 3) := by decide +kernel
theorem dL_fix_11 : decode cL_fix 11 = .ok (.astore_n 2, 1) := by decide +kernel
theorem dL_fix_12 : decode cL_fix 12 = .ok (.iconst 1, 1) := by decide +kernel
theorem dL_fix_13 : decode cL_fix 13 = .ok (.ireturn, 1) := by decide +kernel
theorem dL_fix_14 : decode cL_fix 14 = .ok (.iconst 0, 1) := by decide +kernel
theorem dL_fix_15 : decode cL_fix 15 = .ok (.ireturn, 1) := by decide +kernel
set_option maxRecDepth 20000 in
theorem ggL_onRoll_X0_onRoll : GoodIn wsL_onRoll wsX0_onRoll := goodIn_ca (goodIn_r _ [6, 7, 8, 9, 10, 5, 11, 12, 13, 14, 15, 16, 17, 18, 19, 20, 21, 22, 23, 24, 25, 26, 27, 28, 29, 30, 31, 32] (by decide +kernel) (by decide +kernel)) (goodIn_sub (fun _ h => List.mem_cons_of_mem _ (List.mem_append_right _ h)) (by decide +kernel))
set_option maxRecDepth 20000 in
theorem gL_onRoll_X0_onRoll : GoodIn wsL_onRoll (wsV RL 60 RX0 yX0_onRoll wsX0_onRoll) := goodIn_app (goodIn_of _ (by decide +kernel)) ggL_onRoll_X0_onRoll
theorem dL_onRoll_0 : decode cL_onRoll 0 = .ok (.aload_n 2, 1) := by decide +kernel
theorem dL_onRoll_1 : decode cL_onRoll 1 = .ok (.iconst 0, 1) := by decide +kernel
theorem dL_onRoll_2 : decode cL_onRoll 2 = .ok (.aload_n 0, 1) := by decide +kernel
theorem dL_onRoll_3 : decode cL_onRoll 3 = .ok (.iload_n 1, 1) := by decide +kernel
theorem dL_onRoll_4 : decode cL_onRoll 4 = .ok (.invokevirtual 60, 3) := by decide +kernel
theorem dL_onRoll_7 : decode cL_onRoll 7 = .ok (.i2l, 1) := by decide +kernel
theorem dL_onRoll_8 : decode cL_onRoll 8 = .ok (.lastore, 1) := by decide +kernel
theorem dL_onRoll_9 : decode cL_onRoll 9 = .ok (.goto 6, 3) := by decide +kernel
theorem dL_onRoll_12 : decode cL_onRoll 12 = .ok (.astore_n 3, 1) := by decide +kernel
theorem dL_onRoll_13 : decode cL_onRoll 13 = .ok (.iconst 1, 1) := by decide +kernel
theorem dL_onRoll_14 : decode cL_onRoll 14 = .ok (.ireturn, 1) := by decide +kernel
theorem dL_onRoll_15 : decode cL_onRoll 15 = .ok (.iconst 0, 1) := by decide +kernel
theorem dL_onRoll_16 : decode cL_onRoll 16 = .ok (.ireturn, 1) := by decide +kernel
set_option maxRecDepth 20000 in
theorem ggL_send_X0_send : GoodIn wsL_send wsX0_send := goodIn_ca (goodIn_ca (goodIn_r _ [7, 8, 9, 10, 11, 12, 13, 14, 15, 16, 17, 18, 19, 20, 6, 21, 22, 23, 24, 25, 26, 27, 28, 29, 30, 31, 32, 33, 34, 35, 36, 37, 38, 39, 40, 41, 42, 43, 44, 45, 46, 47, 48, 49, 50, 51, 52, 53, 54, 55, 56, 57, 58, 59, 60, 61, 62, 63, 64, 65, 66, 67, 68, 69, 70, 71, 72, 73, 74, 75, 76, 77, 78, 79, 80, 81, 82, 83, 84, 85, 86, 87, 88, 89] (by decide +kernel) (by decide +kernel)) (goodIn_sub (fun _ h => List.mem_cons_of_mem _ (List.mem_append_left _ (List.mem_append_right _ h))) (by decide +kernel))) (goodIn_sub (fun _ h => List.mem_cons_of_mem _ (List.mem_append_right _ h)) (by decide +kernel))
set_option maxRecDepth 20000 in
theorem gL_send_X0_send : GoodIn wsL_send (wsV RL 63 RX0 yX0_send wsX0_send) := goodIn_app (goodIn_of _ (by decide +kernel)) ggL_send_X0_send
theorem dL_send_0 : decode cL_send 0 = .ok (.aload_n 2, 1) := by decide +kernel
theorem dL_send_1 : decode cL_send 1 = .ok (.iconst 0, 1) := by decide +kernel
theorem dL_send_2 : decode cL_send 2 = .ok (.aload_n 0, 1) := by decide +kernel
theorem dL_send_3 : decode cL_send 3 = .ok (.iload_n 1, 1) := by decide +kernel
theorem dL_send_4 : decode cL_send 4 = .ok (.invokevirtual 63, 3) := by decide +kernel
theorem dL_send_7 : decode cL_send 7 = .ok (.i2l, 1) := by decide +kernel
theorem dL_send_8 : decode cL_send 8 = .ok (.lastore, 1) := by decide +kernel
theorem dL_send_9 : decode cL_send 9 = .ok (.goto 9, 3) := by decide +kernel
theorem dL_send_12 : decode cL_send 12 = .ok (.astore_n 3, 1) := by decide +kernel
theorem dL_send_13 : decode cL_send 13 = .ok (.iconst 1, 1) := by decide +kernel
theorem dL_send_14 : decode cL_send 14 = .ok (.ireturn, 1) := by decide +kernel
theorem dL_send_15 : decode cL_send 15 = .ok (.astore_n 3, 1) := by decide +kernel
theorem dL_send_16 : decode cL_send 16 = .ok (.iconst 2, 1) := by decide +kernel
theorem dL_send_17 : decode cL_send 17 = .ok (.ireturn, 1) := by decide +kernel
theorem dL_send_18 : decode cL_send 18 = .ok (.iconst 0, 1) := by decide +kernel
theorem dL_send_19 : decode cL_send 19 = .ok (.ireturn, 1) := by decide +kernel
set_option maxRecDepth 20000 in
theorem ggL_sentTo_X0_sentTo : GoodIn wsL_sentTo wsX0_sentTo := goodIn_ca (goodIn_r _ [6, 7, 8, 9, 10, 5, 11, 12, 13, 14, 15, 16, 17, 18, 19, 20, 21, 22, 23, 24, 25, 26, 27, 28, 29, 30, 31, 32, 33, 34] (by decide +kernel) (by decide +kernel)) (goodIn_sub (fun _ h => List.mem_cons_of_mem _ (List.mem_append_right _ h)) (by decide +kernel))
set_option maxRecDepth 20000 in
theorem gL_sentTo_X0_sentTo : GoodIn wsL_sentTo (wsV RL 66 RX0 yX0_sentTo wsX0_sentTo) := goodIn_app (goodIn_of _ (by decide +kernel)) ggL_sentTo_X0_sentTo
theorem dL_sentTo_0 : decode cL_sentTo 0 = .ok (.aload_n 2, 1) := by decide +kernel
theorem dL_sentTo_1 : decode cL_sentTo 1 = .ok (.iconst 0, 1) := by decide +kernel
theorem dL_sentTo_2 : decode cL_sentTo 2 = .ok (.aload_n 0, 1) := by decide +kernel
theorem dL_sentTo_3 : decode cL_sentTo 3 = .ok (.iload_n 1, 1) := by decide +kernel
theorem dL_sentTo_4 : decode cL_sentTo 4 = .ok (.invokevirtual 66, 3) := by decide +kernel
theorem dL_sentTo_7 : decode cL_sentTo 7 = .ok (.i2l, 1) := by decide +kernel
theorem dL_sentTo_8 : decode cL_sentTo 8 = .ok (.lastore, 1) := by decide +kernel
theorem dL_sentTo_9 : decode cL_sentTo 9 = .ok (.goto 6, 3) := by decide +kernel
theorem dL_sentTo_12 : decode cL_sentTo 12 = .ok (.astore_n 3, 1) := by decide +kernel
theorem dL_sentTo_13 : decode cL_sentTo 13 = .ok (.iconst 1, 1) := by decide +kernel
theorem dL_sentTo_14 : decode cL_sentTo 14 = .ok (.ireturn, 1) := by decide +kernel
theorem dL_sentTo_15 : decode cL_sentTo 15 = .ok (.iconst 0, 1) := by decide +kernel
theorem dL_sentTo_16 : decode cL_sentTo 16 = .ok (.ireturn, 1) := by decide +kernel
set_option maxRecDepth 20000 in
theorem ggL_giveBack_X0_giveBack : GoodIn wsL_giveBack wsX0_giveBack := goodIn_ca (goodIn_ca (goodIn_ca (goodIn_r _ [8, 9, 10, 11, 12, 13, 14, 15, 16, 7, 17, 18, 19, 20, 21, 22, 23, 24, 25, 26, 27, 28, 29, 30, 31, 32, 33, 34, 35, 36, 37, 38, 39, 40, 41, 42, 43, 44, 45, 46, 47, 48, 49, 50, 51, 52] (by decide +kernel) (by decide +kernel)) (goodIn_sub (fun _ h => List.mem_cons_of_mem _ (List.mem_append_left _ (List.mem_append_left _ (List.mem_append_right _ h)))) (by decide +kernel))) (goodIn_sub (fun _ h => List.mem_cons_of_mem _ (List.mem_append_left _ (List.mem_append_right _ h))) (by decide +kernel))) (goodIn_sub (fun _ h => List.mem_cons_of_mem _ (List.mem_append_right _ h)) (by decide +kernel))
set_option maxRecDepth 20000 in
theorem gL_giveBack_X0_giveBack : GoodIn wsL_giveBack (wsV RL 69 RX0 yX0_giveBack wsX0_giveBack) := goodIn_app (goodIn_of _ (by decide +kernel)) ggL_giveBack_X0_giveBack
theorem dL_giveBack_0 : decode cL_giveBack 0 = .ok (.aload_n 3, 1) := by decide +kernel
theorem dL_giveBack_1 : decode cL_giveBack 1 = .ok (.iconst 0, 1) := by decide +kernel
theorem dL_giveBack_2 : decode cL_giveBack 2 = .ok (.aload_n 0, 1) := by decide +kernel
theorem dL_giveBack_3 : decode cL_giveBack 3 = .ok (.iload_n 1, 1) := by decide +kernel
theorem dL_giveBack_4 : decode cL_giveBack 4 = .ok (.iload_n 2, 1) := by decide +kernel
theorem dL_giveBack_5 : decode cL_giveBack 5 = .ok (.invokevirtual 69, 3) := by decide +kernel
theorem dL_giveBack_8 : decode cL_giveBack 8 = .ok (.i2l, 1) := by decide +kernel
theorem dL_giveBack_9 : decode cL_giveBack 9 = .ok (.lastore, 1) := by decide +kernel
theorem dL_giveBack_10 : decode cL_giveBack 10 = .ok (.goto 15, 3) := by decide +kernel
theorem dL_giveBack_13 : decode cL_giveBack 13 = .ok (.astore 4, 2) := by decide +kernel
theorem dL_giveBack_15 : decode cL_giveBack 15 = .ok (.iconst 1, 1) := by decide +kernel
theorem dL_giveBack_16 : decode cL_giveBack 16 = .ok (.ireturn, 1) := by decide +kernel
theorem dL_giveBack_17 : decode cL_giveBack 17 = .ok (.astore 4, 2) := by decide +kernel
theorem dL_giveBack_19 : decode cL_giveBack 19 = .ok (.iconst 2, 1) := by decide +kernel
theorem dL_giveBack_20 : decode cL_giveBack 20 = .ok (.ireturn, 1) := by decide +kernel
theorem dL_giveBack_21 : decode cL_giveBack 21 = .ok (.astore 4, 2) := by decide +kernel
theorem dL_giveBack_23 : decode cL_giveBack 23 = .ok (.iconst 3, 1) := by decide +kernel
theorem dL_giveBack_24 : decode cL_giveBack 24 = .ok (.ireturn, 1) := by decide +kernel
theorem dL_giveBack_25 : decode cL_giveBack 25 = .ok (.iconst 0, 1) := by decide +kernel
theorem dL_giveBack_26 : decode cL_giveBack 26 = .ok (.ireturn, 1) := by decide +kernel
set_option maxRecDepth 20000 in
theorem ggL_stateOf_X0_stateOf : GoodIn wsL_stateOf wsX0_stateOf := goodIn_ca (goodIn_r _ [6, 7, 8, 9, 10, 5, 11, 12, 13, 14, 15, 16, 17, 18, 19, 20, 21, 22, 23, 24, 25, 26, 27, 28, 29, 30, 31, 32, 33, 34] (by decide +kernel) (by decide +kernel)) (goodIn_sub (fun _ h => List.mem_cons_of_mem _ (List.mem_append_right _ h)) (by decide +kernel))
set_option maxRecDepth 20000 in
theorem gL_stateOf_X0_stateOf : GoodIn wsL_stateOf (wsV RL 72 RX0 yX0_stateOf wsX0_stateOf) := goodIn_app (goodIn_of _ (by decide +kernel)) ggL_stateOf_X0_stateOf
theorem dL_stateOf_0 : decode cL_stateOf 0 = .ok (.aload_n 2, 1) := by decide +kernel
theorem dL_stateOf_1 : decode cL_stateOf 1 = .ok (.iconst 0, 1) := by decide +kernel
theorem dL_stateOf_2 : decode cL_stateOf 2 = .ok (.aload_n 0, 1) := by decide +kernel
theorem dL_stateOf_3 : decode cL_stateOf 3 = .ok (.iload_n 1, 1) := by decide +kernel
theorem dL_stateOf_4 : decode cL_stateOf 4 = .ok (.invokevirtual 72, 3) := by decide +kernel
theorem dL_stateOf_7 : decode cL_stateOf 7 = .ok (.i2l, 1) := by decide +kernel
theorem dL_stateOf_8 : decode cL_stateOf 8 = .ok (.lastore, 1) := by decide +kernel
theorem dL_stateOf_9 : decode cL_stateOf 9 = .ok (.goto 6, 3) := by decide +kernel
theorem dL_stateOf_12 : decode cL_stateOf 12 = .ok (.astore_n 3, 1) := by decide +kernel
theorem dL_stateOf_13 : decode cL_stateOf 13 = .ok (.iconst 1, 1) := by decide +kernel
theorem dL_stateOf_14 : decode cL_stateOf 14 = .ok (.ireturn, 1) := by decide +kernel
theorem dL_stateOf_15 : decode cL_stateOf 15 = .ok (.iconst 0, 1) := by decide +kernel
theorem dL_stateOf_16 : decode cL_stateOf 16 = .ok (.ireturn, 1) := by decide +kernel
set_option maxRecDepth 20000 in
theorem ggL_counted_X0_counted : GoodIn wsL_counted wsX0_counted := goodIn_ca (goodIn_ca (goodIn_r _ [7, 8, 9, 10, 11, 12, 13, 6, 14, 15, 16, 17, 18, 19, 20, 21, 22, 23, 24, 25, 26, 27, 28, 29, 30, 31, 32, 33, 34, 35, 36, 37] (by decide +kernel) (by decide +kernel)) (goodIn_sub (fun _ h => List.mem_cons_of_mem _ (List.mem_append_left _ (List.mem_append_right _ h))) (by decide +kernel))) (goodIn_sub (fun _ h => List.mem_cons_of_mem _ (List.mem_append_right _ h)) (by decide +kernel))
set_option maxRecDepth 20000 in
theorem gL_counted_X0_counted : GoodIn wsL_counted (wsV RL 75 RX0 yX0_counted wsX0_counted) := goodIn_app (goodIn_of _ (by decide +kernel)) ggL_counted_X0_counted
theorem dL_counted_0 : decode cL_counted 0 = .ok (.aload_n 3, 1) := by decide +kernel
theorem dL_counted_1 : decode cL_counted 1 = .ok (.iconst 0, 1) := by decide +kernel
theorem dL_counted_2 : decode cL_counted 2 = .ok (.aload_n 0, 1) := by decide +kernel
theorem dL_counted_3 : decode cL_counted 3 = .ok (.iload_n 1, 1) := by decide +kernel
theorem dL_counted_4 : decode cL_counted 4 = .ok (.iload_n 2, 1) := by decide +kernel
theorem dL_counted_5 : decode cL_counted 5 = .ok (.invokevirtual 75, 3) := by decide +kernel
theorem dL_counted_8 : decode cL_counted 8 = .ok (.i2l, 1) := by decide +kernel
theorem dL_counted_9 : decode cL_counted 9 = .ok (.lastore, 1) := by decide +kernel
theorem dL_counted_10 : decode cL_counted 10 = .ok (.goto 11, 3) := by decide +kernel
theorem dL_counted_13 : decode cL_counted 13 = .ok (.astore 4, 2) := by decide +kernel
theorem dL_counted_15 : decode cL_counted 15 = .ok (.iconst 1, 1) := by decide +kernel
theorem dL_counted_16 : decode cL_counted 16 = .ok (.ireturn, 1) := by decide +kernel
theorem dL_counted_17 : decode cL_counted 17 = .ok (.astore 4, 2) := by decide +kernel
theorem dL_counted_19 : decode cL_counted 19 = .ok (.iconst 2, 1) := by decide +kernel
theorem dL_counted_20 : decode cL_counted 20 = .ok (.ireturn, 1) := by decide +kernel
theorem dL_counted_21 : decode cL_counted 21 = .ok (.iconst 0, 1) := by decide +kernel
theorem dL_counted_22 : decode cL_counted 22 = .ok (.ireturn, 1) := by decide +kernel
set_option maxRecDepth 20000 in
theorem ggL_close_X0_close : GoodIn wsL_close wsX0_close := goodIn_ca (goodIn_r _ [6, 7, 8, 9, 10, 11, 12, 13, 14, 5, 15, 16, 17, 18, 19, 20, 21, 22, 23, 24, 25, 26, 27, 28, 29, 30, 31, 32, 33, 34, 35, 36, 37] (by decide +kernel) (by decide +kernel)) (goodIn_sub (fun _ h => List.mem_cons_of_mem _ (List.mem_append_right _ h)) (by decide +kernel))
set_option maxRecDepth 20000 in
theorem gL_close_X0_close : GoodIn wsL_close (wsV RL 78 RX0 yX0_close wsX0_close) := goodIn_app (goodIn_of _ (by decide +kernel)) ggL_close_X0_close
theorem dL_close_0 : decode cL_close 0 = .ok (.aload_n 1, 1) := by decide +kernel
theorem dL_close_1 : decode cL_close 1 = .ok (.iconst 0, 1) := by decide +kernel
theorem dL_close_2 : decode cL_close 2 = .ok (.aload_n 0, 1) := by decide +kernel
theorem dL_close_3 : decode cL_close 3 = .ok (.invokevirtual 78, 3) := by decide +kernel
theorem dL_close_6 : decode cL_close 6 = .ok (.i2l, 1) := by decide +kernel
theorem dL_close_7 : decode cL_close 7 = .ok (.lastore, 1) := by decide +kernel
theorem dL_close_8 : decode cL_close 8 = .ok (.goto 6, 3) := by decide +kernel
theorem dL_close_11 : decode cL_close 11 = .ok (.astore_n 2, 1) := by decide +kernel
theorem dL_close_12 : decode cL_close 12 = .ok (.iconst 1, 1) := by decide +kernel
theorem dL_close_13 : decode cL_close 13 = .ok (.ireturn, 1) := by decide +kernel
theorem dL_close_14 : decode cL_close 14 = .ok (.iconst 0, 1) := by decide +kernel
theorem dL_close_15 : decode cL_close 15 = .ok (.ireturn, 1) := by decide +kernel
end
section
set_option maxRecDepth 20000 in
theorem ggL_law_X0_init : GoodIn wsL_law wsX0_init := goodIn_r _ [9, 10, 11, 12, 13, 14, 15, 16, 17, 18, 19, 20, 21, 22, 23, 24, 25, 26, 27, 28, 29, 479, 480, 481, 482, 483, 484, 485, 486, 487, 488, 489, 490, 491, 492, 493, 494] (by decide +kernel) (by decide +kernel)
set_option maxRecDepth 20000 in
theorem gL_law_X0_init : GoodIn wsL_law (wsX0_init) := ggL_law_X0_init
set_option maxRecDepth 20000 in
theorem ggL_law_X1_init : GoodIn wsL_law wsX1_init := goodIn_r _ [32, 33, 11, 12, 13, 34, 35, 36, 37, 38, 39, 40, 41, 42, 43, 44, 45, 46, 47, 495, 496, 497, 498, 499, 500, 501, 502, 503, 504, 505, 506, 507, 508, 509, 510, 511, 512] (by decide +kernel) (by decide +kernel)
set_option maxRecDepth 20000 in
theorem gL_law_X1_init : GoodIn wsL_law (wsX1_init) := ggL_law_X1_init
set_option maxRecDepth 20000 in
theorem ggL_law_L_join : GoodIn wsL_law wsL_join := goodIn_ca (goodIn_ca (goodIn_ca (goodIn_r _ [51, 52, 53, 54, 55, 56, 57, 2, 58, 59, 60, 61, 62, 63, 64, 65, 66, 67, 68, 69, 70, 71, 72, 73, 74, 75, 76, 77, 78, 79, 80, 81, 82, 83, 84, 85, 86, 25, 15, 87, 88, 89, 90, 16, 91, 92, 93, 94, 95, 96, 97, 98, 14, 99, 100, 101, 102, 103, 104, 105, 106, 107, 108, 109, 110, 111, 112, 113, 17, 479, 480, 481, 482, 483, 484, 485, 486, 487, 488, 489, 490, 491, 492, 493, 494] (by decide +kernel) (by decide +kernel)) (goodIn_sub (fun _ h => List.mem_append_left _ (List.mem_append_left _ (List.mem_append_right _ h))) (by decide +kernel))) (goodIn_sub (fun _ h => List.mem_append_left _ (List.mem_append_right _ h)) (by decide +kernel))) (goodIn_sub (fun _ h => List.mem_append_right _ h) (by decide +kernel))
set_option maxRecDepth 20000 in
theorem gL_law_L_join : GoodIn wsL_law (va_wsS RL 85 yL_join wsL_join) := goodIn_app (goodIn_of _ (by decide +kernel)) ggL_law_L_join
set_option maxRecDepth 20000 in
theorem ggL_law_X1_join : GoodIn wsL_law wsX1_join := goodIn_r _ [117, 118, 119, 34, 40, 120, 121, 5, 122, 123, 124, 125, 126, 127, 128, 129, 495, 496, 497, 498, 499, 500, 501, 502, 503, 504, 505, 506, 507, 508, 509, 510, 511, 512] (by decide +kernel) (by decide +kernel)
set_option maxRecDepth 20000 in
theorem gL_law_X1_join : GoodIn wsL_law (wsV RL 90 RX1 yX1_join wsX1_join) := goodIn_app (goodIn_of _ (by decide +kernel)) ggL_law_X1_join
set_option maxRecDepth 20000 in
theorem ggL_law_X1_thrown : GoodIn wsL_law wsX1_thrown := goodIn_r _ [133, 119, 495, 496, 497, 498, 499, 500, 501, 502, 503, 504, 505, 506, 507, 508, 509, 510, 511, 512] (by decide +kernel) (by decide +kernel)
set_option maxRecDepth 20000 in
theorem gL_law_X1_thrown : GoodIn wsL_law (wsV RL 91 RX1 yX1_thrown wsX1_thrown) := goodIn_app (goodIn_of _ (by decide +kernel)) ggL_law_X1_thrown
set_option maxRecDepth 20000 in
theorem ggL_law_L_change : GoodIn wsL_law wsL_change := goodIn_ca (goodIn_ca (goodIn_ca (goodIn_r _ [136, 52, 53, 54, 137, 138, 139, 2, 140, 62, 63, 64, 65, 66, 67, 68, 69, 70, 71, 72, 73, 74, 141, 142, 143, 144, 59, 60, 75, 76, 77, 78, 79, 80, 81, 82, 83, 84, 85, 86, 25, 15, 87, 88, 89, 90, 16, 91, 92, 93, 94, 95, 96, 97, 98, 14, 99, 100, 101, 102, 103, 104, 105, 106, 107, 108, 109, 110, 111, 112, 113, 17, 479, 480, 481, 482, 483, 484, 485, 486, 487, 488, 489, 490, 491, 492, 493, 494] (by decide +kernel) (by decide +kernel)) (goodIn_sub (fun _ h => List.mem_append_left _ (List.mem_append_right _ h)) (by decide +kernel))) (goodIn_sub (fun _ h => List.mem_append_right _ h) (by decide +kernel))) (goodIn_sub (fun _ h => List.mem_append_left _ (List.mem_append_left _ (List.mem_append_right _ h))) (by decide +kernel))
set_option maxRecDepth 20000 in
theorem gL_law_L_change : GoodIn wsL_law (va_wsS RL 94 yL_change wsL_change) := goodIn_app (goodIn_of _ (by decide +kernel)) ggL_law_L_change
set_option maxRecDepth 20000 in
theorem ggL_law_X1_change : GoodIn wsL_law wsX1_change := goodIn_r _ [148, 119, 34, 40, 120, 121, 5, 122, 123, 124, 125, 126, 127, 128, 129, 495, 496, 497, 498, 499, 500, 501, 502, 503, 504, 505, 506, 507, 508, 509, 510, 511, 512] (by decide +kernel) (by decide +kernel)
set_option maxRecDepth 20000 in
theorem gL_law_X1_change : GoodIn wsL_law (wsV RL 96 RX1 yX1_change wsX1_change) := goodIn_app (goodIn_of _ (by decide +kernel)) ggL_law_X1_change
set_option maxRecDepth 20000 in
theorem ggL_law_L_leave : GoodIn wsL_law wsL_leave := goodIn_ca (goodIn_ca (goodIn_r _ [151, 52, 54, 152, 153, 154, 2, 155, 61, 62, 63, 64, 65, 66, 67, 68, 69, 141, 142, 143, 144, 59, 60, 75, 76, 77, 78, 79, 80, 81, 82, 83, 84, 85, 86, 25, 15, 87, 88, 89, 90, 16, 91, 92, 93, 94, 95, 96, 97, 98, 14, 99, 100, 101, 102, 103, 104, 105, 106, 107, 108, 109, 110, 111, 112, 113, 17, 479, 480, 481, 482, 483, 484, 485, 486, 487, 488, 489, 490, 491, 492, 493, 494] (by decide +kernel) (by decide +kernel)) (goodIn_sub (fun _ h => List.mem_append_left _ (List.mem_append_right _ h)) (by decide +kernel))) (goodIn_sub (fun _ h => List.mem_append_left _ (List.mem_append_left _ (List.mem_append_right _ h))) (by decide +kernel))
set_option maxRecDepth 20000 in
theorem gL_law_L_leave : GoodIn wsL_law (va_wsS RL 97 yL_leave wsL_leave) := goodIn_app (goodIn_of _ (by decide +kernel)) ggL_law_L_leave
set_option maxRecDepth 20000 in
theorem ggL_law_X1_leave : GoodIn wsL_law wsX1_leave := goodIn_r _ [159, 119, 34, 118, 120, 121, 5, 122, 123, 124, 125, 126, 127, 128, 129, 495, 496, 497, 498, 499, 500, 501, 502, 503, 504, 505, 506, 507, 508, 509, 510, 511, 512] (by decide +kernel) (by decide +kernel)
set_option maxRecDepth 20000 in
theorem gL_law_X1_leave : GoodIn wsL_law (wsV RL 100 RX1 yX1_leave wsX1_leave) := goodIn_app (goodIn_of _ (by decide +kernel)) ggL_law_X1_leave
set_option maxRecDepth 20000 in
theorem ggL_law_L_address : GoodIn wsL_law wsL_address := goodIn_ca (goodIn_r _ [162, 52, 163, 164, 165, 2, 166, 62, 63, 64, 65, 66, 67, 68, 69, 79, 80, 81, 82, 83, 84, 85, 86, 25, 15, 87, 88, 89, 90, 16, 91, 92, 93, 94, 95, 96, 97, 98, 14, 99, 100, 101, 479, 480, 481, 482, 483, 484, 485, 486, 487, 488, 489, 490, 491, 492, 493, 494] (by decide +kernel) (by decide +kernel)) (goodIn_sub (fun _ h => List.mem_append_left _ (List.mem_append_right _ h)) (by decide +kernel))
set_option maxRecDepth 20000 in
theorem gL_law_L_address : GoodIn wsL_law (va_wsS RL 101 yL_address wsL_address) := goodIn_app (goodIn_of _ (by decide +kernel)) ggL_law_L_address
set_option maxRecDepth 20000 in
theorem ggL_law_X1_address : GoodIn wsL_law wsX1_address := goodIn_r _ [170, 34, 171, 172, 173, 5, 174, 119, 120, 121, 122, 123, 124, 125, 495, 496, 497, 498, 499, 500, 501, 502, 503, 504, 505, 506, 507, 508, 509, 510, 511, 512] (by decide +kernel) (by decide +kernel)
set_option maxRecDepth 20000 in
theorem gL_law_X1_address : GoodIn wsL_law (wsV RL 103 RX1 yX1_address wsX1_address) := goodIn_app (goodIn_of _ (by decide +kernel)) ggL_law_X1_address
set_option maxRecDepth 20000 in
theorem ggL_law_L_inDistrict : GoodIn wsL_law wsL_inDistrict := goodIn_ca (goodIn_r _ [177, 52, 178, 179, 180, 2, 181, 182, 183, 184, 65, 66, 79, 80, 81, 82, 83, 84, 85, 86, 25, 15, 87, 88, 89, 90, 16, 91, 92, 93, 94, 95, 96, 97, 98, 14, 99, 100, 101, 67, 68, 69, 185, 186, 187, 479, 480, 481, 482, 483, 484, 485, 486, 487, 488, 489, 490, 491, 492, 493, 494] (by decide +kernel) (by decide +kernel)) (goodIn_sub (fun _ h => List.mem_append_left _ (List.mem_append_right _ h)) (by decide +kernel))
set_option maxRecDepth 20000 in
theorem gL_law_L_inDistrict : GoodIn wsL_law (va_wsS RL 104 yL_inDistrict wsL_inDistrict) := goodIn_app (goodIn_of _ (by decide +kernel)) ggL_law_L_inDistrict
set_option maxRecDepth 20000 in
theorem ggL_law_X1_inDistrict : GoodIn wsL_law wsX1_inDistrict := goodIn_r _ [191, 119, 34, 192, 193, 5, 194, 123, 124, 125, 126, 127, 128, 129, 495, 496, 497, 498, 499, 500, 501, 502, 503, 504, 505, 506, 507, 508, 509, 510, 511, 512] (by decide +kernel) (by decide +kernel)
set_option maxRecDepth 20000 in
theorem gL_law_X1_inDistrict : GoodIn wsL_law (wsV RL 106 RX1 yX1_inDistrict wsX1_inDistrict) := goodIn_app (goodIn_of _ (by decide +kernel)) ggL_law_X1_inDistrict
set_option maxRecDepth 20000 in
theorem ggL_law_L_split : GoodIn wsL_law wsL_split := goodIn_ca (goodIn_ca (goodIn_r _ [197, 52, 54, 198, 199, 200, 2, 201, 59, 60, 25, 15, 62, 63, 64, 65, 66, 67, 68, 69, 83, 84, 85, 86, 202, 203, 204, 205, 91, 92, 93, 94, 206, 207, 208, 209, 110, 111, 112, 113, 17, 210, 211, 212, 213, 214, 215, 216, 217, 16, 479, 480, 481, 482, 483, 484, 485, 486, 487, 488, 489, 490, 491, 492, 493, 494] (by decide +kernel) (by decide +kernel)) (goodIn_sub (fun _ h => List.mem_append_left _ (List.mem_append_left _ (List.mem_append_right _ h))) (by decide +kernel))) (goodIn_sub (fun _ h => List.mem_append_left _ (List.mem_append_right _ h)) (by decide +kernel))
set_option maxRecDepth 20000 in
theorem gL_law_L_split : GoodIn wsL_law (va_wsS RL 107 yL_split wsL_split) := goodIn_app (goodIn_of _ (by decide +kernel)) ggL_law_L_split
set_option maxRecDepth 20000 in
theorem ggL_law_X1_split : GoodIn wsL_law wsX1_split := goodIn_r _ [221, 38, 35, 119, 36, 37, 171, 172, 173, 5, 174, 120, 121, 122, 123, 124, 125, 222, 223, 224, 225, 226, 227, 228, 229, 230, 231, 232, 233, 495, 496, 497, 498, 499, 500, 501, 502, 503, 504, 505, 506, 507, 508, 509, 510, 511, 512] (by decide +kernel) (by decide +kernel)
set_option maxRecDepth 20000 in
theorem gL_law_X1_split : GoodIn wsL_law (wsV RL 109 RX1 yX1_split wsX1_split) := goodIn_app (goodIn_of _ (by decide +kernel)) ggL_law_X1_split
set_option maxRecDepth 20000 in
theorem ggL_law_L_merge : GoodIn wsL_law wsL_merge := goodIn_ca (goodIn_ca (goodIn_r _ [236, 52, 54, 237, 238, 239, 2, 240, 59, 60, 25, 241, 242, 243, 244, 65, 66, 91, 92, 93, 94, 87, 88, 89, 90, 16, 206, 207, 208, 209, 110, 111, 112, 113, 17, 245, 246, 247, 248, 214, 215, 216, 217, 15, 479, 480, 481, 482, 483, 484, 485, 486, 487, 488, 489, 490, 491, 492, 493, 494] (by decide +kernel) (by decide +kernel)) (goodIn_sub (fun _ h => List.mem_append_left _ (List.mem_append_left _ (List.mem_append_right _ h))) (by decide +kernel))) (goodIn_sub (fun _ h => List.mem_append_left _ (List.mem_append_right _ h)) (by decide +kernel))
set_option maxRecDepth 20000 in
theorem gL_law_L_merge : GoodIn wsL_law (va_wsS RL 110 yL_merge wsL_merge) := goodIn_app (goodIn_of _ (by decide +kernel)) ggL_law_L_merge
set_option maxRecDepth 20000 in
theorem ggL_law_X1_merge : GoodIn wsL_law wsX1_merge := goodIn_r _ [252, 119, 35, 37, 38, 253, 254, 255, 5, 256, 123, 124, 125, 230, 231, 232, 233, 36, 495, 496, 497, 498, 499, 500, 501, 502, 503, 504, 505, 506, 507, 508, 509, 510, 511, 512] (by decide +kernel) (by decide +kernel)
set_option maxRecDepth 20000 in
theorem gL_law_X1_merge : GoodIn wsL_law (wsV RL 112 RX1 yX1_merge wsX1_merge) := goodIn_app (goodIn_of _ (by decide +kernel)) ggL_law_X1_merge
set_option maxRecDepth 20000 in
theorem ggL_law_L_move : GoodIn wsL_law wsL_move := goodIn_ca (goodIn_ca (goodIn_r _ [259, 52, 54, 260, 261, 262, 2, 263, 59, 60, 16, 17, 241, 242, 243, 244, 65, 66, 91, 92, 93, 94, 25, 264, 265, 266, 99, 100, 101, 206, 207, 208, 209, 110, 111, 112, 113, 267, 268, 269, 270, 202, 203, 204, 205, 15, 271, 272, 273, 274, 95, 96, 97, 98, 14, 67, 68, 69, 479, 480, 481, 482, 483, 484, 485, 486, 487, 488, 489, 490, 491, 492, 493, 494] (by decide +kernel) (by decide +kernel)) (goodIn_sub (fun _ h => List.mem_append_left _ (List.mem_append_left _ (List.mem_append_right _ h))) (by decide +kernel))) (goodIn_sub (fun _ h => List.mem_append_left _ (List.mem_append_right _ h)) (by decide +kernel))
set_option maxRecDepth 20000 in
theorem gL_law_L_move : GoodIn wsL_law (va_wsS RL 113 yL_move wsL_move) := goodIn_app (goodIn_of _ (by decide +kernel)) ggL_law_L_move
set_option maxRecDepth 20000 in
theorem ggL_law_X1_move : GoodIn wsL_law wsX1_move := goodIn_r _ [278, 38, 37, 119, 36, 40, 253, 254, 255, 5, 256, 35, 123, 124, 125, 192, 193, 194, 226, 227, 228, 229, 279, 280, 281, 282, 126, 127, 128, 129, 34, 495, 496, 497, 498, 499, 500, 501, 502, 503, 504, 505, 506, 507, 508, 509, 510, 511, 512] (by decide +kernel) (by decide +kernel)
set_option maxRecDepth 20000 in
theorem gL_law_X1_move : GoodIn wsL_law (wsV RL 115 RX1 yX1_move wsX1_move) := goodIn_app (goodIn_of _ (by decide +kernel)) ggL_law_X1_move
set_option maxRecDepth 20000 in
theorem ggL_law_L_step : GoodIn wsL_law wsL_step := goodIn_ca (goodIn_ca (goodIn_r _ [285, 52, 54, 286, 287, 288, 2, 289, 16, 17, 241, 242, 243, 244, 65, 66, 91, 92, 93, 94, 25, 290, 291, 292, 293, 59, 60, 206, 207, 208, 209, 110, 111, 112, 113, 294, 295, 296, 297, 87, 88, 89, 90, 202, 203, 204, 205, 15, 267, 268, 269, 270, 95, 96, 97, 98, 14, 99, 100, 101, 67, 68, 69, 106, 107, 108, 109, 298, 299, 300, 301, 479, 480, 481, 482, 483, 484, 485, 486, 487, 488, 489, 490, 491, 492, 493, 494] (by decide +kernel) (by decide +kernel)) (goodIn_sub (fun _ h => List.mem_append_left _ (List.mem_append_right _ h)) (by decide +kernel))) (goodIn_sub (fun _ h => List.mem_append_left _ (List.mem_append_left _ (List.mem_append_right _ h))) (by decide +kernel))
set_option maxRecDepth 20000 in
theorem gL_law_L_step : GoodIn wsL_law (va_wsS RL 116 yL_step wsL_step) := goodIn_app (goodIn_of _ (by decide +kernel)) ggL_law_L_step
set_option maxRecDepth 20000 in
theorem ggL_law_X1_step : GoodIn wsL_law wsX1_step := goodIn_r _ [305, 36, 40, 37, 38, 306, 307, 308, 5, 309, 119, 253, 254, 255, 256, 35, 123, 124, 125, 226, 227, 228, 229, 126, 127, 128, 129, 34, 495, 496, 497, 498, 499, 500, 501, 502, 503, 504, 505, 506, 507, 508, 509, 510, 511, 512] (by decide +kernel) (by decide +kernel)
set_option maxRecDepth 20000 in
theorem gL_law_X1_step : GoodIn wsL_law (wsV RL 118 RX1 yX1_step wsX1_step) := goodIn_app (goodIn_of _ (by decide +kernel)) ggL_law_X1_step
set_option maxRecDepth 20000 in
theorem ggL_law_L_giveUp : GoodIn wsL_law wsL_giveUp := goodIn_ca (goodIn_ca (goodIn_r _ [312, 52, 54, 313, 314, 315, 2, 316, 17, 241, 242, 243, 244, 65, 66, 91, 92, 93, 94, 25, 290, 291, 292, 293, 59, 60, 206, 207, 208, 209, 110, 111, 112, 113, 267, 268, 269, 270, 202, 203, 204, 205, 15, 271, 272, 273, 274, 95, 96, 97, 98, 14, 99, 100, 101, 67, 68, 69, 298, 299, 300, 301, 106, 107, 108, 109, 479, 480, 481, 482, 483, 484, 485, 486, 487, 488, 489, 490, 491, 492, 493, 494] (by decide +kernel) (by decide +kernel)) (goodIn_sub (fun _ h => List.mem_append_left _ (List.mem_append_right _ h)) (by decide +kernel))) (goodIn_sub (fun _ h => List.mem_append_left _ (List.mem_append_left _ (List.mem_append_right _ h))) (by decide +kernel))
set_option maxRecDepth 20000 in
theorem gL_law_L_giveUp : GoodIn wsL_law (va_wsS RL 119 yL_giveUp wsL_giveUp) := goodIn_app (goodIn_of _ (by decide +kernel)) ggL_law_L_giveUp
set_option maxRecDepth 20000 in
theorem ggL_law_X1_giveUp : GoodIn wsL_law wsX1_giveUp := goodIn_r _ [320, 38, 306, 307, 308, 5, 309, 119, 253, 254, 255, 256, 35, 123, 124, 125, 279, 280, 281, 282, 36, 40, 226, 227, 228, 229, 126, 127, 128, 129, 34, 495, 496, 497, 498, 499, 500, 501, 502, 503, 504, 505, 506, 507, 508, 509, 510, 511, 512] (by decide +kernel) (by decide +kernel)
set_option maxRecDepth 20000 in
theorem gL_law_X1_giveUp : GoodIn wsL_law (wsV RL 121 RX1 yX1_giveUp wsX1_giveUp) := goodIn_app (goodIn_of _ (by decide +kernel)) ggL_law_X1_giveUp
set_option maxRecDepth 20000 in
theorem ggL_law_X0_ranges : GoodIn wsL_law wsX0_ranges := goodIn_r _ [324, 25, 479, 480, 481, 482, 483, 484, 485, 486, 487, 488, 489, 490, 491, 492, 493, 494] (by decide +kernel) (by decide +kernel)
set_option maxRecDepth 20000 in
theorem gL_law_X0_ranges : GoodIn wsL_law (wsV RL 122 RX0 yX0_ranges wsX0_ranges) := goodIn_app (goodIn_of _ (by decide +kernel)) ggL_law_X0_ranges
set_option maxRecDepth 20000 in
theorem ggL_law_X1_ranges : GoodIn wsL_law wsX1_ranges := goodIn_r _ [328, 119, 35, 495, 496, 497, 498, 499, 500, 501, 502, 503, 504, 505, 506, 507, 508, 509, 510, 511, 512] (by decide +kernel) (by decide +kernel)
set_option maxRecDepth 20000 in
theorem gL_law_X1_ranges : GoodIn wsL_law (wsV RL 125 RX1 yX1_ranges wsX1_ranges) := goodIn_app (goodIn_of _ (by decide +kernel)) ggL_law_X1_ranges
set_option maxRecDepth 20000 in
theorem ggL_law_L_rangeOf : GoodIn wsL_law wsL_rangeOf := goodIn_ca (goodIn_r _ [331, 52, 332, 333, 334, 2, 335, 62, 63, 64, 65, 66, 67, 68, 69, 83, 84, 85, 86, 25, 15, 479, 480, 481, 482, 483, 484, 485, 486, 487, 488, 489, 490, 491, 492, 493, 494] (by decide +kernel) (by decide +kernel)) (goodIn_sub (fun _ h => List.mem_append_left _ (List.mem_append_right _ h)) (by decide +kernel))
set_option maxRecDepth 20000 in
theorem gL_law_L_rangeOf : GoodIn wsL_law (va_wsS RL 126 yL_rangeOf wsL_rangeOf) := goodIn_app (goodIn_of _ (by decide +kernel)) ggL_law_L_rangeOf
set_option maxRecDepth 20000 in
theorem ggL_law_X1_rangeOf : GoodIn wsL_law wsX1_rangeOf := goodIn_r _ [339, 171, 172, 173, 5, 174, 119, 120, 121, 122, 123, 124, 125, 222, 223, 224, 225, 35, 36, 495, 496, 497, 498, 499, 500, 501, 502, 503, 504, 505, 506, 507, 508, 509, 510, 511, 512] (by decide +kernel) (by decide +kernel)
set_option maxRecDepth 20000 in
theorem gL_law_X1_rangeOf : GoodIn wsL_law (wsV RL 128 RX1 yX1_rangeOf wsX1_rangeOf) := goodIn_app (goodIn_of _ (by decide +kernel)) ggL_law_X1_rangeOf
set_option maxRecDepth 20000 in
theorem ggL_law_L_shardOf : GoodIn wsL_law wsL_shardOf := goodIn_ca (goodIn_r _ [342, 52, 343, 344, 345, 2, 346, 16, 241, 242, 243, 244, 65, 66, 91, 92, 93, 94, 25, 479, 480, 481, 482, 483, 484, 485, 486, 487, 488, 489, 490, 491, 492, 493, 494] (by decide +kernel) (by decide +kernel)) (goodIn_sub (fun _ h => List.mem_append_left _ (List.mem_append_right _ h)) (by decide +kernel))
set_option maxRecDepth 20000 in
theorem gL_law_L_shardOf : GoodIn wsL_law (va_wsS RL 129 yL_shardOf wsL_shardOf) := goodIn_app (goodIn_of _ (by decide +kernel)) ggL_law_L_shardOf
set_option maxRecDepth 20000 in
theorem ggL_law_X1_shardOf : GoodIn wsL_law wsX1_shardOf := goodIn_r _ [350, 119, 37, 253, 254, 255, 5, 256, 35, 123, 124, 125, 495, 496, 497, 498, 499, 500, 501, 502, 503, 504, 505, 506, 507, 508, 509, 510, 511, 512] (by decide +kernel) (by decide +kernel)
set_option maxRecDepth 20000 in
theorem gL_law_X1_shardOf : GoodIn wsL_law (wsV RL 131 RX1 yX1_shardOf wsX1_shardOf) := goodIn_app (goodIn_of _ (by decide +kernel)) ggL_law_X1_shardOf
set_option maxRecDepth 20000 in
theorem ggL_law_L_rows : GoodIn wsL_law wsL_rows := goodIn_ca (goodIn_r _ [353, 52, 354, 355, 356, 2, 357, 264, 265, 266, 65, 66, 99, 100, 101, 271, 272, 273, 274, 95, 96, 97, 98, 14, 67, 68, 69, 479, 480, 481, 482, 483, 484, 485, 486, 487, 488, 489, 490, 491, 492, 493, 494] (by decide +kernel) (by decide +kernel)) (goodIn_sub (fun _ h => List.mem_append_left _ (List.mem_append_right _ h)) (by decide +kernel))
set_option maxRecDepth 20000 in
theorem gL_law_L_rows : GoodIn wsL_law (va_wsS RL 132 yL_rows wsL_rows) := goodIn_app (goodIn_of _ (by decide +kernel)) ggL_law_L_rows
set_option maxRecDepth 20000 in
theorem ggL_law_X1_rows : GoodIn wsL_law wsX1_rows := goodIn_r _ [361, 119, 35, 37, 38, 192, 193, 5, 194, 123, 124, 125, 279, 280, 281, 282, 36, 40, 226, 227, 228, 229, 126, 127, 128, 129, 34, 495, 496, 497, 498, 499, 500, 501, 502, 503, 504, 505, 506, 507, 508, 509, 510, 511, 512] (by decide +kernel) (by decide +kernel)
set_option maxRecDepth 20000 in
theorem gL_law_X1_rows : GoodIn wsL_law (wsV RL 134 RX1 yX1_rows wsX1_rows) := goodIn_app (goodIn_of _ (by decide +kernel)) ggL_law_X1_rows
set_option maxRecDepth 20000 in
theorem ggL_law_L_fix : GoodIn wsL_law wsL_fix := goodIn_ca (goodIn_r _ [364, 54, 365, 366, 367, 2, 368, 59, 60, 369, 18, 370, 61, 79, 80, 81, 82, 83, 84, 85, 86, 25, 15, 87, 88, 89, 90, 16, 91, 92, 93, 94, 95, 96, 97, 98, 14, 99, 100, 101, 67, 68, 69, 185, 186, 187, 479, 480, 481, 482, 483, 484, 485, 486, 487, 488, 489, 490, 491, 492, 493, 494] (by decide +kernel) (by decide +kernel)) (goodIn_sub (fun _ h => List.mem_append_left _ (List.mem_append_left _ (List.mem_append_right _ h))) (by decide +kernel))
set_option maxRecDepth 20000 in
theorem gL_law_L_fix : GoodIn wsL_law (va_wsS RL 135 yL_fix wsL_fix) := goodIn_app (goodIn_of _ (by decide +kernel)) ggL_law_L_fix
set_option maxRecDepth 20000 in
theorem ggL_law_X1_fix : GoodIn wsL_law wsX1_fix := goodIn_r _ [374, 375, 119, 376, 41, 34, 42, 118, 126, 127, 128, 5, 129, 495, 496, 497, 498, 499, 500, 501, 502, 503, 504, 505, 506, 507, 508, 509, 510, 511, 512] (by decide +kernel) (by decide +kernel)
set_option maxRecDepth 20000 in
theorem gL_law_X1_fix : GoodIn wsL_law (wsV RL 138 RX1 yX1_fix wsX1_fix) := goodIn_app (goodIn_of _ (by decide +kernel)) ggL_law_X1_fix
set_option maxRecDepth 20000 in
theorem ggL_law_L_onRoll : GoodIn wsL_law wsL_onRoll := goodIn_ca (goodIn_r _ [379, 52, 380, 381, 382, 2, 383, 369, 18, 62, 63, 64, 65, 66, 67, 68, 69, 479, 480, 481, 482, 483, 484, 485, 486, 487, 488, 489, 490, 491, 492, 493, 494] (by decide +kernel) (by decide +kernel)) (goodIn_sub (fun _ h => List.mem_append_left _ (List.mem_append_right _ h)) (by decide +kernel))
set_option maxRecDepth 20000 in
theorem gL_law_L_onRoll : GoodIn wsL_law (va_wsS RL 139 yL_onRoll wsL_onRoll) := goodIn_app (goodIn_of _ (by decide +kernel)) ggL_law_L_onRoll
set_option maxRecDepth 20000 in
theorem ggL_law_X1_onRoll : GoodIn wsL_law wsX1_onRoll := goodIn_r _ [387, 375, 41, 171, 172, 173, 5, 174, 119, 120, 121, 122, 123, 124, 125, 495, 496, 497, 498, 499, 500, 501, 502, 503, 504, 505, 506, 507, 508, 509, 510, 511, 512] (by decide +kernel) (by decide +kernel)
set_option maxRecDepth 20000 in
theorem gL_law_X1_onRoll : GoodIn wsL_law (wsV RL 141 RX1 yX1_onRoll wsX1_onRoll) := goodIn_app (goodIn_of _ (by decide +kernel)) ggL_law_X1_onRoll
set_option maxRecDepth 20000 in
theorem ggL_law_L_send : GoodIn wsL_law wsL_send := goodIn_ca (goodIn_ca (goodIn_r _ [390, 52, 54, 391, 392, 393, 2, 394, 59, 60, 369, 18, 23, 395, 19, 20, 370, 21, 22, 62, 63, 64, 65, 66, 67, 68, 69, 141, 142, 143, 144, 75, 76, 77, 78, 79, 80, 81, 82, 83, 84, 85, 86, 25, 15, 87, 88, 89, 90, 16, 91, 92, 93, 94, 95, 96, 97, 98, 14, 99, 100, 101, 396, 397, 398, 399, 400, 401, 402, 403, 404, 405, 406, 407, 479, 480, 481, 482, 483, 484, 485, 486, 487, 488, 489, 490, 491, 492, 493, 494] (by decide +kernel) (by decide +kernel)) (goodIn_sub (fun _ h => List.mem_append_left _ (List.mem_append_left _ (List.mem_append_right _ h))) (by decide +kernel))) (goodIn_sub (fun _ h => List.mem_append_left _ (List.mem_append_right _ h)) (by decide +kernel))
set_option maxRecDepth 20000 in
theorem gL_law_L_send : GoodIn wsL_law (va_wsS RL 142 yL_send wsL_send) := goodIn_app (goodIn_of _ (by decide +kernel)) ggL_law_L_send
set_option maxRecDepth 20000 in
theorem ggL_law_X1_send : GoodIn wsL_law wsX1_send := goodIn_r _ [411, 119, 375, 41, 412, 42, 44, 43, 34, 45, 376, 46, 120, 121, 5, 122, 123, 124, 125, 126, 127, 128, 129, 495, 496, 497, 498, 499, 500, 501, 502, 503, 504, 505, 506, 507, 508, 509, 510, 511, 512] (by decide +kernel) (by decide +kernel)
set_option maxRecDepth 20000 in
theorem gL_law_X1_send : GoodIn wsL_law (wsV RL 144 RX1 yX1_send wsX1_send) := goodIn_app (goodIn_of _ (by decide +kernel)) ggL_law_X1_send
set_option maxRecDepth 20000 in
theorem ggL_law_L_sentTo : GoodIn wsL_law wsL_sentTo := goodIn_ca (goodIn_r _ [415, 52, 416, 417, 418, 2, 419, 21, 420, 421, 422, 423, 65, 66, 404, 405, 406, 407, 395, 479, 480, 481, 482, 483, 484, 485, 486, 487, 488, 489, 490, 491, 492, 493, 494] (by decide +kernel) (by decide +kernel)) (goodIn_sub (fun _ h => List.mem_append_left _ (List.mem_append_right _ h)) (by decide +kernel))
set_option maxRecDepth 20000 in
theorem gL_law_L_sentTo : GoodIn wsL_law (va_wsS RL 145 yL_sentTo wsL_sentTo) := goodIn_app (goodIn_of _ (by decide +kernel)) ggL_law_L_sentTo
set_option maxRecDepth 20000 in
theorem ggL_law_X1_sentTo : GoodIn wsL_law wsX1_sentTo := goodIn_r _ [427, 43, 428, 429, 430, 5, 431, 412, 119, 123, 124, 125, 495, 496, 497, 498, 499, 500, 501, 502, 503, 504, 505, 506, 507, 508, 509, 510, 511, 512] (by decide +kernel) (by decide +kernel)
set_option maxRecDepth 20000 in
theorem gL_law_X1_sentTo : GoodIn wsL_law (wsV RL 147 RX1 yX1_sentTo wsX1_sentTo) := goodIn_app (goodIn_of _ (by decide +kernel)) ggL_law_X1_sentTo
set_option maxRecDepth 20000 in
theorem ggL_law_L_giveBack : GoodIn wsL_law wsL_giveBack := goodIn_ca (goodIn_ca (goodIn_ca (goodIn_r _ [434, 52, 53, 54, 435, 436, 437, 2, 438, 59, 60, 23, 24, 22, 420, 421, 422, 423, 65, 66, 404, 405, 406, 407, 395, 439, 440, 441, 73, 74, 400, 401, 402, 403, 369, 20, 370, 479, 480, 481, 482, 483, 484, 485, 486, 487, 488, 489, 490, 491, 492, 493, 494] (by decide +kernel) (by decide +kernel)) (goodIn_sub (fun _ h => List.mem_append_left _ (List.mem_append_left _ (List.mem_append_right _ h))) (by decide +kernel))) (goodIn_sub (fun _ h => List.mem_append_left _ (List.mem_append_right _ h)) (by decide +kernel))) (goodIn_sub (fun _ h => List.mem_append_right _ h) (by decide +kernel))
set_option maxRecDepth 20000 in
theorem gL_law_L_giveBack : GoodIn wsL_law (va_wsS RL 148 yL_giveBack wsL_giveBack) := goodIn_app (goodIn_of _ (by decide +kernel)) ggL_law_L_giveBack
set_option maxRecDepth 20000 in
theorem ggL_law_X1_giveBack : GoodIn wsL_law wsX1_giveBack := goodIn_r _ [445, 412, 119, 44, 375, 45, 376, 47, 46, 123, 124, 5, 125, 495, 496, 497, 498, 499, 500, 501, 502, 503, 504, 505, 506, 507, 508, 509, 510, 511, 512] (by decide +kernel) (by decide +kernel)
set_option maxRecDepth 20000 in
theorem gL_law_X1_giveBack : GoodIn wsL_law (wsV RL 150 RX1 yX1_giveBack wsX1_giveBack) := goodIn_app (goodIn_of _ (by decide +kernel)) ggL_law_X1_giveBack
set_option maxRecDepth 20000 in
theorem ggL_law_L_stateOf : GoodIn wsL_law wsL_stateOf := goodIn_ca (goodIn_r _ [448, 52, 449, 450, 451, 2, 452, 23, 420, 421, 422, 423, 65, 66, 404, 405, 406, 407, 395, 479, 480, 481, 482, 483, 484, 485, 486, 487, 488, 489, 490, 491, 492, 493, 494] (by decide +kernel) (by decide +kernel)) (goodIn_sub (fun _ h => List.mem_append_left _ (List.mem_append_right _ h)) (by decide +kernel))
set_option maxRecDepth 20000 in
theorem gL_law_L_stateOf : GoodIn wsL_law (va_wsS RL 151 yL_stateOf wsL_stateOf) := goodIn_app (goodIn_of _ (by decide +kernel)) ggL_law_L_stateOf
set_option maxRecDepth 20000 in
theorem ggL_law_X1_stateOf : GoodIn wsL_law wsX1_stateOf := goodIn_r _ [456, 44, 428, 429, 430, 5, 431, 412, 119, 123, 124, 125, 495, 496, 497, 498, 499, 500, 501, 502, 503, 504, 505, 506, 507, 508, 509, 510, 511, 512] (by decide +kernel) (by decide +kernel)
set_option maxRecDepth 20000 in
theorem gL_law_X1_stateOf : GoodIn wsL_law (wsV RL 153 RX1 yX1_stateOf wsX1_stateOf) := goodIn_app (goodIn_of _ (by decide +kernel)) ggL_law_X1_stateOf
set_option maxRecDepth 20000 in
theorem ggL_law_L_counted : GoodIn wsL_law wsL_counted := goodIn_ca (goodIn_ca (goodIn_r _ [459, 52, 53, 460, 461, 462, 2, 463, 395, 23, 22, 24, 182, 183, 184, 65, 66, 439, 440, 441, 73, 74, 479, 480, 481, 482, 483, 484, 485, 486, 487, 488, 489, 490, 491, 492, 493, 494] (by decide +kernel) (by decide +kernel)) (goodIn_sub (fun _ h => List.mem_append_left _ (List.mem_append_right _ h)) (by decide +kernel))) (goodIn_sub (fun _ h => List.mem_append_right _ h) (by decide +kernel))
set_option maxRecDepth 20000 in
theorem gL_law_L_counted : GoodIn wsL_law (va_wsS RL 154 yL_counted wsL_counted) := goodIn_app (goodIn_of _ (by decide +kernel)) ggL_law_L_counted
set_option maxRecDepth 20000 in
theorem ggL_law_X1_counted : GoodIn wsL_law wsX1_counted := goodIn_r _ [467, 119, 47, 192, 193, 5, 194, 123, 124, 125, 495, 496, 497, 498, 499, 500, 501, 502, 503, 504, 505, 506, 507, 508, 509, 510, 511, 512] (by decide +kernel) (by decide +kernel)
set_option maxRecDepth 20000 in
theorem gL_law_X1_counted : GoodIn wsL_law (wsV RL 156 RX1 yX1_counted wsX1_counted) := goodIn_app (goodIn_of _ (by decide +kernel)) ggL_law_X1_counted
set_option maxRecDepth 20000 in
theorem ggL_law_L_close : GoodIn wsL_law wsL_close := goodIn_ca (goodIn_r _ [470, 54, 471, 472, 473, 2, 474, 59, 60, 369, 395, 23, 400, 401, 402, 403, 20, 370, 404, 405, 406, 407, 479, 480, 481, 482, 483, 484, 485, 486, 487, 488, 489, 490, 491, 492, 493, 494] (by decide +kernel) (by decide +kernel)) (goodIn_sub (fun _ h => List.mem_append_left _ (List.mem_append_left _ (List.mem_append_right _ h))) (by decide +kernel))
set_option maxRecDepth 20000 in
theorem gL_law_L_close : GoodIn wsL_law (va_wsS RL 157 yL_close wsL_close) := goodIn_app (goodIn_of _ (by decide +kernel)) ggL_law_L_close
set_option maxRecDepth 20000 in
theorem ggL_law_X1_close : GoodIn wsL_law wsX1_close := goodIn_r _ [478, 375, 119, 412, 45, 376, 44, 495, 496, 497, 498, 499, 500, 501, 502, 503, 504, 505, 506, 507, 508, 509, 510, 511, 512] (by decide +kernel) (by decide +kernel)
set_option maxRecDepth 20000 in
theorem gL_law_X1_close : GoodIn wsL_law (wsV RL 159 RX1 yX1_close wsX1_close) := goodIn_app (goodIn_of _ (by decide +kernel)) ggL_law_X1_close
theorem dL_law_0 : decode cL_law 0 = .ok (.new 8, 3) := by decide +kernel
theorem dL_law_3 : decode cL_law 3 = .ok (.dup, 1) := by decide +kernel
theorem dL_law_4 : decode cL_law 4 = .ok (.invokespecial 81, 3) := by decide +kernel
theorem dL_law_7 : decode cL_law 7 = .ok (.astore_n 1, 1) := by decide +kernel
theorem dL_law_8 : decode cL_law 8 = .ok (.new 82, 3) := by decide +kernel
theorem dL_law_11 : decode cL_law 11 = .ok (.dup, 1) := by decide +kernel
theorem dL_law_12 : decode cL_law 12 = .ok (.invokespecial 84, 3) := by decide +kernel
theorem dL_law_15 : decode cL_law 15 = .ok (.astore_n 2, 1) := by decide +kernel
theorem dL_law_16 : decode cL_law 16 = .ok (.iconst 1, 1) := by decide +kernel
theorem dL_law_17 : decode cL_law 17 = .ok (.newarray .long, 2) := by decide +kernel
theorem dL_law_19 : decode cL_law 19 = .ok (.astore_n 3, 1) := by decide +kernel
theorem dL_law_20 : decode cL_law 20 = .ok (.iconst 0, 1) := by decide +kernel
theorem dL_law_21 : decode cL_law 21 = .ok (.istore 4, 2) := by decide +kernel
theorem dL_law_23 : decode cL_law 23 = .ok (.iload 4, 2) := by decide +kernel
theorem dL_law_25 : decode cL_law 25 = .ok (.aload_n 0, 1) := by decide +kernel
theorem dL_law_26 : decode cL_law 26 = .ok (.arraylength, 1) := by decide +kernel
theorem dL_law_27 : decode cL_law 27 = .ok (.iconst 3, 1) := by decide +kernel
theorem dL_law_28 : decode cL_law 28 = .ok (.isub, 1) := by decide +kernel
theorem dL_law_29 : decode cL_law 29 = .ok (.if_icmp .gt 1342, 3) := by decide +kernel
theorem dL_law_32 : decode cL_law 32 = .ok (.aload_n 0, 1) := by decide +kernel
theorem dL_law_33 : decode cL_law 33 = .ok (.iload 4, 2) := by decide +kernel
theorem dL_law_35 : decode cL_law 35 = .ok (.iaload, 1) := by decide +kernel
theorem dL_law_36 : decode cL_law 36 = .ok (.bipush 31, 2) := by decide +kernel
theorem dL_law_38 : decode cL_law 38 = .ok (.iand, 1) := by decide +kernel
theorem dL_law_39 : decode cL_law 39 = .ok (.tableswitch 1326 0 21 #[101, 169, 237, 293, 349, 405, 461, 517, 585, 641, 697, 710, 766, 822, 878, 922, 978, 1034, 1090, 1158, 1214, 1282], 101) := by decide +kernel
theorem dL_law_140 : decode cL_law 140 = .ok (.aload_n 1, 1) := by decide +kernel
theorem dL_law_141 : decode cL_law 141 = .ok (.aload_n 0, 1) := by decide +kernel
theorem dL_law_142 : decode cL_law 142 = .ok (.iload 4, 2) := by decide +kernel
theorem dL_law_144 : decode cL_law 144 = .ok (.iconst 1, 1) := by decide +kernel
theorem dL_law_145 : decode cL_law 145 = .ok (.iadd, 1) := by decide +kernel
theorem dL_law_146 : decode cL_law 146 = .ok (.iaload, 1) := by decide +kernel
theorem dL_law_147 : decode cL_law 147 = .ok (.aload_n 0, 1) := by decide +kernel
theorem dL_law_148 : decode cL_law 148 = .ok (.iload 4, 2) := by decide +kernel
theorem dL_law_150 : decode cL_law 150 = .ok (.iconst 2, 1) := by decide +kernel
theorem dL_law_151 : decode cL_law 151 = .ok (.iadd, 1) := by decide +kernel
theorem dL_law_152 : decode cL_law 152 = .ok (.iaload, 1) := by decide +kernel
theorem dL_law_153 : decode cL_law 153 = .ok (.aload_n 3, 1) := by decide +kernel
theorem dL_law_154 : decode cL_law 154 = .ok (.invokestatic 85, 3) := by decide +kernel
theorem dL_law_157 : decode cL_law 157 = .ok (.istore 5, 2) := by decide +kernel
theorem dL_law_159 : decode cL_law 159 = .ok (.aload_n 2, 1) := by decide +kernel
theorem dL_law_160 : decode cL_law 160 = .ok (.aload_n 0, 1) := by decide +kernel
theorem dL_law_161 : decode cL_law 161 = .ok (.iload 4, 2) := by decide +kernel
theorem dL_law_163 : decode cL_law 163 = .ok (.iconst 1, 1) := by decide +kernel
theorem dL_law_164 : decode cL_law 164 = .ok (.iadd, 1) := by decide +kernel
theorem dL_law_165 : decode cL_law 165 = .ok (.iaload, 1) := by decide +kernel
theorem dL_law_166 : decode cL_law 166 = .ok (.aload_n 0, 1) := by decide +kernel
theorem dL_law_167 : decode cL_law 167 = .ok (.iload 4, 2) := by decide +kernel
theorem dL_law_169 : decode cL_law 169 = .ok (.iconst 2, 1) := by decide +kernel
theorem dL_law_170 : decode cL_law 170 = .ok (.iadd, 1) := by decide +kernel
theorem dL_law_171 : decode cL_law 171 = .ok (.iaload, 1) := by decide +kernel
theorem dL_law_172 : decode cL_law 172 = .ok (.invokevirtual 90, 3) := by decide +kernel
theorem dL_law_175 : decode cL_law 175 = .ok (.istore 6, 2) := by decide +kernel
theorem dL_law_177 : decode cL_law 177 = .ok (.aload_n 2, 1) := by decide +kernel
theorem dL_law_178 : decode cL_law 178 = .ok (.invokevirtual 91, 3) := by decide +kernel
theorem dL_law_181 : decode cL_law 181 = .ok (.iload 5, 2) := by decide +kernel
theorem dL_law_183 : decode cL_law 183 = .ok (.if_icmp .eq 5, 3) := by decide +kernel
theorem dL_law_186 : decode cL_law 186 = .ok (.iconst 0, 1) := by decide +kernel
theorem dL_law_187 : decode cL_law 187 = .ok (.ireturn, 1) := by decide +kernel
theorem dL_law_188 : decode cL_law 188 = .ok (.iload 5, 2) := by decide +kernel
theorem dL_law_190 : decode cL_law 190 = .ok (.ifCond .ne 15, 3) := by decide +kernel
theorem dL_law_193 : decode cL_law 193 = .ok (.aload_n 3, 1) := by decide +kernel
theorem dL_law_194 : decode cL_law 194 = .ok (.iconst 0, 1) := by decide +kernel
theorem dL_law_195 : decode cL_law 195 = .ok (.laload, 1) := by decide +kernel
theorem dL_law_196 : decode cL_law 196 = .ok (.iload 6, 2) := by decide +kernel
theorem dL_law_198 : decode cL_law 198 = .ok (.i2l, 1) := by decide +kernel
theorem dL_law_199 : decode cL_law 199 = .ok (.lcmp, 1) := by decide +kernel
theorem dL_law_200 : decode cL_law 200 = .ok (.ifCond .eq 5, 3) := by decide +kernel
theorem dL_law_203 : decode cL_law 203 = .ok (.iconst 0, 1) := by decide +kernel
theorem dL_law_204 : decode cL_law 204 = .ok (.ireturn, 1) := by decide +kernel
theorem dL_law_205 : decode cL_law 205 = .ok (.goto 1160, 3) := by decide +kernel
theorem dL_law_208 : decode cL_law 208 = .ok (.aload_n 1, 1) := by decide +kernel
theorem dL_law_209 : decode cL_law 209 = .ok (.aload_n 0, 1) := by decide +kernel
theorem dL_law_210 : decode cL_law 210 = .ok (.iload 4, 2) := by decide +kernel
theorem dL_law_212 : decode cL_law 212 = .ok (.iconst 1, 1) := by decide +kernel
theorem dL_law_213 : decode cL_law 213 = .ok (.iadd, 1) := by decide +kernel
theorem dL_law_214 : decode cL_law 214 = .ok (.iaload, 1) := by decide +kernel
theorem dL_law_215 : decode cL_law 215 = .ok (.aload_n 0, 1) := by decide +kernel
theorem dL_law_216 : decode cL_law 216 = .ok (.iload 4, 2) := by decide +kernel
theorem dL_law_218 : decode cL_law 218 = .ok (.iconst 2, 1) := by decide +kernel
theorem dL_law_219 : decode cL_law 219 = .ok (.iadd, 1) := by decide +kernel
theorem dL_law_220 : decode cL_law 220 = .ok (.iaload, 1) := by decide +kernel
theorem dL_law_221 : decode cL_law 221 = .ok (.aload_n 3, 1) := by decide +kernel
theorem dL_law_222 : decode cL_law 222 = .ok (.invokestatic 94, 3) := by decide +kernel
theorem dL_law_225 : decode cL_law 225 = .ok (.istore 5, 2) := by decide +kernel
theorem dL_law_227 : decode cL_law 227 = .ok (.aload_n 2, 1) := by decide +kernel
theorem dL_law_228 : decode cL_law 228 = .ok (.aload_n 0, 1) := by decide +kernel
theorem dL_law_229 : decode cL_law 229 = .ok (.iload 4, 2) := by decide +kernel
theorem dL_law_231 : decode cL_law 231 = .ok (.iconst 1, 1) := by decide +kernel
theorem dL_law_232 : decode cL_law 232 = .ok (.iadd, 1) := by decide +kernel
theorem dL_law_233 : decode cL_law 233 = .ok (.iaload, 1) := by decide +kernel
theorem dL_law_234 : decode cL_law 234 = .ok (.aload_n 0, 1) := by decide +kernel
theorem dL_law_235 : decode cL_law 235 = .ok (.iload 4, 2) := by decide +kernel
theorem dL_law_237 : decode cL_law 237 = .ok (.iconst 2, 1) := by decide +kernel
theorem dL_law_238 : decode cL_law 238 = .ok (.iadd, 1) := by decide +kernel
theorem dL_law_239 : decode cL_law 239 = .ok (.iaload, 1) := by decide +kernel
theorem dL_law_240 : decode cL_law 240 = .ok (.invokevirtual 96, 3) := by decide +kernel
theorem dL_law_243 : decode cL_law 243 = .ok (.istore 6, 2) := by decide +kernel
theorem dL_law_245 : decode cL_law 245 = .ok (.aload_n 2, 1) := by decide +kernel
theorem dL_law_246 : decode cL_law 246 = .ok (.invokevirtual 91, 3) := by decide +kernel
theorem dL_law_249 : decode cL_law 249 = .ok (.iload 5, 2) := by decide +kernel
theorem dL_law_251 : decode cL_law 251 = .ok (.if_icmp .eq 5, 3) := by decide +kernel
theorem dL_law_254 : decode cL_law 254 = .ok (.iconst 0, 1) := by decide +kernel
theorem dL_law_255 : decode cL_law 255 = .ok (.ireturn, 1) := by decide +kernel
theorem dL_law_256 : decode cL_law 256 = .ok (.iload 5, 2) := by decide +kernel
theorem dL_law_258 : decode cL_law 258 = .ok (.ifCond .ne 15, 3) := by decide +kernel
theorem dL_law_261 : decode cL_law 261 = .ok (.aload_n 3, 1) := by decide +kernel
theorem dL_law_262 : decode cL_law 262 = .ok (.iconst 0, 1) := by decide +kernel
theorem dL_law_263 : decode cL_law 263 = .ok (.laload, 1) := by decide +kernel
theorem dL_law_264 : decode cL_law 264 = .ok (.iload 6, 2) := by decide +kernel
theorem dL_law_266 : decode cL_law 266 = .ok (.i2l, 1) := by decide +kernel
theorem dL_law_267 : decode cL_law 267 = .ok (.lcmp, 1) := by decide +kernel
theorem dL_law_268 : decode cL_law 268 = .ok (.ifCond .eq 5, 3) := by decide +kernel
theorem dL_law_271 : decode cL_law 271 = .ok (.iconst 0, 1) := by decide +kernel
theorem dL_law_272 : decode cL_law 272 = .ok (.ireturn, 1) := by decide +kernel
theorem dL_law_273 : decode cL_law 273 = .ok (.goto 1092, 3) := by decide +kernel
theorem dL_law_276 : decode cL_law 276 = .ok (.aload_n 1, 1) := by decide +kernel
theorem dL_law_277 : decode cL_law 277 = .ok (.aload_n 0, 1) := by decide +kernel
theorem dL_law_278 : decode cL_law 278 = .ok (.iload 4, 2) := by decide +kernel
theorem dL_law_280 : decode cL_law 280 = .ok (.iconst 1, 1) := by decide +kernel
theorem dL_law_281 : decode cL_law 281 = .ok (.iadd, 1) := by decide +kernel
theorem dL_law_282 : decode cL_law 282 = .ok (.iaload, 1) := by decide +kernel
theorem dL_law_283 : decode cL_law 283 = .ok (.aload_n 3, 1) := by decide +kernel
theorem dL_law_284 : decode cL_law 284 = .ok (.invokestatic 97, 3) := by decide +kernel
theorem dL_law_287 : decode cL_law 287 = .ok (.istore 5, 2) := by decide +kernel
theorem dL_law_289 : decode cL_law 289 = .ok (.aload_n 2, 1) := by decide +kernel
theorem dL_law_290 : decode cL_law 290 = .ok (.aload_n 0, 1) := by decide +kernel
theorem dL_law_291 : decode cL_law 291 = .ok (.iload 4, 2) := by decide +kernel
theorem dL_law_293 : decode cL_law 293 = .ok (.iconst 1, 1) := by decide +kernel
theorem dL_law_294 : decode cL_law 294 = .ok (.iadd, 1) := by decide +kernel
theorem dL_law_295 : decode cL_law 295 = .ok (.iaload, 1) := by decide +kernel
theorem dL_law_296 : decode cL_law 296 = .ok (.invokevirtual 100, 3) := by decide +kernel
theorem dL_law_299 : decode cL_law 299 = .ok (.istore 6, 2) := by decide +kernel
theorem dL_law_301 : decode cL_law 301 = .ok (.aload_n 2, 1) := by decide +kernel
theorem dL_law_302 : decode cL_law 302 = .ok (.invokevirtual 91, 3) := by decide +kernel
theorem dL_law_305 : decode cL_law 305 = .ok (.iload 5, 2) := by decide +kernel
theorem dL_law_307 : decode cL_law 307 = .ok (.if_icmp .eq 5, 3) := by decide +kernel
theorem dL_law_310 : decode cL_law 310 = .ok (.iconst 0, 1) := by decide +kernel
theorem dL_law_311 : decode cL_law 311 = .ok (.ireturn, 1) := by decide +kernel
theorem dL_law_312 : decode cL_law 312 = .ok (.iload 5, 2) := by decide +kernel
theorem dL_law_314 : decode cL_law 314 = .ok (.ifCond .ne 15, 3) := by decide +kernel
theorem dL_law_317 : decode cL_law 317 = .ok (.aload_n 3, 1) := by decide +kernel
theorem dL_law_318 : decode cL_law 318 = .ok (.iconst 0, 1) := by decide +kernel
theorem dL_law_319 : decode cL_law 319 = .ok (.laload, 1) := by decide +kernel
theorem dL_law_320 : decode cL_law 320 = .ok (.iload 6, 2) := by decide +kernel
theorem dL_law_322 : decode cL_law 322 = .ok (.i2l, 1) := by decide +kernel
theorem dL_law_323 : decode cL_law 323 = .ok (.lcmp, 1) := by decide +kernel
theorem dL_law_324 : decode cL_law 324 = .ok (.ifCond .eq 5, 3) := by decide +kernel
theorem dL_law_327 : decode cL_law 327 = .ok (.iconst 0, 1) := by decide +kernel
theorem dL_law_328 : decode cL_law 328 = .ok (.ireturn, 1) := by decide +kernel
theorem dL_law_329 : decode cL_law 329 = .ok (.goto 1036, 3) := by decide +kernel
theorem dL_law_332 : decode cL_law 332 = .ok (.aload_n 1, 1) := by decide +kernel
theorem dL_law_333 : decode cL_law 333 = .ok (.aload_n 0, 1) := by decide +kernel
theorem dL_law_334 : decode cL_law 334 = .ok (.iload 4, 2) := by decide +kernel
theorem dL_law_336 : decode cL_law 336 = .ok (.iconst 1, 1) := by decide +kernel
theorem dL_law_337 : decode cL_law 337 = .ok (.iadd, 1) := by decide +kernel
theorem dL_law_338 : decode cL_law 338 = .ok (.iaload, 1) := by decide +kernel
theorem dL_law_339 : decode cL_law 339 = .ok (.aload_n 3, 1) := by decide +kernel
theorem dL_law_340 : decode cL_law 340 = .ok (.invokestatic 101, 3) := by decide +kernel
theorem dL_law_343 : decode cL_law 343 = .ok (.istore 5, 2) := by decide +kernel
theorem dL_law_345 : decode cL_law 345 = .ok (.aload_n 2, 1) := by decide +kernel
theorem dL_law_346 : decode cL_law 346 = .ok (.aload_n 0, 1) := by decide +kernel
theorem dL_law_347 : decode cL_law 347 = .ok (.iload 4, 2) := by decide +kernel
theorem dL_law_349 : decode cL_law 349 = .ok (.iconst 1, 1) := by decide +kernel
theorem dL_law_350 : decode cL_law 350 = .ok (.iadd, 1) := by decide +kernel
theorem dL_law_351 : decode cL_law 351 = .ok (.iaload, 1) := by decide +kernel
theorem dL_law_352 : decode cL_law 352 = .ok (.invokevirtual 103, 3) := by decide +kernel
theorem dL_law_355 : decode cL_law 355 = .ok (.istore 6, 2) := by decide +kernel
theorem dL_law_357 : decode cL_law 357 = .ok (.aload_n 2, 1) := by decide +kernel
theorem dL_law_358 : decode cL_law 358 = .ok (.invokevirtual 91, 3) := by decide +kernel
theorem dL_law_361 : decode cL_law 361 = .ok (.iload 5, 2) := by decide +kernel
theorem dL_law_363 : decode cL_law 363 = .ok (.if_icmp .eq 5, 3) := by decide +kernel
theorem dL_law_366 : decode cL_law 366 = .ok (.iconst 0, 1) := by decide +kernel
theorem dL_law_367 : decode cL_law 367 = .ok (.ireturn, 1) := by decide +kernel
theorem dL_law_368 : decode cL_law 368 = .ok (.iload 5, 2) := by decide +kernel
theorem dL_law_370 : decode cL_law 370 = .ok (.ifCond .ne 15, 3) := by decide +kernel
theorem dL_law_373 : decode cL_law 373 = .ok (.aload_n 3, 1) := by decide +kernel
theorem dL_law_374 : decode cL_law 374 = .ok (.iconst 0, 1) := by decide +kernel
theorem dL_law_375 : decode cL_law 375 = .ok (.laload, 1) := by decide +kernel
theorem dL_law_376 : decode cL_law 376 = .ok (.iload 6, 2) := by decide +kernel
theorem dL_law_378 : decode cL_law 378 = .ok (.i2l, 1) := by decide +kernel
theorem dL_law_379 : decode cL_law 379 = .ok (.lcmp, 1) := by decide +kernel
theorem dL_law_380 : decode cL_law 380 = .ok (.ifCond .eq 5, 3) := by decide +kernel
theorem dL_law_383 : decode cL_law 383 = .ok (.iconst 0, 1) := by decide +kernel
theorem dL_law_384 : decode cL_law 384 = .ok (.ireturn, 1) := by decide +kernel
theorem dL_law_385 : decode cL_law 385 = .ok (.goto 980, 3) := by decide +kernel
theorem dL_law_388 : decode cL_law 388 = .ok (.aload_n 1, 1) := by decide +kernel
theorem dL_law_389 : decode cL_law 389 = .ok (.aload_n 0, 1) := by decide +kernel
theorem dL_law_390 : decode cL_law 390 = .ok (.iload 4, 2) := by decide +kernel
theorem dL_law_392 : decode cL_law 392 = .ok (.iconst 1, 1) := by decide +kernel
theorem dL_law_393 : decode cL_law 393 = .ok (.iadd, 1) := by decide +kernel
theorem dL_law_394 : decode cL_law 394 = .ok (.iaload, 1) := by decide +kernel
theorem dL_law_395 : decode cL_law 395 = .ok (.aload_n 3, 1) := by decide +kernel
theorem dL_law_396 : decode cL_law 396 = .ok (.invokestatic 104, 3) := by decide +kernel
theorem dL_law_399 : decode cL_law 399 = .ok (.istore 5, 2) := by decide +kernel
theorem dL_law_401 : decode cL_law 401 = .ok (.aload_n 2, 1) := by decide +kernel
theorem dL_law_402 : decode cL_law 402 = .ok (.aload_n 0, 1) := by decide +kernel
theorem dL_law_403 : decode cL_law 403 = .ok (.iload 4, 2) := by decide +kernel
theorem dL_law_405 : decode cL_law 405 = .ok (.iconst 1, 1) := by decide +kernel
theorem dL_law_406 : decode cL_law 406 = .ok (.iadd, 1) := by decide +kernel
theorem dL_law_407 : decode cL_law 407 = .ok (.iaload, 1) := by decide +kernel
theorem dL_law_408 : decode cL_law 408 = .ok (.invokevirtual 106, 3) := by decide +kernel
theorem dL_law_411 : decode cL_law 411 = .ok (.istore 6, 2) := by decide +kernel
theorem dL_law_413 : decode cL_law 413 = .ok (.aload_n 2, 1) := by decide +kernel
theorem dL_law_414 : decode cL_law 414 = .ok (.invokevirtual 91, 3) := by decide +kernel
theorem dL_law_417 : decode cL_law 417 = .ok (.iload 5, 2) := by decide +kernel
theorem dL_law_419 : decode cL_law 419 = .ok (.if_icmp .eq 5, 3) := by decide +kernel
theorem dL_law_422 : decode cL_law 422 = .ok (.iconst 0, 1) := by decide +kernel
theorem dL_law_423 : decode cL_law 423 = .ok (.ireturn, 1) := by decide +kernel
theorem dL_law_424 : decode cL_law 424 = .ok (.iload 5, 2) := by decide +kernel
theorem dL_law_426 : decode cL_law 426 = .ok (.ifCond .ne 15, 3) := by decide +kernel
theorem dL_law_429 : decode cL_law 429 = .ok (.aload_n 3, 1) := by decide +kernel
theorem dL_law_430 : decode cL_law 430 = .ok (.iconst 0, 1) := by decide +kernel
theorem dL_law_431 : decode cL_law 431 = .ok (.laload, 1) := by decide +kernel
theorem dL_law_432 : decode cL_law 432 = .ok (.iload 6, 2) := by decide +kernel
theorem dL_law_434 : decode cL_law 434 = .ok (.i2l, 1) := by decide +kernel
theorem dL_law_435 : decode cL_law 435 = .ok (.lcmp, 1) := by decide +kernel
theorem dL_law_436 : decode cL_law 436 = .ok (.ifCond .eq 5, 3) := by decide +kernel
theorem dL_law_439 : decode cL_law 439 = .ok (.iconst 0, 1) := by decide +kernel
theorem dL_law_440 : decode cL_law 440 = .ok (.ireturn, 1) := by decide +kernel
theorem dL_law_441 : decode cL_law 441 = .ok (.goto 924, 3) := by decide +kernel
theorem dL_law_444 : decode cL_law 444 = .ok (.aload_n 1, 1) := by decide +kernel
theorem dL_law_445 : decode cL_law 445 = .ok (.aload_n 0, 1) := by decide +kernel
theorem dL_law_446 : decode cL_law 446 = .ok (.iload 4, 2) := by decide +kernel
theorem dL_law_448 : decode cL_law 448 = .ok (.iconst 1, 1) := by decide +kernel
theorem dL_law_449 : decode cL_law 449 = .ok (.iadd, 1) := by decide +kernel
theorem dL_law_450 : decode cL_law 450 = .ok (.iaload, 1) := by decide +kernel
theorem dL_law_451 : decode cL_law 451 = .ok (.aload_n 3, 1) := by decide +kernel
theorem dL_law_452 : decode cL_law 452 = .ok (.invokestatic 107, 3) := by decide +kernel
theorem dL_law_455 : decode cL_law 455 = .ok (.istore 5, 2) := by decide +kernel
theorem dL_law_457 : decode cL_law 457 = .ok (.aload_n 2, 1) := by decide +kernel
theorem dL_law_458 : decode cL_law 458 = .ok (.aload_n 0, 1) := by decide +kernel
theorem dL_law_459 : decode cL_law 459 = .ok (.iload 4, 2) := by decide +kernel
theorem dL_law_461 : decode cL_law 461 = .ok (.iconst 1, 1) := by decide +kernel
theorem dL_law_462 : decode cL_law 462 = .ok (.iadd, 1) := by decide +kernel
theorem dL_law_463 : decode cL_law 463 = .ok (.iaload, 1) := by decide +kernel
theorem dL_law_464 : decode cL_law 464 = .ok (.invokevirtual 109, 3) := by decide +kernel
theorem dL_law_467 : decode cL_law 467 = .ok (.istore 6, 2) := by decide +kernel
theorem dL_law_469 : decode cL_law 469 = .ok (.aload_n 2, 1) := by decide +kernel
theorem dL_law_470 : decode cL_law 470 = .ok (.invokevirtual 91, 3) := by decide +kernel
theorem dL_law_473 : decode cL_law 473 = .ok (.iload 5, 2) := by decide +kernel
theorem dL_law_475 : decode cL_law 475 = .ok (.if_icmp .eq 5, 3) := by decide +kernel
theorem dL_law_478 : decode cL_law 478 = .ok (.iconst 0, 1) := by decide +kernel
theorem dL_law_479 : decode cL_law 479 = .ok (.ireturn, 1) := by decide +kernel
theorem dL_law_480 : decode cL_law 480 = .ok (.iload 5, 2) := by decide +kernel
theorem dL_law_482 : decode cL_law 482 = .ok (.ifCond .ne 15, 3) := by decide +kernel
theorem dL_law_485 : decode cL_law 485 = .ok (.aload_n 3, 1) := by decide +kernel
theorem dL_law_486 : decode cL_law 486 = .ok (.iconst 0, 1) := by decide +kernel
theorem dL_law_487 : decode cL_law 487 = .ok (.laload, 1) := by decide +kernel
theorem dL_law_488 : decode cL_law 488 = .ok (.iload 6, 2) := by decide +kernel
theorem dL_law_490 : decode cL_law 490 = .ok (.i2l, 1) := by decide +kernel
theorem dL_law_491 : decode cL_law 491 = .ok (.lcmp, 1) := by decide +kernel
theorem dL_law_492 : decode cL_law 492 = .ok (.ifCond .eq 5, 3) := by decide +kernel
theorem dL_law_495 : decode cL_law 495 = .ok (.iconst 0, 1) := by decide +kernel
theorem dL_law_496 : decode cL_law 496 = .ok (.ireturn, 1) := by decide +kernel
theorem dL_law_497 : decode cL_law 497 = .ok (.goto 868, 3) := by decide +kernel
theorem dL_law_500 : decode cL_law 500 = .ok (.aload_n 1, 1) := by decide +kernel
theorem dL_law_501 : decode cL_law 501 = .ok (.aload_n 0, 1) := by decide +kernel
theorem dL_law_502 : decode cL_law 502 = .ok (.iload 4, 2) := by decide +kernel
theorem dL_law_504 : decode cL_law 504 = .ok (.iconst 1, 1) := by decide +kernel
theorem dL_law_505 : decode cL_law 505 = .ok (.iadd, 1) := by decide +kernel
theorem dL_law_506 : decode cL_law 506 = .ok (.iaload, 1) := by decide +kernel
theorem dL_law_507 : decode cL_law 507 = .ok (.aload_n 3, 1) := by decide +kernel
theorem dL_law_508 : decode cL_law 508 = .ok (.invokestatic 110, 3) := by decide +kernel
theorem dL_law_511 : decode cL_law 511 = .ok (.istore 5, 2) := by decide +kernel
theorem dL_law_513 : decode cL_law 513 = .ok (.aload_n 2, 1) := by decide +kernel
theorem dL_law_514 : decode cL_law 514 = .ok (.aload_n 0, 1) := by decide +kernel
theorem dL_law_515 : decode cL_law 515 = .ok (.iload 4, 2) := by decide +kernel
theorem dL_law_517 : decode cL_law 517 = .ok (.iconst 1, 1) := by decide +kernel
theorem dL_law_518 : decode cL_law 518 = .ok (.iadd, 1) := by decide +kernel
theorem dL_law_519 : decode cL_law 519 = .ok (.iaload, 1) := by decide +kernel
theorem dL_law_520 : decode cL_law 520 = .ok (.invokevirtual 112, 3) := by decide +kernel
theorem dL_law_523 : decode cL_law 523 = .ok (.istore 6, 2) := by decide +kernel
theorem dL_law_525 : decode cL_law 525 = .ok (.aload_n 2, 1) := by decide +kernel
theorem dL_law_526 : decode cL_law 526 = .ok (.invokevirtual 91, 3) := by decide +kernel
theorem dL_law_529 : decode cL_law 529 = .ok (.iload 5, 2) := by decide +kernel
theorem dL_law_531 : decode cL_law 531 = .ok (.if_icmp .eq 5, 3) := by decide +kernel
theorem dL_law_534 : decode cL_law 534 = .ok (.iconst 0, 1) := by decide +kernel
theorem dL_law_535 : decode cL_law 535 = .ok (.ireturn, 1) := by decide +kernel
theorem dL_law_536 : decode cL_law 536 = .ok (.iload 5, 2) := by decide +kernel
theorem dL_law_538 : decode cL_law 538 = .ok (.ifCond .ne 15, 3) := by decide +kernel
theorem dL_law_541 : decode cL_law 541 = .ok (.aload_n 3, 1) := by decide +kernel
theorem dL_law_542 : decode cL_law 542 = .ok (.iconst 0, 1) := by decide +kernel
theorem dL_law_543 : decode cL_law 543 = .ok (.laload, 1) := by decide +kernel
theorem dL_law_544 : decode cL_law 544 = .ok (.iload 6, 2) := by decide +kernel
theorem dL_law_546 : decode cL_law 546 = .ok (.i2l, 1) := by decide +kernel
theorem dL_law_547 : decode cL_law 547 = .ok (.lcmp, 1) := by decide +kernel
theorem dL_law_548 : decode cL_law 548 = .ok (.ifCond .eq 5, 3) := by decide +kernel
theorem dL_law_551 : decode cL_law 551 = .ok (.iconst 0, 1) := by decide +kernel
theorem dL_law_552 : decode cL_law 552 = .ok (.ireturn, 1) := by decide +kernel
theorem dL_law_553 : decode cL_law 553 = .ok (.goto 812, 3) := by decide +kernel
theorem dL_law_556 : decode cL_law 556 = .ok (.aload_n 1, 1) := by decide +kernel
theorem dL_law_557 : decode cL_law 557 = .ok (.aload_n 0, 1) := by decide +kernel
theorem dL_law_558 : decode cL_law 558 = .ok (.iload 4, 2) := by decide +kernel
theorem dL_law_560 : decode cL_law 560 = .ok (.iconst 1, 1) := by decide +kernel
theorem dL_law_561 : decode cL_law 561 = .ok (.iadd, 1) := by decide +kernel
theorem dL_law_562 : decode cL_law 562 = .ok (.iaload, 1) := by decide +kernel
theorem dL_law_563 : decode cL_law 563 = .ok (.aload_n 0, 1) := by decide +kernel
theorem dL_law_564 : decode cL_law 564 = .ok (.iload 4, 2) := by decide +kernel
theorem dL_law_566 : decode cL_law 566 = .ok (.iconst 2, 1) := by decide +kernel
theorem dL_law_567 : decode cL_law 567 = .ok (.iadd, 1) := by decide +kernel
theorem dL_law_568 : decode cL_law 568 = .ok (.iaload, 1) := by decide +kernel
theorem dL_law_569 : decode cL_law 569 = .ok (.aload_n 3, 1) := by decide +kernel
theorem dL_law_570 : decode cL_law 570 = .ok (.invokestatic 113, 3) := by decide +kernel
theorem dL_law_573 : decode cL_law 573 = .ok (.istore 5, 2) := by decide +kernel
theorem dL_law_575 : decode cL_law 575 = .ok (.aload_n 2, 1) := by decide +kernel
theorem dL_law_576 : decode cL_law 576 = .ok (.aload_n 0, 1) := by decide +kernel
theorem dL_law_577 : decode cL_law 577 = .ok (.iload 4, 2) := by decide +kernel
theorem dL_law_579 : decode cL_law 579 = .ok (.iconst 1, 1) := by decide +kernel
theorem dL_law_580 : decode cL_law 580 = .ok (.iadd, 1) := by decide +kernel
theorem dL_law_581 : decode cL_law 581 = .ok (.iaload, 1) := by decide +kernel
theorem dL_law_582 : decode cL_law 582 = .ok (.aload_n 0, 1) := by decide +kernel
theorem dL_law_583 : decode cL_law 583 = .ok (.iload 4, 2) := by decide +kernel
theorem dL_law_585 : decode cL_law 585 = .ok (.iconst 2, 1) := by decide +kernel
theorem dL_law_586 : decode cL_law 586 = .ok (.iadd, 1) := by decide +kernel
theorem dL_law_587 : decode cL_law 587 = .ok (.iaload, 1) := by decide +kernel
theorem dL_law_588 : decode cL_law 588 = .ok (.invokevirtual 115, 3) := by decide +kernel
theorem dL_law_591 : decode cL_law 591 = .ok (.istore 6, 2) := by decide +kernel
theorem dL_law_593 : decode cL_law 593 = .ok (.aload_n 2, 1) := by decide +kernel
theorem dL_law_594 : decode cL_law 594 = .ok (.invokevirtual 91, 3) := by decide +kernel
theorem dL_law_597 : decode cL_law 597 = .ok (.iload 5, 2) := by decide +kernel
theorem dL_law_599 : decode cL_law 599 = .ok (.if_icmp .eq 5, 3) := by decide +kernel
theorem dL_law_602 : decode cL_law 602 = .ok (.iconst 0, 1) := by decide +kernel
theorem dL_law_603 : decode cL_law 603 = .ok (.ireturn, 1) := by decide +kernel
theorem dL_law_604 : decode cL_law 604 = .ok (.iload 5, 2) := by decide +kernel
theorem dL_law_606 : decode cL_law 606 = .ok (.ifCond .ne 15, 3) := by decide +kernel
theorem dL_law_609 : decode cL_law 609 = .ok (.aload_n 3, 1) := by decide +kernel
theorem dL_law_610 : decode cL_law 610 = .ok (.iconst 0, 1) := by decide +kernel
theorem dL_law_611 : decode cL_law 611 = .ok (.laload, 1) := by decide +kernel
theorem dL_law_612 : decode cL_law 612 = .ok (.iload 6, 2) := by decide +kernel
theorem dL_law_614 : decode cL_law 614 = .ok (.i2l, 1) := by decide +kernel
theorem dL_law_615 : decode cL_law 615 = .ok (.lcmp, 1) := by decide +kernel
theorem dL_law_616 : decode cL_law 616 = .ok (.ifCond .eq 5, 3) := by decide +kernel
theorem dL_law_619 : decode cL_law 619 = .ok (.iconst 0, 1) := by decide +kernel
theorem dL_law_620 : decode cL_law 620 = .ok (.ireturn, 1) := by decide +kernel
theorem dL_law_621 : decode cL_law 621 = .ok (.goto 744, 3) := by decide +kernel
theorem dL_law_624 : decode cL_law 624 = .ok (.aload_n 1, 1) := by decide +kernel
theorem dL_law_625 : decode cL_law 625 = .ok (.aload_n 0, 1) := by decide +kernel
theorem dL_law_626 : decode cL_law 626 = .ok (.iload 4, 2) := by decide +kernel
theorem dL_law_628 : decode cL_law 628 = .ok (.iconst 1, 1) := by decide +kernel
theorem dL_law_629 : decode cL_law 629 = .ok (.iadd, 1) := by decide +kernel
theorem dL_law_630 : decode cL_law 630 = .ok (.iaload, 1) := by decide +kernel
theorem dL_law_631 : decode cL_law 631 = .ok (.aload_n 3, 1) := by decide +kernel
theorem dL_law_632 : decode cL_law 632 = .ok (.invokestatic 116, 3) := by decide +kernel
theorem dL_law_635 : decode cL_law 635 = .ok (.istore 5, 2) := by decide +kernel
theorem dL_law_637 : decode cL_law 637 = .ok (.aload_n 2, 1) := by decide +kernel
theorem dL_law_638 : decode cL_law 638 = .ok (.aload_n 0, 1) := by decide +kernel
theorem dL_law_639 : decode cL_law 639 = .ok (.iload 4, 2) := by decide +kernel
theorem dL_law_641 : decode cL_law 641 = .ok (.iconst 1, 1) := by decide +kernel
theorem dL_law_642 : decode cL_law 642 = .ok (.iadd, 1) := by decide +kernel
theorem dL_law_643 : decode cL_law 643 = .ok (.iaload, 1) := by decide +kernel
theorem dL_law_644 : decode cL_law 644 = .ok (.invokevirtual 118, 3) := by decide +kernel
theorem dL_law_647 : decode cL_law 647 = .ok (.istore 6, 2) := by decide +kernel
theorem dL_law_649 : decode cL_law 649 = .ok (.aload_n 2, 1) := by decide +kernel
theorem dL_law_650 : decode cL_law 650 = .ok (.invokevirtual 91, 3) := by decide +kernel
theorem dL_law_653 : decode cL_law 653 = .ok (.iload 5, 2) := by decide +kernel
theorem dL_law_655 : decode cL_law 655 = .ok (.if_icmp .eq 5, 3) := by decide +kernel
theorem dL_law_658 : decode cL_law 658 = .ok (.iconst 0, 1) := by decide +kernel
theorem dL_law_659 : decode cL_law 659 = .ok (.ireturn, 1) := by decide +kernel
theorem dL_law_660 : decode cL_law 660 = .ok (.iload 5, 2) := by decide +kernel
theorem dL_law_662 : decode cL_law 662 = .ok (.ifCond .ne 15, 3) := by decide +kernel
theorem dL_law_665 : decode cL_law 665 = .ok (.aload_n 3, 1) := by decide +kernel
theorem dL_law_666 : decode cL_law 666 = .ok (.iconst 0, 1) := by decide +kernel
theorem dL_law_667 : decode cL_law 667 = .ok (.laload, 1) := by decide +kernel
theorem dL_law_668 : decode cL_law 668 = .ok (.iload 6, 2) := by decide +kernel
theorem dL_law_670 : decode cL_law 670 = .ok (.i2l, 1) := by decide +kernel
theorem dL_law_671 : decode cL_law 671 = .ok (.lcmp, 1) := by decide +kernel
theorem dL_law_672 : decode cL_law 672 = .ok (.ifCond .eq 5, 3) := by decide +kernel
theorem dL_law_675 : decode cL_law 675 = .ok (.iconst 0, 1) := by decide +kernel
theorem dL_law_676 : decode cL_law 676 = .ok (.ireturn, 1) := by decide +kernel
theorem dL_law_677 : decode cL_law 677 = .ok (.goto 688, 3) := by decide +kernel
theorem dL_law_680 : decode cL_law 680 = .ok (.aload_n 1, 1) := by decide +kernel
theorem dL_law_681 : decode cL_law 681 = .ok (.aload_n 0, 1) := by decide +kernel
theorem dL_law_682 : decode cL_law 682 = .ok (.iload 4, 2) := by decide +kernel
theorem dL_law_684 : decode cL_law 684 = .ok (.iconst 1, 1) := by decide +kernel
theorem dL_law_685 : decode cL_law 685 = .ok (.iadd, 1) := by decide +kernel
theorem dL_law_686 : decode cL_law 686 = .ok (.iaload, 1) := by decide +kernel
theorem dL_law_687 : decode cL_law 687 = .ok (.aload_n 3, 1) := by decide +kernel
theorem dL_law_688 : decode cL_law 688 = .ok (.invokestatic 119, 3) := by decide +kernel
theorem dL_law_691 : decode cL_law 691 = .ok (.istore 5, 2) := by decide +kernel
theorem dL_law_693 : decode cL_law 693 = .ok (.aload_n 2, 1) := by decide +kernel
theorem dL_law_694 : decode cL_law 694 = .ok (.aload_n 0, 1) := by decide +kernel
theorem dL_law_695 : decode cL_law 695 = .ok (.iload 4, 2) := by decide +kernel
theorem dL_law_697 : decode cL_law 697 = .ok (.iconst 1, 1) := by decide +kernel
theorem dL_law_698 : decode cL_law 698 = .ok (.iadd, 1) := by decide +kernel
theorem dL_law_699 : decode cL_law 699 = .ok (.iaload, 1) := by decide +kernel
theorem dL_law_700 : decode cL_law 700 = .ok (.invokevirtual 121, 3) := by decide +kernel
theorem dL_law_703 : decode cL_law 703 = .ok (.istore 6, 2) := by decide +kernel
theorem dL_law_705 : decode cL_law 705 = .ok (.aload_n 2, 1) := by decide +kernel
theorem dL_law_706 : decode cL_law 706 = .ok (.invokevirtual 91, 3) := by decide +kernel
theorem dL_law_709 : decode cL_law 709 = .ok (.iload 5, 2) := by decide +kernel
theorem dL_law_711 : decode cL_law 711 = .ok (.if_icmp .eq 5, 3) := by decide +kernel
theorem dL_law_714 : decode cL_law 714 = .ok (.iconst 0, 1) := by decide +kernel
theorem dL_law_715 : decode cL_law 715 = .ok (.ireturn, 1) := by decide +kernel
theorem dL_law_716 : decode cL_law 716 = .ok (.iload 5, 2) := by decide +kernel
theorem dL_law_718 : decode cL_law 718 = .ok (.ifCond .ne 15, 3) := by decide +kernel
theorem dL_law_721 : decode cL_law 721 = .ok (.aload_n 3, 1) := by decide +kernel
theorem dL_law_722 : decode cL_law 722 = .ok (.iconst 0, 1) := by decide +kernel
theorem dL_law_723 : decode cL_law 723 = .ok (.laload, 1) := by decide +kernel
theorem dL_law_724 : decode cL_law 724 = .ok (.iload 6, 2) := by decide +kernel
theorem dL_law_726 : decode cL_law 726 = .ok (.i2l, 1) := by decide +kernel
theorem dL_law_727 : decode cL_law 727 = .ok (.lcmp, 1) := by decide +kernel
theorem dL_law_728 : decode cL_law 728 = .ok (.ifCond .eq 5, 3) := by decide +kernel
theorem dL_law_731 : decode cL_law 731 = .ok (.iconst 0, 1) := by decide +kernel
theorem dL_law_732 : decode cL_law 732 = .ok (.ireturn, 1) := by decide +kernel
theorem dL_law_733 : decode cL_law 733 = .ok (.goto 632, 3) := by decide +kernel
theorem dL_law_736 : decode cL_law 736 = .ok (.aload_n 1, 1) := by decide +kernel
theorem dL_law_737 : decode cL_law 737 = .ok (.invokevirtual 122, 3) := by decide +kernel
theorem dL_law_740 : decode cL_law 740 = .ok (.aload_n 2, 1) := by decide +kernel
theorem dL_law_741 : decode cL_law 741 = .ok (.invokevirtual 125, 3) := by decide +kernel
theorem dL_law_744 : decode cL_law 744 = .ok (.if_icmp .eq 621, 3) := by decide +kernel
theorem dL_law_747 : decode cL_law 747 = .ok (.iconst 0, 1) := by decide +kernel
theorem dL_law_748 : decode cL_law 748 = .ok (.ireturn, 1) := by decide +kernel
theorem dL_law_749 : decode cL_law 749 = .ok (.aload_n 1, 1) := by decide +kernel
theorem dL_law_750 : decode cL_law 750 = .ok (.aload_n 0, 1) := by decide +kernel
theorem dL_law_751 : decode cL_law 751 = .ok (.iload 4, 2) := by decide +kernel
theorem dL_law_753 : decode cL_law 753 = .ok (.iconst 1, 1) := by decide +kernel
theorem dL_law_754 : decode cL_law 754 = .ok (.iadd, 1) := by decide +kernel
theorem dL_law_755 : decode cL_law 755 = .ok (.iaload, 1) := by decide +kernel
theorem dL_law_756 : decode cL_law 756 = .ok (.aload_n 3, 1) := by decide +kernel
theorem dL_law_757 : decode cL_law 757 = .ok (.invokestatic 126, 3) := by decide +kernel
theorem dL_law_760 : decode cL_law 760 = .ok (.istore 5, 2) := by decide +kernel
theorem dL_law_762 : decode cL_law 762 = .ok (.aload_n 2, 1) := by decide +kernel
theorem dL_law_763 : decode cL_law 763 = .ok (.aload_n 0, 1) := by decide +kernel
theorem dL_law_764 : decode cL_law 764 = .ok (.iload 4, 2) := by decide +kernel
theorem dL_law_766 : decode cL_law 766 = .ok (.iconst 1, 1) := by decide +kernel
theorem dL_law_767 : decode cL_law 767 = .ok (.iadd, 1) := by decide +kernel
theorem dL_law_768 : decode cL_law 768 = .ok (.iaload, 1) := by decide +kernel
theorem dL_law_769 : decode cL_law 769 = .ok (.invokevirtual 128, 3) := by decide +kernel
theorem dL_law_772 : decode cL_law 772 = .ok (.istore 6, 2) := by decide +kernel
theorem dL_law_774 : decode cL_law 774 = .ok (.aload_n 2, 1) := by decide +kernel
theorem dL_law_775 : decode cL_law 775 = .ok (.invokevirtual 91, 3) := by decide +kernel
theorem dL_law_778 : decode cL_law 778 = .ok (.iload 5, 2) := by decide +kernel
theorem dL_law_780 : decode cL_law 780 = .ok (.if_icmp .eq 5, 3) := by decide +kernel
theorem dL_law_783 : decode cL_law 783 = .ok (.iconst 0, 1) := by decide +kernel
theorem dL_law_784 : decode cL_law 784 = .ok (.ireturn, 1) := by decide +kernel
theorem dL_law_785 : decode cL_law 785 = .ok (.iload 5, 2) := by decide +kernel
theorem dL_law_787 : decode cL_law 787 = .ok (.ifCond .ne 15, 3) := by decide +kernel
theorem dL_law_790 : decode cL_law 790 = .ok (.aload_n 3, 1) := by decide +kernel
theorem dL_law_791 : decode cL_law 791 = .ok (.iconst 0, 1) := by decide +kernel
theorem dL_law_792 : decode cL_law 792 = .ok (.laload, 1) := by decide +kernel
theorem dL_law_793 : decode cL_law 793 = .ok (.iload 6, 2) := by decide +kernel
theorem dL_law_795 : decode cL_law 795 = .ok (.i2l, 1) := by decide +kernel
theorem dL_law_796 : decode cL_law 796 = .ok (.lcmp, 1) := by decide +kernel
theorem dL_law_797 : decode cL_law 797 = .ok (.ifCond .eq 5, 3) := by decide +kernel
theorem dL_law_800 : decode cL_law 800 = .ok (.iconst 0, 1) := by decide +kernel
theorem dL_law_801 : decode cL_law 801 = .ok (.ireturn, 1) := by decide +kernel
theorem dL_law_802 : decode cL_law 802 = .ok (.goto 563, 3) := by decide +kernel
theorem dL_law_805 : decode cL_law 805 = .ok (.aload_n 1, 1) := by decide +kernel
theorem dL_law_806 : decode cL_law 806 = .ok (.aload_n 0, 1) := by decide +kernel
theorem dL_law_807 : decode cL_law 807 = .ok (.iload 4, 2) := by decide +kernel
theorem dL_law_809 : decode cL_law 809 = .ok (.iconst 1, 1) := by decide +kernel
theorem dL_law_810 : decode cL_law 810 = .ok (.iadd, 1) := by decide +kernel
theorem dL_law_811 : decode cL_law 811 = .ok (.iaload, 1) := by decide +kernel
theorem dL_law_812 : decode cL_law 812 = .ok (.aload_n 3, 1) := by decide +kernel
theorem dL_law_813 : decode cL_law 813 = .ok (.invokestatic 129, 3) := by decide +kernel
theorem dL_law_816 : decode cL_law 816 = .ok (.istore 5, 2) := by decide +kernel
theorem dL_law_818 : decode cL_law 818 = .ok (.aload_n 2, 1) := by decide +kernel
theorem dL_law_819 : decode cL_law 819 = .ok (.aload_n 0, 1) := by decide +kernel
theorem dL_law_820 : decode cL_law 820 = .ok (.iload 4, 2) := by decide +kernel
theorem dL_law_822 : decode cL_law 822 = .ok (.iconst 1, 1) := by decide +kernel
theorem dL_law_823 : decode cL_law 823 = .ok (.iadd, 1) := by decide +kernel
theorem dL_law_824 : decode cL_law 824 = .ok (.iaload, 1) := by decide +kernel
theorem dL_law_825 : decode cL_law 825 = .ok (.invokevirtual 131, 3) := by decide +kernel
theorem dL_law_828 : decode cL_law 828 = .ok (.istore 6, 2) := by decide +kernel
theorem dL_law_830 : decode cL_law 830 = .ok (.aload_n 2, 1) := by decide +kernel
theorem dL_law_831 : decode cL_law 831 = .ok (.invokevirtual 91, 3) := by decide +kernel
theorem dL_law_834 : decode cL_law 834 = .ok (.iload 5, 2) := by decide +kernel
theorem dL_law_836 : decode cL_law 836 = .ok (.if_icmp .eq 5, 3) := by decide +kernel
theorem dL_law_839 : decode cL_law 839 = .ok (.iconst 0, 1) := by decide +kernel
theorem dL_law_840 : decode cL_law 840 = .ok (.ireturn, 1) := by decide +kernel
theorem dL_law_841 : decode cL_law 841 = .ok (.iload 5, 2) := by decide +kernel
theorem dL_law_843 : decode cL_law 843 = .ok (.ifCond .ne 15, 3) := by decide +kernel
theorem dL_law_846 : decode cL_law 846 = .ok (.aload_n 3, 1) := by decide +kernel
theorem dL_law_847 : decode cL_law 847 = .ok (.iconst 0, 1) := by decide +kernel
theorem dL_law_848 : decode cL_law 848 = .ok (.laload, 1) := by decide +kernel
theorem dL_law_849 : decode cL_law 849 = .ok (.iload 6, 2) := by decide +kernel
theorem dL_law_851 : decode cL_law 851 = .ok (.i2l, 1) := by decide +kernel
theorem dL_law_852 : decode cL_law 852 = .ok (.lcmp, 1) := by decide +kernel
theorem dL_law_853 : decode cL_law 853 = .ok (.ifCond .eq 5, 3) := by decide +kernel
theorem dL_law_856 : decode cL_law 856 = .ok (.iconst 0, 1) := by decide +kernel
theorem dL_law_857 : decode cL_law 857 = .ok (.ireturn, 1) := by decide +kernel
theorem dL_law_858 : decode cL_law 858 = .ok (.goto 507, 3) := by decide +kernel
theorem dL_law_861 : decode cL_law 861 = .ok (.aload_n 1, 1) := by decide +kernel
theorem dL_law_862 : decode cL_law 862 = .ok (.aload_n 0, 1) := by decide +kernel
theorem dL_law_863 : decode cL_law 863 = .ok (.iload 4, 2) := by decide +kernel
theorem dL_law_865 : decode cL_law 865 = .ok (.iconst 1, 1) := by decide +kernel
theorem dL_law_866 : decode cL_law 866 = .ok (.iadd, 1) := by decide +kernel
theorem dL_law_867 : decode cL_law 867 = .ok (.iaload, 1) := by decide +kernel
theorem dL_law_868 : decode cL_law 868 = .ok (.aload_n 3, 1) := by decide +kernel
theorem dL_law_869 : decode cL_law 869 = .ok (.invokestatic 132, 3) := by decide +kernel
theorem dL_law_872 : decode cL_law 872 = .ok (.istore 5, 2) := by decide +kernel
theorem dL_law_874 : decode cL_law 874 = .ok (.aload_n 2, 1) := by decide +kernel
theorem dL_law_875 : decode cL_law 875 = .ok (.aload_n 0, 1) := by decide +kernel
theorem dL_law_876 : decode cL_law 876 = .ok (.iload 4, 2) := by decide +kernel
theorem dL_law_878 : decode cL_law 878 = .ok (.iconst 1, 1) := by decide +kernel
theorem dL_law_879 : decode cL_law 879 = .ok (.iadd, 1) := by decide +kernel
theorem dL_law_880 : decode cL_law 880 = .ok (.iaload, 1) := by decide +kernel
theorem dL_law_881 : decode cL_law 881 = .ok (.invokevirtual 134, 3) := by decide +kernel
theorem dL_law_884 : decode cL_law 884 = .ok (.istore 6, 2) := by decide +kernel
theorem dL_law_886 : decode cL_law 886 = .ok (.aload_n 2, 1) := by decide +kernel
theorem dL_law_887 : decode cL_law 887 = .ok (.invokevirtual 91, 3) := by decide +kernel
theorem dL_law_890 : decode cL_law 890 = .ok (.iload 5, 2) := by decide +kernel
theorem dL_law_892 : decode cL_law 892 = .ok (.if_icmp .eq 5, 3) := by decide +kernel
theorem dL_law_895 : decode cL_law 895 = .ok (.iconst 0, 1) := by decide +kernel
theorem dL_law_896 : decode cL_law 896 = .ok (.ireturn, 1) := by decide +kernel
theorem dL_law_897 : decode cL_law 897 = .ok (.iload 5, 2) := by decide +kernel
theorem dL_law_899 : decode cL_law 899 = .ok (.ifCond .ne 15, 3) := by decide +kernel
theorem dL_law_902 : decode cL_law 902 = .ok (.aload_n 3, 1) := by decide +kernel
theorem dL_law_903 : decode cL_law 903 = .ok (.iconst 0, 1) := by decide +kernel
theorem dL_law_904 : decode cL_law 904 = .ok (.laload, 1) := by decide +kernel
theorem dL_law_905 : decode cL_law 905 = .ok (.iload 6, 2) := by decide +kernel
theorem dL_law_907 : decode cL_law 907 = .ok (.i2l, 1) := by decide +kernel
theorem dL_law_908 : decode cL_law 908 = .ok (.lcmp, 1) := by decide +kernel
theorem dL_law_909 : decode cL_law 909 = .ok (.ifCond .eq 5, 3) := by decide +kernel
theorem dL_law_912 : decode cL_law 912 = .ok (.iconst 0, 1) := by decide +kernel
theorem dL_law_913 : decode cL_law 913 = .ok (.ireturn, 1) := by decide +kernel
theorem dL_law_914 : decode cL_law 914 = .ok (.goto 451, 3) := by decide +kernel
theorem dL_law_917 : decode cL_law 917 = .ok (.aload_n 1, 1) := by decide +kernel
theorem dL_law_918 : decode cL_law 918 = .ok (.aload_n 3, 1) := by decide +kernel
theorem dL_law_919 : decode cL_law 919 = .ok (.invokestatic 135, 3) := by decide +kernel
theorem dL_law_922 : decode cL_law 922 = .ok (.istore 5, 2) := by decide +kernel
theorem dL_law_924 : decode cL_law 924 = .ok (.aload_n 2, 1) := by decide +kernel
theorem dL_law_925 : decode cL_law 925 = .ok (.invokevirtual 138, 3) := by decide +kernel
theorem dL_law_928 : decode cL_law 928 = .ok (.istore 6, 2) := by decide +kernel
theorem dL_law_930 : decode cL_law 930 = .ok (.aload_n 2, 1) := by decide +kernel
theorem dL_law_931 : decode cL_law 931 = .ok (.invokevirtual 91, 3) := by decide +kernel
theorem dL_law_934 : decode cL_law 934 = .ok (.iload 5, 2) := by decide +kernel
theorem dL_law_936 : decode cL_law 936 = .ok (.if_icmp .eq 5, 3) := by decide +kernel
theorem dL_law_939 : decode cL_law 939 = .ok (.iconst 0, 1) := by decide +kernel
theorem dL_law_940 : decode cL_law 940 = .ok (.ireturn, 1) := by decide +kernel
theorem dL_law_941 : decode cL_law 941 = .ok (.iload 5, 2) := by decide +kernel
theorem dL_law_943 : decode cL_law 943 = .ok (.ifCond .ne 15, 3) := by decide +kernel
theorem dL_law_946 : decode cL_law 946 = .ok (.aload_n 3, 1) := by decide +kernel
theorem dL_law_947 : decode cL_law 947 = .ok (.iconst 0, 1) := by decide +kernel
theorem dL_law_948 : decode cL_law 948 = .ok (.laload, 1) := by decide +kernel
theorem dL_law_949 : decode cL_law 949 = .ok (.iload 6, 2) := by decide +kernel
theorem dL_law_951 : decode cL_law 951 = .ok (.i2l, 1) := by decide +kernel
theorem dL_law_952 : decode cL_law 952 = .ok (.lcmp, 1) := by decide +kernel
theorem dL_law_953 : decode cL_law 953 = .ok (.ifCond .eq 5, 3) := by decide +kernel
theorem dL_law_956 : decode cL_law 956 = .ok (.iconst 0, 1) := by decide +kernel
theorem dL_law_957 : decode cL_law 957 = .ok (.ireturn, 1) := by decide +kernel
theorem dL_law_958 : decode cL_law 958 = .ok (.goto 407, 3) := by decide +kernel
theorem dL_law_961 : decode cL_law 961 = .ok (.aload_n 1, 1) := by decide +kernel
theorem dL_law_962 : decode cL_law 962 = .ok (.aload_n 0, 1) := by decide +kernel
theorem dL_law_963 : decode cL_law 963 = .ok (.iload 4, 2) := by decide +kernel
theorem dL_law_965 : decode cL_law 965 = .ok (.iconst 1, 1) := by decide +kernel
theorem dL_law_966 : decode cL_law 966 = .ok (.iadd, 1) := by decide +kernel
theorem dL_law_967 : decode cL_law 967 = .ok (.iaload, 1) := by decide +kernel
theorem dL_law_968 : decode cL_law 968 = .ok (.aload_n 3, 1) := by decide +kernel
theorem dL_law_969 : decode cL_law 969 = .ok (.invokestatic 139, 3) := by decide +kernel
theorem dL_law_972 : decode cL_law 972 = .ok (.istore 5, 2) := by decide +kernel
theorem dL_law_974 : decode cL_law 974 = .ok (.aload_n 2, 1) := by decide +kernel
theorem dL_law_975 : decode cL_law 975 = .ok (.aload_n 0, 1) := by decide +kernel
theorem dL_law_976 : decode cL_law 976 = .ok (.iload 4, 2) := by decide +kernel
theorem dL_law_978 : decode cL_law 978 = .ok (.iconst 1, 1) := by decide +kernel
theorem dL_law_979 : decode cL_law 979 = .ok (.iadd, 1) := by decide +kernel
theorem dL_law_980 : decode cL_law 980 = .ok (.iaload, 1) := by decide +kernel
theorem dL_law_981 : decode cL_law 981 = .ok (.invokevirtual 141, 3) := by decide +kernel
theorem dL_law_984 : decode cL_law 984 = .ok (.istore 6, 2) := by decide +kernel
theorem dL_law_986 : decode cL_law 986 = .ok (.aload_n 2, 1) := by decide +kernel
theorem dL_law_987 : decode cL_law 987 = .ok (.invokevirtual 91, 3) := by decide +kernel
theorem dL_law_990 : decode cL_law 990 = .ok (.iload 5, 2) := by decide +kernel
theorem dL_law_992 : decode cL_law 992 = .ok (.if_icmp .eq 5, 3) := by decide +kernel
theorem dL_law_995 : decode cL_law 995 = .ok (.iconst 0, 1) := by decide +kernel
theorem dL_law_996 : decode cL_law 996 = .ok (.ireturn, 1) := by decide +kernel
theorem dL_law_997 : decode cL_law 997 = .ok (.iload 5, 2) := by decide +kernel
theorem dL_law_999 : decode cL_law 999 = .ok (.ifCond .ne 15, 3) := by decide +kernel
theorem dL_law_1002 : decode cL_law 1002 = .ok (.aload_n 3, 1) := by decide +kernel
theorem dL_law_1003 : decode cL_law 1003 = .ok (.iconst 0, 1) := by decide +kernel
theorem dL_law_1004 : decode cL_law 1004 = .ok (.laload, 1) := by decide +kernel
theorem dL_law_1005 : decode cL_law 1005 = .ok (.iload 6, 2) := by decide +kernel
theorem dL_law_1007 : decode cL_law 1007 = .ok (.i2l, 1) := by decide +kernel
theorem dL_law_1008 : decode cL_law 1008 = .ok (.lcmp, 1) := by decide +kernel
theorem dL_law_1009 : decode cL_law 1009 = .ok (.ifCond .eq 5, 3) := by decide +kernel
theorem dL_law_1012 : decode cL_law 1012 = .ok (.iconst 0, 1) := by decide +kernel
theorem dL_law_1013 : decode cL_law 1013 = .ok (.ireturn, 1) := by decide +kernel
theorem dL_law_1014 : decode cL_law 1014 = .ok (.goto 351, 3) := by decide +kernel
theorem dL_law_1017 : decode cL_law 1017 = .ok (.aload_n 1, 1) := by decide +kernel
theorem dL_law_1018 : decode cL_law 1018 = .ok (.aload_n 0, 1) := by decide +kernel
theorem dL_law_1019 : decode cL_law 1019 = .ok (.iload 4, 2) := by decide +kernel
theorem dL_law_1021 : decode cL_law 1021 = .ok (.iconst 1, 1) := by decide +kernel
theorem dL_law_1022 : decode cL_law 1022 = .ok (.iadd, 1) := by decide +kernel
theorem dL_law_1023 : decode cL_law 1023 = .ok (.iaload, 1) := by decide +kernel
theorem dL_law_1024 : decode cL_law 1024 = .ok (.aload_n 3, 1) := by decide +kernel
theorem dL_law_1025 : decode cL_law 1025 = .ok (.invokestatic 142, 3) := by decide +kernel
theorem dL_law_1028 : decode cL_law 1028 = .ok (.istore 5, 2) := by decide +kernel
theorem dL_law_1030 : decode cL_law 1030 = .ok (.aload_n 2, 1) := by decide +kernel
theorem dL_law_1031 : decode cL_law 1031 = .ok (.aload_n 0, 1) := by decide +kernel
theorem dL_law_1032 : decode cL_law 1032 = .ok (.iload 4, 2) := by decide +kernel
theorem dL_law_1034 : decode cL_law 1034 = .ok (.iconst 1, 1) := by decide +kernel
theorem dL_law_1035 : decode cL_law 1035 = .ok (.iadd, 1) := by decide +kernel
theorem dL_law_1036 : decode cL_law 1036 = .ok (.iaload, 1) := by decide +kernel
theorem dL_law_1037 : decode cL_law 1037 = .ok (.invokevirtual 144, 3) := by decide +kernel
theorem dL_law_1040 : decode cL_law 1040 = .ok (.istore 6, 2) := by decide +kernel
theorem dL_law_1042 : decode cL_law 1042 = .ok (.aload_n 2, 1) := by decide +kernel
theorem dL_law_1043 : decode cL_law 1043 = .ok (.invokevirtual 91, 3) := by decide +kernel
theorem dL_law_1046 : decode cL_law 1046 = .ok (.iload 5, 2) := by decide +kernel
theorem dL_law_1048 : decode cL_law 1048 = .ok (.if_icmp .eq 5, 3) := by decide +kernel
theorem dL_law_1051 : decode cL_law 1051 = .ok (.iconst 0, 1) := by decide +kernel
theorem dL_law_1052 : decode cL_law 1052 = .ok (.ireturn, 1) := by decide +kernel
theorem dL_law_1053 : decode cL_law 1053 = .ok (.iload 5, 2) := by decide +kernel
theorem dL_law_1055 : decode cL_law 1055 = .ok (.ifCond .ne 15, 3) := by decide +kernel
theorem dL_law_1058 : decode cL_law 1058 = .ok (.aload_n 3, 1) := by decide +kernel
theorem dL_law_1059 : decode cL_law 1059 = .ok (.iconst 0, 1) := by decide +kernel
theorem dL_law_1060 : decode cL_law 1060 = .ok (.laload, 1) := by decide +kernel
theorem dL_law_1061 : decode cL_law 1061 = .ok (.iload 6, 2) := by decide +kernel
theorem dL_law_1063 : decode cL_law 1063 = .ok (.i2l, 1) := by decide +kernel
theorem dL_law_1064 : decode cL_law 1064 = .ok (.lcmp, 1) := by decide +kernel
theorem dL_law_1065 : decode cL_law 1065 = .ok (.ifCond .eq 5, 3) := by decide +kernel
theorem dL_law_1068 : decode cL_law 1068 = .ok (.iconst 0, 1) := by decide +kernel
theorem dL_law_1069 : decode cL_law 1069 = .ok (.ireturn, 1) := by decide +kernel
theorem dL_law_1070 : decode cL_law 1070 = .ok (.goto 295, 3) := by decide +kernel
theorem dL_law_1073 : decode cL_law 1073 = .ok (.aload_n 1, 1) := by decide +kernel
theorem dL_law_1074 : decode cL_law 1074 = .ok (.aload_n 0, 1) := by decide +kernel
theorem dL_law_1075 : decode cL_law 1075 = .ok (.iload 4, 2) := by decide +kernel
theorem dL_law_1077 : decode cL_law 1077 = .ok (.iconst 1, 1) := by decide +kernel
theorem dL_law_1078 : decode cL_law 1078 = .ok (.iadd, 1) := by decide +kernel
theorem dL_law_1079 : decode cL_law 1079 = .ok (.iaload, 1) := by decide +kernel
theorem dL_law_1080 : decode cL_law 1080 = .ok (.aload_n 3, 1) := by decide +kernel
theorem dL_law_1081 : decode cL_law 1081 = .ok (.invokestatic 145, 3) := by decide +kernel
theorem dL_law_1084 : decode cL_law 1084 = .ok (.istore 5, 2) := by decide +kernel
theorem dL_law_1086 : decode cL_law 1086 = .ok (.aload_n 2, 1) := by decide +kernel
theorem dL_law_1087 : decode cL_law 1087 = .ok (.aload_n 0, 1) := by decide +kernel
theorem dL_law_1088 : decode cL_law 1088 = .ok (.iload 4, 2) := by decide +kernel
theorem dL_law_1090 : decode cL_law 1090 = .ok (.iconst 1, 1) := by decide +kernel
theorem dL_law_1091 : decode cL_law 1091 = .ok (.iadd, 1) := by decide +kernel
theorem dL_law_1092 : decode cL_law 1092 = .ok (.iaload, 1) := by decide +kernel
theorem dL_law_1093 : decode cL_law 1093 = .ok (.invokevirtual 147, 3) := by decide +kernel
theorem dL_law_1096 : decode cL_law 1096 = .ok (.istore 6, 2) := by decide +kernel
theorem dL_law_1098 : decode cL_law 1098 = .ok (.aload_n 2, 1) := by decide +kernel
theorem dL_law_1099 : decode cL_law 1099 = .ok (.invokevirtual 91, 3) := by decide +kernel
theorem dL_law_1102 : decode cL_law 1102 = .ok (.iload 5, 2) := by decide +kernel
theorem dL_law_1104 : decode cL_law 1104 = .ok (.if_icmp .eq 5, 3) := by decide +kernel
theorem dL_law_1107 : decode cL_law 1107 = .ok (.iconst 0, 1) := by decide +kernel
theorem dL_law_1108 : decode cL_law 1108 = .ok (.ireturn, 1) := by decide +kernel
theorem dL_law_1109 : decode cL_law 1109 = .ok (.iload 5, 2) := by decide +kernel
theorem dL_law_1111 : decode cL_law 1111 = .ok (.ifCond .ne 15, 3) := by decide +kernel
theorem dL_law_1114 : decode cL_law 1114 = .ok (.aload_n 3, 1) := by decide +kernel
theorem dL_law_1115 : decode cL_law 1115 = .ok (.iconst 0, 1) := by decide +kernel
theorem dL_law_1116 : decode cL_law 1116 = .ok (.laload, 1) := by decide +kernel
theorem dL_law_1117 : decode cL_law 1117 = .ok (.iload 6, 2) := by decide +kernel
theorem dL_law_1119 : decode cL_law 1119 = .ok (.i2l, 1) := by decide +kernel
theorem dL_law_1120 : decode cL_law 1120 = .ok (.lcmp, 1) := by decide +kernel
theorem dL_law_1121 : decode cL_law 1121 = .ok (.ifCond .eq 5, 3) := by decide +kernel
theorem dL_law_1124 : decode cL_law 1124 = .ok (.iconst 0, 1) := by decide +kernel
theorem dL_law_1125 : decode cL_law 1125 = .ok (.ireturn, 1) := by decide +kernel
theorem dL_law_1126 : decode cL_law 1126 = .ok (.goto 239, 3) := by decide +kernel
theorem dL_law_1129 : decode cL_law 1129 = .ok (.aload_n 1, 1) := by decide +kernel
theorem dL_law_1130 : decode cL_law 1130 = .ok (.aload_n 0, 1) := by decide +kernel
theorem dL_law_1131 : decode cL_law 1131 = .ok (.iload 4, 2) := by decide +kernel
theorem dL_law_1133 : decode cL_law 1133 = .ok (.iconst 1, 1) := by decide +kernel
theorem dL_law_1134 : decode cL_law 1134 = .ok (.iadd, 1) := by decide +kernel
theorem dL_law_1135 : decode cL_law 1135 = .ok (.iaload, 1) := by decide +kernel
theorem dL_law_1136 : decode cL_law 1136 = .ok (.aload_n 0, 1) := by decide +kernel
theorem dL_law_1137 : decode cL_law 1137 = .ok (.iload 4, 2) := by decide +kernel
theorem dL_law_1139 : decode cL_law 1139 = .ok (.iconst 2, 1) := by decide +kernel
theorem dL_law_1140 : decode cL_law 1140 = .ok (.iadd, 1) := by decide +kernel
theorem dL_law_1141 : decode cL_law 1141 = .ok (.iaload, 1) := by decide +kernel
theorem dL_law_1142 : decode cL_law 1142 = .ok (.aload_n 3, 1) := by decide +kernel
theorem dL_law_1143 : decode cL_law 1143 = .ok (.invokestatic 148, 3) := by decide +kernel
theorem dL_law_1146 : decode cL_law 1146 = .ok (.istore 5, 2) := by decide +kernel
theorem dL_law_1148 : decode cL_law 1148 = .ok (.aload_n 2, 1) := by decide +kernel
theorem dL_law_1149 : decode cL_law 1149 = .ok (.aload_n 0, 1) := by decide +kernel
theorem dL_law_1150 : decode cL_law 1150 = .ok (.iload 4, 2) := by decide +kernel
theorem dL_law_1152 : decode cL_law 1152 = .ok (.iconst 1, 1) := by decide +kernel
theorem dL_law_1153 : decode cL_law 1153 = .ok (.iadd, 1) := by decide +kernel
theorem dL_law_1154 : decode cL_law 1154 = .ok (.iaload, 1) := by decide +kernel
theorem dL_law_1155 : decode cL_law 1155 = .ok (.aload_n 0, 1) := by decide +kernel
theorem dL_law_1156 : decode cL_law 1156 = .ok (.iload 4, 2) := by decide +kernel
theorem dL_law_1158 : decode cL_law 1158 = .ok (.iconst 2, 1) := by decide +kernel
theorem dL_law_1159 : decode cL_law 1159 = .ok (.iadd, 1) := by decide +kernel
theorem dL_law_1160 : decode cL_law 1160 = .ok (.iaload, 1) := by decide +kernel
theorem dL_law_1161 : decode cL_law 1161 = .ok (.invokevirtual 150, 3) := by decide +kernel
theorem dL_law_1164 : decode cL_law 1164 = .ok (.istore 6, 2) := by decide +kernel
theorem dL_law_1166 : decode cL_law 1166 = .ok (.aload_n 2, 1) := by decide +kernel
theorem dL_law_1167 : decode cL_law 1167 = .ok (.invokevirtual 91, 3) := by decide +kernel
theorem dL_law_1170 : decode cL_law 1170 = .ok (.iload 5, 2) := by decide +kernel
theorem dL_law_1172 : decode cL_law 1172 = .ok (.if_icmp .eq 5, 3) := by decide +kernel
theorem dL_law_1175 : decode cL_law 1175 = .ok (.iconst 0, 1) := by decide +kernel
theorem dL_law_1176 : decode cL_law 1176 = .ok (.ireturn, 1) := by decide +kernel
theorem dL_law_1177 : decode cL_law 1177 = .ok (.iload 5, 2) := by decide +kernel
theorem dL_law_1179 : decode cL_law 1179 = .ok (.ifCond .ne 15, 3) := by decide +kernel
theorem dL_law_1182 : decode cL_law 1182 = .ok (.aload_n 3, 1) := by decide +kernel
theorem dL_law_1183 : decode cL_law 1183 = .ok (.iconst 0, 1) := by decide +kernel
theorem dL_law_1184 : decode cL_law 1184 = .ok (.laload, 1) := by decide +kernel
theorem dL_law_1185 : decode cL_law 1185 = .ok (.iload 6, 2) := by decide +kernel
theorem dL_law_1187 : decode cL_law 1187 = .ok (.i2l, 1) := by decide +kernel
theorem dL_law_1188 : decode cL_law 1188 = .ok (.lcmp, 1) := by decide +kernel
theorem dL_law_1189 : decode cL_law 1189 = .ok (.ifCond .eq 5, 3) := by decide +kernel
theorem dL_law_1192 : decode cL_law 1192 = .ok (.iconst 0, 1) := by decide +kernel
theorem dL_law_1193 : decode cL_law 1193 = .ok (.ireturn, 1) := by decide +kernel
theorem dL_law_1194 : decode cL_law 1194 = .ok (.goto 171, 3) := by decide +kernel
theorem dL_law_1197 : decode cL_law 1197 = .ok (.aload_n 1, 1) := by decide +kernel
theorem dL_law_1198 : decode cL_law 1198 = .ok (.aload_n 0, 1) := by decide +kernel
theorem dL_law_1199 : decode cL_law 1199 = .ok (.iload 4, 2) := by decide +kernel
theorem dL_law_1201 : decode cL_law 1201 = .ok (.iconst 1, 1) := by decide +kernel
theorem dL_law_1202 : decode cL_law 1202 = .ok (.iadd, 1) := by decide +kernel
theorem dL_law_1203 : decode cL_law 1203 = .ok (.iaload, 1) := by decide +kernel
theorem dL_law_1204 : decode cL_law 1204 = .ok (.aload_n 3, 1) := by decide +kernel
theorem dL_law_1205 : decode cL_law 1205 = .ok (.invokestatic 151, 3) := by decide +kernel
theorem dL_law_1208 : decode cL_law 1208 = .ok (.istore 5, 2) := by decide +kernel
theorem dL_law_1210 : decode cL_law 1210 = .ok (.aload_n 2, 1) := by decide +kernel
theorem dL_law_1211 : decode cL_law 1211 = .ok (.aload_n 0, 1) := by decide +kernel
theorem dL_law_1212 : decode cL_law 1212 = .ok (.iload 4, 2) := by decide +kernel
theorem dL_law_1214 : decode cL_law 1214 = .ok (.iconst 1, 1) := by decide +kernel
theorem dL_law_1215 : decode cL_law 1215 = .ok (.iadd, 1) := by decide +kernel
theorem dL_law_1216 : decode cL_law 1216 = .ok (.iaload, 1) := by decide +kernel
theorem dL_law_1217 : decode cL_law 1217 = .ok (.invokevirtual 153, 3) := by decide +kernel
theorem dL_law_1220 : decode cL_law 1220 = .ok (.istore 6, 2) := by decide +kernel
theorem dL_law_1222 : decode cL_law 1222 = .ok (.aload_n 2, 1) := by decide +kernel
theorem dL_law_1223 : decode cL_law 1223 = .ok (.invokevirtual 91, 3) := by decide +kernel
theorem dL_law_1226 : decode cL_law 1226 = .ok (.iload 5, 2) := by decide +kernel
theorem dL_law_1228 : decode cL_law 1228 = .ok (.if_icmp .eq 5, 3) := by decide +kernel
theorem dL_law_1231 : decode cL_law 1231 = .ok (.iconst 0, 1) := by decide +kernel
theorem dL_law_1232 : decode cL_law 1232 = .ok (.ireturn, 1) := by decide +kernel
theorem dL_law_1233 : decode cL_law 1233 = .ok (.iload 5, 2) := by decide +kernel
theorem dL_law_1235 : decode cL_law 1235 = .ok (.ifCond .ne 15, 3) := by decide +kernel
theorem dL_law_1238 : decode cL_law 1238 = .ok (.aload_n 3, 1) := by decide +kernel
theorem dL_law_1239 : decode cL_law 1239 = .ok (.iconst 0, 1) := by decide +kernel
theorem dL_law_1240 : decode cL_law 1240 = .ok (.laload, 1) := by decide +kernel
theorem dL_law_1241 : decode cL_law 1241 = .ok (.iload 6, 2) := by decide +kernel
theorem dL_law_1243 : decode cL_law 1243 = .ok (.i2l, 1) := by decide +kernel
theorem dL_law_1244 : decode cL_law 1244 = .ok (.lcmp, 1) := by decide +kernel
theorem dL_law_1245 : decode cL_law 1245 = .ok (.ifCond .eq 5, 3) := by decide +kernel
theorem dL_law_1248 : decode cL_law 1248 = .ok (.iconst 0, 1) := by decide +kernel
theorem dL_law_1249 : decode cL_law 1249 = .ok (.ireturn, 1) := by decide +kernel
theorem dL_law_1250 : decode cL_law 1250 = .ok (.goto 115, 3) := by decide +kernel
theorem dL_law_1253 : decode cL_law 1253 = .ok (.aload_n 1, 1) := by decide +kernel
theorem dL_law_1254 : decode cL_law 1254 = .ok (.aload_n 0, 1) := by decide +kernel
theorem dL_law_1255 : decode cL_law 1255 = .ok (.iload 4, 2) := by decide +kernel
theorem dL_law_1257 : decode cL_law 1257 = .ok (.iconst 1, 1) := by decide +kernel
theorem dL_law_1258 : decode cL_law 1258 = .ok (.iadd, 1) := by decide +kernel
theorem dL_law_1259 : decode cL_law 1259 = .ok (.iaload, 1) := by decide +kernel
theorem dL_law_1260 : decode cL_law 1260 = .ok (.aload_n 0, 1) := by decide +kernel
theorem dL_law_1261 : decode cL_law 1261 = .ok (.iload 4, 2) := by decide +kernel
theorem dL_law_1263 : decode cL_law 1263 = .ok (.iconst 2, 1) := by decide +kernel
theorem dL_law_1264 : decode cL_law 1264 = .ok (.iadd, 1) := by decide +kernel
theorem dL_law_1265 : decode cL_law 1265 = .ok (.iaload, 1) := by decide +kernel
theorem dL_law_1266 : decode cL_law 1266 = .ok (.aload_n 3, 1) := by decide +kernel
theorem dL_law_1267 : decode cL_law 1267 = .ok (.invokestatic 154, 3) := by decide +kernel
theorem dL_law_1270 : decode cL_law 1270 = .ok (.istore 5, 2) := by decide +kernel
theorem dL_law_1272 : decode cL_law 1272 = .ok (.aload_n 2, 1) := by decide +kernel
theorem dL_law_1273 : decode cL_law 1273 = .ok (.aload_n 0, 1) := by decide +kernel
theorem dL_law_1274 : decode cL_law 1274 = .ok (.iload 4, 2) := by decide +kernel
theorem dL_law_1276 : decode cL_law 1276 = .ok (.iconst 1, 1) := by decide +kernel
theorem dL_law_1277 : decode cL_law 1277 = .ok (.iadd, 1) := by decide +kernel
theorem dL_law_1278 : decode cL_law 1278 = .ok (.iaload, 1) := by decide +kernel
theorem dL_law_1279 : decode cL_law 1279 = .ok (.aload_n 0, 1) := by decide +kernel
theorem dL_law_1280 : decode cL_law 1280 = .ok (.iload 4, 2) := by decide +kernel
theorem dL_law_1282 : decode cL_law 1282 = .ok (.iconst 2, 1) := by decide +kernel
theorem dL_law_1283 : decode cL_law 1283 = .ok (.iadd, 1) := by decide +kernel
theorem dL_law_1284 : decode cL_law 1284 = .ok (.iaload, 1) := by decide +kernel
theorem dL_law_1285 : decode cL_law 1285 = .ok (.invokevirtual 156, 3) := by decide +kernel
theorem dL_law_1288 : decode cL_law 1288 = .ok (.istore 6, 2) := by decide +kernel
theorem dL_law_1290 : decode cL_law 1290 = .ok (.aload_n 2, 1) := by decide +kernel
theorem dL_law_1291 : decode cL_law 1291 = .ok (.invokevirtual 91, 3) := by decide +kernel
theorem dL_law_1294 : decode cL_law 1294 = .ok (.iload 5, 2) := by decide +kernel
theorem dL_law_1296 : decode cL_law 1296 = .ok (.if_icmp .eq 5, 3) := by decide +kernel
theorem dL_law_1299 : decode cL_law 1299 = .ok (.iconst 0, 1) := by decide +kernel
theorem dL_law_1300 : decode cL_law 1300 = .ok (.ireturn, 1) := by decide +kernel
theorem dL_law_1301 : decode cL_law 1301 = .ok (.iload 5, 2) := by decide +kernel
theorem dL_law_1303 : decode cL_law 1303 = .ok (.ifCond .ne 15, 3) := by decide +kernel
theorem dL_law_1306 : decode cL_law 1306 = .ok (.aload_n 3, 1) := by decide +kernel
theorem dL_law_1307 : decode cL_law 1307 = .ok (.iconst 0, 1) := by decide +kernel
theorem dL_law_1308 : decode cL_law 1308 = .ok (.laload, 1) := by decide +kernel
theorem dL_law_1309 : decode cL_law 1309 = .ok (.iload 6, 2) := by decide +kernel
theorem dL_law_1311 : decode cL_law 1311 = .ok (.i2l, 1) := by decide +kernel
theorem dL_law_1312 : decode cL_law 1312 = .ok (.lcmp, 1) := by decide +kernel
theorem dL_law_1313 : decode cL_law 1313 = .ok (.ifCond .eq 5, 3) := by decide +kernel
theorem dL_law_1316 : decode cL_law 1316 = .ok (.iconst 0, 1) := by decide +kernel
theorem dL_law_1317 : decode cL_law 1317 = .ok (.ireturn, 1) := by decide +kernel
theorem dL_law_1318 : decode cL_law 1318 = .ok (.goto 47, 3) := by decide +kernel
theorem dL_law_1321 : decode cL_law 1321 = .ok (.aload_n 1, 1) := by decide +kernel
theorem dL_law_1322 : decode cL_law 1322 = .ok (.aload_n 3, 1) := by decide +kernel
theorem dL_law_1323 : decode cL_law 1323 = .ok (.invokestatic 157, 3) := by decide +kernel
theorem dL_law_1326 : decode cL_law 1326 = .ok (.istore 5, 2) := by decide +kernel
theorem dL_law_1328 : decode cL_law 1328 = .ok (.aload_n 2, 1) := by decide +kernel
theorem dL_law_1329 : decode cL_law 1329 = .ok (.invokevirtual 159, 3) := by decide +kernel
theorem dL_law_1332 : decode cL_law 1332 = .ok (.istore 6, 2) := by decide +kernel
theorem dL_law_1334 : decode cL_law 1334 = .ok (.aload_n 2, 1) := by decide +kernel
theorem dL_law_1335 : decode cL_law 1335 = .ok (.invokevirtual 91, 3) := by decide +kernel
theorem dL_law_1338 : decode cL_law 1338 = .ok (.iload 5, 2) := by decide +kernel
theorem dL_law_1340 : decode cL_law 1340 = .ok (.if_icmp .eq 5, 3) := by decide +kernel
theorem dL_law_1343 : decode cL_law 1343 = .ok (.iconst 0, 1) := by decide +kernel
theorem dL_law_1344 : decode cL_law 1344 = .ok (.ireturn, 1) := by decide +kernel
theorem dL_law_1345 : decode cL_law 1345 = .ok (.iload 5, 2) := by decide +kernel
theorem dL_law_1347 : decode cL_law 1347 = .ok (.ifCond .ne 15, 3) := by decide +kernel
theorem dL_law_1350 : decode cL_law 1350 = .ok (.aload_n 3, 1) := by decide +kernel
theorem dL_law_1351 : decode cL_law 1351 = .ok (.iconst 0, 1) := by decide +kernel
theorem dL_law_1352 : decode cL_law 1352 = .ok (.laload, 1) := by decide +kernel
theorem dL_law_1353 : decode cL_law 1353 = .ok (.iload 6, 2) := by decide +kernel
theorem dL_law_1355 : decode cL_law 1355 = .ok (.i2l, 1) := by decide +kernel
theorem dL_law_1356 : decode cL_law 1356 = .ok (.lcmp, 1) := by decide +kernel
theorem dL_law_1357 : decode cL_law 1357 = .ok (.ifCond .eq 5, 3) := by decide +kernel
theorem dL_law_1360 : decode cL_law 1360 = .ok (.iconst 0, 1) := by decide +kernel
theorem dL_law_1361 : decode cL_law 1361 = .ok (.ireturn, 1) := by decide +kernel
theorem dL_law_1362 : decode cL_law 1362 = .ok (.goto 3, 3) := by decide +kernel
theorem dL_law_1365 : decode cL_law 1365 = .ok (.iinc 4 3, 3) := by decide +kernel
theorem dL_law_1368 : decode cL_law 1368 = .ok (.goto (-1345), 3) := by decide +kernel
theorem dL_law_1371 : decode cL_law 1371 = .ok (.iconst 1, 1) := by decide +kernel
theorem dL_law_1372 : decode cL_law 1372 = .ok (.ireturn, 1) := by decide +kernel
abbrev vwCl : List vw_C := [(RX0, TX0, 16), (RX1, TX1, 18)]
end
section
/-! plain facts on numbers and arrays, to paste: each family by itself; over the kit's rows on nI and upd -/
/-! ===== order of ints, in all its forms, and through longs ===== -/
theorem fa_lt (a b : Int32) : a < b ↔ a.toInt < b.toInt := Int32.lt_iff_toInt_lt
theorem fa_le (a b : Int32) : a ≤ b ↔ a.toInt ≤ b.toInt := Int32.le_iff_toInt_le
theorem fa_eq (a b : Int32) : a = b ↔ a.toInt = b.toInt := Int32.toInt_inj.symm
theorem fa_lt64 (a b : Int64) : a < b ↔ a.toInt < b.toInt := Int64.lt_iff_toInt_lt
theorem fa_le64 (a b : Int64) : a ≤ b ↔ a.toInt ≤ b.toInt := Int64.le_iff_toInt_le
theorem fa_eq64 (a b : Int64) : a = b ↔ a.toInt = b.toInt := Int64.toInt_inj.symm
/-- a comparison of two ints taken as longs -/
theorem fa_wide_lt (a b : Int32) : a.toInt64 < b.toInt64 ↔ a < b := by rw [fa_lt64, fa_lt, Int32.toInt_toInt64, Int32.toInt_toInt64]
theorem fa_wide_le (a b : Int32) : a.toInt64 ≤ b.toInt64 ↔ a ≤ b := by rw [fa_le64, fa_le, Int32.toInt_toInt64, Int32.toInt_toInt64]
theorem fa_wide_eq (a b : Int32) : a.toInt64 = b.toInt64 ↔ a = b := by rw [fa_eq64, fa_eq, Int32.toInt_toInt64, Int32.toInt_toInt64]
/-- one strict comparison gives all the others -/
theorem fa_of_lt {a b : Int32} (h : a < b) : a ≤ b ∧ ¬ b ≤ a ∧ ¬ b < a ∧ a ≠ b ∧ b ≠ a := by
  rw [fa_lt] at h
  refine ⟨?_, ?_, ?_, ?_, ?_⟩
  · rw [fa_le]; omega
  · rw [fa_le]; omega
  · rw [fa_lt]; omega
  · intro e; rw [fa_eq] at e; omega
  · intro e; rw [fa_eq] at e; omega
theorem fa_of_nlt {a b : Int32} (h : ¬ a < b) : b ≤ a := by
  rw [fa_lt] at h
  rw [fa_le]
  omega
theorem fa_of_nle {a b : Int32} (h : ¬ a ≤ b) : b < a := by
  rw [fa_le] at h
  rw [fa_lt]
  omega
theorem fa_le_ne {a b : Int32} (h : a ≤ b) (h2 : a ≠ b) : a < b := by
  rw [fa_le] at h
  rw [fa_lt]
  have h3 : a.toInt ≠ b.toInt := fun e => h2 ((fa_eq a b).mpr e)
  omega
theorem fa_three (a b : Int32) : a < b ∨ a = b ∨ b < a := by
  rw [fa_lt, fa_lt, fa_eq]
  omega
theorem fa_trans {a b c : Int32} (h : a < b) (h2 : b ≤ c) : a < c := by
  rw [fa_lt] at *
  rw [fa_le] at h2
  omega
/-! ===== small literals as numbers ===== -/
theorem fa_lit (n : Nat) : (OfNat.ofNat n : Int32) = nI n := rfl
theorem fa_litL (n : Nat) : (OfNat.ofNat n : Int64) = lN n := rfl
/-! ===== bits of a number: 'or', masks, one bit ===== -/
theorem fa_and (a b : Nat) : nI a &&& nI b = nI (a &&& b) := by
  apply Int32.toBitVec_inj.1
  show BitVec.ofNat 32 a &&& BitVec.ofNat 32 b = BitVec.ofNat 32 (a &&& b)
  apply BitVec.eq_of_getLsbD_eq
  intro i hi
  simp [hi]
theorem fa_or (a b : Nat) : nI a ||| nI b = nI (a ||| b) := by
  apply Int32.toBitVec_inj.1
  show BitVec.ofNat 32 a ||| BitVec.ofNat 32 b = BitVec.ofNat 32 (a ||| b)
  apply BitVec.eq_of_getLsbD_eq
  intro i hi
  simp [hi]
/-- a remainder by a power of two, as a mask -/
theorem fa_mask (n k : Nat) : nI n &&& nI (2 ^ k - 1) = nI (n % 2 ^ k) := by rw [fa_and, Nat.and_two_pow_sub_one_eq_mod]
/-- 'or' of a high part and a low one that don't meet is their sum -/
theorem fa_or_sum {a k : Nat} (b : Nat) (h : a < 2 ^ k) : nI (2 ^ k * b) ||| nI a = nI (2 ^ k * b + a) := by rw [fa_or, Nat.two_pow_add_eq_or_of_lt h]
/-- one bit, by 'and' with a power of two -/
theorem fa_bit {n j : Nat} (hj : j < 31) : nI n &&& nI (2 ^ j) = 0 ↔ n.testBit j = false := by
  have h2 : (2 : Nat) ^ j < 2 ^ 31 := Nat.pow_lt_pow_right (by decide) hj
  have hle : n &&& 2 ^ j ≤ 2 ^ j := Nat.and_le_right
  have e : n &&& 2 ^ j = 0 ↔ n.testBit j = false := by
    constructor
    · intro h
      have h1 : (n &&& 2 ^ j).testBit j = false := by rw [h]; simp
      rw [Nat.testBit_and] at h1
      first | simpa using h1 | simpa [Nat.testBit_two_pow_self] using h1 | simpa [Nat.testBit_two_pow] using h1
    · intro h
      apply Nat.eq_of_testBit_eq
      intro i
      rw [Nat.testBit_and]
      by_cases hi : j = i
      · subst hi; simp [h]
      · first | (simp [Nat.testBit_two_pow, hi]; done) | (simp [Nat.testBit_two_pow_of_ne hi]; done)
  rw [fa_and]
  constructor
  · intro h
    apply e.mp
    rcases Nat.eq_zero_or_pos (n &&& 2 ^ j) with z | z
    · exact z
    · exact absurd h (nI_ne0 z (Nat.lt_of_le_of_lt hle h2))
  · intro h
    rw [e.mpr h]; exact nI_0
/-- a remainder by a power of two of a number that isn't negative, as Java divides -/
theorem fa_rem {a k : Nat} (ha : a < 2 ^ 31) (hk : k < 31) : nI a - nI a / nI (2 ^ k) * nI (2 ^ k) = nI (a % 2 ^ k) := pk_rem ha (Nat.two_pow_pos k) (Nat.pow_lt_pow_right (by decide) hk)
/-! ===== cuts to a byte, a short ===== -/
theorem fa_byte_xor (x y : Int32) : (x ^^^ y).toInt8 = x.toInt8 ^^^ y.toInt8 := by
  apply Int8.toBitVec_inj.1
  apply BitVec.eq_of_getLsbD_eq
  intro i hi
  first | (simp [hi]; done) | (simp [hi, BitVec.getLsbD_setWidth, BitVec.getLsbD_signExtend]; done)
theorem fa_short_xor (x y : Int32) : (x ^^^ y).toInt16 = x.toInt16 ^^^ y.toInt16 := by
  apply Int16.toBitVec_inj.1
  apply BitVec.eq_of_getLsbD_eq
  intro i hi
  first | (simp [hi]; done) | (simp [hi, BitVec.getLsbD_setWidth, BitVec.getLsbD_signExtend]; done)
/-- the cut to a byte sees the low byte alone -/
theorem fa_byte_low (x : Int32) : (x &&& 255).toInt8 = x.toInt8 := by
  apply Int8.toBitVec_inj.1
  apply BitVec.eq_of_getLsbD_eq
  intro i hi
  have h2 : (255 : Int32).toBitVec.getLsbD i = true := by
    have : ∀ j : Fin 8, (255 : Int32).toBitVec.getLsbD j.val = true := by decide +kernel
    exact this ⟨i, hi⟩
  have h4 : (x &&& 255).toBitVec.getLsbD i = x.toBitVec.getLsbD i := by
    show (x.toBitVec &&& (255 : Int32).toBitVec).getLsbD i = _
    rw [BitVec.getLsbD_and, h2, Bool.and_true]
  have h3 : i < 32 := by omega
  first
    | (show (((x &&& 255).toBitVec).signExtend 8).getLsbD i = (x.toBitVec.signExtend 8).getLsbD i; rw [BitVec.getLsbD_signExtend, BitVec.getLsbD_signExtend, if_pos h3, if_pos h3, h4])
    | (show (((x &&& 255).toBitVec).setWidth 8).getLsbD i = (x.toBitVec.setWidth 8).getLsbD i; rw [BitVec.getLsbD_setWidth, BitVec.getLsbD_setWidth, h4])
    | (simp [hi, h3, h4]; done)
theorem fa_short_low (x : Int32) : (x &&& 65535).toInt16 = x.toInt16 := by
  apply Int16.toBitVec_inj.1
  apply BitVec.eq_of_getLsbD_eq
  intro i hi
  have h2 : (65535 : Int32).toBitVec.getLsbD i = true := by
    have : ∀ j : Fin 16, (65535 : Int32).toBitVec.getLsbD j.val = true := by decide +kernel
    exact this ⟨i, hi⟩
  have h4 : (x &&& 65535).toBitVec.getLsbD i = x.toBitVec.getLsbD i := by
    show (x.toBitVec &&& (65535 : Int32).toBitVec).getLsbD i = _
    rw [BitVec.getLsbD_and, h2, Bool.and_true]
  have h3 : i < 32 := by omega
  first
    | (show (((x &&& 65535).toBitVec).signExtend 16).getLsbD i = (x.toBitVec.signExtend 16).getLsbD i; rw [BitVec.getLsbD_signExtend, BitVec.getLsbD_signExtend, if_pos h3, if_pos h3, h4])
    | (show (((x &&& 65535).toBitVec).setWidth 16).getLsbD i = (x.toBitVec.setWidth 16).getLsbD i; rw [BitVec.getLsbD_setWidth, BitVec.getLsbD_setWidth, h4])
    | (simp [hi, h3, h4]; done)
/-- a small number is its own byte, its own short -/
theorem fa_byte_small {n : Nat} (h : n < 128) : (nI n).toInt8.toInt32 = nI n := by
  have : ∀ j : Fin 128, (nI j.val).toInt8.toInt32 = nI j.val := by decide +kernel
  exact this ⟨n, h⟩
/-! ===== absolute difference ===== -/
theorem fa_absdiff {a b : Nat} (ha : a < 2 ^ 31) (hb : b < 2 ^ 31) : (if nI a < nI b then nI b - nI a else nI a - nI b) = nI (if a < b then b - a else a - b) := by
  by_cases h : a < b
  · rw [if_pos (nI_lt h hb), if_pos h]
    exact pk_sub (Nat.le_of_lt h)
  · rw [if_neg (nI_nlt (Nat.le_of_not_lt h) ha), if_neg h]
    exact pk_sub (Nat.le_of_not_lt h)
/-! ===== an array behind i stores, a conditional store, a row copied ===== -/
/-- f where k < i, what stood there else -/
def fa_fill {α : Type} (f g : Nat → α) (i : Nat) : Nat → α := fun k => if k < i then f k else g k
theorem fa_fill_0 {α : Type} (f g : Nat → α) : fa_fill f g 0 = g := funext fun k => if_neg (Nat.not_lt_zero k)
theorem fa_fill_in {α : Type} {f g : Nat → α} {i k : Nat} (h : k < i) : fa_fill f g i k = f k := if_pos h
theorem fa_fill_out {α : Type} {f g : Nat → α} {i k : Nat} (h : i ≤ k) : fa_fill f g i k = g k := if_neg (Nat.not_lt.mpr h)
theorem fa_fill_succ (f g : Nat → Int32) (i : Nat) : upd (fa_fill f g i) i (f i) = fa_fill f g (i + 1) := by
  funext k
  by_cases e : k = i
  · subst e
    rw [pk_us]
    exact (if_pos (Nat.lt_succ_self k)).symm
  · rw [pk_un e]
    by_cases h : k < i
    · rw [fa_fill_in h, fa_fill_in (Nat.lt_succ_of_lt h)]
    · rw [fa_fill_out (Nat.le_of_not_lt h), fa_fill_out (by omega)]
/-- a store that changes nothing -/
theorem fa_upd_same {f : Nat → Int32} {i : Nat} {x : Int32} (h : f i = x) : upd f i x = f := by
  funext k
  by_cases e : k = i
  · subst e
    rw [pk_us, h]
  · rw [pk_un e]
/-- a store under a condition, told as one -/
theorem fa_upd_if (c : Prop) [Decidable c] (f : Nat → Int32) (i : Nat) (x : Int32) : (if c then upd f i x else f) = upd f i (if c then x else f i) := by
  by_cases h : c
  · rw [if_pos h, if_pos h]
  · rw [if_neg h, if_neg h, fa_upd_same rfl]
/-- two stores at one place, at two -/
theorem fa_upd_twice (f : Nat → Int32) (i : Nat) (x y : Int32) : upd (upd f i x) i y = upd f i y := by
  funext k
  by_cases e : k = i
  · subst e
    rw [pk_us, pk_us]
  · rw [pk_un e, pk_un e, pk_un e]
theorem fa_upd_swap (f : Nat → Int32) {i j : Nat} (h : i ≠ j) (x y : Int32) : upd (upd f i x) j y = upd (upd f j y) i x := by
  funext k
  by_cases e : k = i
  · subst e
    rw [pk_un h, pk_us, pk_us]
  · by_cases e2 : k = j
    · subst e2
      rw [pk_us, pk_un e, pk_us]
    · rw [pk_un e2, pk_un e, pk_un e, pk_un e2]
/-! ===== the first index with a property; a count ===== -/
/-- the first k < n with p k, n if there is none -/
def fa_first (p : Nat → Bool) : Nat → Nat
  | 0 => 0
  | n + 1 => if fa_first p n < n then fa_first p n else if p n then n else n + 1
theorem fa_first_le (p : Nat → Bool) : ∀ n, fa_first p n ≤ n
  | 0 => Nat.le_refl 0
  | n + 1 => by
    have ih := fa_first_le p n
    unfold fa_first
    split
    · omega
    · split
      · omega
      · omega
theorem fa_first_no (p : Nat → Bool) : ∀ n k, k < fa_first p n → p k = false
  | 0, k, h => absurd h (Nat.not_lt_zero k)
  | n + 1, k, h => by
    have ih := fa_first_no p n
    have hl := fa_first_le p n
    unfold fa_first at h
    split at h
    · exact ih k h
    · rename_i h1
      split at h
      · exact ih k (by omega)
      · rename_i h2
        by_cases e : k = n
        · subst e
          exact Bool.eq_false_iff.mpr h2
        · exact ih k (by omega)
theorem fa_first_yes (p : Nat → Bool) : ∀ n, fa_first p n < n → p (fa_first p n) = true
  | 0, h => absurd h (Nat.not_lt_zero _)
  | n + 1, h => by
    have ih := fa_first_yes p n
    have hl := fa_first_le p n
    unfold fa_first at h ⊢
    split at h
    · rename_i h1
      rw [if_pos h1]
      exact ih h1
    · rename_i h1
      rw [if_neg h1]
      split at h
      · rename_i h2
        rw [if_pos h2]
        exact h2
      · omega
/-- how many k < n have p k -/
def fa_cnt (p : Nat → Bool) : Nat → Nat
  | 0 => 0
  | n + 1 => fa_cnt p n + if p n then 1 else 0
theorem fa_cnt_le (p : Nat → Bool) : ∀ n, fa_cnt p n ≤ n
  | 0 => Nat.le_refl 0
  | n + 1 => by
    have ih := fa_cnt_le p n
    unfold fa_cnt
    split
    · omega
    · omega
theorem fa_cnt_yes {p : Nat → Bool} {n : Nat} (h : p n = true) : fa_cnt p (n + 1) = fa_cnt p n + 1 := by rw [fa_cnt, if_pos h]
theorem fa_cnt_no {p : Nat → Bool} {n : Nat} (h : p n = false) : fa_cnt p (n + 1) = fa_cnt p n := by rw [fa_cnt, if_neg (by rw [h]; decide)]; rfl
theorem fa_cnt_cong {p q : Nat → Bool} : ∀ {n : Nat}, (∀ k, k < n → p k = q k) → fa_cnt p n = fa_cnt q n
  | 0, _ => rfl
  | n + 1, h => by rw [fa_cnt, fa_cnt, fa_cnt_cong (fun k hk => h k (Nat.lt_succ_of_lt hk)), h n (Nat.lt_succ_self n)]
/-! ===== an answer carried into a post; a branch on a boolean answer ===== -/
theorem fa_post {α : Type} {P : α → Prop} {x y : α} (h : x = y) (hp : P y) : P x := h ▸ hp
theorem fa_post2 {α β : Type} {P : α → β → Prop} {x y : α} {u v : β} (h : x = y) (h2 : u = v) (hp : P y v) : P x u := h ▸ h2 ▸ hp
theorem fa_bool {r : Int32} {b : Bool} (h : r = if b then 1 else 0) : (r = 0 ↔ b = false) ∧ (¬ r = 0 ↔ b = true) := by
  subst h
  cases b
  · exact ⟨⟨fun _ => rfl, fun _ => rfl⟩, ⟨fun h => absurd rfl h, fun h => absurd h (by decide)⟩⟩
  · exact ⟨⟨fun h => absurd h (by decide), fun h => absurd h (by decide)⟩, ⟨fun _ => rfl, fun _ => by decide⟩⟩
/-- a boolean's narrowing changes nothing -/
theorem fa_bool_and {r : Int32} (h : r = 0 ∨ r = 1) : r &&& 1 = r := by
  rcases h with rfl | rfl
  · decide
  · decide
theorem fa_bool_prop {c : Prop} [Decidable c] {r : Int32} (h : r = if c then 1 else 0) : (r = 0 ↔ ¬ c) ∧ (¬ r = 0 ↔ c) := by
  subst h
  by_cases hc : c
  · rw [if_pos hc]
    exact ⟨⟨fun h => absurd h (by decide), fun h => absurd hc h⟩, ⟨fun _ => hc, fun _ => by decide⟩⟩
  · rw [if_neg hc]
    exact ⟨⟨fun _ => hc, fun _ => rfl⟩, ⟨fun h => absurd rfl h, fun h => absurd h hc⟩⟩
end
section
/-! base: calls of methods that only read or throw; tight rooms; what throwing needs; the two worlds -/
section QB
variable {p : Program} {l : Launch} {e : Env} {R : Room} {s : State} {m : MethodId} {args : Array Value} {below : List Frame} {meth : Method} {c : Code} {H : Heap} {locs : List Loc} {cells slots mc ms : Nat} {Q : State → Prop} {pc : Nat} {ls : Array Slot} {st0 rest : List Value} {a : Array Value} {XC : String → State → State → Prop}
theorem qb_tight {T T' : State} (X : Stand p l e R s m args below meth c T locs cells slots) (X' : Stand p l e R s m args below meth c T' locs (cells + mc) (slots + ms)) (h : T'.heap = T.heap) : Stand p l e R s m args below meth c T' locs cells slots := by
  obtain ⟨-, -, h3, -, h5, -⟩ := X.same
  obtain ⟨g1, g2, g3, g4, g5, g6⟩ := X'.same
  refine { X' with same := ⟨g1, g2, ?_, g4, ?_, g6⟩ }
  · show T'.heap.size ≤ _
    rw [h]; exact h3
  · show ((T'.heap.toList.drop s.heap.size).map (·.slots.size)).sum ≤ slots
    rw [h]; exact h5
/-- a method that may throw, and else only reads and returns nothing: behind it nothing has changed -/
theorem qb_callSv {post : Unit → Prop} (hr : vx_Run p l e R s m args below meth c H locs cells slots mc ms (F0 m pc ls st0) rest (va_Sv post a) XC (fun _ => False))
    (kx : ∀ (E : String) (ce : Cell) (q9 : Addr) (st t : State) (H1 : Heap), st.heap = H → t.heap = H1 → s.vm.Alike t.vm → XC E st t → H1[q9]? = some ce → ce.vm = .none → s.vm.findClass E = some ce.cls → vx_W p l e R s m args below meth c H1 locs (cells + mc) (slots + ms) Q (F0 m pc ls rest) q9)
    (kk : post () → W p l e R s m args below meth c H locs cells slots Q (F0 m (pc + 3) ls rest)) : W p l e R s m args below meth c H locs cells slots Q (F0 m pc ls st0) := by
  intro T hT X
  rcases hr T hT X with ⟨v, st₀, t, T', L, h0, X', hL, e1, e2, ⟨hv, hp, hh⟩, st⟩ | ⟨q, st₀, t, T', L, E, ce, h0, X', hL, e1, e2, hx, hce, hcv, hcl, st⟩
  · cases hv
    have hT' : T'.heap = H := by rw [e1, hh, h0]
    obtain ⟨t2, a1, b1⟩ := kk hp T' hT' (qb_tight X (Stand.forget X' (fun q h => (hL q h).elim)) (by rw [hT', hT]))
    exact ⟨t2, st t2 a1, b1⟩
  · obtain ⟨t2, a1, b1⟩ := kx E ce q st₀ t T'.heap h0 e1.symm (by rw [← e2]; exact X'.warmed.alike) hx (by rw [e1]; exact hce) hcv hcl T' rfl (Stand.forget X' (fun q h => (hL q h).elim))
    exact ⟨t2, st.trans a1, b1⟩
/-- .. and returns an int -/
theorem qb_callSi {post : Int32 → Prop} (hr : vx_Run p l e R s m args below meth c H locs cells slots mc ms (F0 m pc ls st0) rest (vp_Si post a) XC (fun _ => False))
    (kx : ∀ (E : String) (ce : Cell) (q9 : Addr) (st t : State) (H1 : Heap), st.heap = H → t.heap = H1 → s.vm.Alike t.vm → XC E st t → H1[q9]? = some ce → ce.vm = .none → s.vm.findClass E = some ce.cls → vx_W p l e R s m args below meth c H1 locs (cells + mc) (slots + ms) Q (F0 m pc ls rest) q9)
    (kk : ∀ r : Int32, post r → W p l e R s m args below meth c H locs cells slots Q (F0 m (pc + 3) ls (.int r :: rest))) : W p l e R s m args below meth c H locs cells slots Q (F0 m pc ls st0) := by
  intro T hT X
  rcases hr T hT X with ⟨v, st₀, t, T', L, h0, X', hL, e1, e2, ⟨r, hv, hp, hh⟩, st⟩ | ⟨q, st₀, t, T', L, E, ce, h0, X', hL, e1, e2, hx, hce, hcv, hcl, st⟩
  · cases hv
    have hT' : T'.heap = H := by rw [e1, hh, h0]
    obtain ⟨t2, a1, b1⟩ := kk r hp T' hT' (qb_tight X (Stand.forget X' (fun q h => (hL q h).elim)) (by rw [hT', hT]))
    exact ⟨t2, st t2 a1, b1⟩
  · obtain ⟨t2, a1, b1⟩ := kx E ce q st₀ t T'.heap h0 e1.symm (by rw [← e2]; exact X'.warmed.alike) hx (by rw [e1]; exact hce) hcv hcl T' rfl (Stand.forget X' (fun q h => (hL q h).elim))
    exact ⟨t2, st.trans a1, b1⟩
end QB
/-- the text constants of the class, by their places -/
def qStr : List (Nat × String) := [(66, "there is a member with this key"), (74, "there are 40 members"), (99, "it is the last key of its range"), (104, "the range is moved"), (106, "there are 8 ranges"), (117, "there is no next range"), (122, "the ranges are in different shards"), (124, "one of the ranges is moved"), (132, "the range is moved already"), (134, "the range is in this shard"), (164, "a roll is laid"), (169, "the key is not on a roll that is laid"), (177, "the latest ballot was returned"), (182, "there are 60 ballots"), (190, "the ballot is replaced or returned"), (195, "the vote of the ballot is closed"), (197, "no roll is laid"), (213, "no such key"), (216, "no such shard"), (218, "no such district"), (220, "no such range"), (222, "no such ballot"), (226, "the address is out of range"), (229, "the choice is out of range"), (231, "there is no member with this key"), (233, "the range is not moved")]
def qEx : List String := ["java/lang/IndexOutOfBoundsException", "java/lang/IllegalArgumentException", "java/lang/IllegalStateException"]
def qDe : List String := ["java/lang/RuntimeException", "java/lang/Exception", "java/lang/Throwable"]
theorem qNw_warmD {x : MethodName} {s U : State} (hW : s.WarmedH U.vm) (hZ : va_Nw (.declares x) s) : va_Nw (.declares x) U := va_tabs rfl (rfl : (s.setVm U.vm).vm = U.vm) (by rw [Cond.declares_setVm hW.alike]; exact hZ)
/-- what a throw needs of the start -/
def qTH (U : State) : Prop := vx_Zq Bundle.tN "UNASSIGNED_STACK" Bundle.steD (fun _ => False) U U.heap ∧ vx_Zq Bundle.tN "SUPPRESSED_SENTINEL" Bundle.listD (fun _ => False) U U.heap ∧ (∀ q ∈ qStr, ∃ sa : Nat, vk_R RX0 q.1 q.2 sa U) ∧ (∀ E ∈ qEx, va_Nw (.castable E E) U) ∧ ∀ Y ∈ qDe, va_Nw (.declares (Bundle.initS Y)) U
theorem qTH_at {s U : State} (h : qTH s) (hU : U.heap = s.heap) (hW : s.WarmedH U.vm) : qTH U := ⟨by rw [hU]; exact vx_Zq.moved hW.alike h.1, by rw [hU]; exact vx_Zq.moved hW.alike h.2.1, fun q hq => by obtain ⟨sa, h1⟩ := h.2.2.1 q hq; exact ⟨sa, vk_R.warm hW h1⟩, fun E hE => va_Nw.warmC hW (h.2.2.2.1 E hE), fun Y hY => qNw_warmD hW (h.2.2.2.2 Y hY)⟩
theorem qTH_call {U : State} {g : JFrame} {mk : MethodId} {a : Array Value} (h : qTH U) : qTH (U.calling g mk a) := ⟨vx_Zq.moved (u := U) (U := U.calling g mk a) (Vm.Alike.refl U.vm) h.1, vx_Zq.moved (u := U) (U := U.calling g mk a) (Vm.Alike.refl U.vm) h.2.1, fun q hq => by obtain ⟨sa, h1⟩ := h.2.2.1 q hq; exact ⟨sa, vk_R.same (u := U) (U := U.calling g mk a) rfl h1⟩, fun E hE => va_tabs (u := U) (U := U.calling g mk a) rfl rfl (h.2.2.2.1 E hE), fun Y hY => va_tabs (u := U) (U := U.calling g mk a) rfl rfl (h.2.2.2.2 Y hY)⟩
abbrev qTy (cA cZ cL : ClassId) : List (ClassId × FieldType) := [(cA, .int), (cZ, .boolean), (cL, .long)]
def qPre (D : va_G) (tys : List (ClassId × FieldType)) (ws : va_W) : State → Prop := fun U => va_P D vwCl ws U.heap ∧ va_K D vwCl tys U
def qPreT (D : va_G) (tys : List (ClassId × FieldType)) (ws : va_W) : State → Prop := fun U => va_P D vwCl ws U.heap ∧ va_K D vwCl tys U ∧ qTH U
def qPreW (D : va_G) (tys : List (ClassId × FieldType)) (ws : va_W) (sz : Nat) : State → Prop := fun U => U.heap.size = sz ∧ va_P D vwCl ws U.heap ∧ va_K D vwCl tys U ∧ va_D (fun _ => True) ws
def qPreX (D : va_G) (tys : List (ClassId × FieldType)) (ws : va_W) (sz : Nat) : State → Prop := fun U => U.heap.size = sz ∧ va_P D vwCl ws U.heap ∧ va_K D vwCl tys U ∧ va_D (fun _ => True) ws ∧ qTH U
section QP
variable {D : va_G} {tys : List (ClassId × FieldType)} {ws : va_W} {av : List Value} {s : State} {H : Heap} {A : Nat → Prop}
theorem qN_blind : FrameBlind (va_Pc av (fun _ => True)) := fun a U g mk q => ⟨q.1, trivial⟩
theorem qN_at : ∀ U : State, U.heap = H → s.WarmedH U.vm → va_Pc av (fun _ => True) av.toArray U := fun U hU hW => ⟨rfl, trivial⟩
theorem qTH_blind : FrameBlind (va_Pc av qTH) := fun a U g mk q => ⟨q.1, qTH_call q.2⟩
theorem qTH_pc (hT : qTH s) (hH : H = s.heap) : ∀ U : State, U.heap = H → s.WarmedH U.vm → va_Pc av qTH av.toArray U := fun U hU hW => ⟨rfl, qTH_at hT (hU.trans hH) hW⟩
theorem qPre_blind : FrameBlind (va_Pc av (qPre D tys ws)) := fun a U g mk q => ⟨q.1, q.2.1, va_K.moved (u := U) (U := U.calling g mk a) (Vm.Alike.refl U.vm) q.2.2⟩
theorem qPre_at (hP : va_P D vwCl ws H) (hK : va_K D vwCl tys s) : ∀ U : State, U.heap = H → s.WarmedH U.vm → va_Pc av (qPre D tys ws) av.toArray U := fun U hU hW => ⟨rfl, by rw [hU]; exact hP, va_K.moved hW.alike hK⟩
theorem qPreT_blind : FrameBlind (va_Pc av (qPreT D tys ws)) := fun a U g mk q => ⟨q.1, q.2.1, va_K.moved (u := U) (U := U.calling g mk a) (Vm.Alike.refl U.vm) q.2.2.1, qTH_call q.2.2.2⟩
theorem qPreT_at (hP : va_P D vwCl ws H) (hK : va_K D vwCl tys s) (hT : qTH s) (hH : H = s.heap) : ∀ U : State, U.heap = H → s.WarmedH U.vm → va_Pc av (qPreT D tys ws) av.toArray U := fun U hU hW => ⟨rfl, by rw [hU]; exact hP, va_K.moved hW.alike hK, qTH_at hT (hU.trans hH) hW⟩
theorem qPreW_blind {sz : Nat} : FrameBlind (va_Pc av (qPreW D tys ws sz)) := fun a U g mk q => ⟨q.1, q.2.1, q.2.2.1, va_K.moved (u := U) (U := U.calling g mk a) (Vm.Alike.refl U.vm) q.2.2.2.1, q.2.2.2.2⟩
theorem qPreW_at (hP : va_P D vwCl ws H) (hK : va_K D vwCl tys s) (hD : va_D A ws) : ∀ U : State, U.heap = H → s.WarmedH U.vm → va_Pc av (qPreW D tys ws H.size) av.toArray U := fun U hU hW => ⟨rfl, by rw [hU], by rw [hU]; exact hP, va_K.moved hW.alike hK, hD.weaken (fun _ _ _ _ => trivial)⟩
theorem qPreX_blind {sz : Nat} : FrameBlind (va_Pc av (qPreX D tys ws sz)) := fun a U g mk q => ⟨q.1, q.2.1, q.2.2.1, va_K.moved (u := U) (U := U.calling g mk a) (Vm.Alike.refl U.vm) q.2.2.2.1, q.2.2.2.2.1, qTH_call q.2.2.2.2.2⟩
theorem qPreX_at (hP : va_P D vwCl ws H) (hK : va_K D vwCl tys s) (hD : va_D A ws) (hT : ∀ U : State, U.heap = H → s.WarmedH U.vm → qTH U) : ∀ U : State, U.heap = H → s.WarmedH U.vm → va_Pc av (qPreX D tys ws H.size) av.toArray U := fun U hU hW => ⟨rfl, by rw [hU], by rw [hU]; exact hP, va_K.moved hW.alike hK, hD.weaken (fun _ _ _ _ => trivial), hT U hU hW⟩
theorem qF_of {A0 : Nat → Prop} {H0 : Heap} {locs : List Loc} (hD : va_D A0 ws) (hS : va_S A0 H0 H locs) (hA : ∀ q, H0.size ≤ q → A0 q) : ∀ q, va_A ws H.size q → A0 q := by
  intro q h
  rcases h with ⟨k, e, h⟩ | h
  · exact hD.2 k _ h
  · exact hA q (Nat.le_trans hS.1 h)
end QP
/-- what a throw leaves: the class's name by P; the old heap is as it was -/
def qX (P : String → Prop) : String → State → State → Prop := fun E st t => P E ∧ st.heap.size ≤ t.heap.size ∧ ∀ q : Nat, q < st.heap.size → t.heap[q]? = st.heap[q]?
section QC
variable {p : Program} {l : Launch} {e : Env} {R : Room} {s : State} {m : MethodId} {args : Array Value} {below : List Frame} {meth : Method} {c : Code} {H : Heap} {locs : List Loc} {cells slots mc ms : Nat} {Q : State → Prop} {pc : Nat} {ls : Array Slot} {st0 rest : List Value} {a : Array Value}
variable {D : va_G} {ws : va_W} {A0 : Nat → Prop} {H0 : Heap}
abbrev qAt {S : Type} (D : va_G) (A : Nat → Prop) (wf : S → va_W) : S → State → Prop := fun u t => va_P D vwCl (wf u) t.heap ∧ va_D A (wf u)
/-- a call that may write the whole world -/
theorem qb_calli {S : Type} {post : Int32 → S → Prop} {wf : S → va_W} (hr : va_Run p l e R s m args below meth c H locs cells slots mc ms (F0 m pc ls st0) rest (va_Qi post (qAt D (va_A ws H.size) wf) (va_A ws H.size) a) (va_A ws H.size)) (hD : va_D A0 ws) (hS : va_S A0 H0 H locs) (hA : ∀ q, H0.size ≤ q → A0 q)
    (kk : ∀ (r : Int32) (u : S) (H1 : Heap) (locs1 : List Loc), post r u → va_P D vwCl (wf u) H1 → va_D A0 (wf u) → va_S A0 H0 H1 locs1 → W p l e R s m args below meth c H1 locs1 (cells + mc) (slots + ms) Q (F0 m (pc + 3) ls (.int r :: rest))) : W p l e R s m args below meth c H locs cells slots Q (F0 m pc ls st0) :=
  va_calli hr hS (fun q _ h => qF_of hD hS hA q h) (qF_of hD hS hA) (fun r u t H1 locs1 ht hvm hw hB hz hk hS1 => by
    obtain ⟨h1, h2⟩ := hB
    rw [ht] at h1
    exact kk r u H1 locs1 hw h1 (h2.weaken (fun _ _ _ h => qF_of hD hS hA _ h)) hS1)
theorem qb_callv {S : Type} {post : S → Prop} {wf : S → va_W} (hr : va_Run p l e R s m args below meth c H locs cells slots mc ms (F0 m pc ls st0) rest (va_Qv post (qAt D (va_A ws H.size) wf) (va_A ws H.size) a) (va_A ws H.size)) (hD : va_D A0 ws) (hS : va_S A0 H0 H locs) (hA : ∀ q, H0.size ≤ q → A0 q)
    (kk : ∀ (u : S) (H1 : Heap) (locs1 : List Loc), post u → va_P D vwCl (wf u) H1 → va_D A0 (wf u) → va_S A0 H0 H1 locs1 → W p l e R s m args below meth c H1 locs1 (cells + mc) (slots + ms) Q (F0 m (pc + 3) ls rest)) : W p l e R s m args below meth c H locs cells slots Q (F0 m pc ls st0) :=
  va_callv hr hS (fun q _ h => qF_of hD hS hA q h) (qF_of hD hS hA) (fun u t H1 locs1 ht hvm hw hB hz hk hS1 => by
    obtain ⟨h1, h2⟩ := hB
    rw [ht] at h1
    exact kk u H1 locs1 hw h1 (h2.weaken (fun _ _ _ h => qF_of hD hS hA _ h)) hS1)
/-- a call that may write a part of the world: the rest stays -/
theorem qb_calliP {S : Type} {post : Int32 → S → Prop} {wf : S → va_W} {wc wr : va_W} (isC isR : List Nat) (hC : isC.map (fun i => ws[i]?) = wc.map some) (hR : isR.map (fun i => ws[i]?) = wr.map some) (hn : va_nd isR = true) (hdis : ∀ i ∈ isR, i ∉ isC) (hP : va_P D vwCl ws H)
    (hr : va_Run p l e R s m args below meth c H locs cells slots mc ms (F0 m pc ls st0) rest (va_Qi post (qAt D (va_A wc H.size) wf) (va_A wc H.size) a) (va_A wc H.size)) (hD : va_D A0 ws) (hS : va_S A0 H0 H locs) (hA : ∀ q, H0.size ≤ q → A0 q)
    (kk : ∀ (r : Int32) (u : S) (H1 : Heap) (locs1 : List Loc), post r u → va_P D vwCl (wr ++ wf u) H1 → va_D A0 (wr ++ wf u) → va_S A0 H0 H1 locs1 → W p l e R s m args below meth c H1 locs1 (cells + mc) (slots + ms) Q (F0 m (pc + 3) ls (.int r :: rest))) : W p l e R s m args below meth c H locs cells slots Q (F0 m pc ls st0) :=
  have hF : ∀ q, va_A wc H.size q → A0 q := va_free hD hS hA isC hC
  va_calli hr hS (fun q _ h => hF q h) hF (fun r u t H1 locs1 ht hvm hw hB hz hk hS1 => by
    obtain ⟨h1, h2⟩ := hB
    rw [ht] at h1
    obtain ⟨g1, g2⟩ := va_join hP hD isC isR hC hR hn hdis hk hF h1 h2
    exact kk r u H1 locs1 hw g1 g2 hS1)
theorem qb_callvP {S : Type} {post : S → Prop} {wf : S → va_W} {wc wr : va_W} (isC isR : List Nat) (hC : isC.map (fun i => ws[i]?) = wc.map some) (hR : isR.map (fun i => ws[i]?) = wr.map some) (hn : va_nd isR = true) (hdis : ∀ i ∈ isR, i ∉ isC) (hP : va_P D vwCl ws H)
    (hr : va_Run p l e R s m args below meth c H locs cells slots mc ms (F0 m pc ls st0) rest (va_Qv post (qAt D (va_A wc H.size) wf) (va_A wc H.size) a) (va_A wc H.size)) (hD : va_D A0 ws) (hS : va_S A0 H0 H locs) (hA : ∀ q, H0.size ≤ q → A0 q)
    (kk : ∀ (u : S) (H1 : Heap) (locs1 : List Loc), post u → va_P D vwCl (wr ++ wf u) H1 → va_D A0 (wr ++ wf u) → va_S A0 H0 H1 locs1 → W p l e R s m args below meth c H1 locs1 (cells + mc) (slots + ms) Q (F0 m (pc + 3) ls rest)) : W p l e R s m args below meth c H locs cells slots Q (F0 m pc ls st0) :=
  have hF : ∀ q, va_A wc H.size q → A0 q := va_free hD hS hA isC hC
  va_callv hr hS (fun q _ h => hF q h) hF (fun u t H1 locs1 ht hvm hw hB hz hk hS1 => by
    obtain ⟨h1, h2⟩ := hB
    rw [ht] at h1
    obtain ⟨g1, g2⟩ := va_join hP hD isC isR hC hR hn hdis hk hF h1 h2
    exact kk u H1 locs1 hw g1 g2 hS1)
end QC
/-! the two worlds: numbers by the field's place (f), rows by the field's place (g), addresses of rows by the same, the object itself behind -/
abbrev qFs : Type := Nat → Int32
abbrev qGs : Type := Nat → Nat → Int32
def xFs (ad : Nat → Nat) (f : qFs) : List Value := [.ref (ad 0), .int (f 1), .ref (ad 2), .ref (ad 3), .ref (ad 4), .int (f 5), .ref (ad 6), .int (f 7), .int (f 8), .ref (ad 9), .ref (ad 10), .ref (ad 11), .ref (ad 12), .ref (ad 13), .ref (ad 14), .int (f 15)]
def xW (cA : ClassId) (ad : Nat → Nat) (f : qFs) (g : qGs) : va_W := [(ad 16, .inr (0, xFs ad f)), (ad 0, .inl (cA, 400, .inl (g 0))), (ad 2, .inl (cA, 8, .inl (g 2))), (ad 3, .inl (cA, 8, .inl (g 3))), (ad 4, .inl (cA, 8, .inl (g 4))), (ad 6, .inl (cA, 100, .inl (g 6))), (ad 9, .inl (cA, 60, .inl (g 9))), (ad 10, .inl (cA, 60, .inl (g 10))), (ad 11, .inl (cA, 60, .inl (g 11))), (ad 12, .inl (cA, 60, .inl (g 12))), (ad 13, .inl (cA, 60, .inl (g 13))), (ad 14, .inl (cA, 60, .inl (g 14)))]
def mFs (ad : Nat → Nat) (f : qFs) : List Value := [.int (f 0), .ref (ad 1), .int (f 2), .int (f 3), .ref (ad 4), .ref (ad 5), .ref (ad 6), .ref (ad 7), .int (f 8), .int (f 9), .ref (ad 10), .ref (ad 11), .int (f 12), .ref (ad 13), .ref (ad 14), .ref (ad 15), .ref (ad 16), .ref (ad 17)]
def mW (cA cZ : ClassId) (ad : Nat → Nat) (f : qFs) (g : qGs) : va_W := [(ad 18, .inr (1, mFs ad f)), (ad 1, .inl (cA, 100, .inl (g 1))), (ad 4, .inl (cA, 9, .inl (g 4))), (ad 5, .inl (cA, 9, .inl (g 5))), (ad 6, .inl (cA, 9, .inl (g 6))), (ad 7, .inl (cZ, 100, .inl (g 7))), (ad 10, .inl (cA, 100, .inl (g 10))), (ad 11, .inl (cA, 100, .inl (g 11))), (ad 13, .inl (cA, 60, .inl (g 13))), (ad 14, .inl (cA, 60, .inl (g 14))), (ad 15, .inl (cA, 60, .inl (g 15))), (ad 16, .inl (cA, 60, .inl (g 16))), (ad 17, .inl (cA, 12, .inl (g 17)))]
/-- a truth as the machine holds it -/
def bI (P : Prop) [Decidable P] : Int32 := if P then 1 else 0
theorem bI_0 {P : Prop} [Decidable P] : bI P = 0 ↔ ¬ P := by unfold bI; by_cases h : P <;> simp [h]
theorem bI_n {P : Prop} [Decidable P] : ¬ bI P = 0 ↔ P := by unfold bI; by_cases h : P <;> simp [h]
theorem bI_t {P : Prop} [Decidable P] (h : P) : bI P = 1 := by simp [bI, h]
theorem bI_f {P : Prop} [Decidable P] (h : ¬ P) : bI P = 0 := by simp [bI, h]
theorem bI_nar {P : Prop} [Decidable P] : narrow .boolean (.int (bI P)) = .int (bI P) := by unfold bI; by_cases h : P <;> simp [h] <;> rfl
theorem ar_noT {P : String → Prop} {st t : State} {E : String} (h1 : P E) (h2 : st.heap.size ≤ t.heap.size) (h3 : ∀ q : Nat, q < st.heap.size → t.heap[q]? = st.heap[q]?) : qX P E st t := ⟨h1, h2, h3⟩
def qBad (E : String) : List Cond := [Cond.castable E E, Cond.declares (Bundle.initS "java/lang/RuntimeException"), Cond.declares (Bundle.initS "java/lang/Exception"), Cond.declares (Bundle.initS "java/lang/Throwable")]
theorem qBad_of {args : Array Value} {s : State} (h : qTH s) {E : String} (hE : E ∈ qEx) : ∀ w ∈ qBad E, w.before args s = true := by
  intro w hw
  have hc := h.2.2.2.1 E hE
  have hd := h.2.2.2.2
  rcases List.mem_cons.mp hw with rfl | hw
  · exact va_Nw.use (A := args) rfl hc
  · rcases List.mem_cons.mp hw with rfl | hw
    · exact va_Nw.use (A := args) rfl (hd _ (by decide))
    · rcases List.mem_cons.mp hw with rfl | hw
      · exact va_Nw.use (A := args) rfl (hd _ (by decide))
      · rcases List.mem_cons.mp hw with rfl | hw
        · exact va_Nw.use (A := args) rfl (hd _ (by decide))
        · cases hw
end
section
/-! what the class's small methods answer, in the words of its state -/
theorem qw1 : ∀ w ∈ (vx_atS RX0 215 "java/lang/IndexOutOfBoundsException" ["java/lang/RuntimeException", "java/lang/Exception"]).filter (fun w => !goodWord w), w ∈ qBad "java/lang/IndexOutOfBoundsException" := by decide +kernel
theorem qw2 : ∀ w ∈ (vx_atS RX0 228 "java/lang/IllegalArgumentException" ["java/lang/RuntimeException", "java/lang/Exception"]).filter (fun w => !goodWord w), w ∈ qBad "java/lang/IllegalArgumentException" := by decide +kernel
theorem qw3 : ∀ w ∈ (vx_atS RX0 68 "java/lang/IllegalStateException" ["java/lang/RuntimeException", "java/lang/Exception"]).filter (fun w => !goodWord w), w ∈ qBad "java/lang/IllegalStateException" := by decide +kernel
theorem qg1 : ∀ w ∈ Cond.classLink RX0 211 "java/lang/IndexOutOfBoundsException" :: Cond.initialized "java/lang/IndexOutOfBoundsException" :: vx_atS RX0 215 "java/lang/IndexOutOfBoundsException" ["java/lang/RuntimeException", "java/lang/Exception"], vx_ot w = true := by decide +kernel
theorem qg2 : ∀ w ∈ Cond.classLink RX0 224 "java/lang/IllegalArgumentException" :: Cond.initialized "java/lang/IllegalArgumentException" :: vx_atS RX0 228 "java/lang/IllegalArgumentException" ["java/lang/RuntimeException", "java/lang/Exception"], vx_ot w = true := by decide +kernel
theorem qg3 : ∀ w ∈ Cond.classLink RX0 64 "java/lang/IllegalStateException" :: Cond.initialized "java/lang/IllegalStateException" :: vx_atS RX0 68 "java/lang/IllegalStateException" ["java/lang/RuntimeException", "java/lang/Exception"], vx_ot w = true := by decide +kernel
theorem qX_pass {P P' : String → Prop} {E : String} {st s t t2 : State} {H H1 : Heap} (h : qX P E st t) (hst : st.heap = H) (hH : H = s.heap) (ht : t.heap = H1) (h2 : t2.heap = H1) (hp : P E → P' E) : qX P' E s t2 := by
  obtain ⟨a, b, c⟩ := h
  rw [hst, hH, ht, ← h2] at b c
  exact ⟨hp a, b, c⟩
theorem n_lt {a b : Nat} (h : ¬ nI b ≤ nI a) (ha : a < 2 ^ 31) : a < b := by
  rcases Nat.lt_or_ge a b with q | q
  · exact q
  · exact absurd (nI_le q ha) h
theorem n_ge {a b : Nat} (h : nI b ≤ nI a) (ha : a < 2 ^ 31) (hb : b < 2 ^ 31) : b ≤ a := (nI_leI hb ha).mp h
abbrev xKey (k : Int32) : Prop := 0 ≤ k ∧ k < 100
abbrev xShard (s : Int32) : Prop := 0 ≤ s ∧ s < 4
abbrev xRange (f : qFs) (r : Int32) : Prop := 0 ≤ r ∧ r < f 5
abbrev xBallot (f : qFs) (b : Int32) : Prop := 0 ≤ b ∧ b < f 15
def xI (R B : Nat) (f : qFs) : Prop := f 5 = nI R ∧ 1 ≤ R ∧ R ≤ 8 ∧ f 15 = nI B ∧ B ≤ 60
theorem i_of {x : Int32} {n : Nat} (hn : n < 2 ^ 31) (h : ¬ x < 0) (h2 : ¬ nI n ≤ x) : vp_in x n := by
  rw [vp_in_iff]
  rw [fa_lt] at h
  rw [fa_le, nI_toInt hn] at h2
  have h0 : (0 : Int32).toInt = 0 := rfl
  omega
theorem i_and {a b x : Int32} (h1 : ¬ x < a) (h2 : ¬ b ≤ x) : a ≤ x ∧ x < b := by
  rw [fa_lt] at h1; rw [fa_le] at h2
  rw [fa_le, fa_lt]
  omega
theorem i_nl {a b x : Int32} (h : x < a) : ¬ (a ≤ x ∧ x < b) := fun q => by
  have h1 := q.1
  rw [fa_lt] at h; rw [fa_le] at h1
  omega
theorem i_nr {a b x : Int32} (h : b ≤ x) : ¬ (a ≤ x ∧ x < b) := fun q => by
  have h1 := q.2
  rw [fa_le] at h; rw [fa_lt] at h1
  omega
theorem i_in {x y : Int32} {n : Nat} (hn : n < 2 ^ 31) (h : 0 ≤ x ∧ x < y) (hy : y ≤ nI n) : vp_in x n := by
  rw [vp_in_iff]
  obtain ⟨h1, h2⟩ := h
  rw [fa_le] at h1 hy; rw [fa_lt] at h2; rw [nI_toInt hn] at hy
  have h0 : (0 : Int32).toInt = 0 := rfl
  omega
theorem x_in8 {R B : Nat} {f : qFs} {r : Int32} (hI : xI R B f) (h : xRange f r) : vp_in r 8 := i_in (by decide) h (by rw [hI.1]; exact nI_le hI.2.2.1 (by decide))
theorem x_in60 {R B : Nat} {f : qFs} {r : Int32} (hI : xI R B f) (h : xBallot f r) : vp_in r 60 := i_in (by decide) h (by rw [hI.2.2.2.1]; exact nI_le hI.2.2.2.2 (by decide))
theorem x_inT {s k : Int32} (h1 : xShard s) (h2 : xKey k) : vp_in (s * 100 + k) 400 := by
  obtain ⟨a, ha, rfl⟩ := nI_of2 (x := s) (M := 3) (n := 3) rfl (fun q => by have h := h1.1; rw [fa_lt] at q; rw [fa_le] at h; omega) (by have h := h1.2; rw [fa_lt] at h; rw [fa_le]; have e1 : (4 : Int32).toInt = 4 := rfl; have e2 : (3 : Int32).toInt = 3 := rfl; omega)
  obtain ⟨b, hb, rfl⟩ := nI_of2 (x := k) (M := 99) (n := 99) rfl (fun q => by have h := h2.1; rw [fa_lt] at q; rw [fa_le] at h; omega) (by have h := h2.2; rw [fa_lt] at h; rw [fa_le]; have e1 : (100 : Int32).toInt = 100 := rfl; have e2 : (99 : Int32).toInt = 99 := rfl; omega)
  have e : nI a * 100 + nI b = nI (a * 100 + b) := by
    rw [show (100 : Int32) = nI 100 from rfl, pk_mul, nI_add]
  rw [e]
  exact vp_in_nI (by omega) (by decide)
def xHome (f : qFs) (g : qGs) (r : Int32) : Int32 := if xRange f r then g 3 r.toNatClampNeg else -1
def xTarg (f : qFs) (g : qGs) (r : Int32) : Int32 := if xRange f r then g 4 r.toNatClampNeg else -1
def xLast (f : qFs) (g : qGs) (r : Int32) : Int32 := if xRange f r then g 2 r.toNatClampNeg else -1
def xFirst (f : qFs) (g : qGs) (r : Int32) : Int32 := if r = 0 then 0 else xLast f g (r - 1) + 1
def xRowOf (g : qGs) (s k : Int32) : Int32 := if xShard s ∧ xKey k then g 0 (s * 100 + k).toNatClampNeg else -1
def xHoldN (last : Nat → Int32) (k : Int32) : Nat → Nat → Nat
  | i, 0 => i
  | i, n + 1 => if k ≤ last i then i else xHoldN last k (i + 1) n
def xHold (R : Nat) (g : qGs) (k : Int32) : Nat := xHoldN (g 2) k 0 (R - 1)
def xRead (R : Nat) (f : qFs) (g : qGs) (k : Int32) : Int32 := xRowOf g (xHome f g (nI (xHold R g k))) k
def xDist (a : Int32) : Int32 := if a = -1 then -1 else a / 10
def cntR (p : Nat → Bool) : Nat → Nat → Nat
  | _, 0 => 0
  | lo, n + 1 => (if p lo = true then 1 else 0) + cntR p (lo + 1) n
def cnt (p : Nat → Bool) (lo hi : Nat) : Nat := cntR p lo (hi - lo)
theorem cnt_end {p : Nat → Bool} {lo hi : Nat} (h : hi ≤ lo) : cnt p lo hi = 0 := by
  unfold cnt; rw [Nat.sub_eq_zero_of_le h]; rfl
theorem cnt_step {p : Nat → Bool} {lo hi : Nat} (h : lo < hi) : cnt p lo hi = (if p lo = true then 1 else 0) + cnt p (lo + 1) hi := by
  unfold cnt
  rw [show hi - lo = (hi - (lo + 1)) + 1 by omega]; rfl
theorem cnt_y {p : Nat → Bool} {lo hi : Nat} (h : lo < hi) (hp : p lo = true) : cnt p lo hi = 1 + cnt p (lo + 1) hi := by rw [cnt_step h, if_pos hp]
theorem cnt_n {p : Nat → Bool} {lo hi : Nat} (h : lo < hi) (hp : ¬ p lo = true) : cnt p lo hi = cnt p (lo + 1) hi := by rw [cnt_step h, if_neg hp, Nat.zero_add]
/-- one behind the last key up to l that there is -/
def hiOf (l : Int32) : Nat := if l < 0 then 0 else min (l.toNatClampNeg + 1) 100
theorem x_R1 {nR nB : Nat} {f : qFs} (hI : xI nR nB f) : f 5 - 1 = nI (nR - 1) := by
  rw [hI.1]; exact pk_sub (b := 1) hI.2.1
theorem x_B1 {nR nB : Nat} {f : qFs} (hI : xI nR nB f) : f 15 - 1 = nI nB - 1 := by rw [hI.2.2.2.1]
theorem xHold_y {last : Nat → Int32} {k : Int32} {i n : Nat} (h : i < n) (hk : k ≤ last i) : xHoldN last k i (n - i) = i := by
  rw [show n - i = (n - (i + 1)) + 1 by omega]
  show (if k ≤ last i then i else _) = i
  rw [if_pos hk]
theorem xHold_n {last : Nat → Int32} {k : Int32} {i n : Nat} (h : i < n) (hk : ¬ k ≤ last i) : xHoldN last k i (n - i) = xHoldN last k (i + 1) (n - (i + 1)) := by
  rw [show n - i = (n - (i + 1)) + 1 by omega]
  show (if k ≤ last i then i else _) = _
  rw [if_neg hk]
theorem xHold_e {last : Nat → Int32} {k : Int32} {i n : Nat} (h : n ≤ i) : xHoldN last k i (n - i) = i := by
  rw [Nat.sub_eq_zero_of_le h]; rfl
theorem hi_le (l : Int32) : hiOf l ≤ 100 := by unfold hiOf; split <;> omega
theorem hi_out {l : Int32} {k : Nat} (h : l < nI k) (hk : k < 2 ^ 31) : hiOf l ≤ k := by
  unfold hiOf
  split
  · omega
  · rename_i h0
    obtain ⟨j, hj, rfl⟩ := nI_of h0
    rw [nI_ltI hj hk] at h
    rw [nI_clamp hj]
    omega
theorem hi_in {l : Int32} {k : Nat} (h : ¬ l < nI k) (h2 : ¬ (100 : Int32) ≤ nI k) (hk : k < 2 ^ 31) : k < hiOf l := by
  have h3 : k < 100 := by
    rw [show (100 : Int32) = nI 100 from rfl, nI_leI (by decide) hk] at h2
    omega
  unfold hiOf
  split
  · rename_i h0
    exact absurd (by rw [fa_lt] at h0 ⊢; rw [nI_toInt hk]; have e0 : (0 : Int32).toInt = 0 := rfl; omega) h
  · rename_i h0
    obtain ⟨j, hj, rfl⟩ := nI_of h0
    rw [nI_ltI hj hk] at h
    rw [nI_clamp hj]
    omega
abbrev xOpen (f : qFs) (g : qGs) (b : Int32) : Prop := ¬ f 7 = 0 ∧ xBallot f b ∧ g 10 b.toNatClampNeg = f 8
def xLatN (p : Nat → Bool) : Nat → Int32
  | 0 => -1
  | n + 1 => if p n = true then nI n else xLatN p n
abbrev xLatP (f : qFs) (g : qGs) (k : Int32) : Nat → Bool := fun j => decide (xOpen f g (nI j) ∧ g 9 j = k)
abbrev xRowP (g : qGs) (sh : Int32) : Nat → Bool := fun j => decide (¬ xRowOf g sh (nI j) = -1)
def upN (p : Nat → Bool) : Nat → Nat → Int32
  | _, 0 => -1
  | lo, n + 1 => if p lo = true then nI lo else upN p (lo + 1) n
theorem upN_e {p : Nat → Bool} {lo hi : Nat} (h : hi ≤ lo) : upN p lo (hi - lo) = -1 := by rw [Nat.sub_eq_zero_of_le h]; rfl
theorem upN_y {p : Nat → Bool} {lo hi : Nat} (h : lo < hi) (hp : p lo = true) : upN p lo (hi - lo) = nI lo := by
  rw [show hi - lo = (hi - (lo + 1)) + 1 by omega]
  show (if p lo = true then _ else _) = _
  rw [if_pos hp]
theorem upN_n {p : Nat → Bool} {lo hi : Nat} (h : lo < hi) (hp : ¬ p lo = true) : upN p lo (hi - lo) = upN p (lo + 1) (hi - (lo + 1)) := by
  rw [show hi - lo = (hi - (lo + 1)) + 1 by omega]
  show (if p lo = true then _ else _) = _
  rw [if_neg hp]
abbrev xLowP (f : qFs) (g : qGs) (r : Int32) : Nat → Bool := fun j => decide (¬ xRowOf g (xHome f g r) (nI j) = -1 ∧ xRowOf g (xTarg f g r) (nI j) = -1)
theorem dt {P : Prop} [Decidable P] (h : P) : decide P = true := decide_eq_true h
theorem df {P : Prop} [Decidable P] (h : ¬ P) : ¬ decide P = true := fun q => h (of_decide_eq_true q)
theorem latN_out {i : Nat} (hi : i ≤ 60) (h : nI i - 1 < 0) : i = 0 := by
  cases i with
  | zero => rfl
  | succ j =>
    rw [nI_pred] at h
    exact absurd h (nI_pos (by omega))
theorem latN_in {i : Nat} (h : ¬ nI i - 1 < 0) : ∃ j, i = j + 1 := by
  cases i with
  | zero => exact absurd (by decide) h
  | succ j => exact ⟨j, rfl⟩
theorem up_self {α : Type} (g : Nat → α) (k : Nat) : va_up g k (g k) = g := by
  funext j
  unfold va_up
  split
  · rename_i h; rw [h]
  · rfl
def xPut (row : Nat → Int32) (sh k a : Int32) : Nat → Int32 := if xShard sh ∧ xKey k then upd row (sh * 100 + k).toNatClampNeg a else row
def xPutG (g : qGs) (sh k a : Int32) : qGs := va_up g 0 (xPut (g 0) sh k a)
def xWriteG (R : Nat) (f : qFs) (g : qGs) (k a : Int32) : qGs := xPutG (xPutG g (xHome f g (nI (xHold R g k))) k a) (xTarg f g (nI (xHold R g k))) k a
def xDropN (sh : Int32) : qGs → Nat → Nat → qGs
  | g, _, 0 => g
  | g, lo, n + 1 => xDropN sh (xPutG g sh (nI lo) (-1)) (lo + 1) n
theorem xDropN_e {sh : Int32} {g : qGs} {lo hi : Nat} (h : hi ≤ lo) : xDropN sh g lo (hi - lo) = g := by rw [Nat.sub_eq_zero_of_le h]; rfl
theorem xDropN_s {sh : Int32} {g : qGs} {lo hi : Nat} (h : lo < hi) : xDropN sh g lo (hi - lo) = xDropN sh (xPutG g sh (nI lo) (-1)) (lo + 1) (hi - (lo + 1)) := by
  rw [show hi - lo = (hi - (lo + 1)) + 1 by omega]; rfl
def xCopyG (g : qGs) (i j : Nat) : qGs := va_up (va_up (va_up g 2 (upd (g 2) j (g 2 i))) 3 (upd (g 3) j (g 3 i))) 4 (upd (g 4) j (g 4 i))
def xUpG (r : Nat) : qGs → Nat → qGs
  | g, 0 => g
  | g, n + 1 => xUpG r (xCopyG g (r + n) (r + n + 1)) n
def xDnG : qGs → Nat → Nat → qGs
  | g, _, 0 => g
  | g, t, n + 1 => xDnG (xCopyG g (t + 1) t) (t + 1) n
theorem xDnG_e {g : qGs} {lo hi : Nat} (h : hi ≤ lo) : xDnG g lo (hi - lo) = g := by rw [Nat.sub_eq_zero_of_le h]; rfl
theorem xDnG_s {g : qGs} {lo hi : Nat} (h : lo < hi) : xDnG g lo (hi - lo) = xDnG (xCopyG g (lo + 1) lo) (lo + 1) (hi - (lo + 1)) := by
  rw [show hi - lo = (hi - (lo + 1)) + 1 by omega]; rfl
theorem i_m1 (x : Int32) : x + Int32.ofInt (-1) = x - 1 := by rw [Int32.sub_eq_add_neg]; rfl
theorem i_p1 (x : Int32) : x + Int32.ofInt 1 = x + 1 := rfl
end
section
set_option maxHeartbeats 4000000 in
set_option maxRecDepth 100000 in
/-- a key -/
theorem c_X0_isKey (l : Launch) (k : Int32) : Met l yX0_isKey wsX0_isKey ({ frames := 0, cells := 0, slots := 0, locals := 0 } : Room) (va_Pc [.int k] (fun _ => True)) (vp_Si (fun z => z = bI (xKey k))) 0 0 (fun _ => False) := by
  refine Met.ofW (cc := cX0_isKey) (maxL := 1) (ret := (some .boolean)) (by decide) rfl ?_
  intro p e s m args below meth c s₁ B hml hv
  obtain ⟨rfl, -⟩ := hv
  have hx := B.exec
  have hb := B.bytes
  have hr := B.returns
  have hts := atoms_spec (ws := wsX0_isKey) B.pre
  have hown : s.vm.findClass RX0 = some m.cls := findClass_of_methodNamed B.named
  have hlocks := B.notSynchronized
  have hl := lv_entry ([.int k]) (n := 1) (Nat.le_of_ble_eq_true rfl)
  rw [lg_entry_eq]
  generalize (lg_sl ([.int k]) ++ List.replicate (1 - (lg_sl ([.int k])).length) Slot.unset).toArray = ls at hl ⊢
  have hl : lv_has ls 1 [(0, .int k)] := hl
  refine lv_iload_n hx hb dX0_isKey_0 rfl (lv_at hl 0 rfl) ?_
  refine lv_if_lt (tgt := 14) hx hb dX0_isKey_1 (by decide) (fun c_1 => ?_) (fun c_1 => ?_)
  · skip
    refine lv_iconst (v := 0) hx hb dX0_isKey_14 (by decide) ?_
    exact W.zret (v := 0) hx hb hr rfl (fun t ht hW => ⟨0, rfl, (bI_f (i_nl c_1)).symm, ht⟩) (fun q h => nomatch h) dX0_isKey_15
  · skip
    refine lv_iload_n hx hb dX0_isKey_4 rfl (lv_at hl 0 rfl) ?_
    refine lv_bipush (v := 100) hx hb dX0_isKey_5 (by decide) ?_
    refine lv_icmp_ge (tgt := 14) hx hb dX0_isKey_7 (by decide) (fun c_7 => ?_) (fun c_7 => ?_)
    · skip
      refine lv_iconst (v := 0) hx hb dX0_isKey_14 (by decide) ?_
      exact W.zret (v := 0) hx hb hr rfl (fun t ht hW => ⟨0, rfl, (bI_f (i_nr c_7)).symm, ht⟩) (fun q h => nomatch h) dX0_isKey_15
    · skip
      refine lv_iconst (v := 1) hx hb dX0_isKey_10 (by decide) ?_
      refine lv_goto (tgt := 15) hx hb dX0_isKey_11 (by decide) ?_
      exact W.zret (v := 1) hx hb hr rfl (fun t ht hW => ⟨1, rfl, (bI_t (i_and c_1 c_7)).symm, ht⟩) (fun q h => nomatch h) dX0_isKey_15
set_option maxHeartbeats 4000000 in
set_option maxRecDepth 100000 in
/-- a shard -/
theorem c_X0_isShard (l : Launch) (k : Int32) : Met l yX0_isShard wsX0_isShard ({ frames := 0, cells := 0, slots := 0, locals := 0 } : Room) (va_Pc [.int k] (fun _ => True)) (vp_Si (fun z => z = bI (xShard k))) 0 0 (fun _ => False) := by
  refine Met.ofW (cc := cX0_isShard) (maxL := 1) (ret := (some .boolean)) (by decide) rfl ?_
  intro p e s m args below meth c s₁ B hml hv
  obtain ⟨rfl, -⟩ := hv
  have hx := B.exec
  have hb := B.bytes
  have hr := B.returns
  have hts := atoms_spec (ws := wsX0_isShard) B.pre
  have hown : s.vm.findClass RX0 = some m.cls := findClass_of_methodNamed B.named
  have hlocks := B.notSynchronized
  have hl := lv_entry ([.int k]) (n := 1) (Nat.le_of_ble_eq_true rfl)
  rw [lg_entry_eq]
  generalize (lg_sl ([.int k]) ++ List.replicate (1 - (lg_sl ([.int k])).length) Slot.unset).toArray = ls at hl ⊢
  have hl : lv_has ls 1 [(0, .int k)] := hl
  refine lv_iload_n hx hb dX0_isShard_0 rfl (lv_at hl 0 rfl) ?_
  refine lv_if_lt (tgt := 13) hx hb dX0_isShard_1 (by decide) (fun c_1 => ?_) (fun c_1 => ?_)
  · skip
    refine lv_iconst (v := 0) hx hb dX0_isShard_13 (by decide) ?_
    exact W.zret (v := 0) hx hb hr rfl (fun t ht hW => ⟨0, rfl, (bI_f (i_nl c_1)).symm, ht⟩) (fun q h => nomatch h) dX0_isShard_14
  · skip
    refine lv_iload_n hx hb dX0_isShard_4 rfl (lv_at hl 0 rfl) ?_
    refine lv_iconst (v := 4) hx hb dX0_isShard_5 (by decide) ?_
    refine lv_icmp_ge (tgt := 13) hx hb dX0_isShard_6 (by decide) (fun c_6 => ?_) (fun c_6 => ?_)
    · skip
      refine lv_iconst (v := 0) hx hb dX0_isShard_13 (by decide) ?_
      exact W.zret (v := 0) hx hb hr rfl (fun t ht hW => ⟨0, rfl, (bI_f (i_nr c_6)).symm, ht⟩) (fun q h => nomatch h) dX0_isShard_14
    · skip
      refine lv_iconst (v := 1) hx hb dX0_isShard_9 (by decide) ?_
      refine lv_goto (tgt := 14) hx hb dX0_isShard_10 (by decide) ?_
      exact W.zret (v := 1) hx hb hr rfl (fun t ht hW => ⟨1, rfl, (bI_t (i_and c_1 c_6)).symm, ht⟩) (fun q h => nomatch h) dX0_isShard_14
set_option maxHeartbeats 4000000 in
set_option maxRecDepth 100000 in
/-- the district of an address -/
theorem c_X0_districtOf (l : Launch) (a : Int32) : Met l yX0_districtOf wsX0_districtOf ({ frames := 0, cells := 0, slots := 0, locals := 0 } : Room) (va_Pc [.int a] (fun _ => True)) (vp_Si (fun z => z = xDist a)) 0 0 (fun _ => False) := by
  refine Met.ofW (cc := cX0_districtOf) (maxL := 1) (ret := (some .int)) (by decide) rfl ?_
  intro p e s m args below meth c s₁ B hml hv
  obtain ⟨rfl, -⟩ := hv
  have hx := B.exec
  have hb := B.bytes
  have hr := B.returns
  have hts := atoms_spec (ws := wsX0_districtOf) B.pre
  have hown : s.vm.findClass RX0 = some m.cls := findClass_of_methodNamed B.named
  have hlocks := B.notSynchronized
  have hl := lv_entry ([.int a]) (n := 1) (Nat.le_of_ble_eq_true rfl)
  rw [lg_entry_eq]
  generalize (lg_sl ([.int a]) ++ List.replicate (1 - (lg_sl ([.int a])).length) Slot.unset).toArray = ls at hl ⊢
  have hl : lv_has ls 1 [(0, .int a)] := hl
  refine lv_iload_n hx hb dX0_districtOf_0 rfl (lv_at hl 0 rfl) ?_
  refine lv_iconst (v := (-1)) hx hb dX0_districtOf_1 (by decide) ?_
  refine lv_icmp_ne (tgt := 9) hx hb dX0_districtOf_2 (by decide) (fun c_2 => ?_) (fun c_2 => ?_)
  · skip
    refine lv_iload_n hx hb dX0_districtOf_9 rfl (lv_at hl 0 rfl) ?_
    refine lv_bipush (v := 10) hx hb dX0_districtOf_10 (by decide) ?_
    refine lv_idiv hx hb dX0_districtOf_12 (by decide) ?_
    exact W.iret (v := a / 10) hx hb hr (fun t ht hW => ⟨a / 10, rfl, (by unfold xDist; rw [if_neg c_2]), ht⟩) (fun q h => nomatch h) dX0_districtOf_13
  · skip
    refine lv_iconst (v := (-1)) hx hb dX0_districtOf_5 (by decide) ?_
    refine lv_goto (tgt := 13) hx hb dX0_districtOf_6 (by decide) ?_
    exact W.iret (v := (-1)) hx hb hr (fun t ht hW => ⟨(-1), rfl, (by unfold xDist; rw [if_pos c_2]), ht⟩) (fun q h => nomatch h) dX0_districtOf_13
set_option maxHeartbeats 4000000 in
set_option maxRecDepth 100000 in
/-- a range -/
theorem c_X0_isRange (l : Launch) (D : va_G) (cA cZ cL : ClassId) (ad : Nat → Nat) (f : qFs) (g : qGs) (r : Int32) : Met l yX0_isRange wsX0_isRange ({ frames := 0, cells := 0, slots := 0, locals := 0 } : Room) (va_Pc [.ref (ad 16), .int r] (qPre D (qTy cA cZ cL) (xW cA ad f g))) (vp_Si (fun z => z = bI (xRange f r))) 0 0 (fun _ => False) := by
  refine Met.ofW (cc := cX0_isRange) (maxL := 2) (ret := (some .boolean)) (by decide) rfl ?_
  intro p e s m args below meth c s₁ B hml hv
  obtain ⟨rfl, hP, hK⟩ := hv
  have hx := B.exec
  have hb := B.bytes
  have hr := B.returns
  have hts := atoms_spec (ws := wsX0_isRange) B.pre
  have hown : s.vm.findClass RX0 = some m.cls := findClass_of_methodNamed B.named
  have hlocks := B.notSynchronized
  have hfin : ∀ w ∈ wsX00, w ∈ wsX0_isRange := fun w h => (List.mem_cons_of_mem _ (List.mem_append_right _ h))
  have hl := lv_entry ([.ref (ad 16), .int r]) (n := 2) (Nat.le_of_ble_eq_true rfl)
  rw [lg_entry_eq]
  generalize (lg_sl ([.ref (ad 16), .int r]) ++ List.replicate (2 - (lg_sl ([.ref (ad 16), .int r])).length) Slot.unset).toArray = ls at hl ⊢
  have hl : lv_has ls 2 [(0, .ref (ad 16)), (1, .int r)] := hl
  refine lv_iload_n hx hb dX0_isRange_0 rfl (lv_at hl 1 rfl) ?_
  refine lv_if_lt (tgt := 16) hx hb dX0_isRange_1 (by decide) (fun c_1 => ?_) (fun c_1 => ?_)
  · skip
    refine lv_iconst (v := 0) hx hb dX0_isRange_16 (by decide) ?_
    exact W.zret (v := 0) hx hb hr rfl (fun t ht hW => ⟨0, rfl, (bI_f (i_nl c_1)).symm, ht⟩) (fun q h => nomatch h) dX0_isRange_17
  · skip
    refine lv_iload_n hx hb dX0_isRange_4 rfl (lv_at hl 1 rfl) ?_
    refine lv_aload_n hx hb dX0_isRange_5 rfl (lv_at hl 0 rfl) ?_
    refine va_get (D := D) (ci := 0) (v := .int (f 5)) (C := RX0) (T := TX0) (N := 16) hx hb hts hfin hown hK hP 0 rfl rfl 5 (by decide) (hts _ (List.mem_cons_of_mem _ (List.mem_append_left _ (List.mem_of_getElem? (i := 0) rfl)))) (fun _ h9 => h9) rfl dX0_isRange_6 ?_
    refine lv_icmp_ge (tgt := 16) hx hb dX0_isRange_9 (by decide) (fun c_9 => ?_) (fun c_9 => ?_)
    · skip
      refine lv_iconst (v := 0) hx hb dX0_isRange_16 (by decide) ?_
      exact W.zret (v := 0) hx hb hr rfl (fun t ht hW => ⟨0, rfl, (bI_f (i_nr c_9)).symm, ht⟩) (fun q h => nomatch h) dX0_isRange_17
    · skip
      refine lv_iconst (v := 1) hx hb dX0_isRange_12 (by decide) ?_
      refine lv_goto (tgt := 17) hx hb dX0_isRange_13 (by decide) ?_
      exact W.zret (v := 1) hx hb hr rfl (fun t ht hW => ⟨1, rfl, (bI_t (i_and c_1 c_9)).symm, ht⟩) (fun q h => nomatch h) dX0_isRange_17
set_option maxHeartbeats 4000000 in
set_option maxRecDepth 100000 in
/-- a ballot -/
theorem c_X0_isBallot (l : Launch) (D : va_G) (cA cZ cL : ClassId) (ad : Nat → Nat) (f : qFs) (g : qGs) (r : Int32) : Met l yX0_isBallot wsX0_isBallot ({ frames := 0, cells := 0, slots := 0, locals := 0 } : Room) (va_Pc [.ref (ad 16), .int r] (qPre D (qTy cA cZ cL) (xW cA ad f g))) (vp_Si (fun z => z = bI (xBallot f r))) 0 0 (fun _ => False) := by
  refine Met.ofW (cc := cX0_isBallot) (maxL := 2) (ret := (some .boolean)) (by decide) rfl ?_
  intro p e s m args below meth c s₁ B hml hv
  obtain ⟨rfl, hP, hK⟩ := hv
  have hx := B.exec
  have hb := B.bytes
  have hr := B.returns
  have hts := atoms_spec (ws := wsX0_isBallot) B.pre
  have hown : s.vm.findClass RX0 = some m.cls := findClass_of_methodNamed B.named
  have hlocks := B.notSynchronized
  have hfin : ∀ w ∈ wsX00, w ∈ wsX0_isBallot := fun w h => (List.mem_cons_of_mem _ (List.mem_append_right _ h))
  have hl := lv_entry ([.ref (ad 16), .int r]) (n := 2) (Nat.le_of_ble_eq_true rfl)
  rw [lg_entry_eq]
  generalize (lg_sl ([.ref (ad 16), .int r]) ++ List.replicate (2 - (lg_sl ([.ref (ad 16), .int r])).length) Slot.unset).toArray = ls at hl ⊢
  have hl : lv_has ls 2 [(0, .ref (ad 16)), (1, .int r)] := hl
  refine lv_iload_n hx hb dX0_isBallot_0 rfl (lv_at hl 1 rfl) ?_
  refine lv_if_lt (tgt := 16) hx hb dX0_isBallot_1 (by decide) (fun c_1 => ?_) (fun c_1 => ?_)
  · skip
    refine lv_iconst (v := 0) hx hb dX0_isBallot_16 (by decide) ?_
    exact W.zret (v := 0) hx hb hr rfl (fun t ht hW => ⟨0, rfl, (bI_f (i_nl c_1)).symm, ht⟩) (fun q h => nomatch h) dX0_isBallot_17
  · skip
    refine lv_iload_n hx hb dX0_isBallot_4 rfl (lv_at hl 1 rfl) ?_
    refine lv_aload_n hx hb dX0_isBallot_5 rfl (lv_at hl 0 rfl) ?_
    refine va_get (D := D) (ci := 0) (v := .int (f 15)) (C := RX0) (T := TX0) (N := 16) hx hb hts hfin hown hK hP 0 rfl rfl 15 (by decide) (hts _ (List.mem_cons_of_mem _ (List.mem_append_left _ (List.mem_of_getElem? (i := 0) rfl)))) (fun _ h9 => h9) rfl dX0_isBallot_6 ?_
    refine lv_icmp_ge (tgt := 16) hx hb dX0_isBallot_9 (by decide) (fun c_9 => ?_) (fun c_9 => ?_)
    · skip
      refine lv_iconst (v := 0) hx hb dX0_isBallot_16 (by decide) ?_
      exact W.zret (v := 0) hx hb hr rfl (fun t ht hW => ⟨0, rfl, (bI_f (i_nr c_9)).symm, ht⟩) (fun q h => nomatch h) dX0_isBallot_17
    · skip
      refine lv_iconst (v := 1) hx hb dX0_isBallot_12 (by decide) ?_
      refine lv_goto (tgt := 17) hx hb dX0_isBallot_13 (by decide) ?_
      exact W.zret (v := 1) hx hb hr rfl (fun t ht hW => ⟨1, rfl, (bI_t (i_and c_1 c_9)).symm, ht⟩) (fun q h => nomatch h) dX0_isBallot_17
set_option maxHeartbeats 4000000 in
set_option maxRecDepth 100000 in
/-- homeOf -/
theorem c_X0_homeOf (l : Launch) (D : va_G) (cA cZ cL : ClassId) (ad : Nat → Nat) (f : qFs) (g : qGs) (r : Int32) (nR : Nat) (nB : Nat) (hI : xI nR nB f) : Met l yX0_homeOf wsX0_homeOf ({ frames := 1, cells := 0, slots := 0, locals := 21 } : Room) (va_Pc [.ref (ad 16), .int r] (qPre D (qTy cA cZ cL) (xW cA ad f g))) (vp_Si (fun z => z = xHome f g r)) 0 0 (fun _ => False) := by
  refine Met.ofW (cc := cX0_homeOf) (maxL := 2) (ret := (some .int)) (by decide) rfl ?_
  intro p e s m args below meth c s₁ B hml hv
  obtain ⟨rfl, hP, hK⟩ := hv
  have hx := B.exec
  have hb := B.bytes
  have hr := B.returns
  have hts := atoms_spec (ws := wsX0_homeOf) B.pre
  have hown : s.vm.findClass RX0 = some m.cls := findClass_of_methodNamed B.named
  have hlocks := B.notSynchronized
  have hfin : ∀ w ∈ wsX00, w ∈ wsX0_homeOf := fun w h => (List.mem_cons_of_mem _ (List.mem_append_right _ h))
  have hl := lv_entry ([.ref (ad 16), .int r]) (n := 2) (Nat.le_of_ble_eq_true rfl)
  rw [lg_entry_eq]
  generalize (lg_sl ([.ref (ad 16), .int r]) ++ List.replicate (2 - (lg_sl ([.ref (ad 16), .int r])).length) Slot.unset).toArray = ls at hl ⊢
  have hl : lv_has ls 2 [(0, .ref (ad 16)), (1, .int r)] := hl
  refine lv_aload_n hx hb dX0_homeOf_0 rfl (lv_at hl 0 rfl) ?_
  refine lv_iload_n hx hb dX0_homeOf_1 rfl (lv_at hl 1 rfl) ?_
  refine vp_callSi (W.runV (As := [.int r]) (rest := []) ⟨hx, hb, hml, hown, hts⟩ (c_X0_isRange l D cA cZ cL ad f g r) (cwV 1 hts gX0_homeOf_X0_isRange rfl rfl rfl (by decide +kernel) ⟨Nat.le_of_ble_eq_true rfl, Nat.le_of_ble_eq_true rfl⟩) ⟨qPre_blind, va_recv hK hP (ci := 0) (q0 := 0) rfl rfl, qPre_at hP hK⟩ rfl rfl hl.1 rfl (lv_room (Nat.le_of_ble_eq_true rfl)) dX0_homeOf_2 ⟨Nat.le_of_ble_eq_true rfl, Nat.le_of_ble_eq_true rfl⟩) (fun z hz => ?_)
  subst hz
  refine lv_if_eq (tgt := 17) hx hb dX0_homeOf_5 (by decide) (fun c_5 => ?_) (fun c_5 => ?_)
  · have c_5 := bI_0.mp c_5
    refine lv_iconst (v := (-1)) hx hb dX0_homeOf_17 (by decide) ?_
    exact W.iret (v := (-1)) hx hb hr (fun t ht hW => ⟨(-1), rfl, (by unfold xHome; rw [if_neg c_5]), ht⟩) (fun q h => nomatch h) dX0_homeOf_18
  · have c_5 := bI_n.mp c_5
    refine lv_aload_n hx hb dX0_homeOf_8 rfl (lv_at hl 0 rfl) ?_
    refine va_get (D := D) (ci := 0) (v := .ref (ad 3)) (C := RX0) (T := TX0) (N := 16) hx hb hts hfin hown hK hP 0 rfl rfl 3 (by decide) (hts _ (List.mem_cons_of_mem _ (List.mem_append_left _ (List.mem_of_getElem? (i := 0) rfl)))) (fun _ h9 => h9) rfl dX0_homeOf_9 ?_
    refine lv_iload_n hx hb dX0_homeOf_12 rfl (lv_at hl 1 rfl) ?_
    refine va_iald hx hb hK hP 3 0 rfl rfl (x_in8 hI c_5) dX0_homeOf_13 ?_
    refine lv_goto (tgt := 18) hx hb dX0_homeOf_14 (by decide) ?_
    exact W.iret (v := g 3 r.toNatClampNeg) hx hb hr (fun t ht hW => ⟨g 3 r.toNatClampNeg, rfl, (by unfold xHome; rw [if_pos c_5]), ht⟩) (fun q h => nomatch h) dX0_homeOf_18
set_option maxHeartbeats 4000000 in
set_option maxRecDepth 100000 in
/-- targetOf -/
theorem c_X0_targetOf (l : Launch) (D : va_G) (cA cZ cL : ClassId) (ad : Nat → Nat) (f : qFs) (g : qGs) (r : Int32) (nR : Nat) (nB : Nat) (hI : xI nR nB f) : Met l yX0_targetOf wsX0_targetOf ({ frames := 1, cells := 0, slots := 0, locals := 21 } : Room) (va_Pc [.ref (ad 16), .int r] (qPre D (qTy cA cZ cL) (xW cA ad f g))) (vp_Si (fun z => z = xTarg f g r)) 0 0 (fun _ => False) := by
  refine Met.ofW (cc := cX0_targetOf) (maxL := 2) (ret := (some .int)) (by decide) rfl ?_
  intro p e s m args below meth c s₁ B hml hv
  obtain ⟨rfl, hP, hK⟩ := hv
  have hx := B.exec
  have hb := B.bytes
  have hr := B.returns
  have hts := atoms_spec (ws := wsX0_targetOf) B.pre
  have hown : s.vm.findClass RX0 = some m.cls := findClass_of_methodNamed B.named
  have hlocks := B.notSynchronized
  have hfin : ∀ w ∈ wsX00, w ∈ wsX0_targetOf := fun w h => (List.mem_cons_of_mem _ (List.mem_append_right _ h))
  have hl := lv_entry ([.ref (ad 16), .int r]) (n := 2) (Nat.le_of_ble_eq_true rfl)
  rw [lg_entry_eq]
  generalize (lg_sl ([.ref (ad 16), .int r]) ++ List.replicate (2 - (lg_sl ([.ref (ad 16), .int r])).length) Slot.unset).toArray = ls at hl ⊢
  have hl : lv_has ls 2 [(0, .ref (ad 16)), (1, .int r)] := hl
  refine lv_aload_n hx hb dX0_targetOf_0 rfl (lv_at hl 0 rfl) ?_
  refine lv_iload_n hx hb dX0_targetOf_1 rfl (lv_at hl 1 rfl) ?_
  refine vp_callSi (W.runV (As := [.int r]) (rest := []) ⟨hx, hb, hml, hown, hts⟩ (c_X0_isRange l D cA cZ cL ad f g r) (cwV 1 hts gX0_targetOf_X0_isRange rfl rfl rfl (by decide +kernel) ⟨Nat.le_of_ble_eq_true rfl, Nat.le_of_ble_eq_true rfl⟩) ⟨qPre_blind, va_recv hK hP (ci := 0) (q0 := 0) rfl rfl, qPre_at hP hK⟩ rfl rfl hl.1 rfl (lv_room (Nat.le_of_ble_eq_true rfl)) dX0_targetOf_2 ⟨Nat.le_of_ble_eq_true rfl, Nat.le_of_ble_eq_true rfl⟩) (fun z hz => ?_)
  subst hz
  refine lv_if_eq (tgt := 17) hx hb dX0_targetOf_5 (by decide) (fun c_5 => ?_) (fun c_5 => ?_)
  · have c_5 := bI_0.mp c_5
    refine lv_iconst (v := (-1)) hx hb dX0_targetOf_17 (by decide) ?_
    exact W.iret (v := (-1)) hx hb hr (fun t ht hW => ⟨(-1), rfl, (by unfold xTarg; rw [if_neg c_5]), ht⟩) (fun q h => nomatch h) dX0_targetOf_18
  · have c_5 := bI_n.mp c_5
    refine lv_aload_n hx hb dX0_targetOf_8 rfl (lv_at hl 0 rfl) ?_
    refine va_get (D := D) (ci := 0) (v := .ref (ad 4)) (C := RX0) (T := TX0) (N := 16) hx hb hts hfin hown hK hP 0 rfl rfl 4 (by decide) (hts _ (List.mem_cons_of_mem _ (List.mem_append_left _ (List.mem_of_getElem? (i := 0) rfl)))) (fun _ h9 => h9) rfl dX0_targetOf_9 ?_
    refine lv_iload_n hx hb dX0_targetOf_12 rfl (lv_at hl 1 rfl) ?_
    refine va_iald hx hb hK hP 4 0 rfl rfl (x_in8 hI c_5) dX0_targetOf_13 ?_
    refine lv_goto (tgt := 18) hx hb dX0_targetOf_14 (by decide) ?_
    exact W.iret (v := g 4 r.toNatClampNeg) hx hb hr (fun t ht hW => ⟨g 4 r.toNatClampNeg, rfl, (by unfold xTarg; rw [if_pos c_5]), ht⟩) (fun q h => nomatch h) dX0_targetOf_18
set_option maxHeartbeats 4000000 in
set_option maxRecDepth 100000 in
/-- lastKeyOf -/
theorem c_X0_lastKeyOf (l : Launch) (D : va_G) (cA cZ cL : ClassId) (ad : Nat → Nat) (f : qFs) (g : qGs) (r : Int32) (nR : Nat) (nB : Nat) (hI : xI nR nB f) : Met l yX0_lastKeyOf wsX0_lastKeyOf ({ frames := 1, cells := 0, slots := 0, locals := 21 } : Room) (va_Pc [.ref (ad 16), .int r] (qPre D (qTy cA cZ cL) (xW cA ad f g))) (vp_Si (fun z => z = xLast f g r)) 0 0 (fun _ => False) := by
  refine Met.ofW (cc := cX0_lastKeyOf) (maxL := 2) (ret := (some .int)) (by decide) rfl ?_
  intro p e s m args below meth c s₁ B hml hv
  obtain ⟨rfl, hP, hK⟩ := hv
  have hx := B.exec
  have hb := B.bytes
  have hr := B.returns
  have hts := atoms_spec (ws := wsX0_lastKeyOf) B.pre
  have hown : s.vm.findClass RX0 = some m.cls := findClass_of_methodNamed B.named
  have hlocks := B.notSynchronized
  have hfin : ∀ w ∈ wsX00, w ∈ wsX0_lastKeyOf := fun w h => (List.mem_cons_of_mem _ (List.mem_append_right _ h))
  have hl := lv_entry ([.ref (ad 16), .int r]) (n := 2) (Nat.le_of_ble_eq_true rfl)
  rw [lg_entry_eq]
  generalize (lg_sl ([.ref (ad 16), .int r]) ++ List.replicate (2 - (lg_sl ([.ref (ad 16), .int r])).length) Slot.unset).toArray = ls at hl ⊢
  have hl : lv_has ls 2 [(0, .ref (ad 16)), (1, .int r)] := hl
  refine lv_aload_n hx hb dX0_lastKeyOf_0 rfl (lv_at hl 0 rfl) ?_
  refine lv_iload_n hx hb dX0_lastKeyOf_1 rfl (lv_at hl 1 rfl) ?_
  refine vp_callSi (W.runV (As := [.int r]) (rest := []) ⟨hx, hb, hml, hown, hts⟩ (c_X0_isRange l D cA cZ cL ad f g r) (cwV 1 hts gX0_lastKeyOf_X0_isRange rfl rfl rfl (by decide +kernel) ⟨Nat.le_of_ble_eq_true rfl, Nat.le_of_ble_eq_true rfl⟩) ⟨qPre_blind, va_recv hK hP (ci := 0) (q0 := 0) rfl rfl, qPre_at hP hK⟩ rfl rfl hl.1 rfl (lv_room (Nat.le_of_ble_eq_true rfl)) dX0_lastKeyOf_2 ⟨Nat.le_of_ble_eq_true rfl, Nat.le_of_ble_eq_true rfl⟩) (fun z hz => ?_)
  subst hz
  refine lv_if_eq (tgt := 17) hx hb dX0_lastKeyOf_5 (by decide) (fun c_5 => ?_) (fun c_5 => ?_)
  · have c_5 := bI_0.mp c_5
    refine lv_iconst (v := (-1)) hx hb dX0_lastKeyOf_17 (by decide) ?_
    exact W.iret (v := (-1)) hx hb hr (fun t ht hW => ⟨(-1), rfl, (by unfold xLast; rw [if_neg c_5]), ht⟩) (fun q h => nomatch h) dX0_lastKeyOf_18
  · have c_5 := bI_n.mp c_5
    refine lv_aload_n hx hb dX0_lastKeyOf_8 rfl (lv_at hl 0 rfl) ?_
    refine va_get (D := D) (ci := 0) (v := .ref (ad 2)) (C := RX0) (T := TX0) (N := 16) hx hb hts hfin hown hK hP 0 rfl rfl 2 (by decide) (hts _ (List.mem_cons_of_mem _ (List.mem_append_left _ (List.mem_of_getElem? (i := 0) rfl)))) (fun _ h9 => h9) rfl dX0_lastKeyOf_9 ?_
    refine lv_iload_n hx hb dX0_lastKeyOf_12 rfl (lv_at hl 1 rfl) ?_
    refine va_iald hx hb hK hP 2 0 rfl rfl (x_in8 hI c_5) dX0_lastKeyOf_13 ?_
    refine lv_goto (tgt := 18) hx hb dX0_lastKeyOf_14 (by decide) ?_
    exact W.iret (v := g 2 r.toNatClampNeg) hx hb hr (fun t ht hW => ⟨g 2 r.toNatClampNeg, rfl, (by unfold xLast; rw [if_pos c_5]), ht⟩) (fun q h => nomatch h) dX0_lastKeyOf_18
set_option maxHeartbeats 4000000 in
set_option maxRecDepth 100000 in
/-- a row -/
theorem c_X0_rowOf (l : Launch) (D : va_G) (cA cZ cL : ClassId) (ad : Nat → Nat) (f : qFs) (g : qGs) (sh : Int32) (k : Int32) : Met l yX0_rowOf wsX0_rowOf ({ frames := 1, cells := 0, slots := 0, locals := 20 } : Room) (va_Pc [.ref (ad 16), .int sh, .int k] (qPre D (qTy cA cZ cL) (xW cA ad f g))) (vp_Si (fun z => z = xRowOf g sh k)) 0 0 (fun _ => False) := by
  refine Met.ofW (cc := cX0_rowOf) (maxL := 3) (ret := (some .int)) (by decide) rfl ?_
  intro p e s m args below meth c s₁ B hml hv
  obtain ⟨rfl, hP, hK⟩ := hv
  have hx := B.exec
  have hb := B.bytes
  have hr := B.returns
  have hts := atoms_spec (ws := wsX0_rowOf) B.pre
  have hown : s.vm.findClass RX0 = some m.cls := findClass_of_methodNamed B.named
  have hlocks := B.notSynchronized
  have hfin : ∀ w ∈ wsX00, w ∈ wsX0_rowOf := fun w h => (List.mem_cons_of_mem _ (List.mem_append_right _ h))
  have hl := lv_entry ([.ref (ad 16), .int sh, .int k]) (n := 3) (Nat.le_of_ble_eq_true rfl)
  rw [lg_entry_eq]
  generalize (lg_sl ([.ref (ad 16), .int sh, .int k]) ++ List.replicate (3 - (lg_sl ([.ref (ad 16), .int sh, .int k])).length) Slot.unset).toArray = ls at hl ⊢
  have hl : lv_has ls 3 [(0, .ref (ad 16)), (1, .int sh), (2, .int k)] := hl
  refine lv_iload_n hx hb dX0_rowOf_0 rfl (lv_at hl 1 rfl) ?_
  refine vp_callSi (W.runS (As := [.int sh]) (rest := []) ⟨hx, hb, hml, hown, hts⟩ (c_X0_isShard l sh) (va_cwS 1 hts gX0_rowOf_X0_isShard rfl rfl rfl (by decide +kernel) ⟨Nat.le_of_ble_eq_true rfl, Nat.le_of_ble_eq_true rfl⟩) ⟨qN_blind, qN_at⟩ rfl rfl hl.1 rfl (lv_room (Nat.le_of_ble_eq_true rfl)) dX0_rowOf_1 ⟨Nat.le_of_ble_eq_true rfl, Nat.le_of_ble_eq_true rfl⟩) (fun z hz => ?_)
  subst hz
  refine lv_if_eq (tgt := 28) hx hb dX0_rowOf_4 (by decide) (fun c_4 => ?_) (fun c_4 => ?_)
  · have c_4 := bI_0.mp c_4
    refine lv_iconst (v := (-1)) hx hb dX0_rowOf_28 (by decide) ?_
    exact W.iret (v := (-1)) hx hb hr (fun t ht hW => ⟨(-1), rfl, (by unfold xRowOf; rw [if_neg (fun q => c_4 q.1)]), ht⟩) (fun q h => nomatch h) dX0_rowOf_29
  · have c_4 := bI_n.mp c_4
    refine lv_iload_n hx hb dX0_rowOf_7 rfl (lv_at hl 2 rfl) ?_
    refine vp_callSi (W.runS (As := [.int k]) (rest := []) ⟨hx, hb, hml, hown, hts⟩ (c_X0_isKey l k) (va_cwS 1 hts gX0_rowOf_X0_isKey rfl rfl rfl (by decide +kernel) ⟨Nat.le_of_ble_eq_true rfl, Nat.le_of_ble_eq_true rfl⟩) ⟨qN_blind, qN_at⟩ rfl rfl hl.1 rfl (lv_room (Nat.le_of_ble_eq_true rfl)) dX0_rowOf_8 ⟨Nat.le_of_ble_eq_true rfl, Nat.le_of_ble_eq_true rfl⟩) (fun z hz => ?_)
    subst hz
    refine lv_if_eq (tgt := 28) hx hb dX0_rowOf_11 (by decide) (fun c_11 => ?_) (fun c_11 => ?_)
    · have c_11 := bI_0.mp c_11
      refine lv_iconst (v := (-1)) hx hb dX0_rowOf_28 (by decide) ?_
      exact W.iret (v := (-1)) hx hb hr (fun t ht hW => ⟨(-1), rfl, (by unfold xRowOf; rw [if_neg (fun q => c_11 q.2)]), ht⟩) (fun q h => nomatch h) dX0_rowOf_29
    · have c_11 := bI_n.mp c_11
      refine lv_aload_n hx hb dX0_rowOf_14 rfl (lv_at hl 0 rfl) ?_
      refine va_get (D := D) (ci := 0) (v := .ref (ad 0)) (C := RX0) (T := TX0) (N := 16) hx hb hts hfin hown hK hP 0 rfl rfl 0 (by decide) (hts _ (List.mem_cons_of_mem _ (List.mem_append_left _ (List.mem_of_getElem? (i := 0) rfl)))) (fun _ h9 => h9) rfl dX0_rowOf_15 ?_
      refine lv_iload_n hx hb dX0_rowOf_18 rfl (lv_at hl 1 rfl) ?_
      refine lv_bipush (v := 100) hx hb dX0_rowOf_19 (by decide) ?_
      refine lv_imul hx hb dX0_rowOf_21 ?_
      refine lv_iload_n hx hb dX0_rowOf_22 rfl (lv_at hl 2 rfl) ?_
      refine lv_iadd hx hb dX0_rowOf_23 ?_
      refine va_iald hx hb hK hP 1 0 rfl rfl (x_inT c_4 c_11) dX0_rowOf_24 ?_
      refine lv_goto (tgt := 29) hx hb dX0_rowOf_25 (by decide) ?_
      exact W.iret (v := g 0 ((sh * 100) + k).toNatClampNeg) hx hb hr (fun t ht hW => ⟨g 0 ((sh * 100) + k).toNatClampNeg, rfl, (by unfold xRowOf; rw [if_pos ⟨c_4, c_11⟩]), ht⟩) (fun q h => nomatch h) dX0_rowOf_29
set_option maxHeartbeats 4000000 in
set_option maxRecDepth 100000 in
/-- is it moved -/
theorem c_X0_isMoved (l : Launch) (D : va_G) (cA cZ cL : ClassId) (ad : Nat → Nat) (f : qFs) (g : qGs) (r : Int32) (nR : Nat) (nB : Nat) (hI : xI nR nB f) : Met l yX0_isMoved wsX0_isMoved ({ frames := 2, cells := 0, slots := 0, locals := 42 } : Room) (va_Pc [.ref (ad 16), .int r] (qPre D (qTy cA cZ cL) (xW cA ad f g))) (vp_Si (fun z => z = bI (¬ xTarg f g r = -1))) 0 0 (fun _ => False) := by
  refine Met.ofW (cc := cX0_isMoved) (maxL := 2) (ret := (some .boolean)) (by decide) rfl ?_
  intro p e s m args below meth c s₁ B hml hv
  obtain ⟨rfl, hP, hK⟩ := hv
  have hx := B.exec
  have hb := B.bytes
  have hr := B.returns
  have hts := atoms_spec (ws := wsX0_isMoved) B.pre
  have hown : s.vm.findClass RX0 = some m.cls := findClass_of_methodNamed B.named
  have hlocks := B.notSynchronized
  have hfin : ∀ w ∈ wsX00, w ∈ wsX0_isMoved := fun w h => (List.mem_cons_of_mem _ (List.mem_append_right _ h))
  have hl := lv_entry ([.ref (ad 16), .int r]) (n := 2) (Nat.le_of_ble_eq_true rfl)
  rw [lg_entry_eq]
  generalize (lg_sl ([.ref (ad 16), .int r]) ++ List.replicate (2 - (lg_sl ([.ref (ad 16), .int r])).length) Slot.unset).toArray = ls at hl ⊢
  have hl : lv_has ls 2 [(0, .ref (ad 16)), (1, .int r)] := hl
  refine lv_aload_n hx hb dX0_isMoved_0 rfl (lv_at hl 0 rfl) ?_
  refine lv_iload_n hx hb dX0_isMoved_1 rfl (lv_at hl 1 rfl) ?_
  refine vp_callSi (W.runV (As := [.int r]) (rest := []) ⟨hx, hb, hml, hown, hts⟩ (c_X0_targetOf l D cA cZ cL ad f g r nR nB hI) (cwV 1 hts gX0_isMoved_X0_targetOf rfl rfl rfl (by decide +kernel) ⟨Nat.le_of_ble_eq_true rfl, Nat.le_of_ble_eq_true rfl⟩) ⟨qPre_blind, va_recv hK hP (ci := 0) (q0 := 0) rfl rfl, qPre_at hP hK⟩ rfl rfl hl.1 rfl (lv_room (Nat.le_of_ble_eq_true rfl)) dX0_isMoved_2 ⟨Nat.le_of_ble_eq_true rfl, Nat.le_of_ble_eq_true rfl⟩) (fun z hz => ?_)
  subst hz
  refine lv_iconst (v := (-1)) hx hb dX0_isMoved_5 (by decide) ?_
  refine lv_icmp_eq (tgt := 13) hx hb dX0_isMoved_6 (by decide) (fun c_6 => ?_) (fun c_6 => ?_)
  · skip
    refine lv_iconst (v := 0) hx hb dX0_isMoved_13 (by decide) ?_
    exact W.zret (v := 0) hx hb hr rfl (fun t ht hW => ⟨0, rfl, (bI_f (fun q => q c_6)).symm, ht⟩) (fun q h => nomatch h) dX0_isMoved_14
  · skip
    refine lv_iconst (v := 1) hx hb dX0_isMoved_9 (by decide) ?_
    refine lv_goto (tgt := 14) hx hb dX0_isMoved_10 (by decide) ?_
    exact W.zret (v := 1) hx hb hr rfl (fun t ht hW => ⟨1, rfl, (bI_t (c_6)).symm, ht⟩) (fun q h => nomatch h) dX0_isMoved_14
set_option maxHeartbeats 4000000 in
set_option maxRecDepth 100000 in
/-- the first key -/
theorem c_X0_firstKeyOf (l : Launch) (D : va_G) (cA cZ cL : ClassId) (ad : Nat → Nat) (f : qFs) (g : qGs) (r : Int32) (nR : Nat) (nB : Nat) (hI : xI nR nB f) : Met l yX0_firstKeyOf wsX0_firstKeyOf ({ frames := 2, cells := 0, slots := 0, locals := 42 } : Room) (va_Pc [.ref (ad 16), .int r] (qPre D (qTy cA cZ cL) (xW cA ad f g))) (vp_Si (fun z => z = xFirst f g r)) 0 0 (fun _ => False) := by
  refine Met.ofW (cc := cX0_firstKeyOf) (maxL := 2) (ret := (some .int)) (by decide) rfl ?_
  intro p e s m args below meth c s₁ B hml hv
  obtain ⟨rfl, hP, hK⟩ := hv
  have hx := B.exec
  have hb := B.bytes
  have hr := B.returns
  have hts := atoms_spec (ws := wsX0_firstKeyOf) B.pre
  have hown : s.vm.findClass RX0 = some m.cls := findClass_of_methodNamed B.named
  have hlocks := B.notSynchronized
  have hfin : ∀ w ∈ wsX00, w ∈ wsX0_firstKeyOf := fun w h => (List.mem_cons_of_mem _ (List.mem_append_right _ h))
  have hl := lv_entry ([.ref (ad 16), .int r]) (n := 2) (Nat.le_of_ble_eq_true rfl)
  rw [lg_entry_eq]
  generalize (lg_sl ([.ref (ad 16), .int r]) ++ List.replicate (2 - (lg_sl ([.ref (ad 16), .int r])).length) Slot.unset).toArray = ls at hl ⊢
  have hl : lv_has ls 2 [(0, .ref (ad 16)), (1, .int r)] := hl
  refine lv_iload_n hx hb dX0_firstKeyOf_0 rfl (lv_at hl 1 rfl) ?_
  refine lv_if_ne (tgt := 8) hx hb dX0_firstKeyOf_1 (by decide) (fun c_1 => ?_) (fun c_1 => ?_)
  · skip
    refine lv_aload_n hx hb dX0_firstKeyOf_8 rfl (lv_at hl 0 rfl) ?_
    refine lv_iload_n hx hb dX0_firstKeyOf_9 rfl (lv_at hl 1 rfl) ?_
    refine lv_iconst (v := 1) hx hb dX0_firstKeyOf_10 (by decide) ?_
    refine lv_isub hx hb dX0_firstKeyOf_11 ?_
    refine vp_callSi (W.runV (As := [.int (r - 1)]) (rest := []) ⟨hx, hb, hml, hown, hts⟩ (c_X0_lastKeyOf l D cA cZ cL ad f g (r - 1) nR nB hI) (cwV 1 hts gX0_firstKeyOf_X0_lastKeyOf rfl rfl rfl (by decide +kernel) ⟨Nat.le_of_ble_eq_true rfl, Nat.le_of_ble_eq_true rfl⟩) ⟨qPre_blind, va_recv hK hP (ci := 0) (q0 := 0) rfl rfl, qPre_at hP hK⟩ rfl rfl hl.1 rfl (lv_room (Nat.le_of_ble_eq_true rfl)) dX0_firstKeyOf_12 ⟨Nat.le_of_ble_eq_true rfl, Nat.le_of_ble_eq_true rfl⟩) (fun z hz => ?_)
    subst hz
    refine lv_iconst (v := 1) hx hb dX0_firstKeyOf_15 (by decide) ?_
    refine lv_iadd hx hb dX0_firstKeyOf_16 ?_
    exact W.iret (v := (xLast f g (r - 1)) + 1) hx hb hr (fun t ht hW => ⟨(xLast f g (r - 1)) + 1, rfl, (by unfold xFirst; rw [if_neg c_1]), ht⟩) (fun q h => nomatch h) dX0_firstKeyOf_17
  · skip
    refine lv_iconst (v := 0) hx hb dX0_firstKeyOf_4 (by decide) ?_
    refine lv_goto (tgt := 17) hx hb dX0_firstKeyOf_5 (by decide) ?_
    exact W.iret (v := 0) hx hb hr (fun t ht hW => ⟨0, rfl, (by unfold xFirst; rw [if_pos c_1]), ht⟩) (fun q h => nomatch h) dX0_firstKeyOf_17
set_option maxHeartbeats 4000000 in
set_option maxRecDepth 100000 in
/-- the range that holds a key -/
theorem c_X0_rangeHolding (l : Launch) (D : va_G) (cA cZ cL : ClassId) (ad : Nat → Nat) (f : qFs) (g : qGs) (k : Int32) (nR : Nat) (nB : Nat) (hI : xI nR nB f) : Met l yX0_rangeHolding wsX0_rangeHolding ({ frames := 0, cells := 0, slots := 0, locals := 0 } : Room) (va_Pc [.ref (ad 16), .int k] (qPre D (qTy cA cZ cL) (xW cA ad f g))) (vp_Si (fun z => z = nI (xHold nR g k))) 0 0 (fun _ => False) := by
  refine Met.ofW (cc := cX0_rangeHolding) (maxL := 4) (ret := (some .int)) (by decide) rfl ?_
  intro p e s m args below meth c s₁ B hml hv
  obtain ⟨rfl, hP, hK⟩ := hv
  have hx := B.exec
  have hb := B.bytes
  have hr := B.returns
  have hts := atoms_spec (ws := wsX0_rangeHolding) B.pre
  have hown : s.vm.findClass RX0 = some m.cls := findClass_of_methodNamed B.named
  have hlocks := B.notSynchronized
  have hfin : ∀ w ∈ wsX00, w ∈ wsX0_rangeHolding := fun w h => (List.mem_cons_of_mem _ (List.mem_append_right _ h))
  have hl := lv_entry ([.ref (ad 16), .int k]) (n := 4) (Nat.le_of_ble_eq_true rfl)
  rw [lg_entry_eq]
  generalize (lg_sl ([.ref (ad 16), .int k]) ++ List.replicate (4 - (lg_sl ([.ref (ad 16), .int k])).length) Slot.unset).toArray = ls at hl ⊢
  have hl : lv_has ls 4 [(0, .ref (ad 16)), (1, .int k)] := hl
  have hR8 := hI.2.2.1
  refine lv_aload_n hx hb dX0_rangeHolding_0 rfl (lv_at hl 0 rfl) ?_
  refine va_get (D := D) (ci := 0) (v := .int (f 5)) (C := RX0) (T := TX0) (N := 16) hx hb hts hfin hown hK hP 0 rfl rfl 5 (by decide) (hts _ (List.mem_cons_of_mem _ (List.mem_append_left _ (List.mem_of_getElem? (i := 0) rfl)))) (fun _ h9 => h9) rfl dX0_rangeHolding_1 ?_
  refine lv_iconst (v := 1) hx hb dX0_rangeHolding_4 (by decide) ?_
  refine lv_isub hx hb dX0_rangeHolding_5 ?_
  refine lv_topi (fun v_5 hv_5 => ?_)
  have hv_5 : v_5 = nI (nR - 1) := hv_5.trans (x_R1 hI)
  subst hv_5
  refine lv_istore_n (lv' := [(2, .int (nI (nR - 1))), (0, .ref (ad 16)), (1, .int k)]) hx hb dX0_rangeHolding_6 rfl hl (by decide) rfl (fun ls hl => ?_)
  refine lv_iconst (v := 0) hx hb dX0_rangeHolding_7 (by decide) ?_
  refine lv_istore_n (lv' := [(3, .int 0), (2, .int (nI (nR - 1))), (0, .ref (ad 16)), (1, .int k)]) hx hb dX0_rangeHolding_8 rfl hl (by decide) rfl (fun ls hl => ?_)
  have hloop_9 : ∀ (n : Nat) (i : Nat), nR - 1 - i = n → (i ≤ nR - 1) → (xHoldN (g 2) k i (nR - 1 - i) = xHold nR g k) → ∀ ls : Array Slot, lv_has ls 4 [(0, .ref (ad 16)), (1, .int k), (2, .int (nI (nR - 1))), (3, .int (nI i))] → W p l e (headSpec wsX0_rangeHolding ({ frames := 0, cells := 0, slots := 0, locals := 0 } : Room)).room s m ([.ref (ad 16), .int k] : List Value).toArray below meth c s.heap [] 0 0 (MQ below (vp_Si (fun z => z = nI (xHold nR g k))) ([.ref (ad 16), .int k] : List Value).toArray s 0 0 (fun _ => False)) (F0 m 9 ls []) := by
    intro n
    induction n using Nat.strongRecOn with
    | ind n ih =>
      intro i hn hi hh ls hl
      refine lv_iload_n hx hb dX0_rangeHolding_9 rfl (lv_at hl 3 rfl) ?_
      refine lv_iload_n hx hb dX0_rangeHolding_10 rfl (lv_at hl 2 rfl) ?_
      refine lv_icmp_ge (tgt := 32) hx hb dX0_rangeHolding_11 (by decide) (fun c_11 => ?_) (fun c_11 => ?_)
      · skip
        have hge : nR - 1 ≤ i := n_ge c_11 (by omega) (by omega)
        refine lv_iload_n hx hb dX0_rangeHolding_32 rfl (lv_at hl 2 rfl) ?_
        exact W.iret (v := nI (nR - 1)) hx hb hr (fun t ht hW => ⟨nI (nR - 1), rfl, (by rw [← hh, xHold_e hge]; congr 1; omega), ht⟩) (fun q h => nomatch h) dX0_rangeHolding_33
      · skip
        have hlt : i < nR - 1 := n_lt c_11 (by omega)
        refine lv_iload_n hx hb dX0_rangeHolding_14 rfl (lv_at hl 1 rfl) ?_
        refine lv_aload_n hx hb dX0_rangeHolding_15 rfl (lv_at hl 0 rfl) ?_
        refine va_get (D := D) (ci := 0) (v := .ref (ad 2)) (C := RX0) (T := TX0) (N := 16) hx hb hts hfin hown hK hP 0 rfl rfl 2 (by decide) (hts _ (List.mem_cons_of_mem _ (List.mem_append_left _ (List.mem_of_getElem? (i := 1) rfl)))) (fun _ h9 => h9) rfl dX0_rangeHolding_16 ?_
        refine lv_iload_n hx hb dX0_rangeHolding_19 rfl (lv_at hl 3 rfl) ?_
        refine va_iald hx hb hK hP 2 0 rfl rfl (vp_in_nI (by omega) (by decide)) dX0_rangeHolding_20 ?_
        refine lv_topi (fun v_20 hv_20 => ?_)
        have hv_20 : v_20 = g 2 i := hv_20.trans (by rw [nI_clamp (by omega)])
        subst hv_20
        refine lv_icmp_gt (tgt := 26) hx hb dX0_rangeHolding_21 (by decide) (fun c_21 => ?_) (fun c_21 => ?_)
        · skip
          refine lv_iinc (v := nI (i + 1)) (lv' := [(3, .int (nI (i + 1))), (0, .ref (ad 16)), (1, .int k), (2, .int (nI (nR - 1)))]) hx hb dX0_rangeHolding_26 hl (k := 3) rfl (nI_1 i) (by decide) rfl (fun ls hl => ?_)
          refine lv_goto (tgt := 9) hx hb dX0_rangeHolding_29 (by decide) ?_
          exact ih _ (by omega) (i + 1) rfl (by omega) (by rw [← hh]; exact (xHold_n hlt (fa_of_lt c_21).2.1).symm) _ (lv_sub hl [1, 2, 3, 0] rfl)
        · skip
          refine lv_iload_n hx hb dX0_rangeHolding_24 rfl (lv_at hl 3 rfl) ?_
          exact W.iret (v := nI i) hx hb hr (fun t ht hW => ⟨nI i, rfl, (by rw [← hh, xHold_y hlt (fa_of_nlt c_21)]), ht⟩) (fun q h => nomatch h) dX0_rangeHolding_25
  exact hloop_9 _ 0 rfl (Nat.zero_le _) rfl _ (lv_sub hl [2, 3, 1, 0] rfl)
set_option maxHeartbeats 4000000 in
set_option maxRecDepth 100000 in
/-- the address at a key -/
theorem c_X0_read (l : Launch) (D : va_G) (cA cZ cL : ClassId) (ad : Nat → Nat) (f : qFs) (g : qGs) (k : Int32) (nR : Nat) (nB : Nat) (hI : xI nR nB f) : Met l yX0_read wsX0_read ({ frames := 2, cells := 0, slots := 0, locals := 42 } : Room) (va_Pc [.ref (ad 16), .int k] (qPre D (qTy cA cZ cL) (xW cA ad f g))) (vp_Si (fun z => z = xRead nR f g k)) 0 0 (fun _ => False) := by
  refine Met.ofW (cc := cX0_read) (maxL := 2) (ret := (some .int)) (by decide) rfl ?_
  intro p e s m args below meth c s₁ B hml hv
  obtain ⟨rfl, hP, hK⟩ := hv
  have hx := B.exec
  have hb := B.bytes
  have hr := B.returns
  have hts := atoms_spec (ws := wsX0_read) B.pre
  have hown : s.vm.findClass RX0 = some m.cls := findClass_of_methodNamed B.named
  have hlocks := B.notSynchronized
  have hfin : ∀ w ∈ wsX00, w ∈ wsX0_read := fun w h => (List.mem_cons_of_mem _ (List.mem_append_right _ h))
  have hl := lv_entry ([.ref (ad 16), .int k]) (n := 2) (Nat.le_of_ble_eq_true rfl)
  rw [lg_entry_eq]
  generalize (lg_sl ([.ref (ad 16), .int k]) ++ List.replicate (2 - (lg_sl ([.ref (ad 16), .int k])).length) Slot.unset).toArray = ls at hl ⊢
  have hl : lv_has ls 2 [(0, .ref (ad 16)), (1, .int k)] := hl
  refine lv_aload_n hx hb dX0_read_0 rfl (lv_at hl 0 rfl) ?_
  refine lv_aload_n hx hb dX0_read_1 rfl (lv_at hl 0 rfl) ?_
  refine lv_aload_n hx hb dX0_read_2 rfl (lv_at hl 0 rfl) ?_
  refine lv_iload_n hx hb dX0_read_3 rfl (lv_at hl 1 rfl) ?_
  refine vp_callSi (W.runV (As := [.int k]) (rest := [.ref (ad 16), .ref (ad 16)]) ⟨hx, hb, hml, hown, hts⟩ (c_X0_rangeHolding l D cA cZ cL ad f g k nR nB hI) (cwV 1 hts gX0_read_X0_rangeHolding rfl rfl rfl (by decide +kernel) ⟨Nat.le_of_ble_eq_true rfl, Nat.le_of_ble_eq_true rfl⟩) ⟨qPre_blind, va_recv hK hP (ci := 0) (q0 := 0) rfl rfl, qPre_at hP hK⟩ rfl rfl hl.1 rfl (lv_room (Nat.le_of_ble_eq_true rfl)) dX0_read_4 ⟨Nat.le_of_ble_eq_true rfl, Nat.le_of_ble_eq_true rfl⟩) (fun z hz => ?_)
  subst hz
  refine vp_callSi (W.runV (As := [.int (nI (xHold nR g k))]) (rest := [.ref (ad 16)]) ⟨hx, hb, hml, hown, hts⟩ (c_X0_homeOf l D cA cZ cL ad f g (nI (xHold nR g k)) nR nB hI) (cwV 1 hts gX0_read_X0_homeOf rfl rfl rfl (by decide +kernel) ⟨Nat.le_of_ble_eq_true rfl, Nat.le_of_ble_eq_true rfl⟩) ⟨qPre_blind, va_recv hK hP (ci := 0) (q0 := 0) rfl rfl, qPre_at hP hK⟩ rfl rfl hl.1 rfl (lv_room (Nat.le_of_ble_eq_true rfl)) dX0_read_7 ⟨Nat.le_of_ble_eq_true rfl, Nat.le_of_ble_eq_true rfl⟩) (fun z hz => ?_)
  subst hz
  refine lv_iload_n hx hb dX0_read_10 rfl (lv_at hl 1 rfl) ?_
  refine vp_callSi (W.runV (As := [.int (xHome f g (nI (xHold nR g k))), .int k]) (rest := []) ⟨hx, hb, hml, hown, hts⟩ (c_X0_rowOf l D cA cZ cL ad f g (xHome f g (nI (xHold nR g k))) k) (cwV 2 hts gX0_read_X0_rowOf rfl rfl rfl (by decide +kernel) ⟨Nat.le_of_ble_eq_true rfl, Nat.le_of_ble_eq_true rfl⟩) ⟨qPre_blind, va_recv hK hP (ci := 0) (q0 := 0) rfl rfl, qPre_at hP hK⟩ rfl rfl hl.1 rfl (lv_room (Nat.le_of_ble_eq_true rfl)) dX0_read_11 ⟨Nat.le_of_ble_eq_true rfl, Nat.le_of_ble_eq_true rfl⟩) (fun z hz => ?_)
  subst hz
  exact W.iret (v := xRowOf g (xHome f g (nI (xHold nR g k))) k) hx hb hr (fun t ht hW => ⟨xRowOf g (xHome f g (nI (xHold nR g k))) k, rfl, rfl, ht⟩) (fun q h => nomatch h) dX0_read_14
set_option maxHeartbeats 4000000 in
set_option maxRecDepth 100000 in
/-- is there a member -/
theorem c_X0_isMember (l : Launch) (D : va_G) (cA cZ cL : ClassId) (ad : Nat → Nat) (f : qFs) (g : qGs) (k : Int32) (nR : Nat) (nB : Nat) (hI : xI nR nB f) : Met l yX0_isMember wsX0_isMember ({ frames := 3, cells := 0, slots := 0, locals := 63 } : Room) (va_Pc [.ref (ad 16), .int k] (qPre D (qTy cA cZ cL) (xW cA ad f g))) (vp_Si (fun z => z = bI (¬ xRead nR f g k = -1))) 0 0 (fun _ => False) := by
  refine Met.ofW (cc := cX0_isMember) (maxL := 2) (ret := (some .boolean)) (by decide) rfl ?_
  intro p e s m args below meth c s₁ B hml hv
  obtain ⟨rfl, hP, hK⟩ := hv
  have hx := B.exec
  have hb := B.bytes
  have hr := B.returns
  have hts := atoms_spec (ws := wsX0_isMember) B.pre
  have hown : s.vm.findClass RX0 = some m.cls := findClass_of_methodNamed B.named
  have hlocks := B.notSynchronized
  have hfin : ∀ w ∈ wsX00, w ∈ wsX0_isMember := fun w h => (List.mem_cons_of_mem _ (List.mem_append_right _ h))
  have hl := lv_entry ([.ref (ad 16), .int k]) (n := 2) (Nat.le_of_ble_eq_true rfl)
  rw [lg_entry_eq]
  generalize (lg_sl ([.ref (ad 16), .int k]) ++ List.replicate (2 - (lg_sl ([.ref (ad 16), .int k])).length) Slot.unset).toArray = ls at hl ⊢
  have hl : lv_has ls 2 [(0, .ref (ad 16)), (1, .int k)] := hl
  refine lv_aload_n hx hb dX0_isMember_0 rfl (lv_at hl 0 rfl) ?_
  refine lv_iload_n hx hb dX0_isMember_1 rfl (lv_at hl 1 rfl) ?_
  refine vp_callSi (W.runV (As := [.int k]) (rest := []) ⟨hx, hb, hml, hown, hts⟩ (c_X0_read l D cA cZ cL ad f g k nR nB hI) (cwV 1 hts gX0_isMember_X0_read rfl rfl rfl (by decide +kernel) ⟨Nat.le_of_ble_eq_true rfl, Nat.le_of_ble_eq_true rfl⟩) ⟨qPre_blind, va_recv hK hP (ci := 0) (q0 := 0) rfl rfl, qPre_at hP hK⟩ rfl rfl hl.1 rfl (lv_room (Nat.le_of_ble_eq_true rfl)) dX0_isMember_2 ⟨Nat.le_of_ble_eq_true rfl, Nat.le_of_ble_eq_true rfl⟩) (fun z hz => ?_)
  subst hz
  refine lv_iconst (v := (-1)) hx hb dX0_isMember_5 (by decide) ?_
  refine lv_icmp_eq (tgt := 13) hx hb dX0_isMember_6 (by decide) (fun c_6 => ?_) (fun c_6 => ?_)
  · skip
    refine lv_iconst (v := 0) hx hb dX0_isMember_13 (by decide) ?_
    exact W.zret (v := 0) hx hb hr rfl (fun t ht hW => ⟨0, rfl, (bI_f (fun q => q c_6)).symm, ht⟩) (fun q h => nomatch h) dX0_isMember_14
  · skip
    refine lv_iconst (v := 1) hx hb dX0_isMember_9 (by decide) ?_
    refine lv_goto (tgt := 14) hx hb dX0_isMember_10 (by decide) ?_
    exact W.zret (v := 1) hx hb hr rfl (fun t ht hW => ⟨1, rfl, (bI_t (c_6)).symm, ht⟩) (fun q h => nomatch h) dX0_isMember_14
set_option maxHeartbeats 4000000 in
set_option maxRecDepth 100000 in
/-- how many rows a shard has from a key to another -/
theorem c_X0_countRows (l : Launch) (D : va_G) (cA cZ cL : ClassId) (ad : Nat → Nat) (f : qFs) (g : qGs) (sh : Int32) (lst : Int32) (lo : Nat) (hlo : lo ≤ 100) : Met l yX0_countRows wsX0_countRows ({ frames := 2, cells := 0, slots := 0, locals := 42 } : Room) (va_Pc [.ref (ad 16), .int sh, .int (nI lo), .int lst] (qPre D (qTy cA cZ cL) (xW cA ad f g))) (vp_Si (fun z => z = nI (cnt (xRowP g sh) lo (hiOf lst)))) 0 0 (fun _ => False) := by
  refine Met.ofW (cc := cX0_countRows) (maxL := 6) (ret := (some .int)) (by decide) rfl ?_
  intro p e s m args below meth c s₁ B hml hv
  obtain ⟨rfl, hP, hK⟩ := hv
  have hx := B.exec
  have hb := B.bytes
  have hr := B.returns
  have hts := atoms_spec (ws := wsX0_countRows) B.pre
  have hown : s.vm.findClass RX0 = some m.cls := findClass_of_methodNamed B.named
  have hlocks := B.notSynchronized
  have hfin : ∀ w ∈ wsX00, w ∈ wsX0_countRows := fun w h => (List.mem_cons_of_mem _ (List.mem_append_right _ h))
  have hl := lv_entry ([.ref (ad 16), .int sh, .int (nI lo), .int lst]) (n := 6) (Nat.le_of_ble_eq_true rfl)
  rw [lg_entry_eq]
  generalize (lg_sl ([.ref (ad 16), .int sh, .int (nI lo), .int lst]) ++ List.replicate (6 - (lg_sl ([.ref (ad 16), .int sh, .int (nI lo), .int lst])).length) Slot.unset).toArray = ls at hl ⊢
  have hl : lv_has ls 6 [(0, .ref (ad 16)), (1, .int sh), (2, .int (nI lo)), (3, .int lst)] := hl
  refine lv_iconst (v := 0) hx hb dX0_countRows_0 (by decide) ?_
  refine lv_istore (lv' := [(4, .int 0), (0, .ref (ad 16)), (1, .int sh), (2, .int (nI lo)), (3, .int lst)]) hx hb dX0_countRows_1 hl (by decide) rfl (fun ls hl => ?_)
  refine lv_iload_n hx hb dX0_countRows_3 rfl (lv_at hl 3 rfl) ?_
  refine lv_istore (lv' := [(5, .int (nI lo)), (4, .int 0), (0, .ref (ad 16)), (1, .int sh), (2, .int (nI lo)), (3, .int lst)]) hx hb dX0_countRows_4 hl (by decide) rfl (fun ls hl => ?_)
  have hloop_6 : ∀ (n : Nat) (k : Nat) (acc : Nat), 100 - k = n → (k ≤ 100) → (acc + cnt (xRowP g sh) k (hiOf lst) = cnt (xRowP g sh) lo (hiOf lst)) → ∀ ls : Array Slot, lv_has ls 6 [(0, .ref (ad 16)), (1, .int sh), (2, .int (nI lo)), (3, .int lst), (4, .int (nI acc)), (5, .int (nI k))] → W p l e (headSpec wsX0_countRows ({ frames := 2, cells := 0, slots := 0, locals := 42 } : Room)).room s m ([.ref (ad 16), .int sh, .int (nI lo), .int lst] : List Value).toArray below meth c s.heap [] 0 0 (MQ below (vp_Si (fun z => z = nI (cnt (xRowP g sh) lo (hiOf lst)))) ([.ref (ad 16), .int sh, .int (nI lo), .int lst] : List Value).toArray s 0 0 (fun _ => False)) (F0 m 6 ls []) := by
    intro n
    induction n using Nat.strongRecOn with
    | ind n ih =>
      intro k acc hn hk hc ls hl
      refine lv_iload hx hb dX0_countRows_6 (lv_at hl 5 rfl) ?_
      refine lv_iload_n hx hb dX0_countRows_8 rfl (lv_at hl 3 rfl) ?_
      refine lv_icmp_gt (tgt := 39) hx hb dX0_countRows_9 (by decide) (fun c_9 => ?_) (fun c_9 => ?_)
      · skip
        have hge := hi_out c_9 (by omega)
        refine lv_iload hx hb dX0_countRows_39 (lv_at hl 4 rfl) ?_
        exact W.iret (v := nI acc) hx hb hr (fun t ht hW => ⟨nI acc, rfl, (by rw [← hc, cnt_end hge]; rfl), ht⟩) (fun q h => nomatch h) dX0_countRows_41
      · skip
        refine lv_iload hx hb dX0_countRows_12 (lv_at hl 5 rfl) ?_
        refine lv_bipush (v := 100) hx hb dX0_countRows_14 (by decide) ?_
        refine lv_icmp_ge (tgt := 39) hx hb dX0_countRows_16 (by decide) (fun c_16 => ?_) (fun c_16 => ?_)
        · skip
          have hge : hiOf lst ≤ k := Nat.le_trans (hi_le lst) (n_ge (a := k) (b := 100) c_16 (by omega) (by decide))
          refine lv_iload hx hb dX0_countRows_39 (lv_at hl 4 rfl) ?_
          exact W.iret (v := nI acc) hx hb hr (fun t ht hW => ⟨nI acc, rfl, (by rw [← hc, cnt_end hge]; rfl), ht⟩) (fun q h => nomatch h) dX0_countRows_41
        · skip
          have hlt := hi_in c_9 c_16 (by omega)
          have hl1 := hi_le lst
          refine lv_aload_n hx hb dX0_countRows_19 rfl (lv_at hl 0 rfl) ?_
          refine lv_iload_n hx hb dX0_countRows_20 rfl (lv_at hl 1 rfl) ?_
          refine lv_iload hx hb dX0_countRows_21 (lv_at hl 5 rfl) ?_
          refine vp_callSi (W.runV (As := [.int sh, .int (nI k)]) (rest := []) ⟨hx, hb, hml, hown, hts⟩ (c_X0_rowOf l D cA cZ cL ad f g sh (nI k)) (cwV 2 hts gX0_countRows_X0_rowOf rfl rfl rfl (by decide +kernel) ⟨Nat.le_of_ble_eq_true rfl, Nat.le_of_ble_eq_true rfl⟩) ⟨qPre_blind, va_recv hK hP (ci := 0) (q0 := 0) rfl rfl, qPre_at hP hK⟩ rfl rfl hl.1 rfl (lv_room (Nat.le_of_ble_eq_true rfl)) dX0_countRows_23 ⟨Nat.le_of_ble_eq_true rfl, Nat.le_of_ble_eq_true rfl⟩) (fun z hz => ?_)
          subst hz
          refine lv_iconst (v := (-1)) hx hb dX0_countRows_26 (by decide) ?_
          refine lv_icmp_eq (tgt := 33) hx hb dX0_countRows_27 (by decide) (fun c_27 => ?_) (fun c_27 => ?_)
          · skip
            refine lv_iinc (v := nI (k + 1)) (lv' := [(5, .int (nI (k + 1))), (0, .ref (ad 16)), (1, .int sh), (2, .int (nI lo)), (3, .int lst), (4, .int (nI acc))]) hx hb dX0_countRows_33 hl (k := 5) rfl (nI_1 k) (by decide) rfl (fun ls hl => ?_)
            refine lv_goto (tgt := 6) hx hb dX0_countRows_36 (by decide) ?_
            exact ih _ (by omega) (k + 1) acc rfl (by omega) (by rw [← hc, cnt_n hlt (df (fun q => q c_27))]) _ (lv_sub hl [1, 2, 3, 4, 5, 0] rfl)
          · skip
            refine lv_iinc (v := nI (acc + 1)) (lv' := [(4, .int (nI (acc + 1))), (0, .ref (ad 16)), (1, .int sh), (2, .int (nI lo)), (3, .int lst), (5, .int (nI k))]) hx hb dX0_countRows_30 hl (k := 4) rfl (nI_1 acc) (by decide) rfl (fun ls hl => ?_)
            refine lv_iinc (v := nI (k + 1)) (lv' := [(5, .int (nI (k + 1))), (4, .int (nI (acc + 1))), (0, .ref (ad 16)), (1, .int sh), (2, .int (nI lo)), (3, .int lst)]) hx hb dX0_countRows_33 hl (k := 5) rfl (nI_1 k) (by decide) rfl (fun ls hl => ?_)
            refine lv_goto (tgt := 6) hx hb dX0_countRows_36 (by decide) ?_
            exact ih _ (by omega) (k + 1) (acc + 1) rfl (by omega) (by rw [← hc, cnt_y hlt (dt c_27)]; omega) _ (lv_sub hl [2, 3, 4, 5, 1, 0] rfl)
  exact hloop_6 _ lo 0 rfl hlo (Nat.zero_add _) _ (lv_sub hl [2, 3, 4, 5, 1, 0] rfl)
set_option maxHeartbeats 4000000 in
set_option maxRecDepth 100000 in
/-- is a ballot of the open vote -/
theorem c_X0_isOfOpenVote (l : Launch) (D : va_G) (cA cZ cL : ClassId) (ad : Nat → Nat) (f : qFs) (g : qGs) (b : Int32) (nR : Nat) (nB : Nat) (hI : xI nR nB f) : Met l yX0_isOfOpenVote wsX0_isOfOpenVote ({ frames := 1, cells := 0, slots := 0, locals := 21 } : Room) (va_Pc [.ref (ad 16), .int b] (qPre D (qTy cA cZ cL) (xW cA ad f g))) (vp_Si (fun z => z = bI (xOpen f g b))) 0 0 (fun _ => False) := by
  refine Met.ofW (cc := cX0_isOfOpenVote) (maxL := 2) (ret := (some .boolean)) (by decide) rfl ?_
  intro p e s m args below meth c s₁ B hml hv
  obtain ⟨rfl, hP, hK⟩ := hv
  have hx := B.exec
  have hb := B.bytes
  have hr := B.returns
  have hts := atoms_spec (ws := wsX0_isOfOpenVote) B.pre
  have hown : s.vm.findClass RX0 = some m.cls := findClass_of_methodNamed B.named
  have hlocks := B.notSynchronized
  have hfin : ∀ w ∈ wsX00, w ∈ wsX0_isOfOpenVote := fun w h => (List.mem_cons_of_mem _ (List.mem_append_right _ h))
  have hl := lv_entry ([.ref (ad 16), .int b]) (n := 2) (Nat.le_of_ble_eq_true rfl)
  rw [lg_entry_eq]
  generalize (lg_sl ([.ref (ad 16), .int b]) ++ List.replicate (2 - (lg_sl ([.ref (ad 16), .int b])).length) Slot.unset).toArray = ls at hl ⊢
  have hl : lv_has ls 2 [(0, .ref (ad 16)), (1, .int b)] := hl
  refine lv_aload_n hx hb dX0_isOfOpenVote_0 rfl (lv_at hl 0 rfl) ?_
  refine va_get (D := D) (ci := 0) (v := .int (f 7)) (C := RX0) (T := TX0) (N := 16) hx hb hts hfin hown hK hP 0 rfl rfl 7 (by decide) (hts _ (List.mem_cons_of_mem _ (List.mem_append_left _ (List.mem_of_getElem? (i := 0) rfl)))) (fun _ h9 => h9) rfl dX0_isOfOpenVote_1 ?_
  refine lv_if_eq (tgt := 32) hx hb dX0_isOfOpenVote_4 (by decide) (fun c_4 => ?_) (fun c_4 => ?_)
  · skip
    refine lv_iconst (v := 0) hx hb dX0_isOfOpenVote_32 (by decide) ?_
    exact W.zret (v := 0) hx hb hr rfl (fun t ht hW => ⟨0, rfl, (bI_f (fun q => q.1 c_4)).symm, ht⟩) (fun q h => nomatch h) dX0_isOfOpenVote_33
  · skip
    refine lv_aload_n hx hb dX0_isOfOpenVote_7 rfl (lv_at hl 0 rfl) ?_
    refine lv_iload_n hx hb dX0_isOfOpenVote_8 rfl (lv_at hl 1 rfl) ?_
    refine vp_callSi (W.runV (As := [.int b]) (rest := []) ⟨hx, hb, hml, hown, hts⟩ (c_X0_isBallot l D cA cZ cL ad f g b) (cwV 1 hts gX0_isOfOpenVote_X0_isBallot rfl rfl rfl (by decide +kernel) ⟨Nat.le_of_ble_eq_true rfl, Nat.le_of_ble_eq_true rfl⟩) ⟨qPre_blind, va_recv hK hP (ci := 0) (q0 := 0) rfl rfl, qPre_at hP hK⟩ rfl rfl hl.1 rfl (lv_room (Nat.le_of_ble_eq_true rfl)) dX0_isOfOpenVote_9 ⟨Nat.le_of_ble_eq_true rfl, Nat.le_of_ble_eq_true rfl⟩) (fun z hz => ?_)
    subst hz
    refine lv_if_eq (tgt := 32) hx hb dX0_isOfOpenVote_12 (by decide) (fun c_12 => ?_) (fun c_12 => ?_)
    · have c_12 := bI_0.mp c_12
      refine lv_iconst (v := 0) hx hb dX0_isOfOpenVote_32 (by decide) ?_
      exact W.zret (v := 0) hx hb hr rfl (fun t ht hW => ⟨0, rfl, (bI_f (fun q => c_12 q.2.1)).symm, ht⟩) (fun q h => nomatch h) dX0_isOfOpenVote_33
    · have c_12 := bI_n.mp c_12
      refine lv_aload_n hx hb dX0_isOfOpenVote_15 rfl (lv_at hl 0 rfl) ?_
      refine va_get (D := D) (ci := 0) (v := .ref (ad 10)) (C := RX0) (T := TX0) (N := 16) hx hb hts hfin hown hK hP 0 rfl rfl 10 (by decide) (hts _ (List.mem_cons_of_mem _ (List.mem_append_left _ (List.mem_of_getElem? (i := 1) rfl)))) (fun _ h9 => h9) rfl dX0_isOfOpenVote_16 ?_
      refine lv_iload_n hx hb dX0_isOfOpenVote_19 rfl (lv_at hl 1 rfl) ?_
      refine va_iald hx hb hK hP 7 0 rfl rfl (x_in60 hI c_12) dX0_isOfOpenVote_20 ?_
      refine lv_aload_n hx hb dX0_isOfOpenVote_21 rfl (lv_at hl 0 rfl) ?_
      refine va_get (D := D) (ci := 0) (v := .int (f 8)) (C := RX0) (T := TX0) (N := 16) hx hb hts hfin hown hK hP 0 rfl rfl 8 (by decide) (hts _ (List.mem_cons_of_mem _ (List.mem_append_left _ (List.mem_of_getElem? (i := 2) rfl)))) (fun _ h9 => h9) rfl dX0_isOfOpenVote_22 ?_
      refine lv_icmp_ne (tgt := 32) hx hb dX0_isOfOpenVote_25 (by decide) (fun c_25 => ?_) (fun c_25 => ?_)
      · skip
        refine lv_iconst (v := 0) hx hb dX0_isOfOpenVote_32 (by decide) ?_
        exact W.zret (v := 0) hx hb hr rfl (fun t ht hW => ⟨0, rfl, (bI_f (fun q => c_25 q.2.2)).symm, ht⟩) (fun q h => nomatch h) dX0_isOfOpenVote_33
      · skip
        refine lv_iconst (v := 1) hx hb dX0_isOfOpenVote_28 (by decide) ?_
        refine lv_goto (tgt := 33) hx hb dX0_isOfOpenVote_29 (by decide) ?_
        exact W.zret (v := 1) hx hb hr rfl (fun t ht hW => ⟨1, rfl, (bI_t (⟨c_4, c_12, c_25⟩)).symm, ht⟩) (fun q h => nomatch h) dX0_isOfOpenVote_33
set_option maxHeartbeats 4000000 in
set_option maxRecDepth 100000 in
/-- the latest ballot to a key -/
theorem c_X0_latestBallotTo (l : Launch) (D : va_G) (cA cZ cL : ClassId) (ad : Nat → Nat) (f : qFs) (g : qGs) (k : Int32) (nR : Nat) (nB : Nat) (hI : xI nR nB f) : Met l yX0_latestBallotTo wsX0_latestBallotTo ({ frames := 2, cells := 0, slots := 0, locals := 42 } : Room) (va_Pc [.ref (ad 16), .int k] (qPre D (qTy cA cZ cL) (xW cA ad f g))) (vp_Si (fun z => z = xLatN (xLatP f g k) nB)) 0 0 (fun _ => False) := by
  refine Met.ofW (cc := cX0_latestBallotTo) (maxL := 3) (ret := (some .int)) (by decide) rfl ?_
  intro p e s m args below meth c s₁ B hml hv
  obtain ⟨rfl, hP, hK⟩ := hv
  have hx := B.exec
  have hb := B.bytes
  have hr := B.returns
  have hts := atoms_spec (ws := wsX0_latestBallotTo) B.pre
  have hown : s.vm.findClass RX0 = some m.cls := findClass_of_methodNamed B.named
  have hlocks := B.notSynchronized
  have hfin : ∀ w ∈ wsX00, w ∈ wsX0_latestBallotTo := fun w h => (List.mem_cons_of_mem _ (List.mem_append_right _ h))
  have hl := lv_entry ([.ref (ad 16), .int k]) (n := 3) (Nat.le_of_ble_eq_true rfl)
  rw [lg_entry_eq]
  generalize (lg_sl ([.ref (ad 16), .int k]) ++ List.replicate (3 - (lg_sl ([.ref (ad 16), .int k])).length) Slot.unset).toArray = ls at hl ⊢
  have hl : lv_has ls 3 [(0, .ref (ad 16)), (1, .int k)] := hl
  have hB6 := hI.2.2.2.2
  refine lv_aload_n hx hb dX0_latestBallotTo_0 rfl (lv_at hl 0 rfl) ?_
  refine va_get (D := D) (ci := 0) (v := .int (f 15)) (C := RX0) (T := TX0) (N := 16) hx hb hts hfin hown hK hP 0 rfl rfl 15 (by decide) (hts _ (List.mem_cons_of_mem _ (List.mem_append_left _ (List.mem_of_getElem? (i := 0) rfl)))) (fun _ h9 => h9) rfl dX0_latestBallotTo_1 ?_
  refine lv_iconst (v := 1) hx hb dX0_latestBallotTo_4 (by decide) ?_
  refine lv_isub hx hb dX0_latestBallotTo_5 ?_
  refine lv_topi (fun v_5 hv_5 => ?_)
  have hv_5 : v_5 = nI nB - 1 := hv_5.trans (x_B1 hI)
  subst hv_5
  refine lv_istore_n (lv' := [(2, .int (nI nB - 1)), (0, .ref (ad 16)), (1, .int k)]) hx hb dX0_latestBallotTo_6 rfl hl (by decide) rfl (fun ls hl => ?_)
  have hloop_7 : ∀ (n : Nat) (i : Nat), i = n → (i ≤ 60) → (xLatN (xLatP f g k) i = xLatN (xLatP f g k) nB) → ∀ ls : Array Slot, lv_has ls 3 [(0, .ref (ad 16)), (1, .int k), (2, .int (nI i - 1))] → W p l e (headSpec wsX0_latestBallotTo ({ frames := 2, cells := 0, slots := 0, locals := 42 } : Room)).room s m ([.ref (ad 16), .int k] : List Value).toArray below meth c s.heap [] 0 0 (MQ below (vp_Si (fun z => z = xLatN (xLatP f g k) nB)) ([.ref (ad 16), .int k] : List Value).toArray s 0 0 (fun _ => False)) (F0 m 7 ls []) := by
    intro n
    induction n using Nat.strongRecOn with
    | ind n ih =>
      intro i hn hi hh ls hl
      refine lv_iload_n hx hb dX0_latestBallotTo_7 rfl (lv_at hl 2 rfl) ?_
      refine lv_if_lt (tgt := 37) hx hb dX0_latestBallotTo_8 (by decide) (fun c_8 => ?_) (fun c_8 => ?_)
      · skip
        have h0 := latN_out hi c_8
        subst h0
        refine lv_iconst (v := (-1)) hx hb dX0_latestBallotTo_37 (by decide) ?_
        exact W.iret (v := (-1)) hx hb hr (fun t ht hW => ⟨(-1), rfl, hh, ht⟩) (fun q h => nomatch h) dX0_latestBallotTo_38
      · skip
        obtain ⟨j, rfl⟩ := latN_in c_8
        rw [nI_pred] at hl
        refine lv_aload_n hx hb dX0_latestBallotTo_11 rfl (lv_at hl 0 rfl) ?_
        refine lv_iload_n hx hb dX0_latestBallotTo_12 rfl (lv_at hl 2 rfl) ?_
        refine vp_callSi (W.runV (As := [.int (nI j)]) (rest := []) ⟨hx, hb, hml, hown, hts⟩ (c_X0_isOfOpenVote l D cA cZ cL ad f g (nI j) nR nB hI) (cwV 1 hts gX0_latestBallotTo_X0_isOfOpenVote rfl rfl rfl (by decide +kernel) ⟨Nat.le_of_ble_eq_true rfl, Nat.le_of_ble_eq_true rfl⟩) ⟨qPre_blind, va_recv hK hP (ci := 0) (q0 := 0) rfl rfl, qPre_at hP hK⟩ rfl rfl hl.1 rfl (lv_room (Nat.le_of_ble_eq_true rfl)) dX0_latestBallotTo_13 ⟨Nat.le_of_ble_eq_true rfl, Nat.le_of_ble_eq_true rfl⟩) (fun z hz => ?_)
        subst hz
        refine lv_if_eq (tgt := 31) hx hb dX0_latestBallotTo_16 (by decide) (fun c_16 => ?_) (fun c_16 => ?_)
        · have c_16 := bI_0.mp c_16
          refine lv_iinc (v := nI j - 1) (lv' := [(2, .int (nI j - 1)), (0, .ref (ad 16)), (1, .int k)]) hx hb dX0_latestBallotTo_31 hl (k := 2) rfl (i_m1 _) (by decide) rfl (fun ls hl => ?_)
          refine lv_goto (tgt := 7) hx hb dX0_latestBallotTo_34 (by decide) ?_
          exact ih _ (by omega) j rfl (by omega) (by rw [← hh]; show _ = (if _ then _ else _); rw [if_neg (df (fun q => c_16 q.1))]) _ (lv_sub hl [1, 2, 0] rfl)
        · have c_16 := bI_n.mp c_16
          refine lv_aload_n hx hb dX0_latestBallotTo_19 rfl (lv_at hl 0 rfl) ?_
          refine va_get (D := D) (ci := 0) (v := .ref (ad 9)) (C := RX0) (T := TX0) (N := 16) hx hb hts hfin hown hK hP 0 rfl rfl 9 (by decide) (hts _ (List.mem_cons_of_mem _ (List.mem_append_left _ (List.mem_of_getElem? (i := 1) rfl)))) (fun _ h9 => h9) rfl dX0_latestBallotTo_20 ?_
          refine lv_iload_n hx hb dX0_latestBallotTo_23 rfl (lv_at hl 2 rfl) ?_
          refine va_iald hx hb hK hP 6 0 rfl rfl (vp_in_nI (by omega) (by decide)) dX0_latestBallotTo_24 ?_
          refine lv_topi (fun v_24 hv_24 => ?_)
          have hv_24 : v_24 = g 9 j := hv_24.trans (by rw [nI_clamp (by omega)])
          subst hv_24
          refine lv_iload_n hx hb dX0_latestBallotTo_25 rfl (lv_at hl 1 rfl) ?_
          refine lv_icmp_ne (tgt := 31) hx hb dX0_latestBallotTo_26 (by decide) (fun c_26 => ?_) (fun c_26 => ?_)
          · skip
            refine lv_iinc (v := nI j - 1) (lv' := [(2, .int (nI j - 1)), (0, .ref (ad 16)), (1, .int k)]) hx hb dX0_latestBallotTo_31 hl (k := 2) rfl (i_m1 _) (by decide) rfl (fun ls hl => ?_)
            refine lv_goto (tgt := 7) hx hb dX0_latestBallotTo_34 (by decide) ?_
            exact ih _ (by omega) j rfl (by omega) (by rw [← hh]; show _ = (if _ then _ else _); rw [if_neg (df (fun q => c_26 q.2))]) _ (lv_sub hl [1, 2, 0] rfl)
          · skip
            refine lv_iload_n hx hb dX0_latestBallotTo_29 rfl (lv_at hl 2 rfl) ?_
            exact W.iret (v := nI j) hx hb hr (fun t ht hW => ⟨nI j, rfl, (by rw [← hh]; show _ = (if _ then _ else _); rw [if_pos (dt ⟨c_16, c_26⟩)]), ht⟩) (fun q h => nomatch h) dX0_latestBallotTo_30
  exact hloop_7 _ nB rfl hB6 rfl _ (lv_sub hl [1, 2, 0] rfl)
set_option maxHeartbeats 4000000 in
set_option maxRecDepth 100000 in
/-- the lowest key of a moved range whose row has not been brought -/
theorem c_X0_lowestKeyNotBrought (l : Launch) (D : va_G) (cA cZ cL : ClassId) (ad : Nat → Nat) (f : qFs) (g : qGs) (r : Int32) (nR : Nat) (nB : Nat) (hI : xI nR nB f) (lo : Nat) (hlo : lo ≤ 100) (hlo2 : xFirst f g r = nI lo) : Met l yX0_lowestKeyNotBrought wsX0_lowestKeyNotBrought ({ frames := 3, cells := 0, slots := 0, locals := 63 } : Room) (va_Pc [.ref (ad 16), .int r] (qPre D (qTy cA cZ cL) (xW cA ad f g))) (vp_Si (fun z => z = upN (xLowP f g r) lo (hiOf (xLast f g r) - lo))) 0 0 (fun _ => False) := by
  refine Met.ofW (cc := cX0_lowestKeyNotBrought) (maxL := 6) (ret := (some .int)) (by decide) rfl ?_
  intro p e s m args below meth c s₁ B hml hv
  obtain ⟨rfl, hP, hK⟩ := hv
  have hx := B.exec
  have hb := B.bytes
  have hr := B.returns
  have hts := atoms_spec (ws := wsX0_lowestKeyNotBrought) B.pre
  have hown : s.vm.findClass RX0 = some m.cls := findClass_of_methodNamed B.named
  have hlocks := B.notSynchronized
  have hfin : ∀ w ∈ wsX00, w ∈ wsX0_lowestKeyNotBrought := fun w h => (List.mem_cons_of_mem _ (List.mem_append_right _ h))
  have hl := lv_entry ([.ref (ad 16), .int r]) (n := 6) (Nat.le_of_ble_eq_true rfl)
  rw [lg_entry_eq]
  generalize (lg_sl ([.ref (ad 16), .int r]) ++ List.replicate (6 - (lg_sl ([.ref (ad 16), .int r])).length) Slot.unset).toArray = ls at hl ⊢
  have hl : lv_has ls 6 [(0, .ref (ad 16)), (1, .int r)] := hl
  refine lv_aload_n hx hb dX0_lowestKeyNotBrought_0 rfl (lv_at hl 0 rfl) ?_
  refine lv_iload_n hx hb dX0_lowestKeyNotBrought_1 rfl (lv_at hl 1 rfl) ?_
  refine vp_callSi (W.runV (As := [.int r]) (rest := []) ⟨hx, hb, hml, hown, hts⟩ (c_X0_homeOf l D cA cZ cL ad f g r nR nB hI) (cwV 1 hts gX0_lowestKeyNotBrought_X0_homeOf rfl rfl rfl (by decide +kernel) ⟨Nat.le_of_ble_eq_true rfl, Nat.le_of_ble_eq_true rfl⟩) ⟨qPre_blind, va_recv hK hP (ci := 0) (q0 := 0) rfl rfl, qPre_at hP hK⟩ rfl rfl hl.1 rfl (lv_room (Nat.le_of_ble_eq_true rfl)) dX0_lowestKeyNotBrought_2 ⟨Nat.le_of_ble_eq_true rfl, Nat.le_of_ble_eq_true rfl⟩) (fun z hz => ?_)
  subst hz
  refine lv_istore_n (lv' := [(2, .int (xHome f g r)), (0, .ref (ad 16)), (1, .int r)]) hx hb dX0_lowestKeyNotBrought_5 rfl hl (by decide) rfl (fun ls hl => ?_)
  refine lv_aload_n hx hb dX0_lowestKeyNotBrought_6 rfl (lv_at hl 1 rfl) ?_
  refine lv_iload_n hx hb dX0_lowestKeyNotBrought_7 rfl (lv_at hl 2 rfl) ?_
  refine vp_callSi (W.runV (As := [.int r]) (rest := []) ⟨hx, hb, hml, hown, hts⟩ (c_X0_targetOf l D cA cZ cL ad f g r nR nB hI) (cwV 1 hts gX0_lowestKeyNotBrought_X0_targetOf rfl rfl rfl (by decide +kernel) ⟨Nat.le_of_ble_eq_true rfl, Nat.le_of_ble_eq_true rfl⟩) ⟨qPre_blind, va_recv hK hP (ci := 0) (q0 := 0) rfl rfl, qPre_at hP hK⟩ rfl rfl hl.1 rfl (lv_room (Nat.le_of_ble_eq_true rfl)) dX0_lowestKeyNotBrought_8 ⟨Nat.le_of_ble_eq_true rfl, Nat.le_of_ble_eq_true rfl⟩) (fun z hz => ?_)
  subst hz
  refine lv_istore_n (lv' := [(3, .int (xTarg f g r)), (2, .int (xHome f g r)), (0, .ref (ad 16)), (1, .int r)]) hx hb dX0_lowestKeyNotBrought_11 rfl hl (by decide) rfl (fun ls hl => ?_)
  refine lv_aload_n hx hb dX0_lowestKeyNotBrought_12 rfl (lv_at hl 2 rfl) ?_
  refine lv_iload_n hx hb dX0_lowestKeyNotBrought_13 rfl (lv_at hl 3 rfl) ?_
  refine vp_callSi (W.runV (As := [.int r]) (rest := []) ⟨hx, hb, hml, hown, hts⟩ (c_X0_lastKeyOf l D cA cZ cL ad f g r nR nB hI) (cwV 1 hts gX0_lowestKeyNotBrought_X0_lastKeyOf rfl rfl rfl (by decide +kernel) ⟨Nat.le_of_ble_eq_true rfl, Nat.le_of_ble_eq_true rfl⟩) ⟨qPre_blind, va_recv hK hP (ci := 0) (q0 := 0) rfl rfl, qPre_at hP hK⟩ rfl rfl hl.1 rfl (lv_room (Nat.le_of_ble_eq_true rfl)) dX0_lowestKeyNotBrought_14 ⟨Nat.le_of_ble_eq_true rfl, Nat.le_of_ble_eq_true rfl⟩) (fun z hz => ?_)
  subst hz
  refine lv_istore (lv' := [(4, .int (xLast f g r)), (3, .int (xTarg f g r)), (2, .int (xHome f g r)), (0, .ref (ad 16)), (1, .int r)]) hx hb dX0_lowestKeyNotBrought_17 hl (by decide) rfl (fun ls hl => ?_)
  refine lv_aload_n hx hb dX0_lowestKeyNotBrought_19 rfl (lv_at hl 3 rfl) ?_
  refine lv_iload_n hx hb dX0_lowestKeyNotBrought_20 rfl (lv_at hl 4 rfl) ?_
  refine vp_callSi (W.runV (As := [.int r]) (rest := []) ⟨hx, hb, hml, hown, hts⟩ (c_X0_firstKeyOf l D cA cZ cL ad f g r nR nB hI) (cwV 1 hts gX0_lowestKeyNotBrought_X0_firstKeyOf rfl rfl rfl (by decide +kernel) ⟨Nat.le_of_ble_eq_true rfl, Nat.le_of_ble_eq_true rfl⟩) ⟨qPre_blind, va_recv hK hP (ci := 0) (q0 := 0) rfl rfl, qPre_at hP hK⟩ rfl rfl hl.1 rfl (lv_room (Nat.le_of_ble_eq_true rfl)) dX0_lowestKeyNotBrought_21 ⟨Nat.le_of_ble_eq_true rfl, Nat.le_of_ble_eq_true rfl⟩) (fun z hz => ?_)
  subst hz
  refine lv_topi (fun v_21 hv_21 => ?_)
  have hv_21 : v_21 = nI lo := hv_21.trans (hlo2)
  subst hv_21
  refine lv_istore (lv' := [(5, .int (nI lo)), (4, .int (xLast f g r)), (3, .int (xTarg f g r)), (2, .int (xHome f g r)), (0, .ref (ad 16)), (1, .int r)]) hx hb dX0_lowestKeyNotBrought_24 hl (by decide) rfl (fun ls hl => ?_)
  have hloop_26 : ∀ (n : Nat) (k : Nat), 100 - k = n → (k ≤ 100) → (upN (xLowP f g r) k (hiOf (xLast f g r) - k) = upN (xLowP f g r) lo (hiOf (xLast f g r) - lo)) → ∀ ls : Array Slot, lv_has ls 6 [(0, .ref (ad 16)), (1, .int r), (2, .int (xHome f g r)), (3, .int (xTarg f g r)), (4, .int (xLast f g r)), (5, .int (nI k))] → W p l e (headSpec wsX0_lowestKeyNotBrought ({ frames := 3, cells := 0, slots := 0, locals := 63 } : Room)).room s m ([.ref (ad 16), .int r] : List Value).toArray below meth c s.heap [] 0 0 (MQ below (vp_Si (fun z => z = upN (xLowP f g r) lo (hiOf (xLast f g r) - lo))) ([.ref (ad 16), .int r] : List Value).toArray s 0 0 (fun _ => False)) (F0 m 26 ls []) := by
    intro n
    induction n using Nat.strongRecOn with
    | ind n ih =>
      intro k hn hk hc ls hl
      refine lv_iload hx hb dX0_lowestKeyNotBrought_26 (lv_at hl 5 rfl) ?_
      refine lv_iload hx hb dX0_lowestKeyNotBrought_28 (lv_at hl 4 rfl) ?_
      refine lv_icmp_gt (tgt := 71) hx hb dX0_lowestKeyNotBrought_30 (by decide) (fun c_30 => ?_) (fun c_30 => ?_)
      · skip
        have hge := hi_out c_30 (by omega)
        refine lv_iconst (v := (-1)) hx hb dX0_lowestKeyNotBrought_71 (by decide) ?_
        exact W.iret (v := (-1)) hx hb hr (fun t ht hW => ⟨(-1), rfl, (by rw [← hc, upN_e hge]), ht⟩) (fun q h => nomatch h) dX0_lowestKeyNotBrought_72
      · skip
        refine lv_iload hx hb dX0_lowestKeyNotBrought_33 (lv_at hl 5 rfl) ?_
        refine lv_bipush (v := 100) hx hb dX0_lowestKeyNotBrought_35 (by decide) ?_
        refine lv_icmp_ge (tgt := 71) hx hb dX0_lowestKeyNotBrought_37 (by decide) (fun c_37 => ?_) (fun c_37 => ?_)
        · skip
          have hge : hiOf (xLast f g r) ≤ k := Nat.le_trans (hi_le _) (n_ge (a := k) (b := 100) c_37 (by omega) (by decide))
          refine lv_iconst (v := (-1)) hx hb dX0_lowestKeyNotBrought_71 (by decide) ?_
          exact W.iret (v := (-1)) hx hb hr (fun t ht hW => ⟨(-1), rfl, (by rw [← hc, upN_e hge]), ht⟩) (fun q h => nomatch h) dX0_lowestKeyNotBrought_72
        · skip
          have hlt := hi_in c_30 c_37 (by omega)
          have hl1 := hi_le (xLast f g r)
          refine lv_aload_n hx hb dX0_lowestKeyNotBrought_40 rfl (lv_at hl 0 rfl) ?_
          refine lv_iload_n hx hb dX0_lowestKeyNotBrought_41 rfl (lv_at hl 2 rfl) ?_
          refine lv_iload hx hb dX0_lowestKeyNotBrought_42 (lv_at hl 5 rfl) ?_
          refine vp_callSi (W.runV (As := [.int (xHome f g r), .int (nI k)]) (rest := []) ⟨hx, hb, hml, hown, hts⟩ (c_X0_rowOf l D cA cZ cL ad f g (xHome f g r) (nI k)) (cwV 2 hts gX0_lowestKeyNotBrought_X0_rowOf rfl rfl rfl (by decide +kernel) ⟨Nat.le_of_ble_eq_true rfl, Nat.le_of_ble_eq_true rfl⟩) ⟨qPre_blind, va_recv hK hP (ci := 0) (q0 := 0) rfl rfl, qPre_at hP hK⟩ rfl rfl hl.1 rfl (lv_room (Nat.le_of_ble_eq_true rfl)) dX0_lowestKeyNotBrought_44 ⟨Nat.le_of_ble_eq_true rfl, Nat.le_of_ble_eq_true rfl⟩) (fun z hz => ?_)
          subst hz
          refine lv_iconst (v := (-1)) hx hb dX0_lowestKeyNotBrought_47 (by decide) ?_
          refine lv_icmp_eq (tgt := 65) hx hb dX0_lowestKeyNotBrought_48 (by decide) (fun c_48 => ?_) (fun c_48 => ?_)
          · skip
            refine lv_iinc (v := nI (k + 1)) (lv' := [(5, .int (nI (k + 1))), (0, .ref (ad 16)), (1, .int r), (2, .int (xHome f g r)), (3, .int (xTarg f g r)), (4, .int (xLast f g r))]) hx hb dX0_lowestKeyNotBrought_65 hl (k := 5) rfl (nI_1 k) (by decide) rfl (fun ls hl => ?_)
            refine lv_goto (tgt := 26) hx hb dX0_lowestKeyNotBrought_68 (by decide) ?_
            exact ih _ (by omega) (k + 1) rfl (by omega) (by rw [← hc]; exact (upN_n hlt (df (fun q => q.1 c_48))).symm) _ (lv_sub hl [1, 2, 3, 4, 5, 0] rfl)
          · skip
            refine lv_aload_n hx hb dX0_lowestKeyNotBrought_51 rfl (lv_at hl 0 rfl) ?_
            refine lv_iload_n hx hb dX0_lowestKeyNotBrought_52 rfl (lv_at hl 3 rfl) ?_
            refine lv_iload hx hb dX0_lowestKeyNotBrought_53 (lv_at hl 5 rfl) ?_
            refine vp_callSi (W.runV (As := [.int (xTarg f g r), .int (nI k)]) (rest := []) ⟨hx, hb, hml, hown, hts⟩ (c_X0_rowOf l D cA cZ cL ad f g (xTarg f g r) (nI k)) (cwV 2 hts gX0_lowestKeyNotBrought_X0_rowOf rfl rfl rfl (by decide +kernel) ⟨Nat.le_of_ble_eq_true rfl, Nat.le_of_ble_eq_true rfl⟩) ⟨qPre_blind, va_recv hK hP (ci := 0) (q0 := 0) rfl rfl, qPre_at hP hK⟩ rfl rfl hl.1 rfl (lv_room (Nat.le_of_ble_eq_true rfl)) dX0_lowestKeyNotBrought_55 ⟨Nat.le_of_ble_eq_true rfl, Nat.le_of_ble_eq_true rfl⟩) (fun z hz => ?_)
            subst hz
            refine lv_iconst (v := (-1)) hx hb dX0_lowestKeyNotBrought_58 (by decide) ?_
            refine lv_icmp_ne (tgt := 65) hx hb dX0_lowestKeyNotBrought_59 (by decide) (fun c_59 => ?_) (fun c_59 => ?_)
            · skip
              refine lv_iinc (v := nI (k + 1)) (lv' := [(5, .int (nI (k + 1))), (0, .ref (ad 16)), (1, .int r), (2, .int (xHome f g r)), (3, .int (xTarg f g r)), (4, .int (xLast f g r))]) hx hb dX0_lowestKeyNotBrought_65 hl (k := 5) rfl (nI_1 k) (by decide) rfl (fun ls hl => ?_)
              refine lv_goto (tgt := 26) hx hb dX0_lowestKeyNotBrought_68 (by decide) ?_
              exact ih _ (by omega) (k + 1) rfl (by omega) (by rw [← hc]; exact (upN_n hlt (df (fun q => c_59 q.2))).symm) _ (lv_sub hl [1, 2, 3, 4, 5, 0] rfl)
            · skip
              refine lv_iload hx hb dX0_lowestKeyNotBrought_62 (lv_at hl 5 rfl) ?_
              exact W.iret (v := nI k) hx hb hr (fun t ht hW => ⟨nI k, rfl, (by rw [← hc]; exact (upN_y hlt (dt ⟨c_48, c_59⟩)).symm), ht⟩) (fun q h => nomatch h) dX0_lowestKeyNotBrought_64
  exact hloop_26 _ lo rfl hlo rfl _ (lv_sub hl [4, 5, 3, 2, 1, 0] rfl)
end
section
set_option maxHeartbeats 4000000 in
set_option maxRecDepth 100000 in
/-- puts a row, if there is such a shard and key -/
theorem c_X0_putRow (l : Launch) (D : va_G) (cA cZ cL : ClassId) (ad : Nat → Nat) (f : qFs) (g : qGs) (sz : Nat) (sh : Int32) (k : Int32) (a : Int32) : Met l yX0_putRow wsX0_putRow ({ frames := 1, cells := 0, slots := 0, locals := 20 } : Room) (va_Pc [.ref (ad 16), .int sh, .int k, .int a] (qPreW D (qTy cA cZ cL) (xW cA ad f g) sz)) (va_Qv (fun u : qFs × qGs => u.1 = f ∧ u.2 = xPutG g sh k a) (qAt D (va_A (xW cA ad f g) sz) (fun u : qFs × qGs => xW cA ad u.1 u.2)) (va_A (xW cA ad f g) sz)) 0 0 (va_A (xW cA ad f g) sz) := by
  refine Met.ofW (cc := cX0_putRow) (maxL := 4) (ret := none) (by decide) rfl ?_
  intro p e s m args below meth c s₁ B hml hv
  obtain ⟨rfl, hsz, hP, hK, hD0⟩ := hv
  have hx := B.exec
  have hb := B.bytes
  have hr := B.returns
  have hts := atoms_spec (ws := wsX0_putRow) B.pre
  have hown : s.vm.findClass RX0 = some m.cls := findClass_of_methodNamed B.named
  have hlocks := B.notSynchronized
  subst hsz
  have hD := hD0.self (sz := s.heap.size)
  generalize hAe : va_A (xW cA ad f g) s.heap.size = A at hD ⊢
  have hA : ∀ q : Nat, s.heap.size ≤ q → A q := fun q h => by rw [← hAe]; exact Or.inr h
  have hS : va_S A s.heap s.heap [] := va_S.rf
  have hfin : ∀ w ∈ wsX00, w ∈ wsX0_putRow := fun w h => (List.mem_cons_of_mem _ (List.mem_append_right _ h))
  have hl := lv_entry ([.ref (ad 16), .int sh, .int k, .int a]) (n := 4) (Nat.le_of_ble_eq_true rfl)
  rw [lg_entry_eq]
  generalize (lg_sl ([.ref (ad 16), .int sh, .int k, .int a]) ++ List.replicate (4 - (lg_sl ([.ref (ad 16), .int sh, .int k, .int a])).length) Slot.unset).toArray = ls at hl ⊢
  have hl : lv_has ls 4 [(0, .ref (ad 16)), (1, .int sh), (2, .int k), (3, .int a)] := hl
  refine lv_iload_n hx hb dX0_putRow_0 rfl (lv_at hl 1 rfl) ?_
  refine vp_callSi (W.runS (As := [.int sh]) (rest := []) ⟨hx, hb, hml, hown, hts⟩ (c_X0_isShard l sh) (va_cwS 1 hts gX0_putRow_X0_isShard rfl rfl rfl (by decide +kernel) ⟨Nat.le_of_ble_eq_true rfl, Nat.le_of_ble_eq_true rfl⟩) ⟨qN_blind, qN_at⟩ rfl rfl hl.1 rfl (lv_room (Nat.le_of_ble_eq_true rfl)) dX0_putRow_1 ⟨Nat.le_of_ble_eq_true rfl, Nat.le_of_ble_eq_true rfl⟩) (fun z hz => ?_)
  subst hz
  refine lv_if_eq (tgt := 26) hx hb dX0_putRow_4 (by decide) (fun c_4 => ?_) (fun c_4 => ?_)
  · have c_4 := bI_0.mp c_4
    exact W.vret hx hb hr (fun t ht hW => ⟨⟨(f, g), rfl, ⟨rfl, (by unfold xPutG xPut; rw [if_neg (fun q => c_4 q.1), up_self])⟩, by rw [ht]; exact hP, hD⟩, hS.F ht⟩) hS.2.2 dX0_putRow_26
  · have c_4 := bI_n.mp c_4
    refine lv_iload_n hx hb dX0_putRow_7 rfl (lv_at hl 2 rfl) ?_
    refine vp_callSi (W.runS (As := [.int k]) (rest := []) ⟨hx, hb, hml, hown, hts⟩ (c_X0_isKey l k) (va_cwS 1 hts gX0_putRow_X0_isKey rfl rfl rfl (by decide +kernel) ⟨Nat.le_of_ble_eq_true rfl, Nat.le_of_ble_eq_true rfl⟩) ⟨qN_blind, qN_at⟩ rfl rfl hl.1 rfl (lv_room (Nat.le_of_ble_eq_true rfl)) dX0_putRow_8 ⟨Nat.le_of_ble_eq_true rfl, Nat.le_of_ble_eq_true rfl⟩) (fun z hz => ?_)
    subst hz
    refine lv_if_eq (tgt := 26) hx hb dX0_putRow_11 (by decide) (fun c_11 => ?_) (fun c_11 => ?_)
    · have c_11 := bI_0.mp c_11
      exact W.vret hx hb hr (fun t ht hW => ⟨⟨(f, g), rfl, ⟨rfl, (by unfold xPutG xPut; rw [if_neg (fun q => c_11 q.2), up_self])⟩, by rw [ht]; exact hP, hD⟩, hS.F ht⟩) hS.2.2 dX0_putRow_26
    · have c_11 := bI_n.mp c_11
      refine lv_aload_n hx hb dX0_putRow_14 rfl (lv_at hl 0 rfl) ?_
      refine va_get (D := D) (ci := 0) (v := .ref (ad 0)) (C := RX0) (T := TX0) (N := 16) hx hb hts hfin hown hK hP 0 rfl rfl 0 (by decide) (hts _ (List.mem_cons_of_mem _ (List.mem_append_left _ (List.mem_of_getElem? (i := 0) rfl)))) (fun _ h9 => h9) rfl dX0_putRow_15 ?_
      refine lv_iload_n hx hb dX0_putRow_18 rfl (lv_at hl 1 rfl) ?_
      refine lv_bipush (v := 100) hx hb dX0_putRow_19 (by decide) ?_
      refine lv_imul hx hb dX0_putRow_21 ?_
      refine lv_iload_n hx hb dX0_putRow_22 rfl (lv_at hl 2 rfl) ?_
      refine lv_iadd hx hb dX0_putRow_23 ?_
      refine lv_iload_n hx hb dX0_putRow_24 rfl (lv_at hl 3 rfl) ?_
      refine va_iast hx hb hK hP hD hS 1 0 rfl rfl (x_inT c_4 c_11) dX0_putRow_25 (fun H locs hP hD hS => ?_)
      have hP : va_P D vwCl (xW cA ad f (va_up g 0 (upd (g 0) ((sh * 100) + k).toNatClampNeg a))) H := hP
      have hD : va_D A (xW cA ad f (va_up g 0 (upd (g 0) ((sh * 100) + k).toNatClampNeg a))) := hD
      exact W.vret hx hb hr (fun t ht hW => ⟨⟨(f, (va_up g 0 (upd (g 0) ((sh * 100) + k).toNatClampNeg a))), rfl, ⟨rfl, (by unfold xPutG xPut; rw [if_pos ⟨c_4, c_11⟩])⟩, by rw [ht]; exact hP, hD⟩, hS.F ht⟩) hS.2.2 dX0_putRow_26
set_option maxHeartbeats 4000000 in
set_option maxRecDepth 100000 in
/-- a write, to both shards of a moved range -/
theorem c_X0_write (l : Launch) (D : va_G) (cA cZ cL : ClassId) (ad : Nat → Nat) (f : qFs) (g : qGs) (sz : Nat) (k : Int32) (a : Int32) (nR : Nat) (nB : Nat) (hI : xI nR nB f) : Met l yX0_write wsX0_write ({ frames := 2, cells := 0, slots := 0, locals := 43 } : Room) (va_Pc [.ref (ad 16), .int k, .int a] (qPreW D (qTy cA cZ cL) (xW cA ad f g) sz)) (va_Qv (fun u : qFs × qGs => u.1 = f ∧ u.2 = xWriteG nR f g k a) (qAt D (va_A (xW cA ad f g) sz) (fun u : qFs × qGs => xW cA ad u.1 u.2)) (va_A (xW cA ad f g) sz)) 0 0 (va_A (xW cA ad f g) sz) := by
  refine Met.ofW (cc := cX0_write) (maxL := 4) (ret := none) (by decide) rfl ?_
  intro p e s m args below meth c s₁ B hml hv
  obtain ⟨rfl, hsz, hP, hK, hD0⟩ := hv
  have hx := B.exec
  have hb := B.bytes
  have hr := B.returns
  have hts := atoms_spec (ws := wsX0_write) B.pre
  have hown : s.vm.findClass RX0 = some m.cls := findClass_of_methodNamed B.named
  have hlocks := B.notSynchronized
  subst hsz
  have hD := hD0.self (sz := s.heap.size)
  generalize hAe : va_A (xW cA ad f g) s.heap.size = A at hD ⊢
  have hA : ∀ q : Nat, s.heap.size ≤ q → A q := fun q h => by rw [← hAe]; exact Or.inr h
  have hS : va_S A s.heap s.heap [] := va_S.rf
  have hfin : ∀ w ∈ wsX00, w ∈ wsX0_write := fun w h => (List.mem_cons_of_mem _ (List.mem_append_right _ h))
  have hl := lv_entry ([.ref (ad 16), .int k, .int a]) (n := 4) (Nat.le_of_ble_eq_true rfl)
  rw [lg_entry_eq]
  generalize (lg_sl ([.ref (ad 16), .int k, .int a]) ++ List.replicate (4 - (lg_sl ([.ref (ad 16), .int k, .int a])).length) Slot.unset).toArray = ls at hl ⊢
  have hl : lv_has ls 4 [(0, .ref (ad 16)), (1, .int k), (2, .int a)] := hl
  refine lv_aload_n hx hb dX0_write_0 rfl (lv_at hl 0 rfl) ?_
  refine lv_iload_n hx hb dX0_write_1 rfl (lv_at hl 1 rfl) ?_
  refine vp_callSi (W.runV (As := [.int k]) (rest := []) ⟨hx, hb, hml, hown, hts⟩ (c_X0_rangeHolding l D cA cZ cL ad f g k nR nB hI) (cwV 1 hts gX0_write_X0_rangeHolding rfl rfl rfl (by decide +kernel) ⟨Nat.le_of_ble_eq_true rfl, Nat.le_of_ble_eq_true rfl⟩) ⟨qPre_blind, va_recv hK hP (ci := 0) (q0 := 0) rfl rfl, qPre_at hP hK⟩ rfl rfl hl.1 rfl (lv_room (Nat.le_of_ble_eq_true rfl)) dX0_write_2 ⟨Nat.le_of_ble_eq_true rfl, Nat.le_of_ble_eq_true rfl⟩) (fun z hz => ?_)
  subst hz
  refine lv_istore_n (lv' := [(3, .int (nI (xHold nR g k))), (0, .ref (ad 16)), (1, .int k), (2, .int a)]) hx hb dX0_write_5 rfl hl (by decide) rfl (fun ls hl => ?_)
  refine lv_aload_n hx hb dX0_write_6 rfl (lv_at hl 1 rfl) ?_
  refine lv_aload_n hx hb dX0_write_7 rfl (lv_at hl 1 rfl) ?_
  refine lv_iload_n hx hb dX0_write_8 rfl (lv_at hl 0 rfl) ?_
  refine vp_callSi (W.runV (As := [.int (nI (xHold nR g k))]) (rest := [.ref (ad 16)]) ⟨hx, hb, hml, hown, hts⟩ (c_X0_homeOf l D cA cZ cL ad f g (nI (xHold nR g k)) nR nB hI) (cwV 1 hts gX0_write_X0_homeOf rfl rfl rfl (by decide +kernel) ⟨Nat.le_of_ble_eq_true rfl, Nat.le_of_ble_eq_true rfl⟩) ⟨qPre_blind, va_recv hK hP (ci := 0) (q0 := 0) rfl rfl, qPre_at hP hK⟩ rfl rfl hl.1 rfl (lv_room (Nat.le_of_ble_eq_true rfl)) dX0_write_9 ⟨Nat.le_of_ble_eq_true rfl, Nat.le_of_ble_eq_true rfl⟩) (fun z hz => ?_)
  subst hz
  refine lv_iload_n hx hb dX0_write_12 rfl (lv_at hl 2 rfl) ?_
  refine lv_iload_n hx hb dX0_write_13 rfl (lv_at hl 3 rfl) ?_
  refine qb_callv (va_runV (As := [.int (xHome f g (nI (xHold nR g k))), .int k, .int a]) (rest := []) ⟨hx, hb, hml, hown, hts⟩ (c_X0_putRow l D cA cZ cL ad f g s.heap.size (xHome f g (nI (xHold nR g k))) k a) (cwV 3 hts gX0_write_X0_putRow rfl rfl rfl (by decide +kernel) ⟨Nat.le_of_ble_eq_true rfl, Nat.le_of_ble_eq_true rfl⟩) ⟨qPreW_blind, va_recv hK hP (ci := 0) (q0 := 0) rfl rfl, qPreW_at hP hK hD⟩ rfl rfl hl.1 rfl (lv_room (Nat.le_of_ble_eq_true rfl)) dX0_write_14 ⟨Nat.le_of_ble_eq_true rfl, Nat.le_of_ble_eq_true rfl⟩) hD hS hA (fun u H locs hu hP hD hS => ?_)
  obtain ⟨uf, ug⟩ := u
  obtain ⟨hu1, hu2⟩ := hu
  have hu1 : uf = f := hu1
  have hu2 : ug = xPutG g (xHome f g (nI (xHold nR g k))) k a := hu2
  have hP : va_P D vwCl (xW cA ad uf ug) H := hP
  have hD : va_D A (xW cA ad uf ug) := hD
  rw [hu1, hu2] at hP hD
  have hP : va_P D vwCl (xW cA ad f (xPutG g (xHome f g (nI (xHold nR g k))) k a)) H := hP
  have hD : va_D A (xW cA ad f (xPutG g (xHome f g (nI (xHold nR g k))) k a)) := hD
  refine lv_aload_n hx hb dX0_write_17 rfl (lv_at hl 1 rfl) ?_
  refine lv_aload_n hx hb dX0_write_18 rfl (lv_at hl 1 rfl) ?_
  refine lv_iload_n hx hb dX0_write_19 rfl (lv_at hl 0 rfl) ?_
  refine vp_callSi (W.runV (As := [.int (nI (xHold nR g k))]) (rest := [.ref (ad 16)]) ⟨hx, hb, hml, hown, hts⟩ (c_X0_targetOf l D cA cZ cL ad f (xPutG g (xHome f g (nI (xHold nR g k))) k a) (nI (xHold nR g k)) nR nB hI) (cwV 1 hts gX0_write_X0_targetOf rfl rfl rfl (by decide +kernel) ⟨Nat.le_of_ble_eq_true rfl, Nat.le_of_ble_eq_true rfl⟩) ⟨qPre_blind, va_recv hK hP (ci := 0) (q0 := 0) rfl rfl, qPre_at hP hK⟩ rfl rfl hl.1 rfl (lv_room (Nat.le_of_ble_eq_true rfl)) dX0_write_20 ⟨Nat.le_of_ble_eq_true rfl, Nat.le_of_ble_eq_true rfl⟩) (fun z hz => ?_)
  subst hz
  refine lv_topi (fun v_20 hv_20 => ?_)
  have hv_20 : v_20 = xTarg f g (nI (xHold nR g k)) := hv_20.trans (rfl)
  subst hv_20
  refine lv_iload_n hx hb dX0_write_23 rfl (lv_at hl 2 rfl) ?_
  refine lv_iload_n hx hb dX0_write_24 rfl (lv_at hl 3 rfl) ?_
  refine qb_callv (va_runV (As := [.int (xTarg f g (nI (xHold nR g k))), .int k, .int a]) (rest := []) ⟨hx, hb, hml, hown, hts⟩ (c_X0_putRow l D cA cZ cL ad f (xPutG g (xHome f g (nI (xHold nR g k))) k a) H.size (xTarg f g (nI (xHold nR g k))) k a) (cwV 3 hts gX0_write_X0_putRow rfl rfl rfl (by decide +kernel) ⟨Nat.le_of_ble_eq_true rfl, Nat.le_of_ble_eq_true rfl⟩) ⟨qPreW_blind, va_recv hK hP (ci := 0) (q0 := 0) rfl rfl, qPreW_at hP hK hD⟩ rfl rfl hl.1 rfl (lv_room (Nat.le_of_ble_eq_true rfl)) dX0_write_25 ⟨Nat.le_of_ble_eq_true rfl, Nat.le_of_ble_eq_true rfl⟩) hD hS hA (fun u H locs hu hP hD hS => ?_)
  obtain ⟨uf, ug⟩ := u
  obtain ⟨hu1, hu2⟩ := hu
  have hu1 : uf = f := hu1
  have hu2 : ug = xPutG (xPutG g (xHome f g (nI (xHold nR g k))) k a) (xTarg f g (nI (xHold nR g k))) k a := hu2
  have hP : va_P D vwCl (xW cA ad uf ug) H := hP
  have hD : va_D A (xW cA ad uf ug) := hD
  rw [hu1, hu2] at hP hD
  have hP : va_P D vwCl (xW cA ad f (xPutG (xPutG g (xHome f g (nI (xHold nR g k))) k a) (xTarg f g (nI (xHold nR g k))) k a)) H := hP
  have hD : va_D A (xW cA ad f (xPutG (xPutG g (xHome f g (nI (xHold nR g k))) k a) (xTarg f g (nI (xHold nR g k))) k a)) := hD
  exact W.vret hx hb hr (fun t ht hW => ⟨⟨(f, (xPutG (xPutG g (xHome f g (nI (xHold nR g k))) k a) (xTarg f g (nI (xHold nR g k))) k a)), rfl, ⟨rfl, rfl⟩, by rw [ht]; exact hP, hD⟩, hS.F ht⟩) hS.2.2 dX0_write_28
set_option maxHeartbeats 4000000 in
set_option maxRecDepth 100000 in
/-- drops the rows of a range -/
theorem c_X0_dropRows (l : Launch) (D : va_G) (cA cZ cL : ClassId) (ad : Nat → Nat) (f : qFs) (g : qGs) (sz : Nat) (sh : Int32) (r : Int32) (nR : Nat) (nB : Nat) (hI : xI nR nB f) (lo : Nat) (hlo : lo ≤ 100) (hlo2 : xFirst f g r = nI lo) : Met l yX0_dropRows wsX0_dropRows ({ frames := 3, cells := 0, slots := 0, locals := 63 } : Room) (va_Pc [.ref (ad 16), .int sh, .int r] (qPreW D (qTy cA cZ cL) (xW cA ad f g) sz)) (va_Qv (fun u : qFs × qGs => u.1 = f ∧ u.2 = xDropN sh g lo (hiOf (xLast f g r) - lo)) (qAt D (va_A (xW cA ad f g) sz) (fun u : qFs × qGs => xW cA ad u.1 u.2)) (va_A (xW cA ad f g) sz)) 0 0 (va_A (xW cA ad f g) sz) := by
  refine Met.ofW (cc := cX0_dropRows) (maxL := 5) (ret := none) (by decide) rfl ?_
  intro p e s m args below meth c s₁ B hml hv
  obtain ⟨rfl, hsz, hP, hK, hD0⟩ := hv
  have hx := B.exec
  have hb := B.bytes
  have hr := B.returns
  have hts := atoms_spec (ws := wsX0_dropRows) B.pre
  have hown : s.vm.findClass RX0 = some m.cls := findClass_of_methodNamed B.named
  have hlocks := B.notSynchronized
  subst hsz
  have hD := hD0.self (sz := s.heap.size)
  generalize hAe : va_A (xW cA ad f g) s.heap.size = A at hD ⊢
  have hA : ∀ q : Nat, s.heap.size ≤ q → A q := fun q h => by rw [← hAe]; exact Or.inr h
  have hS : va_S A s.heap s.heap [] := va_S.rf
  have hfin : ∀ w ∈ wsX00, w ∈ wsX0_dropRows := fun w h => (List.mem_cons_of_mem _ (List.mem_append_right _ h))
  have hl := lv_entry ([.ref (ad 16), .int sh, .int r]) (n := 5) (Nat.le_of_ble_eq_true rfl)
  rw [lg_entry_eq]
  generalize (lg_sl ([.ref (ad 16), .int sh, .int r]) ++ List.replicate (5 - (lg_sl ([.ref (ad 16), .int sh, .int r])).length) Slot.unset).toArray = ls at hl ⊢
  have hl : lv_has ls 5 [(0, .ref (ad 16)), (1, .int sh), (2, .int r)] := hl
  refine lv_aload_n hx hb dX0_dropRows_0 rfl (lv_at hl 0 rfl) ?_
  refine lv_iload_n hx hb dX0_dropRows_1 rfl (lv_at hl 2 rfl) ?_
  refine vp_callSi (W.runV (As := [.int r]) (rest := []) ⟨hx, hb, hml, hown, hts⟩ (c_X0_lastKeyOf l D cA cZ cL ad f g r nR nB hI) (cwV 1 hts gX0_dropRows_X0_lastKeyOf rfl rfl rfl (by decide +kernel) ⟨Nat.le_of_ble_eq_true rfl, Nat.le_of_ble_eq_true rfl⟩) ⟨qPre_blind, va_recv hK hP (ci := 0) (q0 := 0) rfl rfl, qPre_at hP hK⟩ rfl rfl hl.1 rfl (lv_room (Nat.le_of_ble_eq_true rfl)) dX0_dropRows_2 ⟨Nat.le_of_ble_eq_true rfl, Nat.le_of_ble_eq_true rfl⟩) (fun z hz => ?_)
  subst hz
  refine lv_istore_n (lv' := [(3, .int (xLast f g r)), (0, .ref (ad 16)), (1, .int sh), (2, .int r)]) hx hb dX0_dropRows_5 rfl hl (by decide) rfl (fun ls hl => ?_)
  refine lv_aload_n hx hb dX0_dropRows_6 rfl (lv_at hl 1 rfl) ?_
  refine lv_iload_n hx hb dX0_dropRows_7 rfl (lv_at hl 3 rfl) ?_
  refine vp_callSi (W.runV (As := [.int r]) (rest := []) ⟨hx, hb, hml, hown, hts⟩ (c_X0_firstKeyOf l D cA cZ cL ad f g r nR nB hI) (cwV 1 hts gX0_dropRows_X0_firstKeyOf rfl rfl rfl (by decide +kernel) ⟨Nat.le_of_ble_eq_true rfl, Nat.le_of_ble_eq_true rfl⟩) ⟨qPre_blind, va_recv hK hP (ci := 0) (q0 := 0) rfl rfl, qPre_at hP hK⟩ rfl rfl hl.1 rfl (lv_room (Nat.le_of_ble_eq_true rfl)) dX0_dropRows_8 ⟨Nat.le_of_ble_eq_true rfl, Nat.le_of_ble_eq_true rfl⟩) (fun z hz => ?_)
  subst hz
  refine lv_topi (fun v_8 hv_8 => ?_)
  have hv_8 : v_8 = nI lo := hv_8.trans (hlo2)
  subst hv_8
  refine lv_istore (lv' := [(4, .int (nI lo)), (3, .int (xLast f g r)), (0, .ref (ad 16)), (1, .int sh), (2, .int r)]) hx hb dX0_dropRows_11 hl (by decide) rfl (fun ls hl => ?_)
  have hloop_13 : ∀ (n : Nat) (k : Nat) (g1 : qGs), 100 - k = n → (k ≤ 100) → (xDropN sh g1 k (hiOf (xLast f g r) - k) = xDropN sh g lo (hiOf (xLast f g r) - lo)) → ∀ (H : Heap) (locs : List Loc), va_P D vwCl (xW cA ad f g1) H → va_D A (xW cA ad f g1) → va_S A s.heap H locs → ∀ ls : Array Slot, lv_has ls 5 [(0, .ref (ad 16)), (1, .int sh), (2, .int r), (3, .int (xLast f g r)), (4, .int (nI k))] → W p l e (headSpec wsX0_dropRows ({ frames := 3, cells := 0, slots := 0, locals := 63 } : Room)).room s m ([.ref (ad 16), .int sh, .int r] : List Value).toArray below meth c H locs 0 0 (MQ below (va_Qv (fun u : qFs × qGs => u.1 = f ∧ u.2 = xDropN sh g lo (hiOf (xLast f g r) - lo)) (qAt D A (fun u : qFs × qGs => xW cA ad u.1 u.2)) A) ([.ref (ad 16), .int sh, .int r] : List Value).toArray s 0 0 A) (F0 m 13 ls []) := by
    intro n
    induction n using Nat.strongRecOn with
    | ind n ih =>
      intro k g1 hn hk hc H locs hP hD hS ls hl
      refine lv_iload hx hb dX0_dropRows_13 (lv_at hl 4 rfl) ?_
      refine lv_iload_n hx hb dX0_dropRows_15 rfl (lv_at hl 3 rfl) ?_
      refine lv_icmp_gt (tgt := 40) hx hb dX0_dropRows_16 (by decide) (fun c_16 => ?_) (fun c_16 => ?_)
      · skip
        have hge := hi_out c_16 (by omega)
        exact W.vret hx hb hr (fun t ht hW => ⟨⟨(f, g1), rfl, ⟨rfl, (by rw [← hc, xDropN_e hge])⟩, by rw [ht]; exact hP, hD⟩, hS.F ht⟩) hS.2.2 dX0_dropRows_40
      · skip
        refine lv_iload hx hb dX0_dropRows_19 (lv_at hl 4 rfl) ?_
        refine lv_bipush (v := 100) hx hb dX0_dropRows_21 (by decide) ?_
        refine lv_icmp_ge (tgt := 40) hx hb dX0_dropRows_23 (by decide) (fun c_23 => ?_) (fun c_23 => ?_)
        · skip
          have hge : hiOf (xLast f g r) ≤ k := Nat.le_trans (hi_le _) (n_ge (a := k) (b := 100) c_23 (by omega) (by decide))
          exact W.vret hx hb hr (fun t ht hW => ⟨⟨(f, g1), rfl, ⟨rfl, (by rw [← hc, xDropN_e hge])⟩, by rw [ht]; exact hP, hD⟩, hS.F ht⟩) hS.2.2 dX0_dropRows_40
        · skip
          have hlt := hi_in c_16 c_23 (by omega)
          have hl1 := hi_le (xLast f g r)
          refine lv_aload_n hx hb dX0_dropRows_26 rfl (lv_at hl 0 rfl) ?_
          refine lv_iload_n hx hb dX0_dropRows_27 rfl (lv_at hl 1 rfl) ?_
          refine lv_iload hx hb dX0_dropRows_28 (lv_at hl 4 rfl) ?_
          refine lv_iconst (v := (-1)) hx hb dX0_dropRows_30 (by decide) ?_
          refine qb_callv (va_runV (As := [.int sh, .int (nI k), .int (-1)]) (rest := []) ⟨hx, hb, hml, hown, hts⟩ (c_X0_putRow l D cA cZ cL ad f g1 H.size sh (nI k) (-1)) (cwV 3 hts gX0_dropRows_X0_putRow rfl rfl rfl (by decide +kernel) ⟨Nat.le_of_ble_eq_true rfl, Nat.le_of_ble_eq_true rfl⟩) ⟨qPreW_blind, va_recv hK hP (ci := 0) (q0 := 0) rfl rfl, qPreW_at hP hK hD⟩ rfl rfl hl.1 rfl (lv_room (Nat.le_of_ble_eq_true rfl)) dX0_dropRows_31 ⟨Nat.le_of_ble_eq_true rfl, Nat.le_of_ble_eq_true rfl⟩) hD hS hA (fun u H locs hu hP hD hS => ?_)
          obtain ⟨uf, ug⟩ := u
          obtain ⟨hu1, hu2⟩ := hu
          have hu1 : uf = f := hu1
          have hu2 : ug = xPutG g1 sh (nI k) (-1) := hu2
          have hP : va_P D vwCl (xW cA ad uf ug) H := hP
          have hD : va_D A (xW cA ad uf ug) := hD
          rw [hu1, hu2] at hP hD
          have hP : va_P D vwCl (xW cA ad f (xPutG g1 sh (nI k) (-1))) H := hP
          have hD : va_D A (xW cA ad f (xPutG g1 sh (nI k) (-1))) := hD
          refine lv_iinc (v := nI (k + 1)) (lv' := [(4, .int (nI (k + 1))), (0, .ref (ad 16)), (1, .int sh), (2, .int r), (3, .int (xLast f g r))]) hx hb dX0_dropRows_34 hl (k := 4) rfl (nI_1 k) (by decide) rfl (fun ls hl => ?_)
          refine lv_goto (tgt := 13) hx hb dX0_dropRows_37 (by decide) ?_
          exact ih _ (by omega) (k + 1) (xPutG g1 sh (nI k) (-1)) rfl (by omega) (by rw [← hc]; exact (xDropN_s hlt).symm) _ _ hP hD hS _ (lv_sub hl [1, 2, 3, 4, 0] rfl)
  exact hloop_13 _ lo g rfl hlo rfl _ _ hP hD hS _ (lv_sub hl [2, 3, 4, 1, 0] rfl)
set_option maxHeartbeats 4000000 in
set_option maxRecDepth 100000 in
/-- copies a range -/
theorem c_X0_copyRange (l : Launch) (D : va_G) (cA cZ cL : ClassId) (ad : Nat → Nat) (f : qFs) (g : qGs) (sz : Nat) (i : Nat) (j : Nat) (hi8 : i < 8) (hj8 : j < 8) : Met l yX0_copyRange wsX0_copyRange ({ frames := 0, cells := 0, slots := 0, locals := 0 } : Room) (va_Pc [.ref (ad 16), .int (nI i), .int (nI j)] (qPreW D (qTy cA cZ cL) (xW cA ad f g) sz)) (va_Qv (fun u : qFs × qGs => u.1 = f ∧ u.2 = xCopyG g i j) (qAt D (va_A (xW cA ad f g) sz) (fun u : qFs × qGs => xW cA ad u.1 u.2)) (va_A (xW cA ad f g) sz)) 0 0 (va_A (xW cA ad f g) sz) := by
  refine Met.ofW (cc := cX0_copyRange) (maxL := 3) (ret := none) (by decide) rfl ?_
  intro p e s m args below meth c s₁ B hml hv
  obtain ⟨rfl, hsz, hP, hK, hD0⟩ := hv
  have hx := B.exec
  have hb := B.bytes
  have hr := B.returns
  have hts := atoms_spec (ws := wsX0_copyRange) B.pre
  have hown : s.vm.findClass RX0 = some m.cls := findClass_of_methodNamed B.named
  have hlocks := B.notSynchronized
  subst hsz
  have hD := hD0.self (sz := s.heap.size)
  generalize hAe : va_A (xW cA ad f g) s.heap.size = A at hD ⊢
  have hA : ∀ q : Nat, s.heap.size ≤ q → A q := fun q h => by rw [← hAe]; exact Or.inr h
  have hS : va_S A s.heap s.heap [] := va_S.rf
  have hfin : ∀ w ∈ wsX00, w ∈ wsX0_copyRange := fun w h => (List.mem_cons_of_mem _ (List.mem_append_right _ h))
  have hl := lv_entry ([.ref (ad 16), .int (nI i), .int (nI j)]) (n := 3) (Nat.le_of_ble_eq_true rfl)
  rw [lg_entry_eq]
  generalize (lg_sl ([.ref (ad 16), .int (nI i), .int (nI j)]) ++ List.replicate (3 - (lg_sl ([.ref (ad 16), .int (nI i), .int (nI j)])).length) Slot.unset).toArray = ls at hl ⊢
  have hl : lv_has ls 3 [(0, .ref (ad 16)), (1, .int (nI i)), (2, .int (nI j))] := hl
  refine lv_aload_n hx hb dX0_copyRange_0 rfl (lv_at hl 0 rfl) ?_
  refine va_get (D := D) (ci := 0) (v := .ref (ad 2)) (C := RX0) (T := TX0) (N := 16) hx hb hts hfin hown hK hP 0 rfl rfl 2 (by decide) (hts _ (List.mem_cons_of_mem _ (List.mem_append_left _ (List.mem_of_getElem? (i := 0) rfl)))) (fun _ h9 => h9) rfl dX0_copyRange_1 ?_
  refine lv_iload_n hx hb dX0_copyRange_4 rfl (lv_at hl 2 rfl) ?_
  refine lv_aload_n hx hb dX0_copyRange_5 rfl (lv_at hl 0 rfl) ?_
  refine va_get (D := D) (ci := 0) (v := .ref (ad 2)) (C := RX0) (T := TX0) (N := 16) hx hb hts hfin hown hK hP 0 rfl rfl 2 (by decide) (hts _ (List.mem_cons_of_mem _ (List.mem_append_left _ (List.mem_of_getElem? (i := 0) rfl)))) (fun _ h9 => h9) rfl dX0_copyRange_6 ?_
  refine lv_iload_n hx hb dX0_copyRange_9 rfl (lv_at hl 1 rfl) ?_
  refine va_iald hx hb hK hP 2 0 rfl rfl (vp_in_nI hi8 (by decide)) dX0_copyRange_10 ?_
  refine lv_topi (fun v_10 hv_10 => ?_)
  have hv_10 : v_10 = g 2 i := hv_10.trans (by rw [nI_clamp (by omega)])
  subst hv_10
  refine va_iast hx hb hK hP hD hS 2 0 rfl rfl (vp_in_nI hj8 (by decide)) dX0_copyRange_11 (fun H locs hP hD hS => ?_)
  have hix : (nI j).toNatClampNeg = j := nI_clamp (by omega)
  rw [hix] at hP hD
  have hP : va_P D vwCl (xW cA ad f (va_up g 2 (upd (g 2) j (g 2 i)))) H := hP
  have hD : va_D A (xW cA ad f (va_up g 2 (upd (g 2) j (g 2 i)))) := hD
  refine lv_aload_n hx hb dX0_copyRange_12 rfl (lv_at hl 0 rfl) ?_
  refine va_get (D := D) (ci := 0) (v := .ref (ad 3)) (C := RX0) (T := TX0) (N := 16) hx hb hts hfin hown hK hP 0 rfl rfl 3 (by decide) (hts _ (List.mem_cons_of_mem _ (List.mem_append_left _ (List.mem_of_getElem? (i := 1) rfl)))) (fun _ h9 => h9) rfl dX0_copyRange_13 ?_
  refine lv_iload_n hx hb dX0_copyRange_16 rfl (lv_at hl 2 rfl) ?_
  refine lv_aload_n hx hb dX0_copyRange_17 rfl (lv_at hl 0 rfl) ?_
  refine va_get (D := D) (ci := 0) (v := .ref (ad 3)) (C := RX0) (T := TX0) (N := 16) hx hb hts hfin hown hK hP 0 rfl rfl 3 (by decide) (hts _ (List.mem_cons_of_mem _ (List.mem_append_left _ (List.mem_of_getElem? (i := 1) rfl)))) (fun _ h9 => h9) rfl dX0_copyRange_18 ?_
  refine lv_iload_n hx hb dX0_copyRange_21 rfl (lv_at hl 1 rfl) ?_
  refine va_iald hx hb hK hP 3 0 rfl rfl (vp_in_nI hi8 (by decide)) dX0_copyRange_22 ?_
  refine lv_topi (fun v_22 hv_22 => ?_)
  have hv_22 : v_22 = g 3 i := hv_22.trans (by rw [nI_clamp (by omega)]; rfl)
  subst hv_22
  refine va_iast hx hb hK hP hD hS 3 0 rfl rfl (vp_in_nI hj8 (by decide)) dX0_copyRange_23 (fun H locs hP hD hS => ?_)
  have hix : (nI j).toNatClampNeg = j := nI_clamp (by omega)
  rw [hix] at hP hD
  have hP : va_P D vwCl (xW cA ad f (va_up (va_up g 2 (upd (g 2) j (g 2 i))) 3 (upd ((va_up g 2 (upd (g 2) j (g 2 i))) 3) j (g 3 i)))) H := hP
  have hD : va_D A (xW cA ad f (va_up (va_up g 2 (upd (g 2) j (g 2 i))) 3 (upd ((va_up g 2 (upd (g 2) j (g 2 i))) 3) j (g 3 i)))) := hD
  refine lv_aload_n hx hb dX0_copyRange_24 rfl (lv_at hl 0 rfl) ?_
  refine va_get (D := D) (ci := 0) (v := .ref (ad 4)) (C := RX0) (T := TX0) (N := 16) hx hb hts hfin hown hK hP 0 rfl rfl 4 (by decide) (hts _ (List.mem_cons_of_mem _ (List.mem_append_left _ (List.mem_of_getElem? (i := 2) rfl)))) (fun _ h9 => h9) rfl dX0_copyRange_25 ?_
  refine lv_iload_n hx hb dX0_copyRange_28 rfl (lv_at hl 2 rfl) ?_
  refine lv_aload_n hx hb dX0_copyRange_29 rfl (lv_at hl 0 rfl) ?_
  refine va_get (D := D) (ci := 0) (v := .ref (ad 4)) (C := RX0) (T := TX0) (N := 16) hx hb hts hfin hown hK hP 0 rfl rfl 4 (by decide) (hts _ (List.mem_cons_of_mem _ (List.mem_append_left _ (List.mem_of_getElem? (i := 2) rfl)))) (fun _ h9 => h9) rfl dX0_copyRange_30 ?_
  refine lv_iload_n hx hb dX0_copyRange_33 rfl (lv_at hl 1 rfl) ?_
  refine va_iald hx hb hK hP 4 0 rfl rfl (vp_in_nI hi8 (by decide)) dX0_copyRange_34 ?_
  refine lv_topi (fun v_34 hv_34 => ?_)
  have hv_34 : v_34 = g 4 i := hv_34.trans (by rw [nI_clamp (by omega)]; rfl)
  subst hv_34
  refine va_iast hx hb hK hP hD hS 4 0 rfl rfl (vp_in_nI hj8 (by decide)) dX0_copyRange_35 (fun H locs hP hD hS => ?_)
  have hix : (nI j).toNatClampNeg = j := nI_clamp (by omega)
  rw [hix] at hP hD
  have hP : va_P D vwCl (xW cA ad f (va_up (va_up (va_up g 2 (upd (g 2) j (g 2 i))) 3 (upd ((va_up g 2 (upd (g 2) j (g 2 i))) 3) j (g 3 i))) 4 (upd ((va_up (va_up g 2 (upd (g 2) j (g 2 i))) 3 (upd ((va_up g 2 (upd (g 2) j (g 2 i))) 3) j (g 3 i))) 4) j (g 4 i)))) H := hP
  have hD : va_D A (xW cA ad f (va_up (va_up (va_up g 2 (upd (g 2) j (g 2 i))) 3 (upd ((va_up g 2 (upd (g 2) j (g 2 i))) 3) j (g 3 i))) 4 (upd ((va_up (va_up g 2 (upd (g 2) j (g 2 i))) 3 (upd ((va_up g 2 (upd (g 2) j (g 2 i))) 3) j (g 3 i))) 4) j (g 4 i)))) := hD
  exact W.vret hx hb hr (fun t ht hW => ⟨⟨(f, (va_up (va_up (va_up g 2 (upd (g 2) j (g 2 i))) 3 (upd ((va_up g 2 (upd (g 2) j (g 2 i))) 3) j (g 3 i))) 4 (upd ((va_up (va_up g 2 (upd (g 2) j (g 2 i))) 3 (upd ((va_up g 2 (upd (g 2) j (g 2 i))) 3) j (g 3 i))) 4) j (g 4 i)))), rfl, ⟨rfl, rfl⟩, by rw [ht]; exact hP, hD⟩, hS.F ht⟩) hS.2.2 dX0_copyRange_36
set_option maxHeartbeats 4000000 in
set_option maxRecDepth 100000 in
/-- the ranges behind move up by one place -/
theorem c_X0_insertCopyBehind (l : Launch) (D : va_G) (cA cZ cL : ClassId) (ad : Nat → Nat) (f : qFs) (g : qGs) (sz : Nat) (r : Nat) (nR : Nat) (hR : f 5 = nI nR) (hr : r < nR) (hR8 : nR < 8) : Met l yX0_insertCopyBehind wsX0_insertCopyBehind ({ frames := 1, cells := 0, slots := 0, locals := 22 } : Room) (va_Pc [.ref (ad 16), .int (nI r)] (qPreW D (qTy cA cZ cL) (xW cA ad f g) sz)) (va_Qv (fun u : qFs × qGs => u.1 = va_up f 5 (nI (nR + 1)) ∧ u.2 = xUpG r g (nR - r)) (qAt D (va_A (xW cA ad f g) sz) (fun u : qFs × qGs => xW cA ad u.1 u.2)) (va_A (xW cA ad f g) sz)) 0 0 (va_A (xW cA ad f g) sz) := by
  refine Met.ofW (cc := cX0_insertCopyBehind) (maxL := 3) (ret := none) (by decide) rfl ?_
  intro p e s m args below meth c s₁ B hml hv
  obtain ⟨rfl, hsz, hP, hK, hD0⟩ := hv
  have hx := B.exec
  have hb := B.bytes
  have hr := B.returns
  have hts := atoms_spec (ws := wsX0_insertCopyBehind) B.pre
  have hown : s.vm.findClass RX0 = some m.cls := findClass_of_methodNamed B.named
  have hlocks := B.notSynchronized
  subst hsz
  have hD := hD0.self (sz := s.heap.size)
  generalize hAe : va_A (xW cA ad f g) s.heap.size = A at hD ⊢
  have hA : ∀ q : Nat, s.heap.size ≤ q → A q := fun q h => by rw [← hAe]; exact Or.inr h
  have hS : va_S A s.heap s.heap [] := va_S.rf
  have hfin : ∀ w ∈ wsX00, w ∈ wsX0_insertCopyBehind := fun w h => (List.mem_cons_of_mem _ (List.mem_append_right _ h))
  have hl := lv_entry ([.ref (ad 16), .int (nI r)]) (n := 3) (Nat.le_of_ble_eq_true rfl)
  rw [lg_entry_eq]
  generalize (lg_sl ([.ref (ad 16), .int (nI r)]) ++ List.replicate (3 - (lg_sl ([.ref (ad 16), .int (nI r)])).length) Slot.unset).toArray = ls at hl ⊢
  have hl : lv_has ls 3 [(0, .ref (ad 16)), (1, .int (nI r))] := hl
  refine lv_aload_n hx hb dX0_insertCopyBehind_0 rfl (lv_at hl 0 rfl) ?_
  refine va_get (D := D) (ci := 0) (v := .int (f 5)) (C := RX0) (T := TX0) (N := 16) hx hb hts hfin hown hK hP 0 rfl rfl 5 (by decide) (hts _ (List.mem_cons_of_mem _ (List.mem_append_left _ (List.mem_of_getElem? (i := 0) rfl)))) (fun _ h9 => h9) rfl dX0_insertCopyBehind_1 ?_
  refine lv_topi (fun v_1 hv_1 => ?_)
  have hv_1 : v_1 = nI (r + (nR - r)) := hv_1.trans (by rw [hR]; congr 1; omega)
  subst hv_1
  refine lv_istore_n (lv' := [(2, .int (nI (r + (nR - r)))), (0, .ref (ad 16)), (1, .int (nI r))]) hx hb dX0_insertCopyBehind_4 rfl hl (by decide) rfl (fun ls hl => ?_)
  have hloop_5 : ∀ (n : Nat) (t : Nat) (g1 : qGs), t = n → (r + t ≤ nR) → (xUpG r g1 t = xUpG r g (nR - r)) → ∀ (H : Heap) (locs : List Loc), va_P D vwCl (xW cA ad f g1) H → va_D A (xW cA ad f g1) → va_S A s.heap H locs → ∀ ls : Array Slot, lv_has ls 3 [(0, .ref (ad 16)), (1, .int (nI r)), (2, .int (nI (r + t)))] → W p l e (headSpec wsX0_insertCopyBehind ({ frames := 1, cells := 0, slots := 0, locals := 22 } : Room)).room s m ([.ref (ad 16), .int (nI r)] : List Value).toArray below meth c H locs 0 0 (MQ below (va_Qv (fun u : qFs × qGs => u.1 = va_up f 5 (nI (nR + 1)) ∧ u.2 = xUpG r g (nR - r)) (qAt D A (fun u : qFs × qGs => xW cA ad u.1 u.2)) A) ([.ref (ad 16), .int (nI r)] : List Value).toArray s 0 0 A) (F0 m 5 ls []) := by
    intro n
    induction n using Nat.strongRecOn with
    | ind n ih =>
      intro t g1 hn ht hc H locs hP hD hS ls hl
      refine lv_iload_n hx hb dX0_insertCopyBehind_5 rfl (lv_at hl 2 rfl) ?_
      refine lv_iload_n hx hb dX0_insertCopyBehind_6 rfl (lv_at hl 1 rfl) ?_
      refine lv_icmp_le (tgt := 24) hx hb dX0_insertCopyBehind_7 (by decide) (fun c_7 => ?_) (fun c_7 => ?_)
      · skip
        have h0 : t = 0 := by have := n_ge c_7 (by omega) (by omega); omega
        subst h0
        refine lv_aload_n hx hb dX0_insertCopyBehind_24 rfl (lv_at hl 0 rfl) ?_
        refine lv_dup hx hb dX0_insertCopyBehind_25 rfl ?_
        refine va_get (D := D) (ci := 0) (v := .int (f 5)) (C := RX0) (T := TX0) (N := 16) hx hb hts hfin hown hK hP 0 rfl rfl 5 (by decide) (hts _ (List.mem_cons_of_mem _ (List.mem_append_left _ (List.mem_of_getElem? (i := 0) rfl)))) (fun _ h9 => h9) rfl dX0_insertCopyBehind_26 ?_
        refine lv_topi (fun v_26 hv_26 => ?_)
        have hv_26 : v_26 = nI nR := hv_26.trans (hR)
        subst hv_26
        refine lv_iconst (v := 1) hx hb dX0_insertCopyBehind_29 (by decide) ?_
        refine lv_iadd hx hb dX0_insertCopyBehind_30 ?_
        refine lv_topi (fun v_30 hv_30 => ?_)
        have hv_30 : v_30 = nI (nR + 1) := hv_30.trans (nI_1 nR)
        subst hv_30
        refine va_put (D := D) (ci := 0) (v := .int (nI (nR + 1))) (ty := .int) (C := RX0) (T := TX0) (N := 16) hx hb hts hfin tyX0 tyX0_ok nmX0 hown hK hP hD hS 0 rfl rfl 5 (by decide) (hts _ (List.mem_cons_of_mem _ (List.mem_append_left _ (List.mem_of_getElem? (i := 0) rfl)))) (fun _ h9 => h9) rfl (by decide +kernel) (rfl) (rfl) (Nat.le_of_ble_eq_true rfl) dX0_insertCopyBehind_31 (fun H locs hP hD hS => ?_)
        have hP : va_P D vwCl (xW cA ad (va_up f 5 (nI (nR + 1))) g1) H := hP
        have hD : va_D A (xW cA ad (va_up f 5 (nI (nR + 1))) g1) := hD
        exact W.vret hx hb hr (fun t ht hW => ⟨⟨((va_up f 5 (nI (nR + 1))), g1), rfl, ⟨rfl, hc⟩, by rw [ht]; exact hP, hD⟩, hS.F ht⟩) hS.2.2 dX0_insertCopyBehind_34
      · skip
        obtain ⟨t, rfl⟩ : ∃ q, t = q + 1 := ⟨t - 1, by have := n_lt c_7 (by omega); omega⟩
        have hl : lv_has ls 3 [(0, .ref (ad 16)), (1, .int (nI r)), (2, .int (nI (r + t + 1)))] := hl
        refine lv_aload_n hx hb dX0_insertCopyBehind_10 rfl (lv_at hl 0 rfl) ?_
        refine lv_iload_n hx hb dX0_insertCopyBehind_11 rfl (lv_at hl 2 rfl) ?_
        refine lv_iconst (v := 1) hx hb dX0_insertCopyBehind_12 (by decide) ?_
        refine lv_isub hx hb dX0_insertCopyBehind_13 ?_
        refine lv_topi (fun v_13 hv_13 => ?_)
        have hv_13 : v_13 = nI (r + t) := hv_13.trans (nI_pred (r + t))
        subst hv_13
        refine lv_iload_n hx hb dX0_insertCopyBehind_14 rfl (lv_at hl 2 rfl) ?_
        refine qb_callv (va_runV (As := [.int (nI (r + t)), .int (nI (r + t + 1))]) (rest := []) ⟨hx, hb, hml, hown, hts⟩ (c_X0_copyRange l D cA cZ cL ad f g1 H.size (r + t) (r + t + 1) (by omega) (by omega)) (cwV 2 hts gX0_insertCopyBehind_X0_copyRange rfl rfl rfl (by decide +kernel) ⟨Nat.le_of_ble_eq_true rfl, Nat.le_of_ble_eq_true rfl⟩) ⟨qPreW_blind, va_recv hK hP (ci := 0) (q0 := 0) rfl rfl, qPreW_at hP hK hD⟩ rfl rfl hl.1 rfl (lv_room (Nat.le_of_ble_eq_true rfl)) dX0_insertCopyBehind_15 ⟨Nat.le_of_ble_eq_true rfl, Nat.le_of_ble_eq_true rfl⟩) hD hS hA (fun u H locs hu hP hD hS => ?_)
        obtain ⟨uf, ug⟩ := u
        obtain ⟨hu1, hu2⟩ := hu
        have hu1 : uf = f := hu1
        have hu2 : ug = xCopyG g1 (r + t) (r + t + 1) := hu2
        have hP : va_P D vwCl (xW cA ad uf ug) H := hP
        have hD : va_D A (xW cA ad uf ug) := hD
        rw [hu1, hu2] at hP hD
        have hP : va_P D vwCl (xW cA ad f (xCopyG g1 (r + t) (r + t + 1))) H := hP
        have hD : va_D A (xW cA ad f (xCopyG g1 (r + t) (r + t + 1))) := hD
        refine lv_iinc (v := nI (r + t)) (lv' := [(2, .int (nI (r + t))), (0, .ref (ad 16)), (1, .int (nI r))]) hx hb dX0_insertCopyBehind_18 hl (k := 2) rfl ((i_m1 _).trans (nI_pred (r + t))) (by decide) rfl (fun ls hl => ?_)
        refine lv_goto (tgt := 5) hx hb dX0_insertCopyBehind_21 (by decide) ?_
        exact ih _ (by omega) t (xCopyG g1 (r + t) (r + t + 1)) rfl (by omega) (by rw [← hc]; rfl) _ _ hP hD hS _ (lv_sub hl [1, 2, 0] rfl)
  exact hloop_5 _ (nR - r) g rfl (by omega) rfl _ _ hP hD hS _ (lv_sub hl [1, 2, 0] rfl)
set_option maxHeartbeats 4000000 in
set_option maxRecDepth 100000 in
/-- the ranges behind move down by one place -/
theorem c_X0_remove (l : Launch) (D : va_G) (cA cZ cL : ClassId) (ad : Nat → Nat) (f : qFs) (g : qGs) (sz : Nat) (r : Nat) (nR : Nat) (hR : f 5 = nI nR) (hr : r < nR) (hR8 : nR ≤ 8) : Met l yX0_remove wsX0_remove ({ frames := 1, cells := 0, slots := 0, locals := 22 } : Room) (va_Pc [.ref (ad 16), .int (nI r)] (qPreW D (qTy cA cZ cL) (xW cA ad f g) sz)) (va_Qv (fun u : qFs × qGs => u.1 = va_up f 5 (nI (nR - 1)) ∧ u.2 = xDnG g r (nR - 1 - r)) (qAt D (va_A (xW cA ad f g) sz) (fun u : qFs × qGs => xW cA ad u.1 u.2)) (va_A (xW cA ad f g) sz)) 0 0 (va_A (xW cA ad f g) sz) := by
  refine Met.ofW (cc := cX0_remove) (maxL := 3) (ret := none) (by decide) rfl ?_
  intro p e s m args below meth c s₁ B hml hv
  obtain ⟨rfl, hsz, hP, hK, hD0⟩ := hv
  have hx := B.exec
  have hb := B.bytes
  have hr := B.returns
  have hts := atoms_spec (ws := wsX0_remove) B.pre
  have hown : s.vm.findClass RX0 = some m.cls := findClass_of_methodNamed B.named
  have hlocks := B.notSynchronized
  subst hsz
  have hD := hD0.self (sz := s.heap.size)
  generalize hAe : va_A (xW cA ad f g) s.heap.size = A at hD ⊢
  have hA : ∀ q : Nat, s.heap.size ≤ q → A q := fun q h => by rw [← hAe]; exact Or.inr h
  have hS : va_S A s.heap s.heap [] := va_S.rf
  have hfin : ∀ w ∈ wsX00, w ∈ wsX0_remove := fun w h => (List.mem_cons_of_mem _ (List.mem_append_right _ h))
  have hl := lv_entry ([.ref (ad 16), .int (nI r)]) (n := 3) (Nat.le_of_ble_eq_true rfl)
  rw [lg_entry_eq]
  generalize (lg_sl ([.ref (ad 16), .int (nI r)]) ++ List.replicate (3 - (lg_sl ([.ref (ad 16), .int (nI r)])).length) Slot.unset).toArray = ls at hl ⊢
  have hl : lv_has ls 3 [(0, .ref (ad 16)), (1, .int (nI r))] := hl
  refine lv_aload_n hx hb dX0_remove_0 rfl (lv_at hl 0 rfl) ?_
  refine lv_dup hx hb dX0_remove_1 rfl ?_
  refine va_get (D := D) (ci := 0) (v := .int (f 5)) (C := RX0) (T := TX0) (N := 16) hx hb hts hfin hown hK hP 0 rfl rfl 5 (by decide) (hts _ (List.mem_cons_of_mem _ (List.mem_append_left _ (List.mem_of_getElem? (i := 0) rfl)))) (fun _ h9 => h9) rfl dX0_remove_2 ?_
  refine lv_topi (fun v_2 hv_2 => ?_)
  have hv_2 : v_2 = nI nR := hv_2.trans (hR)
  subst hv_2
  refine lv_iconst (v := 1) hx hb dX0_remove_5 (by decide) ?_
  refine lv_isub hx hb dX0_remove_6 ?_
  refine lv_topi (fun v_6 hv_6 => ?_)
  have hv_6 : v_6 = nI (nR - 1) := hv_6.trans (pk_sub (b := 1) (by omega))
  subst hv_6
  refine va_put (D := D) (ci := 0) (v := .int (nI (nR - 1))) (ty := .int) (C := RX0) (T := TX0) (N := 16) hx hb hts hfin tyX0 tyX0_ok nmX0 hown hK hP hD hS 0 rfl rfl 5 (by decide) (hts _ (List.mem_cons_of_mem _ (List.mem_append_left _ (List.mem_of_getElem? (i := 0) rfl)))) (fun _ h9 => h9) rfl (by decide +kernel) (rfl) (rfl) (Nat.le_of_ble_eq_true rfl) dX0_remove_7 (fun H locs hP hD hS => ?_)
  have hP : va_P D vwCl (xW cA ad (va_up f 5 (nI (nR - 1))) g) H := hP
  have hD : va_D A (xW cA ad (va_up f 5 (nI (nR - 1))) g) := hD
  refine lv_iload_n hx hb dX0_remove_10 rfl (lv_at hl 1 rfl) ?_
  refine lv_istore_n (lv' := [(2, .int (nI r)), (0, .ref (ad 16)), (1, .int (nI r))]) hx hb dX0_remove_11 rfl hl (by decide) rfl (fun ls hl => ?_)
  have hloop_12 : ∀ (n : Nat) (t : Nat) (g1 : qGs), nR - 1 - t = n → (t ≤ nR - 1) → (xDnG g1 t (nR - 1 - t) = xDnG g r (nR - 1 - r)) → ∀ (H : Heap) (locs : List Loc), va_P D vwCl (xW cA ad (va_up f 5 (nI (nR - 1))) g1) H → va_D A (xW cA ad (va_up f 5 (nI (nR - 1))) g1) → va_S A s.heap H locs → ∀ ls : Array Slot, lv_has ls 3 [(0, .ref (ad 16)), (1, .int (nI r)), (2, .int (nI t))] → W p l e (headSpec wsX0_remove ({ frames := 1, cells := 0, slots := 0, locals := 22 } : Room)).room s m ([.ref (ad 16), .int (nI r)] : List Value).toArray below meth c H locs 0 0 (MQ below (va_Qv (fun u : qFs × qGs => u.1 = va_up f 5 (nI (nR - 1)) ∧ u.2 = xDnG g r (nR - 1 - r)) (qAt D A (fun u : qFs × qGs => xW cA ad u.1 u.2)) A) ([.ref (ad 16), .int (nI r)] : List Value).toArray s 0 0 A) (F0 m 12 ls []) := by
    intro n
    induction n using Nat.strongRecOn with
    | ind n ih =>
      intro t g1 hn ht hc H locs hP hD hS ls hl
      refine lv_iload_n hx hb dX0_remove_12 rfl (lv_at hl 2 rfl) ?_
      refine lv_aload_n hx hb dX0_remove_13 rfl (lv_at hl 0 rfl) ?_
      refine va_get (D := D) (ci := 0) (v := .int ((va_up f 5 (nI (nR - 1))) 5)) (C := RX0) (T := TX0) (N := 16) hx hb hts hfin hown hK hP 0 rfl rfl 5 (by decide) (hts _ (List.mem_cons_of_mem _ (List.mem_append_left _ (List.mem_of_getElem? (i := 0) rfl)))) (fun _ h9 => h9) rfl dX0_remove_14 ?_
      refine lv_topi (fun v_14 hv_14 => ?_)
      have hv_14 : v_14 = nI (nR - 1) := hv_14.trans (rfl)
      subst hv_14
      refine lv_icmp_ge (tgt := 34) hx hb dX0_remove_17 (by decide) (fun c_17 => ?_) (fun c_17 => ?_)
      · skip
        have hge := n_ge c_17 (by omega) (by omega)
        exact W.vret hx hb hr (fun t ht hW => ⟨⟨((va_up f 5 (nI (nR - 1))), g1), rfl, ⟨rfl, (by rw [← hc, xDnG_e hge])⟩, by rw [ht]; exact hP, hD⟩, hS.F ht⟩) hS.2.2 dX0_remove_34
      · skip
        have hlt := n_lt c_17 (by omega)
        refine lv_aload_n hx hb dX0_remove_20 rfl (lv_at hl 0 rfl) ?_
        refine lv_iload_n hx hb dX0_remove_21 rfl (lv_at hl 2 rfl) ?_
        refine lv_iconst (v := 1) hx hb dX0_remove_22 (by decide) ?_
        refine lv_iadd hx hb dX0_remove_23 ?_
        refine lv_topi (fun v_23 hv_23 => ?_)
        have hv_23 : v_23 = nI (t + 1) := hv_23.trans (nI_1 t)
        subst hv_23
        refine lv_iload_n hx hb dX0_remove_24 rfl (lv_at hl 2 rfl) ?_
        refine qb_callv (va_runV (As := [.int (nI (t + 1)), .int (nI t)]) (rest := []) ⟨hx, hb, hml, hown, hts⟩ (c_X0_copyRange l D cA cZ cL ad (va_up f 5 (nI (nR - 1))) g1 H.size (t + 1) t (by omega) (by omega)) (cwV 2 hts gX0_remove_X0_copyRange rfl rfl rfl (by decide +kernel) ⟨Nat.le_of_ble_eq_true rfl, Nat.le_of_ble_eq_true rfl⟩) ⟨qPreW_blind, va_recv hK hP (ci := 0) (q0 := 0) rfl rfl, qPreW_at hP hK hD⟩ rfl rfl hl.1 rfl (lv_room (Nat.le_of_ble_eq_true rfl)) dX0_remove_25 ⟨Nat.le_of_ble_eq_true rfl, Nat.le_of_ble_eq_true rfl⟩) hD hS hA (fun u H locs hu hP hD hS => ?_)
        obtain ⟨uf, ug⟩ := u
        obtain ⟨hu1, hu2⟩ := hu
        have hu1 : uf = (va_up f 5 (nI (nR - 1))) := hu1
        have hu2 : ug = xCopyG g1 (t + 1) t := hu2
        have hP : va_P D vwCl (xW cA ad uf ug) H := hP
        have hD : va_D A (xW cA ad uf ug) := hD
        rw [hu1, hu2] at hP hD
        have hP : va_P D vwCl (xW cA ad (va_up f 5 (nI (nR - 1))) (xCopyG g1 (t + 1) t)) H := hP
        have hD : va_D A (xW cA ad (va_up f 5 (nI (nR - 1))) (xCopyG g1 (t + 1) t)) := hD
        refine lv_iinc (v := nI (t + 1)) (lv' := [(2, .int (nI (t + 1))), (0, .ref (ad 16)), (1, .int (nI r))]) hx hb dX0_remove_28 hl (k := 2) rfl (nI_1 t) (by decide) rfl (fun ls hl => ?_)
        refine lv_goto (tgt := 12) hx hb dX0_remove_31 (by decide) ?_
        exact ih _ (by omega) (t + 1) (xCopyG g1 (t + 1) t) rfl (by omega) (by rw [← hc]; exact (xDnG_s hlt).symm) _ _ hP hD hS _ (lv_sub hl [1, 2, 0] rfl)
  exact hloop_12 _ r g rfl (by omega) rfl _ _ hP hD hS _ (lv_sub hl [1, 2, 0] rfl)
end
