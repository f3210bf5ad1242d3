section
-- ===== PART A: goes FIRST, ahead of the names: the tables' words, and 'selects' of the private methods out of them =====
/-- a private method of a class that the tables say can be made, by its rows of tables_1 -/
def lw_okq (q : MethodName × Nat) : Prop := (q.1.cls ≠ "java/lang/invoke/MethodHandle" ∧ q.1.cls ≠ "java/lang/invoke/VarHandle") ∧ Cond.instantiable q.1.cls q.2 ∈ tables_1 ∧ Cond.privateMethod q.1 ∈ tables_1 ∧ Cond.instanceMethod q.1 ∈ tables_1
theorem lw_p0 : lw_okq (⟨"java/lang/Throwable", "fillInStackTrace", "(I)Ljava/lang/Throwable;"⟩, 6) := ⟨⟨by decide +kernel, by decide +kernel⟩, List.mem_of_getElem? (i := 209) (by decide +kernel), List.mem_of_getElem? (i := 207) (by decide +kernel), List.mem_of_getElem? (i := 208) (by decide +kernel)⟩
theorem lw_p1 : lw_okq (⟨"WeightOrder$Table", "put", "(JI)V"⟩, 3) := ⟨⟨by decide +kernel, by decide +kernel⟩, List.mem_of_getElem? (i := 26) (by decide +kernel), List.mem_of_getElem? (i := 234) (by decide +kernel), List.mem_of_getElem? (i := 235) (by decide +kernel)⟩
theorem lw_p2 : lw_okq (⟨"WeightOrder$Table", "placeOf", "(J)I"⟩, 3) := ⟨⟨by decide +kernel, by decide +kernel⟩, List.mem_of_getElem? (i := 26) (by decide +kernel), List.mem_of_getElem? (i := 238) (by decide +kernel), List.mem_of_getElem? (i := 239) (by decide +kernel)⟩
theorem lw_p3 : lw_okq (⟨"WeightOrder$Table", "insert", "(IJI)V"⟩, 3) := ⟨⟨by decide +kernel, by decide +kernel⟩, List.mem_of_getElem? (i := 26) (by decide +kernel), List.mem_of_getElem? (i := 242) (by decide +kernel), List.mem_of_getElem? (i := 243) (by decide +kernel)⟩
theorem lw_p4 : lw_okq (⟨"WeightOrder$Lines", "find", "(J)LWeightOrder$Line;"⟩, 4) := ⟨⟨by decide +kernel, by decide +kernel⟩, List.mem_of_getElem? (i := 44) (by decide +kernel), List.mem_of_getElem? (i := 266) (by decide +kernel), List.mem_of_getElem? (i := 267) (by decide +kernel)⟩
theorem lw_p5 : lw_okq (⟨"WeightOrder$Table", "valueOf", "(JI)I"⟩, 3) := ⟨⟨by decide +kernel, by decide +kernel⟩, List.mem_of_getElem? (i := 26) (by decide +kernel), List.mem_of_getElem? (i := 270) (by decide +kernel), List.mem_of_getElem? (i := 271) (by decide +kernel)⟩
theorem lw_p6 : lw_okq (⟨"WeightOrder$Lines", "isFull", "()Z"⟩, 4) := ⟨⟨by decide +kernel, by decide +kernel⟩, List.mem_of_getElem? (i := 44) (by decide +kernel), List.mem_of_getElem? (i := 274) (by decide +kernel), List.mem_of_getElem? (i := 275) (by decide +kernel)⟩
theorem lw_p7 : lw_okq (⟨"WeightOrder$Lines", "tell", "(J)V"⟩, 4) := ⟨⟨by decide +kernel, by decide +kernel⟩, List.mem_of_getElem? (i := 44) (by decide +kernel), List.mem_of_getElem? (i := 293) (by decide +kernel), List.mem_of_getElem? (i := 294) (by decide +kernel)⟩
theorem lw_p8 : lw_okq (⟨"WeightOrder$Line", "isFull", "()Z"⟩, 3) := ⟨⟨by decide +kernel, by decide +kernel⟩, List.mem_of_getElem? (i := 297) (by decide +kernel), List.mem_of_getElem? (i := 328) (by decide +kernel), List.mem_of_getElem? (i := 329) (by decide +kernel)⟩
theorem lw_p9 : lw_okq (⟨"WeightOrder$Line", "append", "(JZ)V"⟩, 3) := ⟨⟨by decide +kernel, by decide +kernel⟩, List.mem_of_getElem? (i := 297) (by decide +kernel), List.mem_of_getElem? (i := 335) (by decide +kernel), List.mem_of_getElem? (i := 336) (by decide +kernel)⟩
theorem lw_p10 : lw_okq (⟨"WeightOrder$Row", "isFull", "()Z"⟩, 2) := ⟨⟨by decide +kernel, by decide +kernel⟩, List.mem_of_getElem? (i := 70) (by decide +kernel), List.mem_of_getElem? (i := 346) (by decide +kernel), List.mem_of_getElem? (i := 347) (by decide +kernel)⟩
theorem lw_p11 : lw_okq (⟨"WeightOrder$Row", "append", "(I)V"⟩, 2) := ⟨⟨by decide +kernel, by decide +kernel⟩, List.mem_of_getElem? (i := 70) (by decide +kernel), List.mem_of_getElem? (i := 350) (by decide +kernel), List.mem_of_getElem? (i := 351) (by decide +kernel)⟩
theorem lw_p12 : lw_okq (⟨"WeightOrder$Finder", "findElements", "(LWeightOrder$Row;ZLWeightOrder$Elements;)V"⟩, 9) := ⟨⟨by decide +kernel, by decide +kernel⟩, List.mem_of_getElem? (i := 86) (by decide +kernel), List.mem_of_getElem? (i := 368) (by decide +kernel), List.mem_of_getElem? (i := 369) (by decide +kernel)⟩
theorem lw_p13 : lw_okq (⟨"WeightOrder$Finder", "load", "(LWeightOrder$Row;)V"⟩, 9) := ⟨⟨by decide +kernel, by decide +kernel⟩, List.mem_of_getElem? (i := 86) (by decide +kernel), List.mem_of_getElem? (i := 372) (by decide +kernel), List.mem_of_getElem? (i := 373) (by decide +kernel)⟩
theorem lw_p14 : lw_okq (⟨"WeightOrder$Elements", "begin", "(Z)V"⟩, 4) := ⟨⟨by decide +kernel, by decide +kernel⟩, List.mem_of_getElem? (i := 120) (by decide +kernel), List.mem_of_getElem? (i := 377) (by decide +kernel), List.mem_of_getElem? (i := 378) (by decide +kernel)⟩
theorem lw_p15 : lw_okq (⟨"WeightOrder$Finder", "takeNext", "(LWeightOrder$Elements;)V"⟩, 9) := ⟨⟨by decide +kernel, by decide +kernel⟩, List.mem_of_getElem? (i := 86) (by decide +kernel), List.mem_of_getElem? (i := 381) (by decide +kernel), List.mem_of_getElem? (i := 382) (by decide +kernel)⟩
def lw_privs_1 : List (MethodName × Nat) := [(⟨"java/lang/Throwable", "fillInStackTrace", "(I)Ljava/lang/Throwable;"⟩, 6), (⟨"WeightOrder$Table", "put", "(JI)V"⟩, 3), (⟨"WeightOrder$Table", "placeOf", "(J)I"⟩, 3), (⟨"WeightOrder$Table", "insert", "(IJI)V"⟩, 3), (⟨"WeightOrder$Lines", "find", "(J)LWeightOrder$Line;"⟩, 4), (⟨"WeightOrder$Table", "valueOf", "(JI)I"⟩, 3), (⟨"WeightOrder$Lines", "isFull", "()Z"⟩, 4), (⟨"WeightOrder$Lines", "tell", "(J)V"⟩, 4), (⟨"WeightOrder$Line", "isFull", "()Z"⟩, 3), (⟨"WeightOrder$Line", "append", "(JZ)V"⟩, 3), (⟨"WeightOrder$Row", "isFull", "()Z"⟩, 2), (⟨"WeightOrder$Row", "append", "(I)V"⟩, 2), (⟨"WeightOrder$Finder", "findElements", "(LWeightOrder$Row;ZLWeightOrder$Elements;)V"⟩, 9), (⟨"WeightOrder$Finder", "load", "(LWeightOrder$Row;)V"⟩, 9), (⟨"WeightOrder$Elements", "begin", "(Z)V"⟩, 4), (⟨"WeightOrder$Finder", "takeNext", "(LWeightOrder$Elements;)V"⟩, 9)]
theorem lw_r1 : ∀ q ∈ lw_privs_1, lw_okq q := List.forall_mem_cons.mpr ⟨lw_p0, List.forall_mem_cons.mpr ⟨lw_p1, List.forall_mem_cons.mpr ⟨lw_p2, List.forall_mem_cons.mpr ⟨lw_p3, List.forall_mem_cons.mpr ⟨lw_p4, List.forall_mem_cons.mpr ⟨lw_p5, List.forall_mem_cons.mpr ⟨lw_p6, List.forall_mem_cons.mpr ⟨lw_p7, List.forall_mem_cons.mpr ⟨lw_p8, List.forall_mem_cons.mpr ⟨lw_p9, List.forall_mem_cons.mpr ⟨lw_p10, List.forall_mem_cons.mpr ⟨lw_p11, List.forall_mem_cons.mpr ⟨lw_p12, List.forall_mem_cons.mpr ⟨lw_p13, List.forall_mem_cons.mpr ⟨lw_p14, List.forall_mem_cons.mpr ⟨lw_p15, fun _ h => absurd h List.not_mem_nil⟩⟩⟩⟩⟩⟩⟩⟩⟩⟩⟩⟩⟩⟩⟩⟩
theorem lw_p16 : lw_okq (⟨"WeightOrder$Finder", "seekBeginning", "()V"⟩, 9) := ⟨⟨by decide +kernel, by decide +kernel⟩, List.mem_of_getElem? (i := 86) (by decide +kernel), List.mem_of_getElem? (i := 385) (by decide +kernel), List.mem_of_getElem? (i := 386) (by decide +kernel)⟩
theorem lw_p17 : lw_okq (⟨"WeightOrder$Finder", "become", "(JILWeightOrder$Line;)V"⟩, 9) := ⟨⟨by decide +kernel, by decide +kernel⟩, List.mem_of_getElem? (i := 86) (by decide +kernel), List.mem_of_getElem? (i := 391) (by decide +kernel), List.mem_of_getElem? (i := 392) (by decide +kernel)⟩
theorem lw_p18 : lw_okq (⟨"WeightOrder$Elements", "appendImplicit", "(I)V"⟩, 4) := ⟨⟨by decide +kernel, by decide +kernel⟩, List.mem_of_getElem? (i := 120) (by decide +kernel), List.mem_of_getElem? (i := 395) (by decide +kernel), List.mem_of_getElem? (i := 396) (by decide +kernel)⟩
theorem lw_p19 : lw_okq (⟨"WeightOrder$Elements", "append", "(JZ)V"⟩, 4) := ⟨⟨by decide +kernel, by decide +kernel⟩, List.mem_of_getElem? (i := 120) (by decide +kernel), List.mem_of_getElem? (i := 402) (by decide +kernel), List.mem_of_getElem? (i := 403) (by decide +kernel)⟩
theorem lw_p20 : lw_okq (⟨"WeightOrder$Elements", "shift", "(JZ)J"⟩, 4) := ⟨⟨by decide +kernel, by decide +kernel⟩, List.mem_of_getElem? (i := 120) (by decide +kernel), List.mem_of_getElem? (i := 406) (by decide +kernel), List.mem_of_getElem? (i := 407) (by decide +kernel)⟩
theorem lw_p21 : lw_okq (⟨"WeightOrder$Finder", "seekBehind", "()V"⟩, 9) := ⟨⟨by decide +kernel, by decide +kernel⟩, List.mem_of_getElem? (i := 86) (by decide +kernel), List.mem_of_getElem? (i := 414) (by decide +kernel), List.mem_of_getElem? (i := 415) (by decide +kernel)⟩
theorem lw_p22 : lw_okq (⟨"WeightOrder$Finder", "closeGap", "(I)V"⟩, 9) := ⟨⟨by decide +kernel, by decide +kernel⟩, List.mem_of_getElem? (i := 86) (by decide +kernel), List.mem_of_getElem? (i := 421) (by decide +kernel), List.mem_of_getElem? (i := 422) (by decide +kernel)⟩
theorem lw_p23 : lw_okq (⟨"WeightOrder$Elements", "appendLine", "(LWeightOrder$Line;)V"⟩, 4) := ⟨⟨by decide +kernel, by decide +kernel⟩, List.mem_of_getElem? (i := 120) (by decide +kernel), List.mem_of_getElem? (i := 426) (by decide +kernel), List.mem_of_getElem? (i := 427) (by decide +kernel)⟩
theorem lw_p24 : lw_okq (⟨"WeightOrder$Elements", "nextWithWeight", "(II)I"⟩, 4) := ⟨⟨by decide +kernel, by decide +kernel⟩, List.mem_of_getElem? (i := 120) (by decide +kernel), List.mem_of_getElem? (i := 448) (by decide +kernel), List.mem_of_getElem? (i := 449) (by decide +kernel)⟩
theorem lw_p25 : lw_okq (⟨"WeightOrderModel", "out", "(I)Z"⟩, 17) := ⟨⟨by decide +kernel, by decide +kernel⟩, List.mem_of_getElem? (i := 455) (by decide +kernel), List.mem_of_getElem? (i := 523) (by decide +kernel), List.mem_of_getElem? (i := 524) (by decide +kernel)⟩
theorem lw_p26 : lw_okq (⟨"WeightOrderModel", "fail", "(I)I"⟩, 17) := ⟨⟨by decide +kernel, by decide +kernel⟩, List.mem_of_getElem? (i := 455) (by decide +kernel), List.mem_of_getElem? (i := 532) (by decide +kernel), List.mem_of_getElem? (i := 533) (by decide +kernel)⟩
theorem lw_p27 : lw_okq (⟨"WeightOrderModel", "lineOf", "(IIII)I"⟩, 17) := ⟨⟨by decide +kernel, by decide +kernel⟩, List.mem_of_getElem? (i := 455) (by decide +kernel), List.mem_of_getElem? (i := 536) (by decide +kernel), List.mem_of_getElem? (i := 537) (by decide +kernel)⟩
theorem lw_p28 : lw_okq (⟨"WeightOrderModel", "take", "(IZ)V"⟩, 17) := ⟨⟨by decide +kernel, by decide +kernel⟩, List.mem_of_getElem? (i := 455) (by decide +kernel), List.mem_of_getElem? (i := 557) (by decide +kernel), List.mem_of_getElem? (i := 558) (by decide +kernel)⟩
theorem lw_p29 : lw_okq (⟨"WeightOrderModel", "give", "(IIII)V"⟩, 17) := ⟨⟨by decide +kernel, by decide +kernel⟩, List.mem_of_getElem? (i := 455) (by decide +kernel), List.mem_of_getElem? (i := 563) (by decide +kernel), List.mem_of_getElem? (i := 564) (by decide +kernel)⟩
theorem lw_p30 : lw_okq (⟨"WeightOrderModel", "drop", "(II)V"⟩, 17) := ⟨⟨by decide +kernel, by decide +kernel⟩, List.mem_of_getElem? (i := 455) (by decide +kernel), List.mem_of_getElem? (i := 567) (by decide +kernel), List.mem_of_getElem? (i := 568) (by decide +kernel)⟩
theorem lw_p31 : lw_okq (⟨"WeightOrderModel", "classOf", "(I)I"⟩, 17) := ⟨⟨by decide +kernel, by decide +kernel⟩, List.mem_of_getElem? (i := 455) (by decide +kernel), List.mem_of_getElem? (i := 571) (by decide +kernel), List.mem_of_getElem? (i := 572) (by decide +kernel)⟩
def lw_privs_2 : List (MethodName × Nat) := [(⟨"WeightOrder$Finder", "seekBeginning", "()V"⟩, 9), (⟨"WeightOrder$Finder", "become", "(JILWeightOrder$Line;)V"⟩, 9), (⟨"WeightOrder$Elements", "appendImplicit", "(I)V"⟩, 4), (⟨"WeightOrder$Elements", "append", "(JZ)V"⟩, 4), (⟨"WeightOrder$Elements", "shift", "(JZ)J"⟩, 4), (⟨"WeightOrder$Finder", "seekBehind", "()V"⟩, 9), (⟨"WeightOrder$Finder", "closeGap", "(I)V"⟩, 9), (⟨"WeightOrder$Elements", "appendLine", "(LWeightOrder$Line;)V"⟩, 4), (⟨"WeightOrder$Elements", "nextWithWeight", "(II)I"⟩, 4), (⟨"WeightOrderModel", "out", "(I)Z"⟩, 17), (⟨"WeightOrderModel", "fail", "(I)I"⟩, 17), (⟨"WeightOrderModel", "lineOf", "(IIII)I"⟩, 17), (⟨"WeightOrderModel", "take", "(IZ)V"⟩, 17), (⟨"WeightOrderModel", "give", "(IIII)V"⟩, 17), (⟨"WeightOrderModel", "drop", "(II)V"⟩, 17), (⟨"WeightOrderModel", "classOf", "(I)I"⟩, 17)]
theorem lw_r2 : ∀ q ∈ lw_privs_2, lw_okq q := List.forall_mem_cons.mpr ⟨lw_p16, List.forall_mem_cons.mpr ⟨lw_p17, List.forall_mem_cons.mpr ⟨lw_p18, List.forall_mem_cons.mpr ⟨lw_p19, List.forall_mem_cons.mpr ⟨lw_p20, List.forall_mem_cons.mpr ⟨lw_p21, List.forall_mem_cons.mpr ⟨lw_p22, List.forall_mem_cons.mpr ⟨lw_p23, List.forall_mem_cons.mpr ⟨lw_p24, List.forall_mem_cons.mpr ⟨lw_p25, List.forall_mem_cons.mpr ⟨lw_p26, List.forall_mem_cons.mpr ⟨lw_p27, List.forall_mem_cons.mpr ⟨lw_p28, List.forall_mem_cons.mpr ⟨lw_p29, List.forall_mem_cons.mpr ⟨lw_p30, List.forall_mem_cons.mpr ⟨lw_p31, fun _ h => absurd h List.not_mem_nil⟩⟩⟩⟩⟩⟩⟩⟩⟩⟩⟩⟩⟩⟩⟩⟩
def lw_privs : List (MethodName × Nat) := lw_privs_1 ++ (lw_privs_2)
def lw_tbl : List Cond := k2_sels lw_privs ++ tables_1
theorem lw_privs_ok : ∀ q ∈ lw_privs, lw_okq q := by
  show ∀ q ∈ lw_privs_1 ++ (lw_privs_2), lw_okq q
  exact List.forall_mem_append.mpr ⟨lw_r1, lw_r2⟩
-- ===== end of PART A; then your names; then what follows =====
end
section
/-! ===== BEGIN words of one list among another's, by their places ===== -/
theorem goodIn_r {big : List Cond} (ws : List Cond) (ps : List Nat) (hp : ws = ps.filterMap (fun i => big[i]?)) (h : ws.all goodWord = true) : GoodIn big ws := by
  intro w hw
  have h1 := List.all_eq_true.mp h w hw
  rw [hp] at hw
  obtain ⟨i, -, hi⟩ := List.mem_filterMap.mp hw
  have hm : w ∈ big := by first | exact List.mem_of_getElem? hi | exact List.getElem?_mem hi
  exact ⟨hm, good_of_word h1⟩
theorem goodIn_app {big a b : List Cond} (ha : GoodIn big a) (hb : GoodIn big b) : GoodIn big (a ++ b) := fun w h => (List.mem_append.mp h).elim (ha w) (hb w)
theorem goodIn_ca {big a b : List Cond} {c : Cond} (ha : GoodIn big (c :: a)) (hb : GoodIn big b) : GoodIn big (c :: (a ++ b)) := fun w h => (List.mem_cons.mp h).elim (fun e => ha w (List.mem_cons.mpr (Or.inl e))) (fun h => (List.mem_append.mp h).elim (fun h => ha w (List.mem_cons.mpr (Or.inr h))) (hb w))
theorem goodIn_sub {big ws : List Cond} (hm : ∀ w ∈ ws, w ∈ big) (h : ws.all goodWord = true) : GoodIn big ws := fun w hw => ⟨hm w hw, good_of_word (List.all_eq_true.mp h w hw)⟩
/-! ===== END ===== -/

/-! ===== BEGIN exceptions that leave a method, and their catching by the caller (launches without stack traces) ===== -/
section VXA
/-! The laws vx_back, vx_callV, vx_callS, vx_callSW, vx_throw0, vx_throwS follow proofs of the library, with one case more: JvmDerived/Free/Laws.lean (Back.of_free), Shelf42/LK1.lean (callV, callS), Shelf/KitTraced.lean (throwNew0V, throwNewS). -/
/-- where a method has thrown q: the class by its name, the cell, what was written, the world -/
def vx_T (XC : String → State → State → Prop) (st : State) (q : Addr) (t : State) (mc ms : Nat) (free : Addr → Prop) : Prop :=
  ∃ (E : String) (ce : Cell) (L : List Loc), XC E st t ∧ t.heap[q]? = some ce ∧ ce.vm = .none ∧ st.vm.findClass E = some ce.cls ∧ st.WarmedH t.vm ∧ st.sameButNew ({ t with vm := st.vm } : State) L mc ms ∧ ∀ z ∈ L, free z.base
def vx_Q (Qc : Array Value → State → Outcome → State → Prop) (XC : String → State → State → Prop) (mc ms : Nat) (free : Addr → Prop) : Array Value → State → Outcome → State → Prop := fun a st o t =>
  (Qc a st o t ∧ ∃ L, FrameEnd st o t L mc ms ∧ ∀ q ∈ L, free q.base) ∨ ∃ q, o = .threw q ∧ vx_T XC st q t mc ms free
/-- a callee that returns or throws -/
def vx_Met (l : Launch) (y : MethodName) (ws : List Cond) (rm : Room) (Pc : Array Value → State → Prop) (Qc : Array Value → State → Outcome → State → Prop) (XC : String → State → State → Prop) (mc ms : Nat) (free : Addr → Prop) : Prop :=
  MetFree l y (headSpec ws rm) Pc (fun _ _ _ _ _ => True) (vx_Q Qc XC mc ms free)
def vx_Post (XC : String → State → State → Prop) (mc ms : Nat) (free : Addr → Prop) : Pt → Array Value → Addr → Pt → Prop := fun A a q B =>
  ∃ (g : JFrame) (mk : MethodId) (t : State) (L : List Loc) (E : String) (ce : Cell), B.U.heap = t.heap ∧ B.U.vm = t.vm ∧ XC E (A.U.calling g mk a) t ∧ t.heap[q]? = some ce ∧ ce.vm = .none ∧ A.U.vm.findClass E = some ce.cls ∧ B.locs = A.locs ++ L ∧ (∀ z ∈ L, free z.base) ∧ B.cells = A.cells + mc ∧ B.slots = A.slots + ms
def vx_Back (l : Launch) (R : Room) (p : Program) (e : Env) (below : List Frame) (s : State) (sargs : Array Value) (y : MethodName) (len W9 : Nat)
    (Pre : Pt → Array Value → Prop) (Post : Pt → Array Value → Option Value → Pt → Prop) (PostX : Pt → Array Value → Addr → Pt → Prop) : Prop :=
  ∀ (m : MethodId) (meth : Method) (c : Code) (A : Pt) (g : JFrame) (ig : Instr) (mk : MethodId) (a : Array Value),
    Stand p l e R s m sargs below meth c A.U A.locs A.cells A.slots → g.method = m → g.locals.size = c.maxLocals → decode c.code g.pc = .ok (ig, len) →
    2 * g.monitorRoom + (g.stack.map fun v => v.category).sum ≤ W9 → A.U.methodNamed? y = some mk → Pre A a →
    (∃ (v : Option Value) (B : Pt), Stand p l e R s m sargs below meth c B.U B.locs B.cells B.slots ∧ Post A a v B ∧
      Steps p.tables e below (doInvoke e (A.U.setTop g) [] mk a).1 (B.U.setTop { g with pc := g.pc + len, stack := v.toList ++ g.stack })) ∨
    (∃ (q : Addr) (B : Pt), Stand p l e R s m sargs below meth c B.U B.locs B.cells B.slots ∧ PostX A a q B ∧
      Steps p.tables e below (doInvoke e (A.U.setTop g) [] mk a).1 ((B.U.setTop g).pushFrame (.throwing q)))
section Payer
variable {l : Launch} {R : Room} {p : Program} {e : Env} {below : List Frame} {s : State} {sargs : Array Value} {y : MethodName} {len W9 : Nat}
theorem vx_back {ws : List Cond} {rm : Room} {Pc : Array Value → State → Prop} {Qc : Array Value → State → Outcome → State → Prop} {XC : String → State → State → Prop} {mc ms : Nat} {free : Addr → Prop} {bytes : ByteArray} {maxL : Nat} {ret : Option FieldType}
    (hM : vx_Met l y ws rm Pc Qc XC mc ms free) (hblind : FrameBlind Pc) (hrc : rm.cells = mc) (hrs : rm.slots = ms)
    (hframes : rm.frames + 1 ≤ R.frames) (hlocals : W9 + (maxL + 11) + rm.locals ≤ R.locals)
    (hws : ∀ w ∈ ws, ∀ a' U, s.WarmedH U.vm → w.before a' U = true) (hcode : Cond.code y bytes maxL ret ∈ ws) (hinit : ∀ a' U, s.WarmedH U.vm → (Cond.initialized y.cls).before a' U = true) :
    vx_Back l R p e below s sargs y len W9 (PreOf R mc ms Pc) (PostOf Qc mc ms free) (vx_Post XC mc ms free) := by
  intro m meth c A g ig mk a X hg hsize hdg hW hn hp
  have h1 : (headSpec ws rm).pre.before a A.U = true := atoms_intro fun w hw => hws w hw _ _ X.warmed
  have h2 : (Cond.code y bytes maxL ret).before a A.U = true := hws _ hcode _ _ X.warmed
  have h3 : (Cond.initialized y.cls).before a A.U = true := hinit _ _ X.warmed
  have h4 : A.cells + (headSpec ws rm).room.cells ≤ R.cells := by rw [show (headSpec ws rm).room.cells = mc from hrc]; exact hp.1
  have h5 : A.slots + (headSpec ws rm).room.slots ≤ R.slots := by rw [show (headSpec ws rm).room.slots = ms from hrs]; exact hp.2.1
  have hPc : Pc a (A.U.calling g mk a) := hblind _ _ _ _ hp.2.2
  obtain ⟨U, Ls, c0, s0⟩ := A
  dsimp only [Pt.U, Pt.locs, Pt.cells, Pt.slots] at h1 h2 h3 h4 h5 X hn hPc ⊢
  obtain ⟨methY, cY, hmY, hcY, -, hlY, -, -, -, -⟩ := Cond.code_spec hn h2
  obtain ⟨kY, hkY, -⟩ := className_of_methodNamed hn
  have hinitY : kY.init = .initialized := Cond.initialized_spec (findClass_of_methodNamed hn) hkY h3
  have h : At U g.method c below := by rw [hg]; exact X.here
  have hlocals9 : W9 + (maxL + 11) + (headSpec ws rm).room.locals ≤ R.locals := hlocals
  have happ : (headSpec ws rm).appliesLoose y e.platform (U.calling g mk a) = true :=
    Spec.appliesLoose_calling (g := g) h hdg hn hkY hinitY
      (X.room_calling (g := g) (R' := (headSpec ws rm).room) hsize hmY hcY hframes (by rw [hlY]; omega) h4 h5) h1
  obtain ⟨mid, hmid⟩ := h.above
  have hfr : (U.setTop g).frames = (.java g :: mid) ++ below := by rw [State.frames_setTop' g h.top, hmid]; rfl
  obtain ⟨o, s₂, hsteps, -, hend, hq⟩ := Steps.callFree hM p X.admits X.cas X.clock (acts := []) hfr happ hPc trivial
  have hq' : vx_Q Qc XC mc ms free a (U.calling g mk a) o s₂ := hq
  rw [State.frames_setTop' g h.top] at hend
  obtain ⟨g₀, hg0⟩ := Option.isSome_iff_exists.mp h.top
  obtain ⟨r, hr⟩ := State.topJava?_eq_some.mp hg0
  have hr' : (({ U with heap := s₂.heap, slotsUsed := s₂.slotsUsed } : State).setVm s₂.vm).frames = .java g₀ :: r := hr
  rcases hq' with ⟨hqc, L, hfe, hL⟩ | ⟨q, rfl, E, ce, L, hx, hce, hcv, hcl, hW₂, hsm, hL⟩
  · obtain ⟨⟨v, rfl⟩, hW₂, e2, q2, q3, q4, q5, q6⟩ := id hfe
    have e3 : s₂ = ({ (U.calling g mk a).setFrames s₂.frames with heap := s₂.heap, slotsUsed := s₂.slotsUsed } : State).setVm s₂.vm := by
      have : s₂ = ({ s₂ with vm := (U.calling g mk a).vm } : State).setVm s₂.vm := rfl
      rw [e2] at this
      exact this
    obtain ⟨c₂, i₂, len₂, hc₂, hd₂, hf₂⟩ := hend
    have hW' : U.WarmedH s₂.vm := hW₂
    have hcc : c₂ = c := by
      have h1 : s₂.code? g.method = U.code? g.method := by
        rw [State.code?_eq, State.code?_eq, hW'.alike.method?]
      exact Option.some.inj (hc₂.symm.trans (h1.trans h.code))
    subst hcc
    have hlen : len₂ = len := by rw [hdg] at hd₂; cases hd₂; rfl
    subst hlen
    have hs₂ : s₂ = (({ U with heap := s₂.heap, slotsUsed := s₂.slotsUsed } : State).setVm s₂.vm).setTop { g with pc := g.pc + len₂, stack := v.toList ++ g.stack } := by
      refine e3.trans ?_
      rw [hf₂, State.calling_eq h.top, State.setFrames_setFrames, State.setTop_of_frames _ hr', hr]
      rfl
    have hsame : U.sameButNew ({ U with heap := s₂.heap, slotsUsed := s₂.slotsUsed } : State) L mc ms := by
      refine ⟨?_, q2, q3, q4, q5, q6⟩
      obtain ⟨t, ht, -⟩ := State.frames_cons hr
      show ({ U with heap := s₂.heap, slotsUsed := s₂.slotsUsed } : State) = { U.setFrames U.frames with heap := s₂.heap, slotsUsed := s₂.slotsUsed }
      rw [State.setFrames_self ht]
    subst hg
    refine Or.inl ⟨v, ⟨(({ U with heap := s₂.heap, slotsUsed := s₂.slotsUsed } : State).setVm s₂.vm), Ls ++ L, c0 + mc, s0 + ms⟩,
      ⟨X.admits, X.cas, X.clock, X.frames, X.room, X.hears, X.method, X.code, (X.here.setHeapUsed s₂.heap s₂.slotsUsed).setVm hW'.alike, X.tail, State.WarmedH.trans X.warmed hW', X.limits, X.bytes, X.same.trans (hsame.setVm s.vm)⟩,
      ⟨g, mk, s₂, L, rfl, rfl, hqc, rfl, hL, rfl, rfl⟩, ?_⟩
    show Steps p.tables e below _ ((({ U with heap := s₂.heap, slotsUsed := s₂.slotsUsed } : State).setVm s₂.vm).setTop { g with pc := g.pc + len₂, stack := v.toList ++ g.stack })
    rw [← hs₂]
    exact hsteps
  · obtain ⟨e2, q2, q3, q4, q5, q6⟩ := id hsm
    have e3 : s₂ = ({ (U.calling g mk a).setFrames s₂.frames with heap := s₂.heap, slotsUsed := s₂.slotsUsed } : State).setVm s₂.vm := by
      have : s₂ = ({ s₂ with vm := (U.calling g mk a).vm } : State).setVm s₂.vm := rfl
      rw [e2] at this
      exact this
    have hf₂ : s₂.frames = .throwing q :: .java g :: U.frames.tail := hend
    have hW' : U.WarmedH s₂.vm := hW₂
    have hs₂ : s₂ = ((({ U with heap := s₂.heap, slotsUsed := s₂.slotsUsed } : State).setVm s₂.vm).setTop g).pushFrame (.throwing q) := by
      refine e3.trans ?_
      rw [hf₂, State.calling_eq h.top, State.setFrames_setFrames, State.pushFrame, State.frames_setTop _ hr', State.setTop_of_frames _ hr', State.setFrames_setFrames, hr]
      rfl
    have hsame : U.sameButNew ({ U with heap := s₂.heap, slotsUsed := s₂.slotsUsed } : State) L mc ms := by
      refine ⟨?_, q2, q3, q4, q5, q6⟩
      obtain ⟨t, ht, -⟩ := State.frames_cons hr
      show ({ U with heap := s₂.heap, slotsUsed := s₂.slotsUsed } : State) = { U.setFrames U.frames with heap := s₂.heap, slotsUsed := s₂.slotsUsed }
      rw [State.setFrames_self ht]
    subst hg
    refine Or.inr ⟨q, ⟨(({ U with heap := s₂.heap, slotsUsed := s₂.slotsUsed } : State).setVm s₂.vm), Ls ++ L, c0 + mc, s0 + ms⟩,
      ⟨X.admits, X.cas, X.clock, X.frames, X.room, X.hears, X.method, X.code, (X.here.setHeapUsed s₂.heap s₂.slotsUsed).setVm hW'.alike, X.tail, State.WarmedH.trans X.warmed hW', X.limits, X.bytes, X.same.trans (hsame.setVm s.vm)⟩,
      ⟨g, mk, s₂, L, E, ce, rfl, rfl, hx, hce, hcv, hcl, rfl, hL, rfl, rfl⟩, ?_⟩
    show Steps p.tables e below _ (((({ U with heap := s₂.heap, slotsUsed := s₂.slotsUsed } : State).setVm s₂.vm).setTop g).pushFrame (.throwing q))
    rw [← hs₂]
    exact hsteps
end Payer
section Calls
variable {p : Program} {l : Launch} {e : Env} {R : Room} {s : State} {m : MethodId} {args : Array Value} {below : List Frame} {meth : Method} {c : Code} {T : State} {locs : List Loc} {cells slots : Nat}
theorem vx_callV (X : Stand p l e R s m args below meth c T locs cells slots) (hexec : p.tables.exec = Jvm.exec) {own C : String} {index : Nat} {y : MethodName} {bytes : ByteArray} {maxL : Nat} {ret : Option FieldType}
    (hown : s.vm.findClass own = some m.cls) (hlink : (Cond.methodLink own index y).before args s = true) (hinst : (Cond.instanceMethod y).before args s = true) (hsel : (Cond.selects C y y).before args s = true)
    (hcode : (Cond.code y bytes maxL ret).before args s = true) (hy : y.cls ≠ "java/lang/invoke/MethodHandle" ∧ y.cls ≠ "java/lang/invoke/VarHandle")
    {W9 : Nat} {Pre : Pt → Array Value → Prop} {Post : Pt → Array Value → Option Value → Pt → Prop} {PostX : Pt → Array Value → Addr → Pt → Prop} (hK : vx_Back l R p e below s args y 3 W9 Pre Post PostX)
    {b : Addr} {cellB : Cell} (hcell : T.heap[b]? = some cellB) (hobj : cellB.vm.isStatics = false) (hcls : s.vm.findClass C = some cellB.cls)
    {g : JFrame} (hg : g.method = m) (hsize : g.locals.size = c.maxLocals) {argsL rest : List Value} (hlen : ∀ sig, parseMethodDescriptor y.desc = some sig → argsL.length = sig.parameters.length)
    (hstack : g.stack = argsL.reverse ++ .ref b :: rest) (hW : 2 * g.monitorRoom + (rest.map fun v => v.category).sum ≤ W9) (hdg : decode c.code g.pc = .ok (.invokevirtual index, 3))
    (hpre : ∀ vm₁, s.WarmedH vm₁ → Pre ⟨T.setVm vm₁, locs, cells, slots⟩ (Value.ref b :: argsL).toArray) :
    (∃ (v : Option Value) (vm₁ : Vm) (B : Pt), s.WarmedH vm₁ ∧ Stand p l e R s m args below meth c B.U B.locs B.cells B.slots ∧ Post ⟨T.setVm vm₁, locs, cells, slots⟩ (Value.ref b :: argsL).toArray v B ∧
      ∀ target, Steps p.tables e below (B.U.setTop { g with pc := g.pc + 3, stack := v.toList ++ rest }) target → Steps p.tables e below (T.setTop g) target) ∨
    (∃ (q : Addr) (vm₁ : Vm) (B : Pt), s.WarmedH vm₁ ∧ Stand p l e R s m args below meth c B.U B.locs B.cells B.slots ∧ PostX ⟨T.setVm vm₁, locs, cells, slots⟩ (Value.ref b :: argsL).toArray q B ∧
      Steps p.tables e below (T.setTop g) ((B.U.setTop { g with stack := rest }).pushFrame (.throwing q))) := by
  obtain ⟨mk, methM, hnamed, hmethM, hstM, habM⟩ := Cond.instanceMethod_spec hinst
  obtain ⟨methM', cM, hmethM', -, -, -, -, -, -, hsigM⟩ := Cond.code_spec hnamed hcode
  cases hmethM.symm.trans hmethM'
  obtain ⟨c2, r2, m2, q1, q2, q3, q4, kP, hkP, hkPi⟩ := Cond.selects_spec hsel
  cases hcls.symm.trans q1
  cases (State.methodFound?_of_named hnamed hy).symm.trans q2
  cases hnamed.symm.trans q3
  have hselP : selectMethod e.platform s.vm cellB.cls mk = .method mk := by rw [Launch.admits_selectMethod X.admits]; exact q4
  obtain ⟨vm₁, X₁, hstep₁⟩ := X.invokevirtual hexec hown hlink hnamed hmethM hstM hkP hkPi hy (a := b) (cell := cellB) hcell
    (fun z h => by rw [h] at hobj; cases hobj) hselP hmethM habM hkP hkPi (g := g) hg (argsL := argsL) (rest := rest) (hlen _ hsigM) hstack hdg
  rcases hK m meth c ⟨T.setVm vm₁, locs, cells, slots⟩ { g with stack := rest } (.invokevirtual index) mk (Value.ref b :: argsL).toArray X₁ hg hsize hdg hW (X₁.named hnamed) (hpre vm₁ X₁.warmed) with ⟨v, B, X', hpost, hsteps⟩ | ⟨q, B, X', hpost, hsteps⟩
  · exact Or.inl ⟨v, vm₁, B, X₁.warmed, X', hpost, fun target h => hstep₁ _ fun acts => by rw [doInvoke_state]; exact hsteps.trans h⟩
  · exact Or.inr ⟨q, vm₁, B, X₁.warmed, X', hpost, hstep₁ _ fun acts => by rw [doInvoke_state]; exact hsteps⟩
theorem vx_callS (X : Stand p l e R s m args below meth c T locs cells slots) (hexec : p.tables.exec = Jvm.exec) {own : String} {index : Nat} {y : MethodName} {bytes : ByteArray} {maxL : Nat} {ret : Option FieldType}
    (hown : s.vm.findClass own = some m.cls) (hlink : (Cond.methodLink own index y).before args s = true) (hstat : (Cond.static y).before args s = true) (hinit : (Cond.initialized y.cls).before args s = true)
    (hcode : (Cond.code y bytes maxL ret).before args s = true) (hy : y.cls ≠ "java/lang/invoke/MethodHandle" ∧ y.cls ≠ "java/lang/invoke/VarHandle")
    {W9 : Nat} {Pre : Pt → Array Value → Prop} {Post : Pt → Array Value → Option Value → Pt → Prop} {PostX : Pt → Array Value → Addr → Pt → Prop} (hK : vx_Back l R p e below s args y 3 W9 Pre Post PostX)
    {g : JFrame} (hg : g.method = m) (hsize : g.locals.size = c.maxLocals) {argsL rest : List Value} (hlen : ∀ sig, parseMethodDescriptor y.desc = some sig → argsL.length = sig.parameters.length)
    (hstack : g.stack = argsL.reverse ++ rest) (hW : 2 * g.monitorRoom + (rest.map fun v => v.category).sum ≤ W9) (hdg : decode c.code g.pc = .ok (.invokestatic index, 3))
    (hpre : ∀ vm₁, s.WarmedH vm₁ → Pre ⟨T.setVm vm₁, locs, cells, slots⟩ argsL.toArray) :
    (∃ (v : Option Value) (vm₁ : Vm) (B : Pt), s.WarmedH vm₁ ∧ Stand p l e R s m args below meth c B.U B.locs B.cells B.slots ∧ Post ⟨T.setVm vm₁, locs, cells, slots⟩ argsL.toArray v B ∧
      ∀ target, Steps p.tables e below (B.U.setTop { g with pc := g.pc + 3, stack := v.toList ++ rest }) target → Steps p.tables e below (T.setTop g) target) ∨
    (∃ (q : Addr) (vm₁ : Vm) (B : Pt), s.WarmedH vm₁ ∧ Stand p l e R s m args below meth c B.U B.locs B.cells B.slots ∧ PostX ⟨T.setVm vm₁, locs, cells, slots⟩ argsL.toArray q B ∧
      Steps p.tables e below (T.setTop g) ((B.U.setTop { g with stack := rest }).pushFrame (.throwing q))) := by
  obtain ⟨mk, hnamed⟩ := Cond.code_named hcode
  obtain ⟨methM, cM, hmethM, -, -, -, -, -, -, hsigM⟩ := Cond.code_spec hnamed hcode
  have hstatic : methM.isStatic = true := Cond.static_spec hnamed hmethM hstat
  obtain ⟨kP, hkP, -⟩ := className_of_methodNamed hnamed
  have hinitP : kP.init = .initialized := Cond.initialized_spec (findClass_of_methodNamed hnamed) hkP hinit
  obtain ⟨vm₁, X₁, hstep₁⟩ := X.invokestatic hexec hown hlink hnamed hmethM hstatic hkP hinitP hy (g := g) hg (argsL := argsL) (rest := rest) (hlen _ hsigM) hstack hdg
  rcases hK m meth c ⟨T.setVm vm₁, locs, cells, slots⟩ { g with stack := rest } (.invokestatic index) mk argsL.toArray X₁ hg hsize hdg hW (X₁.named hnamed) (hpre vm₁ X₁.warmed) with ⟨v, B, X', hpost, hsteps⟩ | ⟨q, B, X', hpost, hsteps⟩
  · exact Or.inl ⟨v, vm₁, B, X₁.warmed, X', hpost, fun target h => hstep₁ _ fun acts => by rw [doInvoke_state]; exact hsteps.trans h⟩
  · exact Or.inr ⟨q, vm₁, B, X₁.warmed, X', hpost, hstep₁ _ fun acts => by rw [doInvoke_state]; exact hsteps⟩
end Calls
theorem vx_cls {s : State} {T : State} {vm₁ : Vm} {E : String} {k : ClassId} (hW : s.WarmedH vm₁) (h : (T.setVm vm₁).vm.findClass E = some k) : s.vm.findClass E = some k := by
  have h1 : vm₁.findClass E = some k := h
  rw [hW.alike.findClass] at h1
  exact h1
/-- the method's frame g, with q thrown over it -/
def vx_W (p : Program) (l : Launch) (e : Env) (R : Room) (s : State) (m : MethodId) (args : Array Value) (below : List Frame) (meth : Method) (c : Code) (H : Heap) (locs : List Loc) (cells slots : Nat) (Q : State → Prop) (g : JFrame) (q : Addr) : Prop :=
  ∀ T : State, T.heap = H → Stand p l e R s m args below meth c T locs cells slots → ∃ t, Steps p.tables e below ((T.setTop g).pushFrame (.throwing q)) t ∧ Q t
def vx_Run (p : Program) (l : Launch) (e : Env) (R : Room) (s : State) (m : MethodId) (args : Array Value) (below : List Frame) (meth : Method) (c : Code) (H : Heap) (locs : List Loc) (cells slots mc ms : Nat) (g : JFrame) (rest : List Value) (Qa : State → Outcome → State → Prop) (XC : String → State → State → Prop) (free : Addr → Prop) : Prop :=
  ∀ T : State, T.heap = H → Stand p l e R s m args below meth c T locs cells slots →
    (∃ (v : Option Value) (st₀ t T' : State) (L : List Loc), st₀.heap = H ∧ Stand p l e R s m args below meth c T' (locs ++ L) (cells + mc) (slots + ms) ∧ (∀ q ∈ L, free q.base) ∧ T'.heap = t.heap ∧ T'.vm = t.vm ∧ Qa st₀ (.returned v) t ∧
      Goes p e below T g T' { g with pc := g.pc + 3, stack := v.toList ++ rest }) ∨
    (∃ (q : Addr) (st₀ t T' : State) (L : List Loc) (E : String) (ce : Cell), st₀.heap = H ∧ Stand p l e R s m args below meth c T' (locs ++ L) (cells + mc) (slots + ms) ∧ (∀ z ∈ L, free z.base) ∧ T'.heap = t.heap ∧ T'.vm = t.vm ∧ XC E st₀ t ∧ t.heap[q]? = some ce ∧ ce.vm = .none ∧ s.vm.findClass E = some ce.cls ∧
      Steps p.tables e below (T.setTop g) ((T'.setTop { g with stack := rest }).pushFrame (.throwing q)))
def vx_X {S : Type} (px : S → Prop) (B : String → S → State → Prop) (A : Nat → Prop) : String → State → State → Prop := fun E st t => ∃ u : S, px u ∧ B E u t ∧ va_F A st t
section Runs
variable {p : Program} {l : Launch} {e : Env} {R : Room} {s : State} {m : MethodId} {args : Array Value} {below : List Frame} {meth : Method} {c : Code} {H : Heap} {locs : List Loc} {cells slots : Nat}
variable {y : MethodName} {bytes cc : ByteArray} {maxL nL mc ms n index : Nat} {ret : Option FieldType} {ws : List Cond} {rm : Room} {Pc : Array Value → State → Prop} {Qc : Array Value → State → Outcome → State → Prop} {XC : String → State → State → Prop} {free : Addr → Prop} {Ts : List Cond} {own C : String} {b : Addr} {As rest : List Value} {g : JFrame}
theorem vx_callBack (cb : CallB R s args own index y bytes maxL ret ws rm mc ms n) (hM : vx_Met l y ws rm Pc Qc XC mc ms free) (hbl : FrameBlind Pc) : vx_Back l R p e below s args y 3 8 (PreOf R mc ms Pc) (PostOf Qc mc ms free) (vx_Post XC mc ms free) := by
  obtain ⟨hrc, hrs, hfr, hlo, hws, hcw, -, hini, -⟩ := cb
  exact vx_back (bytes := bytes) (maxL := maxL) (ret := ret) hM hbl hrc hrs hfr hlo hws hcw (fun a' U hW => word_at hW (Or.inl (by first | rfl | simp [Cond.onTables, Cond.keeps, Cond.steady])) hini)
theorem vx_runV (S : CallFix p m c cc nL s args Ts own) (hM : vx_Met l y ws rm Pc Qc XC mc ms free) (cw : CallW R s args own C index y bytes maxL ret ws rm mc ms n) (hp : PreV s H C b Pc As)
    (hg : g.method = m) (hn : As.length = n) (hsize : g.locals.size = nL) (hstack : g.stack = As.reverse ++ .ref b :: rest) (hW : 2 * g.monitorRoom + (rest.map fun v => v.category).sum ≤ 8) (hdg : decode cc g.pc = .ok (.invokevirtual index, 3)) (hf : cells + mc ≤ R.cells ∧ slots + ms ≤ R.slots) :
    vx_Run p l e R s m args below meth c H locs cells slots mc ms g rest (Qc (Value.ref b :: As).toArray) XC free := by
  have hK : vx_Back l R p e below s args y 3 8 (PreOf R mc ms Pc) (PostOf Qc mc ms free) (vx_Post XC mc ms free) := vx_callBack cw.1 hM hp.1
  obtain ⟨⟨-, -, -, -, -, -, hcode, -, hy, hlen, hl⟩, hin, hse⟩ := cw
  obtain ⟨hx, hb, hml, ho, -⟩ := S
  obtain ⟨-, ⟨cellB, hcB, hoB, hclB⟩, hPc⟩ := hp
  intro T hT X
  rcases vx_callV X hx (C := C) (bytes := bytes) (maxL := maxL) (ret := ret) ho hl hin hse hcode hy hK (by rw [hT]; exact hcB) hoB hclB hg (hsize.trans hml.symm) (argsL := As) (rest := rest) (fun sig h => hn.trans (hlen sig h)) hstack hW (by rw [hb]; exact hdg)
    (fun vm₁ hW₁ => ⟨hf.1, hf.2, hPc (T.setVm vm₁) hT hW₁⟩) with ⟨v, vm₁, ⟨U', l2, c2, s2⟩, hW₁, X', ⟨g', mk, t, L, e1, e2, hq, h1, hL, h2, h3⟩, st⟩ | ⟨q, vm₁, ⟨U', l2, c2, s2⟩, hW₁, X', ⟨g', mk, t, L, E, ce, e1, e2, hq, hce, hcv, hcl, h1, hL, h2, h3⟩, st⟩
  · dsimp only [Pt.U, Pt.locs, Pt.cells, Pt.slots] at X' e1 e2 h1 h2 h3 st
    subst h1; subst h2; subst h3
    exact Or.inl ⟨v, (T.setVm vm₁).calling g' mk (Value.ref b :: As).toArray, t, U', L, hT, X', hL, e1, e2, hq, st⟩
  · dsimp only [Pt.U, Pt.locs, Pt.cells, Pt.slots] at X' e1 e2 h1 h2 h3 st hcl
    subst h1; subst h2; subst h3
    exact Or.inr ⟨q, (T.setVm vm₁).calling g' mk (Value.ref b :: As).toArray, t, U', L, E, ce, hT, X', hL, e1, e2, hq, hce, hcv, vx_cls hW₁ hcl, st⟩
theorem vx_runS (S : CallFix p m c cc nL s args Ts own) (hM : vx_Met l y ws rm Pc Qc XC mc ms free) (cw : CallB R s args own index y bytes maxL ret ws rm mc ms n ∧ (Cond.static y).before args s = true) (hp : PreS s H Pc As)
    (hg : g.method = m) (hn : As.length = n) (hsize : g.locals.size = nL) (hstack : g.stack = As.reverse ++ rest) (hW : 2 * g.monitorRoom + (rest.map fun v => v.category).sum ≤ 8) (hdg : decode cc g.pc = .ok (.invokestatic index, 3)) (hf : cells + mc ≤ R.cells ∧ slots + ms ≤ R.slots) :
    vx_Run p l e R s m args below meth c H locs cells slots mc ms g rest (Qc As.toArray) XC free := by
  have hK : vx_Back l R p e below s args y 3 8 (PreOf R mc ms Pc) (PostOf Qc mc ms free) (vx_Post XC mc ms free) := vx_callBack cw.1 hM hp.1
  obtain ⟨⟨-, -, -, -, -, -, hcode, hini, hy, hlen, hl⟩, hstt⟩ := cw
  obtain ⟨hx, hb, hml, ho, -⟩ := S
  intro T hT X
  rcases vx_callS X hx (bytes := bytes) (maxL := maxL) (ret := ret) ho hl hstt hini hcode hy hK hg (hsize.trans hml.symm) (argsL := As) (rest := rest) (fun sig h => hn.trans (hlen sig h)) hstack hW (by rw [hb]; exact hdg)
    (fun vm₁ hW₁ => ⟨hf.1, hf.2, hp.2 (T.setVm vm₁) hT hW₁⟩) with ⟨v, vm₁, ⟨U', l2, c2, s2⟩, hW₁, X', ⟨g', mk, t, L, e1, e2, hq, h1, hL, h2, h3⟩, st⟩ | ⟨q, vm₁, ⟨U', l2, c2, s2⟩, hW₁, X', ⟨g', mk, t, L, E, ce, e1, e2, hq, hce, hcv, hcl, h1, hL, h2, h3⟩, st⟩
  · dsimp only [Pt.U, Pt.locs, Pt.cells, Pt.slots] at X' e1 e2 h1 h2 h3 st
    subst h1; subst h2; subst h3
    exact Or.inl ⟨v, (T.setVm vm₁).calling g' mk As.toArray, t, U', L, hT, X', hL, e1, e2, hq, st⟩
  · dsimp only [Pt.U, Pt.locs, Pt.cells, Pt.slots] at X' e1 e2 h1 h2 h3 st hcl
    subst h1; subst h2; subst h3
    exact Or.inr ⟨q, (T.setVm vm₁).calling g' mk As.toArray, t, U', L, E, ce, hT, X', hL, e1, e2, hq, hce, hcv, vx_cls hW₁ hcl, st⟩
end Runs
section Rows
variable {p : Program} {l : Launch} {e : Env} {R : Room} {s : State} {m : MethodId} {args : Array Value} {below : List Frame} {meth : Method} {c : Code} {H : Heap} {locs : List Loc} {cells slots : Nat} {Q : State → Prop}
variable {mc ms : Nat} {free : Addr → Prop} {A0 A1 : Nat → Prop} {H0 : Heap} {a : Array Value} {pc : Nat} {ls : Array Slot} {st0 rest : List Value}
theorem vx_keep {st₀ t T' : State} {L : List Loc} (h0 : st₀.heap = H) (e1 : T'.heap = t.heap) (hS : va_S A0 H0 H locs) (hA : ∀ q, q < H.size → A1 q → A0 q) (hf : ∀ q, free q → A0 q) (hL : ∀ q ∈ L, free q.base) (hF : va_F A1 st₀ t) :
    H.size ≤ T'.heap.size ∧ (∀ q : Nat, q < H.size → ¬ A1 q → T'.heap[q]? = H[q]?) ∧ va_S A0 H0 T'.heap (locs ++ L) := by
  obtain ⟨hz, hk⟩ := hF
  rw [h0] at hz hk
  exact ⟨by rw [e1]; exact hz, fun q h1 h2 => by rw [e1]; exact hk q h1 h2,
    ⟨Nat.le_trans hS.1 (by rw [e1]; exact hz), fun q h1 h2 => by rw [e1, hk q (Nat.lt_of_lt_of_le h1 hS.1) (fun z => h2 (hA q (Nat.lt_of_lt_of_le h1 hS.1) z))]; exact hS.2.1 q h1 h2, fun q hq => by
      rcases List.mem_append.mp hq with h | h
      · exact hS.2.2 q h
      · exact hf _ (hL q h)⟩⟩
theorem vx_calli {S SX : Type} {post : Int32 → S → Prop} {px : SX → Prop} {B : S → State → Prop} {BX : String → SX → State → Prop} {AX : Nat → Prop} (hr : vx_Run p l e R s m args below meth c H locs cells slots mc ms (F0 m pc ls st0) rest (va_Qi post B A1 a) (vx_X px BX AX) free) (hS : va_S A0 H0 H locs) (hA : ∀ q, q < H.size → A1 q → A0 q) (hf : ∀ q, free q → A0 q) (hAX : ∀ q, q < H.size → AX q → A0 q)
    (kx : ∀ (E : String) (ce : Cell) (q9 : Addr) (u : SX) (t : State) (H1 : Heap) (locs1 : List Loc), t.heap = H1 → s.vm.Alike t.vm → px u → BX E u t → H.size ≤ H1.size → (∀ q : Nat, q < H.size → ¬ AX q → H1[q]? = H[q]?) → va_S A0 H0 H1 locs1 → H1[q9]? = some ce → ce.vm = .none → s.vm.findClass E = some ce.cls → vx_W p l e R s m args below meth c H1 locs1 (cells + mc) (slots + ms) Q (F0 m pc ls rest) q9)
    (kk : ∀ (r : Int32) (u : S) (t : State) (H1 : Heap) (locs1 : List Loc), t.heap = H1 → s.vm.Alike t.vm → post r u → B u t → H.size ≤ H1.size → (∀ q : Nat, q < H.size → ¬ A1 q → H1[q]? = H[q]?) → va_S A0 H0 H1 locs1 → W p l e R s m args below meth c H1 locs1 (cells + mc) (slots + ms) Q (F0 m (pc + 3) ls (.int r :: rest))) : W p l e R s m args below meth c H locs cells slots Q (F0 m pc ls st0) := by
  intro T hT X
  rcases hr T hT X with ⟨v, st₀, t, T', L, h0, X', hL, e1, e2, ⟨⟨r, u, hv, hp, hb⟩, hF⟩, st⟩ | ⟨q, st₀, t, T', L, E, ce, h0, X', hL, e1, e2, ⟨u, hp, hb, hF⟩, hce, hcv, hcl, st⟩
  · cases hv
    obtain ⟨k1, k2, k3⟩ := vx_keep h0 e1 hS hA hf hL hF
    obtain ⟨t2, a1, b1⟩ := kk r u t T'.heap (locs ++ L) e1.symm (by rw [← e2]; exact X'.warmed.alike) hp hb k1 k2 k3 T' rfl X'
    exact ⟨t2, st t2 a1, b1⟩
  · obtain ⟨k1, k2, k3⟩ := vx_keep h0 e1 hS hAX hf hL hF
    obtain ⟨t2, a1, b1⟩ := kx E ce q u t T'.heap (locs ++ L) e1.symm (by rw [← e2]; exact X'.warmed.alike) hp hb k1 k2 k3 (by rw [e1]; exact hce) hcv hcl T' rfl X'
    exact ⟨t2, st.trans a1, b1⟩
theorem vx_calll {S SX : Type} {post : Int64 → S → Prop} {px : SX → Prop} {B : S → State → Prop} {BX : String → SX → State → Prop} {AX : Nat → Prop} (hr : vx_Run p l e R s m args below meth c H locs cells slots mc ms (F0 m pc ls st0) rest (va_Ql post B A1 a) (vx_X px BX AX) free) (hS : va_S A0 H0 H locs) (hA : ∀ q, q < H.size → A1 q → A0 q) (hf : ∀ q, free q → A0 q) (hAX : ∀ q, q < H.size → AX q → A0 q)
    (kx : ∀ (E : String) (ce : Cell) (q9 : Addr) (u : SX) (t : State) (H1 : Heap) (locs1 : List Loc), t.heap = H1 → s.vm.Alike t.vm → px u → BX E u t → H.size ≤ H1.size → (∀ q : Nat, q < H.size → ¬ AX q → H1[q]? = H[q]?) → va_S A0 H0 H1 locs1 → H1[q9]? = some ce → ce.vm = .none → s.vm.findClass E = some ce.cls → vx_W p l e R s m args below meth c H1 locs1 (cells + mc) (slots + ms) Q (F0 m pc ls rest) q9)
    (kk : ∀ (r : Int64) (u : S) (t : State) (H1 : Heap) (locs1 : List Loc), t.heap = H1 → s.vm.Alike t.vm → post r u → B u t → H.size ≤ H1.size → (∀ q : Nat, q < H.size → ¬ A1 q → H1[q]? = H[q]?) → va_S A0 H0 H1 locs1 → W p l e R s m args below meth c H1 locs1 (cells + mc) (slots + ms) Q (F0 m (pc + 3) ls (.long r :: rest))) : W p l e R s m args below meth c H locs cells slots Q (F0 m pc ls st0) := by
  intro T hT X
  rcases hr T hT X with ⟨v, st₀, t, T', L, h0, X', hL, e1, e2, ⟨⟨r, u, hv, hp, hb⟩, hF⟩, st⟩ | ⟨q, st₀, t, T', L, E, ce, h0, X', hL, e1, e2, ⟨u, hp, hb, hF⟩, hce, hcv, hcl, st⟩
  · cases hv
    obtain ⟨k1, k2, k3⟩ := vx_keep h0 e1 hS hA hf hL hF
    obtain ⟨t2, a1, b1⟩ := kk r u t T'.heap (locs ++ L) e1.symm (by rw [← e2]; exact X'.warmed.alike) hp hb k1 k2 k3 T' rfl X'
    exact ⟨t2, st t2 a1, b1⟩
  · obtain ⟨k1, k2, k3⟩ := vx_keep h0 e1 hS hAX hf hL hF
    obtain ⟨t2, a1, b1⟩ := kx E ce q u t T'.heap (locs ++ L) e1.symm (by rw [← e2]; exact X'.warmed.alike) hp hb k1 k2 k3 (by rw [e1]; exact hce) hcv hcl T' rfl X'
    exact ⟨t2, st.trans a1, b1⟩
theorem vx_callf {S SX : Type} {post : UInt32 → S → Prop} {px : SX → Prop} {B : S → State → Prop} {BX : String → SX → State → Prop} {AX : Nat → Prop} (hr : vx_Run p l e R s m args below meth c H locs cells slots mc ms (F0 m pc ls st0) rest (va_Qf post B A1 a) (vx_X px BX AX) free) (hS : va_S A0 H0 H locs) (hA : ∀ q, q < H.size → A1 q → A0 q) (hf : ∀ q, free q → A0 q) (hAX : ∀ q, q < H.size → AX q → A0 q)
    (kx : ∀ (E : String) (ce : Cell) (q9 : Addr) (u : SX) (t : State) (H1 : Heap) (locs1 : List Loc), t.heap = H1 → s.vm.Alike t.vm → px u → BX E u t → H.size ≤ H1.size → (∀ q : Nat, q < H.size → ¬ AX q → H1[q]? = H[q]?) → va_S A0 H0 H1 locs1 → H1[q9]? = some ce → ce.vm = .none → s.vm.findClass E = some ce.cls → vx_W p l e R s m args below meth c H1 locs1 (cells + mc) (slots + ms) Q (F0 m pc ls rest) q9)
    (kk : ∀ (r : UInt32) (u : S) (t : State) (H1 : Heap) (locs1 : List Loc), t.heap = H1 → s.vm.Alike t.vm → post r u → B u t → H.size ≤ H1.size → (∀ q : Nat, q < H.size → ¬ A1 q → H1[q]? = H[q]?) → va_S A0 H0 H1 locs1 → W p l e R s m args below meth c H1 locs1 (cells + mc) (slots + ms) Q (F0 m (pc + 3) ls (.float r :: rest))) : W p l e R s m args below meth c H locs cells slots Q (F0 m pc ls st0) := by
  intro T hT X
  rcases hr T hT X with ⟨v, st₀, t, T', L, h0, X', hL, e1, e2, ⟨⟨r, u, hv, hp, hb⟩, hF⟩, st⟩ | ⟨q, st₀, t, T', L, E, ce, h0, X', hL, e1, e2, ⟨u, hp, hb, hF⟩, hce, hcv, hcl, st⟩
  · cases hv
    obtain ⟨k1, k2, k3⟩ := vx_keep h0 e1 hS hA hf hL hF
    obtain ⟨t2, a1, b1⟩ := kk r u t T'.heap (locs ++ L) e1.symm (by rw [← e2]; exact X'.warmed.alike) hp hb k1 k2 k3 T' rfl X'
    exact ⟨t2, st t2 a1, b1⟩
  · obtain ⟨k1, k2, k3⟩ := vx_keep h0 e1 hS hAX hf hL hF
    obtain ⟨t2, a1, b1⟩ := kx E ce q u t T'.heap (locs ++ L) e1.symm (by rw [← e2]; exact X'.warmed.alike) hp hb k1 k2 k3 (by rw [e1]; exact hce) hcv hcl T' rfl X'
    exact ⟨t2, st.trans a1, b1⟩
theorem vx_calld {S SX : Type} {post : UInt64 → S → Prop} {px : SX → Prop} {B : S → State → Prop} {BX : String → SX → State → Prop} {AX : Nat → Prop} (hr : vx_Run p l e R s m args below meth c H locs cells slots mc ms (F0 m pc ls st0) rest (va_Qd post B A1 a) (vx_X px BX AX) free) (hS : va_S A0 H0 H locs) (hA : ∀ q, q < H.size → A1 q → A0 q) (hf : ∀ q, free q → A0 q) (hAX : ∀ q, q < H.size → AX q → A0 q)
    (kx : ∀ (E : String) (ce : Cell) (q9 : Addr) (u : SX) (t : State) (H1 : Heap) (locs1 : List Loc), t.heap = H1 → s.vm.Alike t.vm → px u → BX E u t → H.size ≤ H1.size → (∀ q : Nat, q < H.size → ¬ AX q → H1[q]? = H[q]?) → va_S A0 H0 H1 locs1 → H1[q9]? = some ce → ce.vm = .none → s.vm.findClass E = some ce.cls → vx_W p l e R s m args below meth c H1 locs1 (cells + mc) (slots + ms) Q (F0 m pc ls rest) q9)
    (kk : ∀ (r : UInt64) (u : S) (t : State) (H1 : Heap) (locs1 : List Loc), t.heap = H1 → s.vm.Alike t.vm → post r u → B u t → H.size ≤ H1.size → (∀ q : Nat, q < H.size → ¬ A1 q → H1[q]? = H[q]?) → va_S A0 H0 H1 locs1 → W p l e R s m args below meth c H1 locs1 (cells + mc) (slots + ms) Q (F0 m (pc + 3) ls (.double r :: rest))) : W p l e R s m args below meth c H locs cells slots Q (F0 m pc ls st0) := by
  intro T hT X
  rcases hr T hT X with ⟨v, st₀, t, T', L, h0, X', hL, e1, e2, ⟨⟨r, u, hv, hp, hb⟩, hF⟩, st⟩ | ⟨q, st₀, t, T', L, E, ce, h0, X', hL, e1, e2, ⟨u, hp, hb, hF⟩, hce, hcv, hcl, st⟩
  · cases hv
    obtain ⟨k1, k2, k3⟩ := vx_keep h0 e1 hS hA hf hL hF
    obtain ⟨t2, a1, b1⟩ := kk r u t T'.heap (locs ++ L) e1.symm (by rw [← e2]; exact X'.warmed.alike) hp hb k1 k2 k3 T' rfl X'
    exact ⟨t2, st t2 a1, b1⟩
  · obtain ⟨k1, k2, k3⟩ := vx_keep h0 e1 hS hAX hf hL hF
    obtain ⟨t2, a1, b1⟩ := kx E ce q u t T'.heap (locs ++ L) e1.symm (by rw [← e2]; exact X'.warmed.alike) hp hb k1 k2 k3 (by rw [e1]; exact hce) hcv hcl T' rfl X'
    exact ⟨t2, st.trans a1, b1⟩
theorem vx_callv {S SX : Type} {post : S → Prop} {px : SX → Prop} {B : S → State → Prop} {BX : String → SX → State → Prop} {AX : Nat → Prop} (hr : vx_Run p l e R s m args below meth c H locs cells slots mc ms (F0 m pc ls st0) rest (va_Qv post B A1 a) (vx_X px BX AX) free) (hS : va_S A0 H0 H locs) (hA : ∀ q, q < H.size → A1 q → A0 q) (hf : ∀ q, free q → A0 q) (hAX : ∀ q, q < H.size → AX q → A0 q)
    (kx : ∀ (E : String) (ce : Cell) (q9 : Addr) (u : SX) (t : State) (H1 : Heap) (locs1 : List Loc), t.heap = H1 → s.vm.Alike t.vm → px u → BX E u t → H.size ≤ H1.size → (∀ q : Nat, q < H.size → ¬ AX q → H1[q]? = H[q]?) → va_S A0 H0 H1 locs1 → H1[q9]? = some ce → ce.vm = .none → s.vm.findClass E = some ce.cls → vx_W p l e R s m args below meth c H1 locs1 (cells + mc) (slots + ms) Q (F0 m pc ls rest) q9)
    (kk : ∀ (u : S) (t : State) (H1 : Heap) (locs1 : List Loc), t.heap = H1 → s.vm.Alike t.vm → post u → B u t → H.size ≤ H1.size → (∀ q : Nat, q < H.size → ¬ A1 q → H1[q]? = H[q]?) → va_S A0 H0 H1 locs1 → W p l e R s m args below meth c H1 locs1 (cells + mc) (slots + ms) Q (F0 m (pc + 3) ls (rest))) : W p l e R s m args below meth c H locs cells slots Q (F0 m pc ls st0) := by
  intro T hT X
  rcases hr T hT X with ⟨v, st₀, t, T', L, h0, X', hL, e1, e2, ⟨⟨u, hv, hp, hb⟩, hF⟩, st⟩ | ⟨q, st₀, t, T', L, E, ce, h0, X', hL, e1, e2, ⟨u, hp, hb, hF⟩, hce, hcv, hcl, st⟩
  · cases hv
    obtain ⟨k1, k2, k3⟩ := vx_keep h0 e1 hS hA hf hL hF
    obtain ⟨t2, a1, b1⟩ := kk u t T'.heap (locs ++ L) e1.symm (by rw [← e2]; exact X'.warmed.alike) hp hb k1 k2 k3 T' rfl X'
    exact ⟨t2, st t2 a1, b1⟩
  · obtain ⟨k1, k2, k3⟩ := vx_keep h0 e1 hS hAX hf hL hF
    obtain ⟨t2, a1, b1⟩ := kx E ce q u t T'.heap (locs ++ L) e1.symm (by rw [← e2]; exact X'.warmed.alike) hp hb k1 k2 k3 (by rw [e1]; exact hce) hcv hcl T' rfl X'
    exact ⟨t2, st.trans a1, b1⟩
end Rows
section Ends
variable {p : Program} {l : Launch} {e : Env} {R : Room} {s : State} {m : MethodId} {args : Array Value} {below : List Frame} {meth : Method} {c : Code} {H : Heap} {locs : List Loc} {cells slots : Nat} {Q : State → Prop}
variable {mc ms : Nat} {free : Addr → Prop} {A0 A1 : Nat → Prop} {H0 : Heap} {a : Array Value} {ls : Array Slot} {st0 rest : List Value}
variable {Qc : Array Value → State → Outcome → State → Prop} {XC : String → State → State → Prop}
/-- what a body that may throw owes at its end -/
def vx_MQ (below : List Frame) (Qc : Array Value → State → Outcome → State → Prop) (XC : String → State → State → Prop) (a : Array Value) (s : State) (mc ms : Nat) (free : Addr → Prop) : State → Prop := fun t =>
  ∃ o, t.status = .running ∧ Ended t below o ∧ vx_Q Qc XC mc ms free a s o t
theorem vx_ret {g : JFrame} {mc ms : Nat} (k : W p l e R s m args below meth c H locs cells slots (MQ below Qc args s mc ms free) g) : W p l e R s m args below meth c H locs cells slots (vx_MQ below Qc XC args s mc ms free) g := by
  intro T hT X
  obtain ⟨t, a1, o, b1, b2, b3, b4⟩ := k T hT X
  exact ⟨t, a1, o, b1, b2, Or.inl ⟨b3, b4⟩⟩
/-- not caught here: it goes on to the caller -/
theorem vx_widen {g : JFrame} {q : Addr} {k n : Nat} (h1 : cells ≤ k) (h2 : slots ≤ n) (kk : vx_W p l e R s m args below meth c H locs k n Q g q) : vx_W p l e R s m args below meth c H locs cells slots Q g q := fun T hT X => kk T hT (stand_widen X h1 h2)
theorem vx_out {pc : Nat} {E : String} {ce : Cell} {q : Addr} {mc ms : Nat} (hout : ∀ x ∈ c.exceptionTable.toList, covers x pc = false) (hlocks : meth.locks = false) (hcell : H[q]? = some ce) (hv : ce.vm = .none) (hcl : s.vm.findClass E = some ce.cls)
    (hx : ∀ t : State, t.heap = H → s.vm.Alike t.vm → XC E s t) (hf : ∀ z ∈ locs, free z.base) (hc : cells ≤ mc) (hs : slots ≤ ms) :
    vx_W p l e R s m args below meth c H locs cells slots (vx_MQ below Qc XC args s mc ms free) (F0 m pc ls rest) q := by
  intro T hT X
  obtain ⟨st1, hrun, hend, hW, hsm⟩ := X.leaveThrown q (g := F0 m pc ls rest) rfl rfl rfl hout hlocks
  have hcell9 : (T.setFrames (.throwing q :: below)).heap[q]? = some ce := by
    show T.heap[q]? = some ce
    rw [hT]; exact hcell
  exact ⟨_, st1, .threw q, hrun, hend, Or.inr ⟨q, rfl, E, ce, locs, hx _ hT hW.alike, hcell9, hv, hcl, hW, hsm.mono hc hs, hf⟩⟩
theorem vx_frame {U : State} {k n : Nat} (h : s.sameButNew ({ U with vm := s.vm } : State) locs k n) : s.heap.size ≤ U.heap.size ∧ ∀ q : Nat, q < s.heap.size → (∀ z ∈ locs, z.base ≠ q) → U.heap[q]? = s.heap[q]? := by
  obtain ⟨-, h2, -, -, -, h6⟩ := h
  refine ⟨h2, fun q hq hz => ?_⟩
  obtain ⟨c9, e1, e2, e3, e4⟩ := h6 q _ (Array.getElem?_eq_getElem hq)
  have hs : c9.slots = (s.heap[q]).slots := Array.ext_getElem? fun i => e4 i fun hm => hz _ hm rfl
  have h9 : c9 = s.heap[q] := by
    rw [hs] at e2
    exact e2
  have e5 : U.heap[q]? = some c9 := e1
  rw [e5, h9, Array.getElem?_eq_getElem hq]
/-- the words of a throw but the four that speak of the heap -/
def vx_no (w : Cond) : Bool := decide (w ≠ .isRef (.static Bundle.tN "UNASSIGNED_STACK" Bundle.steD)) && decide (w ≠ .isRef (.static Bundle.tN "SUPPRESSED_SENTINEL" Bundle.listD)) && decide (w ≠ .laysStatic Bundle.tN "UNASSIGNED_STACK" Bundle.steD) && decide (w ≠ .laysStatic Bundle.tN "SUPPRESSED_SENTINEL" Bundle.listD)
def vx_at0 (own : String) (ic : Nat) (X : String) (names : List String) : List Cond := (Bundle.ownAtoms0 own ic X names).filter vx_no
def vx_atS (own : String) (ic : Nat) (X : String) (names : List String) : List Cond := (Bundle.ownAtoms own ic X names).filter vx_no
/-- a word that the tables alone decide, or a good one -/
def vx_ot (w : Cond) : Bool := w.onTables || goodWord w
theorem vx_ot_at {args a' : Array Value} {s U : State} {w : Cond} (hW : s.WarmedH U.vm) (hvm : s.vm = U.vm) (hg : vx_ot w = true) (h : w.before args s = true) : w.before a' U = true := by
  simp only [vx_ot, Bool.or_eq_true] at hg
  rcases hg with hg | hg
  · exact va_tabs hg hvm h
  · exact word_at hW (good_of_word hg) h
/-- a list's words: the good ones out of the method's own list, the others by premises of their own -/
theorem vx_hat {args : Array Value} {s : State} {L B : List Cond} (h1 : ∀ w ∈ L.filter goodWord, w.before args s = true) (h2 : ∀ w ∈ L.filter (fun w => !goodWord w), w ∈ B) (h3 : ∀ w ∈ B, w.before args s = true) : ∀ w ∈ L, w.before args s = true := by
  intro w hw
  by_cases g : goodWord w = true
  · exact h1 w (List.mem_filter.mpr ⟨hw, g⟩)
  · refine h3 w (h2 w (List.mem_filter.mpr ⟨hw, ?_⟩))
    show (!goodWord w) = true
    cases hgw : goodWord w
    · rfl
    · exact absurd hgw g
theorem vx_c {args : Array Value} {s : State} {w : Cond} {B : List Cond} (h : w.before args s = true) (t : ∀ w ∈ B, w.before args s = true) : ∀ w' ∈ w :: B, w'.before args s = true := fun w' h' => (List.mem_cons.mp h').elim (fun e => by rw [e]; exact h) (t w')
theorem vx_n {args : Array Value} {s : State} : ∀ w ∈ ([] : List Cond), w.before args s = true := fun _ h => nomatch h
theorem vx_own {args : Array Value} {s : State} {L : List Cond} (h1 : ∀ w ∈ L.filter vx_no, w.before args s = true)
    (hU : (Cond.isRef (.static Bundle.tN "UNASSIGNED_STACK" Bundle.steD)).before args s = true) (hN : (Cond.isRef (.static Bundle.tN "SUPPRESSED_SENTINEL" Bundle.listD)).before args s = true)
    (lU : (Cond.laysStatic Bundle.tN "UNASSIGNED_STACK" Bundle.steD).before args s = true) (lN : (Cond.laysStatic Bundle.tN "SUPPRESSED_SENTINEL" Bundle.listD).before args s = true) : ∀ w ∈ L, w.before args s = true := by
  intro w hw
  by_cases e1 : w = .isRef (.static Bundle.tN "UNASSIGNED_STACK" Bundle.steD)
  · rw [e1]; exact hU
  · by_cases e2 : w = .isRef (.static Bundle.tN "SUPPRESSED_SENTINEL" Bundle.listD)
    · rw [e2]; exact hN
    · by_cases e3 : w = .laysStatic Bundle.tN "UNASSIGNED_STACK" Bundle.steD
      · rw [e3]; exact lU
      · by_cases e4 : w = .laysStatic Bundle.tN "SUPPRESSED_SENTINEL" Bundle.listD
        · rw [e4]; exact lN
        · exact h1 w (List.mem_filter.mpr ⟨hw, by unfold vx_no; rw [decide_eq_true e1, decide_eq_true e2, decide_eq_true e3, decide_eq_true e4]; rfl⟩)
/-- where a static field lies, its class's statics cell in H -/
def vx_L (C n d : String) (A : Nat → Prop) (U : State) (H : Heap) : Prop := ∃ (c : ClassId) (k : Class) (i : Nat) (f : Field) (a : Nat) (cell : Cell), U.vm.findClass C = some c ∧ U.fieldFound? C n d = some (c, k, i, f) ∧ f.isStatic = true ∧ k.statics = some a ∧ H[a]? = some cell ∧ cell.vm.isStatics = true ∧ cell.cls = c ∧ f.slot < cell.slots.size ∧ k.staticTypes[f.slot]? = some f.type ∧ ¬ A a
theorem vx_L.moved {C n d : String} {A : Nat → Prop} {u U : State} {H : Heap} (hvm : u.vm.Alike U.vm) (h : vx_L C n d A u H) : vx_L C n d A U H := by
  obtain ⟨c, k, i, f, a, cell, h1, h2, h3, h4, h5, h6, h7, h8, h9, h10⟩ := h
  obtain ⟨k', hi', he⟩ := State.fieldFound?_setVm hvm h2
  exact ⟨c, k', i, f, a, cell, by rw [hvm.findClass]; exact h1, hi', h3, by rw [he]; exact h4, h5, h6, h7, h8, by rw [he]; exact h9, h10⟩
theorem vx_L.kept {C n d : String} {A : Nat → Prop} {U : State} {H H1 : Heap} (h : vx_L C n d A U H) (hq : ∀ a : Nat, a < H.size → ¬ A a → H1[a]? = H[a]?) : vx_L C n d A U H1 := by
  obtain ⟨c, k, i, f, a, cell, h1, h2, h3, h4, h5, h6, h7, h8, h9, h10⟩ := h
  exact ⟨c, k, i, f, a, cell, h1, h2, h3, h4, by rw [hq a (Array.getElem?_eq_some_iff.mp h5).1 h10]; exact h5, h6, h7, h8, h9, h10⟩
theorem vx_L.narrow {C n d : String} {A B : Nat → Prop} {U : State} {H : Heap} (h : vx_L C n d A U H) (hAB : ∀ q, B q → A q) : vx_L C n d B U H := by
  obtain ⟨c, k, i, f, a, cell, h1, h2, h3, h4, h5, h6, h7, h8, h9, h10⟩ := h
  exact ⟨c, k, i, f, a, cell, h1, h2, h3, h4, h5, h6, h7, h8, h9, fun z => h10 (hAB _ z)⟩
theorem vx_L.word {C n d : String} {A : Nat → Prop} {s : State} {args : Array Value} (h : vx_L C n d A s s.heap) : (Cond.laysStatic C n d).before args s = true := by
  obtain ⟨c, k, i, f, a, cell, h1, h2, h3, h4, h5, h6, h7, h8, h9, -⟩ := h
  show (Cond.laysStatic C n d).holds args s none s [] = true
  exact Cond.laysStatic_of h1 h2 h3 h4 h5 h6 h7 h8 h9
/-- .. and what it holds: null or some reference -/
def vx_Zq (C n d : String) (A : Nat → Prop) (U : State) (H : Heap) : Prop := va_Zq C n d A U H ∧ vx_L C n d A U H
theorem vx_Zq.moved {C n d : String} {A : Nat → Prop} {u U : State} {H : Heap} (hvm : u.vm.Alike U.vm) (h : vx_Zq C n d A u H) : vx_Zq C n d A U H := ⟨va_Zq.moved hvm h.1, vx_L.moved hvm h.2⟩
theorem vx_Zq.kept {C n d : String} {A : Nat → Prop} {U : State} {H H1 : Heap} (h : vx_Zq C n d A U H) (hq : ∀ a : Nat, a < H.size → ¬ A a → H1[a]? = H[a]?) : vx_Zq C n d A U H1 := ⟨va_Zq.kept h.1 hq, vx_L.kept h.2 hq⟩
theorem vx_Zq.narrow {C n d : String} {A B : Nat → Prop} {U : State} {H : Heap} (h : vx_Zq C n d A U H) (hAB : ∀ q, B q → A q) : vx_Zq C n d B U H := ⟨va_Zq.narrow h.1 hAB, vx_L.narrow h.2 hAB⟩
theorem vx_Zqof {args : Array Value} {s : State} {C n d : String} {A : Nat → Prop} (hl : (Cond.laysStatic C n d).before args s = true) (hini : (Cond.initialized C).before args s = true) (h : (Cond.isRef (.static C n d)).before args s = true) (hA : ∀ a : Nat, a < s.heap.size → ¬ A a) : vx_Zq C n d A s s.heap := by
  refine ⟨va_Zqof hl hini h hA, ?_⟩
  obtain ⟨c, k, i, f, a, cell, h1, h2, h3, h4, h5, h6, h7, h8, h9⟩ := Cond.laysStatic_spec hl
  exact ⟨c, k, i, f, a, cell, h1, h2, h3, h4, h5, h6, h7, h8, h9, hA a (Array.getElem?_eq_some_iff.mp h5).1⟩
theorem vx_isRef {C n d : String} {v : Value} {A : Nat → Prop} {s : State} {args : Array Value} (h : va_Z C n d v A s s.heap) (hv : v.isRef = true) : (Cond.isRef (.static C n d)).before args s = true := by
  obtain ⟨cf, kf, fi, f, a, cell, h1, h2, h3, h4, h5, h6, h7, -⟩ := h
  have he : (Term.static C n d).eval args s none [] s = some v := by
    simp [Term.eval, State.fieldNamed?, h1, h2, h4, h5, h6, h7]
  simp only [Cond.before, Cond.holds, Cond.value, he]
  cases v <;> simp_all [Value.isRef]
theorem vx_isRefq {C n d : String} {A : Nat → Prop} {s : State} {args : Array Value} (h : va_Zq C n d A s s.heap) : (Cond.isRef (.static C n d)).before args s = true := by
  rcases h with h | ⟨t, h⟩
  · exact vx_isRef h rfl
  · exact vx_isRef h rfl
/-- the same frame, seen from here: as if the method were called anew in this heap -/
theorem vx_rebase {T : State} (X : Stand p l e R s m args below meth c T locs cells slots) {R' : Room} (hf : R'.frames ≤ R.frames) (hl : R'.locals ≤ R.locals) (hc : cells + R'.cells ≤ R.cells) (hs : slots + R'.slots ≤ R.slots) :
    Stand p l e R' ((T.setVm s.vm).setFrames (.invoking m args :: below)) m args below meth c T [] 0 0 := by
  have htop : (T.setVm s.vm).topJava?.isSome := X.here.top
  have hF : ((T.setVm s.vm).setFrames (.invoking m args :: below)).frames = .invoking m args :: below := State.frames_setFrames _ (State.cur_lt_of_top htop)
  obtain ⟨g₀, hg0⟩ := Option.isSome_iff_exists.mp htop
  obtain ⟨r, hr⟩ := State.topJava?_eq_some.mp hg0
  have hl9 : e.platform.stackLimits (T.setVm s.vm).me = e.platform.stackLimits s.me := X.limits
  have hb9 : (T.setVm s.vm).me.stackBytes = s.me.stackBytes := X.bytes
  refine ⟨X.admits, X.cas, X.clock, hF, ?_, X.hears, X.method, X.code, X.here, X.tail, X.warmed, ?_, ?_, ?_⟩
  · have h := X.room
    have hU : ((T.setVm s.vm).setFrames (.invoking m args :: below)).localsInUse = s.localsInUse := by
      rw [State.localsInUse_invoking hF (meth := meth) (c := c) X.method X.code, State.localsInUse_invoking X.frames X.method X.code]
    simp only [State.hasRoom, Bool.and_eq_true, decide_eq_true_eq] at h ⊢
    obtain ⟨⟨⟨⟨h1, h2, h3, h4, h5, h6⟩, h7⟩, h8⟩, h9⟩ := h
    rw [X.frames, List.length_cons] at h2 h3
    have q1 := X.heapSize
    have q2 := X.used
    simp only [hF, hU, List.length_cons, State.stackLimits_setFrames, State.stackBytes_setFrames, hl9, hb9]
    refine ⟨⟨⟨⟨by omega, by omega, by omega, by omega, by omega, h6⟩, ?_⟩, ?_⟩, X.book⟩
    · show T.heap.size + R'.cells ≤ e.platform.maxCells
      omega
    · show T.slotsUsed + R'.slots ≤ e.platform.maxSlots
      omega
  · rw [State.stackLimits_setFrames]; rfl
  · rw [State.stackBytes_setFrames]; rfl
  · refine ⟨?_, Nat.le_refl _, Nat.le_refl _, ?_, ?_, fun a c9 h9 => ⟨c9, h9, rfl, rfl, fun _ _ => rfl⟩⟩
    · obtain ⟨t, ht, -⟩ := State.frames_cons hr
      show T.setVm s.vm = { ((T.setVm s.vm).setFrames (.invoking m args :: below)).setFrames (T.setVm s.vm).frames with heap := T.heap, slotsUsed := T.slotsUsed }
      rw [State.setFrames_setFrames, State.setFrames_self ht]
      rfl
    · show T.slotsUsed = T.slotsUsed + ((T.heap.toList.drop T.heap.size).map (·.slots.size)).sum
      rw [List.drop_eq_nil_of_le (Nat.le_of_eq Array.length_toList)]
      rfl
    · show ((T.heap.toList.drop T.heap.size).map (·.slots.size)).sum ≤ 0
      rw [List.drop_eq_nil_of_le (Nat.le_of_eq Array.length_toList)]
      exact Nat.le_refl _
/-- 'throw new E()': new; dup; invokespecial; athrow -/
theorem vx_throw0 {cc : ByteArray} {pc : Nat} (hexec : p.tables.exec = Jvm.exec) (hb : c.code = cc) (hl : l.stackTraces = false) {own cls : String} {names : List String} {ik ic mc ms : Nat} {A : Nat → Prop}
    (hown : s.vm.findClass own = some m.cls) (hcls : Bundle.fit cls = true) (hnames : ∀ n ∈ names, Bundle.fit n = true)
    (hk : (Cond.classLink own ik cls).before args s = true) (hini : (Cond.initialized cls).before args s = true) (hat : ∀ w ∈ vx_at0 own ic cls names, w.before args s = true)
    (hgood : ∀ w ∈ Cond.classLink own ik cls :: Cond.initialized cls :: vx_at0 own ic cls names, vx_ot w = true)
    (hU : vx_Zq Bundle.tN "UNASSIGNED_STACK" Bundle.steD A s s.heap) (hN : vx_Zq Bundle.tN "SUPPRESSED_SENTINEL" Bundle.listD A s s.heap) (hS : va_S A s.heap H locs) (hsize : ls.size = c.maxLocals)
    (d0 : decode cc pc = .ok (.new ik, 3)) (d3 : decode cc (pc + 3) = .ok (.dup, 1)) (d4 : decode cc (pc + 4) = .ok (.invokespecial ic, 3)) (d7 : decode cc (pc + 7) = .ok (.athrow, 1))
    (hout : ∀ x ∈ c.exceptionTable.toList, covers x (pc + 7) = false)
    (hRframes : names.length + 3 < R.frames) (hRlocals : (rest.map fun v => v.category).sum + (13 * (names.length + 1) + 42) ≤ R.locals) (hRcells : cells + 1 ≤ R.cells) (hRslots : slots + 6 ≤ R.slots) (hlocks : meth.locks = false)
    (hx : ∀ t : State, s.vm.Alike t.vm → H.size ≤ t.heap.size → (∀ q : Nat, q < H.size → t.heap[q]? = H[q]?) → XC cls s t)
    (hf : ∀ z ∈ locs, free z.base) (hc : cells + 1 ≤ mc) (hs : slots + 6 ≤ ms) :
    W p l e R s m args below meth c H locs cells slots (vx_MQ below Qc XC args s mc ms free) (F0 m pc ls rest) := by
  intro T hT X
  have htr : e.platform.stackTraces = false := (show e.platform.stackTraces = l.stackTraces by rw [X.admits.platform]).trans hl
  have Y := vx_rebase X (R' := { frames := R.frames, locals := R.locals, cells := 1, slots := 6 }) (Nat.le_refl _) (Nat.le_refl _) hRcells hRslots
  obtain ⟨s', hA⟩ : ∃ z, z = (T.setVm s.vm).setFrames (.invoking m args :: below) := ⟨_, rfl⟩
  rw [← hA] at Y
  have hvm : s'.vm = s.vm := by rw [hA]; rfl
  have hhp : s'.heap = H := by rw [hA]; exact hT
  have hW0 : s.WarmedH s'.vm := by rw [hvm]; exact State.WarmedH.refl s
  have hat' : ∀ w ∈ vx_at0 own ic cls names, w.before args s' = true := fun w hw => vx_ot_at hW0 hvm.symm (hgood w (List.mem_cons_of_mem _ (List.mem_cons_of_mem _ hw))) (hat w hw)
  have hk' : (Cond.classLink own ik cls).before args s' = true := vx_ot_at hW0 hvm.symm (hgood _ List.mem_cons_self) hk
  have hini' : (Cond.initialized cls).before args s' = true := vx_ot_at hW0 hvm.symm (hgood _ (List.mem_cons_of_mem _ List.mem_cons_self)) hini
  have hU' : vx_Zq Bundle.tN "UNASSIGNED_STACK" Bundle.steD A s' s'.heap := by rw [hhp]; exact vx_Zq.moved hW0.alike (hU.kept hS.2.1)
  have hN' : vx_Zq Bundle.tN "SUPPRESSED_SENTINEL" Bundle.listD A s' s'.heap := by rw [hhp]; exact vx_Zq.moved hW0.alike (hN.kept hS.2.1)
  have h : ∀ w ∈ Bundle.ownAtoms0 own ic cls names, w.before args s' = true := vx_own hat' (vx_isRefq hU'.1) (vx_isRefq hN'.1) hU'.2.word hN'.2.word
  have hown' : s'.vm.findClass own = some m.cls := by rw [hvm]; exact hown
  have hins : (Cond.instantiable cls 6).before args s' = true := h _ (by simp [Bundle.ownAtoms0])
  obtain ⟨vm₁, cX, kX, hfX, hkX, -, -, X₁, st1⟩ := Y.newCold hexec (own := own) (C := cls) (index := ik) (n := 6) hown' hk' hins hini'
    (g := F0 m pc ls rest) rfl (by rw [hb]; exact d0) (Nat.le_refl _) (Nat.le_refl _)
  generalize hT1 : (T.setVm vm₁).pushCell { cls := cX, slots := kX.instanceTypes.map defaultValue, vm := .none } = T1 at X₁ st1
  have hcat : (Value.ref T.heap.size).category = 1 := rfl
  have hcellA : T1.heap[T.heap.size]? = some (freshCell cX kX) := by rw [← hT1]; exact State.heap_pushCell_size _ _
  have d3' : decode c.code (pc + 3) = .ok (.dup, 1) := by rw [hb]; exact d3
  obtain ⟨U, hsteps, hrun, hend, hW, hsame, ce, hce, hO⟩ := X₁.ctorThrow0 hexec htr (own := own) (cls := cls) (names := names) (ic := ic) hown' hcls hnames h (fun x hx => nomatch hx) hfX hkX hcellA (by rw [hhp, hT]; exact Nat.le_refl _)
    (g := { method := m, pc := pc + 4, locals := ls, stack := .ref T.heap.size :: .ref T.heap.size :: rest, locked := none }) rfl hsize rfl rfl (rest := rest) rfl
    (by rw [hb]; exact d4) (by rw [hb]; exact d7) hout hRframes (by simp only [List.map_cons, List.sum_cons, hcat]; omega) hlocks
  obtain ⟨f1, f2⟩ := vx_frame hsame
  rw [hhp] at f1 f2
  have hWs : s.WarmedH U.vm := State.WarmedH.trans hW0 hW
  have hcl : s.vm.findClass cls = some ce.cls := by
    have h9 := hO.cls
    rw [hvm] at h9
    exact h9
  have hall : s.sameButNew ({ U with vm := s.vm } : State) locs mc ms := by
    subst hA
    obtain ⟨e1, e2⟩ := hsame
    rw [State.setFrames_setFrames] at e1
    have h2 : (T.setVm s.vm).sameButNew ({ U with vm := s.vm } : State) [] (0 + 1) (0 + 6) := ⟨e1, e2⟩
    have h3 := X.same.trans h2
    rw [List.append_nil] at h3
    exact h3.mono hc hs
  refine ⟨U, ?_, .threw T.heap.size, hrun, hend, Or.inr ⟨T.heap.size, rfl, cls, ce, locs, hx U hWs.alike f1 (fun q hq => f2 q hq (fun z hz => nomatch hz)), hce, hO.vm, hcl, hWs, hall, hf⟩⟩
  refine st1 _ ?_
  show Steps p.tables e below (T1.setTop { method := m, pc := pc + 3, locals := ls, stack := .ref T.heap.size :: rest, locked := none }) _
  jvm_step X₁.here [X₁.here.top, hexec, d3', Value.category]
  exact hsteps
/-- 'throw new E("text")': new; dup; ldc; invokespecial; athrow -/
theorem vx_throwS {cc : ByteArray} {pc : Nat} (hexec : p.tables.exec = Jvm.exec) (hb : c.code = cc) (hl : l.stackTraces = false) {own cls text : String} {names : List String} {ik is ic mc ms sa : Nat} {A : Nat → Prop}
    (hown : s.vm.findClass own = some m.cls) (hcls : Bundle.fit cls = true) (hnames : ∀ n ∈ names, Bundle.fit n = true)
    (hk : (Cond.classLink own ik cls).before args s = true) (hini : (Cond.initialized cls).before args s = true) (hstr : vk_R own is text sa s) (hat : ∀ w ∈ vx_atS own ic cls names, w.before args s = true)
    (hgood : ∀ w ∈ Cond.classLink own ik cls :: Cond.initialized cls :: vx_atS own ic cls names, vx_ot w = true)
    (hU : vx_Zq Bundle.tN "UNASSIGNED_STACK" Bundle.steD A s s.heap) (hN : vx_Zq Bundle.tN "SUPPRESSED_SENTINEL" Bundle.listD A s s.heap) (hS : va_S A s.heap H locs) (hsize : ls.size = c.maxLocals)
    (d0 : decode cc pc = .ok (.new ik, 3)) (d3 : decode cc (pc + 3) = .ok (.dup, 1)) (d4 : decode cc (pc + 4) = .ok (.ldc is, 2)) (d6 : decode cc (pc + 6) = .ok (.invokespecial ic, 3)) (d9 : decode cc (pc + 9) = .ok (.athrow, 1))
    (hout : ∀ x ∈ c.exceptionTable.toList, covers x (pc + 9) = false)
    (hRframes : names.length + 3 < R.frames) (hRlocals : (rest.map fun v => v.category).sum + (13 * (names.length + 1) + 43) ≤ R.locals) (hRcells : cells + 1 ≤ R.cells) (hRslots : slots + 6 ≤ R.slots) (hlocks : meth.locks = false)
    (hx : ∀ t : State, s.vm.Alike t.vm → H.size ≤ t.heap.size → (∀ q : Nat, q < H.size → t.heap[q]? = H[q]?) → XC cls s t)
    (hf : ∀ z ∈ locs, free z.base) (hc : cells + 1 ≤ mc) (hs : slots + 6 ≤ ms) :
    W p l e R s m args below meth c H locs cells slots (vx_MQ below Qc XC args s mc ms free) (F0 m pc ls rest) := by
  intro T hT X
  have htr : e.platform.stackTraces = false := (show e.platform.stackTraces = l.stackTraces by rw [X.admits.platform]).trans hl
  have Y := vx_rebase X (R' := { frames := R.frames, locals := R.locals, cells := 1, slots := 6 }) (Nat.le_refl _) (Nat.le_refl _) hRcells hRslots
  obtain ⟨s', hA⟩ : ∃ z, z = (T.setVm s.vm).setFrames (.invoking m args :: below) := ⟨_, rfl⟩
  rw [← hA] at Y
  have hvm : s'.vm = s.vm := by rw [hA]; rfl
  have hhp : s'.heap = H := by rw [hA]; exact hT
  have hW0 : s.WarmedH s'.vm := by rw [hvm]; exact State.WarmedH.refl s
  have hat' : ∀ w ∈ vx_atS own ic cls names, w.before args s' = true := fun w hw => vx_ot_at hW0 hvm.symm (hgood w (List.mem_cons_of_mem _ (List.mem_cons_of_mem _ hw))) (hat w hw)
  have hk' : (Cond.classLink own ik cls).before args s' = true := vx_ot_at hW0 hvm.symm (hgood _ List.mem_cons_self) hk
  have hini' : (Cond.initialized cls).before args s' = true := vx_ot_at hW0 hvm.symm (hgood _ (List.mem_cons_of_mem _ List.mem_cons_self)) hini
  have hU' : vx_Zq Bundle.tN "UNASSIGNED_STACK" Bundle.steD A s' s'.heap := by rw [hhp]; exact vx_Zq.moved hW0.alike (hU.kept hS.2.1)
  have hN' : vx_Zq Bundle.tN "SUPPRESSED_SENTINEL" Bundle.listD A s' s'.heap := by rw [hhp]; exact vx_Zq.moved hW0.alike (hN.kept hS.2.1)
  have h : ∀ w ∈ Bundle.ownAtoms own ic cls names, w.before args s' = true := vx_own hat' (vx_isRefq hU'.1) (vx_isRefq hN'.1) hU'.2.word hN'.2.word
  have hown' : s'.vm.findClass own = some m.cls := by rw [hvm]; exact hown
  have hins : (Cond.instantiable cls 6).before args s' = true := h _ (by simp [Bundle.ownAtoms])
  obtain ⟨vm₁, cX, kX, hfX, hkX, -, -, X₁, st1⟩ := Y.newCold hexec (own := own) (C := cls) (index := ik) (n := 6) hown' hk' hins hini'
    (g := F0 m pc ls rest) rfl (by rw [hb]; exact d0) (Nat.le_refl _) (Nat.le_refl _)
  generalize hT1 : (T.setVm vm₁).pushCell { cls := cX, slots := kX.instanceTypes.map defaultValue, vm := .none } = T1 at X₁ st1
  have hcat : (Value.ref T.heap.size).category = 1 := rfl
  have hcellA : T1.heap[T.heap.size]? = some (freshCell cX kX) := by rw [← hT1]; exact State.heap_pushCell_size _ _
  have d3' : decode c.code (pc + 3) = .ok (.dup, 1) := by rw [hb]; exact d3
  have d4' : decode c.code (pc + 4) = .ok (.ldc is, 2) := by rw [hb]; exact d4
  have hstr' : vk_R own is text sa s' := vk_R.warm hW0 hstr
  obtain ⟨U, hsteps, hrun, hend, hW, hsame, ce, hce, hO⟩ := X₁.ctorThrowS hexec htr (own := own) (cls := cls) (names := names) (ic := ic) hown' hcls hnames h (fun x hx => nomatch hx) hfX hkX hcellA (by rw [hhp, hT]; exact Nat.le_refl _) (msg := .ref sa) rfl
    (g := { method := m, pc := pc + 6, locals := ls, stack := .ref sa :: .ref T.heap.size :: .ref T.heap.size :: rest, locked := none }) rfl hsize rfl rfl (rest := rest) rfl
    (by rw [hb]; exact d6) (by rw [hb]; exact d9) hout hRframes (by simp only [List.map_cons, List.sum_cons, hcat]; omega) hlocks
  obtain ⟨f1, f2⟩ := vx_frame hsame
  rw [hhp] at f1 f2
  have hWs : s.WarmedH U.vm := State.WarmedH.trans hW0 hW
  have hcl : s.vm.findClass cls = some ce.cls := by
    have h9 := hO.cls
    rw [hvm] at h9
    exact h9
  have hall : s.sameButNew ({ U with vm := s.vm } : State) locs mc ms := by
    subst hA
    obtain ⟨e1, e2⟩ := hsame
    rw [State.setFrames_setFrames] at e1
    have h2 : (T.setVm s.vm).sameButNew ({ U with vm := s.vm } : State) [] (0 + 1) (0 + 6) := ⟨e1, e2⟩
    have h3 := X.same.trans h2
    rw [List.append_nil] at h3
    exact h3.mono hc hs
  refine ⟨U, ?_, .threw T.heap.size, hrun, hend, Or.inr ⟨T.heap.size, rfl, cls, ce, locs, hx U hWs.alike f1 (fun q hq => f2 q hq (fun z hz => nomatch hz)), hce, hO.vm, hcl, hWs, hall, hf⟩⟩
  refine st1 _ ?_
  show Steps p.tables e below (T1.setTop { method := m, pc := pc + 3, locals := ls, stack := .ref T.heap.size :: rest, locked := none }) _
  jvm_step X₁.here [X₁.here.top, hexec, d3', Value.category]
  exact X₁.ldcString hexec (own := own) (text := text) (index := is) (a := sa) hown' hstr'.1 hstr'.2
    (g := { method := m, pc := pc + 4, locals := ls, stack := .ref T.heap.size :: .ref T.heap.size :: rest, locked := none }) rfl d4' _ hsteps
/-- 'throw new E("text")', the text by a wide index -/
theorem vx_throwSW {cc : ByteArray} {pc : Nat} (hexec : p.tables.exec = Jvm.exec) (hb : c.code = cc) (hl : l.stackTraces = false) {own cls text : String} {names : List String} {ik is ic mc ms sa : Nat} {A : Nat → Prop}
    (hown : s.vm.findClass own = some m.cls) (hcls : Bundle.fit cls = true) (hnames : ∀ n ∈ names, Bundle.fit n = true)
    (hk : (Cond.classLink own ik cls).before args s = true) (hini : (Cond.initialized cls).before args s = true) (hstr : vk_R own is text sa s) (hat : ∀ w ∈ vx_atS own ic cls names, w.before args s = true)
    (hgood : ∀ w ∈ Cond.classLink own ik cls :: Cond.initialized cls :: vx_atS own ic cls names, vx_ot w = true)
    (hU : vx_Zq Bundle.tN "UNASSIGNED_STACK" Bundle.steD A s s.heap) (hN : vx_Zq Bundle.tN "SUPPRESSED_SENTINEL" Bundle.listD A s s.heap) (hS : va_S A s.heap H locs) (hsize : ls.size = c.maxLocals)
    (d0 : decode cc pc = .ok (.new ik, 3)) (d3 : decode cc (pc + 3) = .ok (.dup, 1)) (d4 : decode cc (pc + 4) = .ok (.ldc_w is, 3)) (d7 : decode cc (pc + 7) = .ok (.invokespecial ic, 3)) (d10 : decode cc (pc + 10) = .ok (.athrow, 1))
    (hout : ∀ x ∈ c.exceptionTable.toList, covers x (pc + 10) = false)
    (hRframes : names.length + 3 < R.frames) (hRlocals : (rest.map fun v => v.category).sum + (13 * (names.length + 1) + 43) ≤ R.locals) (hRcells : cells + 1 ≤ R.cells) (hRslots : slots + 6 ≤ R.slots) (hlocks : meth.locks = false)
    (hx : ∀ t : State, s.vm.Alike t.vm → H.size ≤ t.heap.size → (∀ q : Nat, q < H.size → t.heap[q]? = H[q]?) → XC cls s t)
    (hf : ∀ z ∈ locs, free z.base) (hc : cells + 1 ≤ mc) (hs : slots + 6 ≤ ms) :
    W p l e R s m args below meth c H locs cells slots (vx_MQ below Qc XC args s mc ms free) (F0 m pc ls rest) := by
  intro T hT X
  have htr : e.platform.stackTraces = false := (show e.platform.stackTraces = l.stackTraces by rw [X.admits.platform]).trans hl
  have Y := vx_rebase X (R' := { frames := R.frames, locals := R.locals, cells := 1, slots := 6 }) (Nat.le_refl _) (Nat.le_refl _) hRcells hRslots
  obtain ⟨s', hA⟩ : ∃ z, z = (T.setVm s.vm).setFrames (.invoking m args :: below) := ⟨_, rfl⟩
  rw [← hA] at Y
  have hvm : s'.vm = s.vm := by rw [hA]; rfl
  have hhp : s'.heap = H := by rw [hA]; exact hT
  have hW0 : s.WarmedH s'.vm := by rw [hvm]; exact State.WarmedH.refl s
  have hat' : ∀ w ∈ vx_atS own ic cls names, w.before args s' = true := fun w hw => vx_ot_at hW0 hvm.symm (hgood w (List.mem_cons_of_mem _ (List.mem_cons_of_mem _ hw))) (hat w hw)
  have hk' : (Cond.classLink own ik cls).before args s' = true := vx_ot_at hW0 hvm.symm (hgood _ List.mem_cons_self) hk
  have hini' : (Cond.initialized cls).before args s' = true := vx_ot_at hW0 hvm.symm (hgood _ (List.mem_cons_of_mem _ List.mem_cons_self)) hini
  have hU' : vx_Zq Bundle.tN "UNASSIGNED_STACK" Bundle.steD A s' s'.heap := by rw [hhp]; exact vx_Zq.moved hW0.alike (hU.kept hS.2.1)
  have hN' : vx_Zq Bundle.tN "SUPPRESSED_SENTINEL" Bundle.listD A s' s'.heap := by rw [hhp]; exact vx_Zq.moved hW0.alike (hN.kept hS.2.1)
  have h : ∀ w ∈ Bundle.ownAtoms own ic cls names, w.before args s' = true := vx_own hat' (vx_isRefq hU'.1) (vx_isRefq hN'.1) hU'.2.word hN'.2.word
  have hown' : s'.vm.findClass own = some m.cls := by rw [hvm]; exact hown
  have hins : (Cond.instantiable cls 6).before args s' = true := h _ (by simp [Bundle.ownAtoms])
  obtain ⟨vm₁, cX, kX, hfX, hkX, -, -, X₁, st1⟩ := Y.newCold hexec (own := own) (C := cls) (index := ik) (n := 6) hown' hk' hins hini'
    (g := F0 m pc ls rest) rfl (by rw [hb]; exact d0) (Nat.le_refl _) (Nat.le_refl _)
  generalize hT1 : (T.setVm vm₁).pushCell { cls := cX, slots := kX.instanceTypes.map defaultValue, vm := .none } = T1 at X₁ st1
  have hcat : (Value.ref T.heap.size).category = 1 := rfl
  have hcellA : T1.heap[T.heap.size]? = some (freshCell cX kX) := by rw [← hT1]; exact State.heap_pushCell_size _ _
  have d3' : decode c.code (pc + 3) = .ok (.dup, 1) := by rw [hb]; exact d3
  have d4' : decode c.code (pc + 4) = .ok (.ldc_w is, 3) := by rw [hb]; exact d4
  have hstr' : vk_R own is text sa s' := vk_R.warm hW0 hstr
  obtain ⟨U, hsteps, hrun, hend, hW, hsame, ce, hce, hO⟩ := X₁.ctorThrowS hexec htr (own := own) (cls := cls) (names := names) (ic := ic) hown' hcls hnames h (fun x hx => nomatch hx) hfX hkX hcellA (by rw [hhp, hT]; exact Nat.le_refl _) (msg := .ref sa) rfl
    (g := { method := m, pc := pc + 7, locals := ls, stack := .ref sa :: .ref T.heap.size :: .ref T.heap.size :: rest, locked := none }) rfl hsize rfl rfl (rest := rest) rfl
    (by rw [hb]; exact d7) (by rw [hb]; exact d10) hout hRframes (by simp only [List.map_cons, List.sum_cons, hcat]; omega) hlocks
  obtain ⟨f1, f2⟩ := vx_frame hsame
  rw [hhp] at f1 f2
  have hWs : s.WarmedH U.vm := State.WarmedH.trans hW0 hW
  have hcl : s.vm.findClass cls = some ce.cls := by
    have h9 := hO.cls
    rw [hvm] at h9
    exact h9
  have hall : s.sameButNew ({ U with vm := s.vm } : State) locs mc ms := by
    subst hA
    obtain ⟨e1, e2⟩ := hsame
    rw [State.setFrames_setFrames] at e1
    have h2 : (T.setVm s.vm).sameButNew ({ U with vm := s.vm } : State) [] (0 + 1) (0 + 6) := ⟨e1, e2⟩
    have h3 := X.same.trans h2
    rw [List.append_nil] at h3
    exact h3.mono hc hs
  refine ⟨U, ?_, .threw T.heap.size, hrun, hend, Or.inr ⟨T.heap.size, rfl, cls, ce, locs, hx U hWs.alike f1 (fun q hq => f2 q hq (fun z hz => nomatch hz)), hce, hO.vm, hcl, hWs, hall, hf⟩⟩
  refine st1 _ ?_
  show Steps p.tables e below (T1.setTop { method := m, pc := pc + 3, locals := ls, stack := .ref T.heap.size :: rest, locked := none }) _
  jvm_step X₁.here [X₁.here.top, hexec, d3', Value.category]
  exact X₁.ldcStringW hexec (own := own) (text := text) (index := is) (a := sa) hown' hstr'.1 hstr'.2
    (g := { method := m, pc := pc + 4, locals := ls, stack := .ref T.heap.size :: .ref T.heap.size :: rest, locked := none }) rfl d4' _ hsteps
end Ends
section Bodies
variable {l : Launch}
theorem vx_ofW {y : MethodName} {ws ws' : List Cond} {rm : Room} {Pc : Array Value → State → Prop} {Qc : Array Value → State → Outcome → State → Prop} {XC : String → State → State → Prop} {mc ms : Nat} {free : Addr → Prop} {cc : ByteArray} {maxL : Nat} {ret : Option FieldType}
    (hy : plainName y.cls = true) (hw : ws = Cond.code y cc maxL ret :: ws')
    (body : ∀ p e s m args below meth c s₁, BodyLoose p l y (headSpec ws rm) cc maxL ret e s m args below meth c s₁ → c.maxLocals = maxL → (∀ x ∈ c.exceptionTable.toList, False) → Pc args s →
      W p l e (headSpec ws rm).room s m args below meth c s.heap [] 0 0 (vx_MQ below Qc XC args s mc ms free) (entryFrame m args maxL)) : vx_Met l y ws rm Pc Qc XC mc ms free := by
  refine MetFree.of_bodyS (code := cc) (maxLocals := maxL) (ret := ret) hy ?_ ?_
  · intro args s m h hn
    obtain ⟨meth, c, h1, h2, h3, h4, h5, h6, -, -⟩ := Cond.code_spec hn (atoms_spec (ws := ws) h _ (by rw [hw]; exact List.mem_cons_self))
    exact ⟨meth, c, h1, h2, h3, h4, h5, h6⟩
  · intro p e s m args below meth c s₁ B hml hP _
    have hh0 : s₁.heap = s.heap := by rw [B.state]; rfl
    have ht : ∀ x ∈ c.exceptionTable.toList, False := by
      obtain ⟨meth9, c9, h1, h2, -, -, -, -, h7, -⟩ := Cond.code_spec B.named (atoms_spec (ws := ws) B.pre _ (by rw [hw]; exact List.mem_cons_self))
      cases Option.some.inj (h1.symm.trans B.method)
      cases Option.some.inj (h2.symm.trans (Stand.of_body B).code)
      intro x hx
      rw [Array.isEmpty_iff.mp h7] at hx
      cases hx
    obtain ⟨t, a1, o, b1, b2, b3⟩ := body p e s m args below meth c s₁ B hml ht hP s₁ hh0 (Stand.of_body B)
    exact ⟨t, o, a1, b1, b2, b3⟩
/-- the table of a body with handlers -/
theorem vx_table {p : Program} {x y : MethodName} {S : Spec} {cc bytes : ByteArray} {maxL maxL' : Nat} {ret ret' : Option FieldType} {e : Env} {s s₁ : State} {m : MethodId} {args : Array Value} {below : List Frame} {meth : Method} {c : Code} {hh : List (Nat × Nat × Nat × Nat)}
    (B : BodyLoose p l y S cc maxL ret e s m args below meth c s₁) (h : (Cond.codeWith y bytes maxL' ret' hh).before args s = true) : c.exceptionTable.toList = tableOf hh := by
  obtain ⟨m9, meth9, c9, hn9, h1, h2, -, -, h6, -⟩ := Cond.codeWith_spec h
  cases Option.some.inj (hn9.symm.trans B.named)
  cases Option.some.inj (h1.symm.trans B.method)
  cases Option.some.inj (h2.symm.trans (Stand.of_body B).code)
  rw [← h6, table_eq]
end Bodies
end VXA
/-! ===== END ===== -/
/-! ===== BEGIN a static call of a method with an exception table ===== -/
section VXS
variable {p : Program} {l : Launch} {e : Env} {R : Room} {s : State} {m : MethodId} {args : Array Value} {below : List Frame} {meth : Method} {c : Code} {T : State} {H : Heap} {locs : List Loc} {cells slots : Nat}
abbrev vx_CSW (R : Room) (s : State) (args : Array Value) (own : String) (index : Nat) (y : MethodName) (bytes : ByteArray) (maxL : Nat) (ret : Option FieldType) (hh : List (Nat × Nat × Nat × Nat)) (ws : List Cond) (rm : Room) (mc ms n : Nat) : Prop :=
  (rm.cells = mc ∧ rm.slots = ms ∧ rm.frames + 1 ≤ R.frames ∧ 8 + (maxL + 11) + rm.locals ≤ R.locals ∧ (∀ w ∈ ws, ∀ (a' : Array Value) (U : State), s.WarmedH U.vm → w.before a' U = true) ∧ Cond.codeWith y bytes maxL ret hh ∈ ws) ∧
  (Cond.codeWith y bytes maxL ret hh).before args s = true ∧ (Cond.initialized y.cls).before args s = true ∧ (y.cls ≠ "java/lang/invoke/MethodHandle" ∧ y.cls ≠ "java/lang/invoke/VarHandle") ∧
  (∀ sig, parseMethodDescriptor y.desc = some sig → n = sig.parameters.length) ∧ (Cond.methodLink own index y).before args s = true ∧ (Cond.static y).before args s = true
theorem vx_cwSW {own : String} {index maxL mc ms : Nat} {y : MethodName} {bytes : ByteArray} {ret : Option FieldType} {hh : List (Nat × Nat × Nat × Nat)} {Ts ws ws' : List Cond} {rm : Room} (n : Nat) (ht : ∀ w ∈ Ts, w.before args s = true) (hT : GoodIn Ts (va_wsS own index y ws)) (hw : ws = Cond.codeWith y bytes maxL ret hh :: ws') (hrc : rm.cells = mc) (hrs : rm.slots = ms)
    (hd : y.cls ≠ "java/lang/invoke/MethodHandle" ∧ y.cls ≠ "java/lang/invoke/VarHandle" ∧ (parseMethodDescriptor y.desc).map (fun d => d.parameters.length) = some n) (hR : rm.frames + 1 ≤ R.frames ∧ 8 + (maxL + 11) + rm.locals ≤ R.locals) :
    vx_CSW R s args own index y bytes maxL ret hh ws rm mc ms n := by
  have ok : ∀ w ∈ va_wsS own index y ws, w.before args s = true := fun w h => ht w (hT w h).1
  have hG : GoodIn Ts ws := fun w h => hT w (by unfold va_wsS; exact List.mem_append_right _ h)
  have hc : Cond.codeWith y bytes maxL ret hh ∈ ws := by rw [hw]; exact List.mem_cons_self
  refine ⟨⟨hrc, hrs, hR.1, hR.2, pay_in ht hG, hc⟩, ht _ (hG _ hc).1, ok _ (by simp [va_wsS]), ⟨hd.1, hd.2.1⟩, fun sig h => ?_, ok _ (by simp [va_wsS]), ok _ (by simp [va_wsS])⟩
  have h2 := hd.2.2
  rw [h] at h2
  exact (Option.some.inj h2).symm
theorem vx_callSW (X : Stand p l e R s m args below meth c T locs cells slots) (hexec : p.tables.exec = Jvm.exec) {own : String} {index : Nat} {y : MethodName} {bytes : ByteArray} {maxL : Nat} {ret : Option FieldType} {hh : List (Nat × Nat × Nat × Nat)}
    (hown : s.vm.findClass own = some m.cls) (hlink : (Cond.methodLink own index y).before args s = true) (hstat : (Cond.static y).before args s = true) (hinit : (Cond.initialized y.cls).before args s = true)
    (hcode : (Cond.codeWith y bytes maxL ret hh).before args s = true) (hy : y.cls ≠ "java/lang/invoke/MethodHandle" ∧ y.cls ≠ "java/lang/invoke/VarHandle")
    {W9 : Nat} {Pre : Pt → Array Value → Prop} {Post : Pt → Array Value → Option Value → Pt → Prop} (hK : Back l R p e below s args y 3 W9 Pre Post)
    {g : JFrame} (hg : g.method = m) (hsize : g.locals.size = c.maxLocals) {argsL rest : List Value} (hlen : ∀ sig, parseMethodDescriptor y.desc = some sig → argsL.length = sig.parameters.length)
    (hstack : g.stack = argsL.reverse ++ rest) (hW : 2 * g.monitorRoom + (rest.map fun v => v.category).sum ≤ W9) (hdg : decode c.code g.pc = .ok (.invokestatic index, 3))
    (hpre : ∀ vm₁, s.WarmedH vm₁ → Pre ⟨T.setVm vm₁, locs, cells, slots⟩ argsL.toArray) :
    ∃ (v : Option Value) (vm₁ : Vm) (B : Pt), s.WarmedH vm₁ ∧ Stand p l e R s m args below meth c B.U B.locs B.cells B.slots ∧ Post ⟨T.setVm vm₁, locs, cells, slots⟩ argsL.toArray v B ∧
      ∀ target, Steps p.tables e below (B.U.setTop { g with pc := g.pc + 3, stack := v.toList ++ rest }) target → Steps p.tables e below (T.setTop g) target := by
  obtain ⟨mk, methM, cM, hnamed, hmethM, -, -, -, -, -, -, hsigM⟩ := Cond.codeWith_spec hcode
  have hstatic : methM.isStatic = true := Cond.static_spec hnamed hmethM hstat
  obtain ⟨kP, hkP, -⟩ := className_of_methodNamed hnamed
  have hinitP : kP.init = .initialized := Cond.initialized_spec (findClass_of_methodNamed hnamed) hkP hinit
  obtain ⟨vm₁, X₁, hstep₁⟩ := X.invokestatic hexec hown hlink hnamed hmethM hstatic hkP hinitP hy (g := g) hg (argsL := argsL) (rest := rest) (hlen _ hsigM) hstack hdg
  obtain ⟨v, B, X', hpost, hsteps⟩ := hK m meth c ⟨T.setVm vm₁, locs, cells, slots⟩ { g with stack := rest } (.invokestatic index) mk argsL.toArray X₁ hg hsize hdg hW (X₁.named hnamed) (hpre vm₁ X₁.warmed)
  exact ⟨v, vm₁, B, X₁.warmed, X', hpost, fun target h => hstep₁ _ fun acts => by rw [doInvoke_state]; exact hsteps.trans h⟩
theorem vx_runSW {y : MethodName} {bytes cc : ByteArray} {maxL nL mc ms n index : Nat} {ret : Option FieldType} {hh : List (Nat × Nat × Nat × Nat)} {ws : List Cond} {rm : Room} {Pc : Array Value → State → Prop} {Qc : Array Value → State → Outcome → State → Prop} {free : Addr → Prop} {Ts : List Cond} {own : String} {As rest : List Value} {g : JFrame}
    (S : CallFix p m c cc nL s args Ts own) (hM : Met l y ws rm Pc Qc mc ms free) (cw : vx_CSW R s args own index y bytes maxL ret hh ws rm mc ms n) (hp : PreS s H Pc As)
    (hg : g.method = m) (hn : As.length = n) (hsize : g.locals.size = nL) (hstack : g.stack = As.reverse ++ rest) (hW : 2 * g.monitorRoom + (rest.map fun v => v.category).sum ≤ 8) (hdg : decode cc g.pc = .ok (.invokestatic index, 3)) (hf : cells + mc ≤ R.cells ∧ slots + ms ≤ R.slots) :
    va_Run p l e R s m args below meth c H locs cells slots mc ms g rest (Qc As.toArray) (free) := by
  obtain ⟨⟨hrc, hrs, hfr, hlo, hws, hcw⟩, hcode, hini, hy, hlen, hl, hstt⟩ := cw
  have hK : Back l R p e below s args y 3 8 (PreOf R mc ms Pc) (PostOf Qc mc ms free) := va_backW (hh := hh) (bytes := bytes) (maxL := maxL) (ret := ret) hM hp.1 hrc hrs hfr hlo hws hcw (fun a' U hW => word_at hW (Or.inl (by first | rfl | simp [Cond.onTables, Cond.keeps, Cond.steady])) hini)
  obtain ⟨hx, hb, hml, ho, -⟩ := S
  intro T hT X
  obtain ⟨v, vm₁, ⟨U', l2, c2, s2⟩, hW₁, X', ⟨g', mk, t, L, e1, e2, hq, h1, hL, h2, h3⟩, st⟩ := vx_callSW X hx (hh := hh) (bytes := bytes) (maxL := maxL) (ret := ret) ho hl hstt hini hcode hy hK hg (hsize.trans hml.symm) (argsL := As) (rest := rest) (fun sig h => hn.trans (hlen sig h)) hstack hW (by rw [hb]; exact hdg)
    (fun vm₁ hW₁ => ⟨hf.1, hf.2, hp.2 (T.setVm vm₁) hT hW₁⟩)
  dsimp only [Pt.U, Pt.locs, Pt.cells, Pt.slots] at X' e1 e2 h1 h2 h3 st
  subst h1; subst h2; subst h3
  exact ⟨v, (T.setVm vm₁).calling g' mk As.toArray, t, U', L, hT, X', hL, e1, e2, hq, st⟩
/-- a thing of a world lies in the heap -/
theorem vx_lt {D : va_G} {cl : List vw_C} {ws : va_W} {H1 : Heap} (h : va_P D cl ws H1) {k : Nat} {q : Nat × va_E} (hk : ws[k]? = some q) : q.1 < H1.size := (h k q hk).lt
end VXS
/-! ===== END ===== -/
/-! ===== BEGIN methods with a table of their own: called by a name, returning or throwing ===== -/
section VXH
/-! vx_backW, vx_callVX, vx_callSX, vx_callVW, vx_runVW, vx_runVX, vx_runSX, vx_ofWH follow the same proofs as their sisters above (Free/Laws.lean, Shelf42/LK1.lean); vx_outP calls Shelf42/NT130.lean (outThrough). -/
section
variable {l : Launch} {R : Room} {p : Program} {e : Env} {below : List Frame} {s : State} {sargs : Array Value} {y : MethodName} {len W9 : Nat}
theorem vx_backW {ws : List Cond} {rm : Room} {Pc : Array Value → State → Prop} {Qc : Array Value → State → Outcome → State → Prop} {XC : String → State → State → Prop} {mc ms : Nat} {free : Addr → Prop} {bytes : ByteArray} {maxL : Nat} {ret : Option FieldType} {hh : List (Nat × Nat × Nat × Nat)}
    (hM : vx_Met l y ws rm Pc Qc XC mc ms free) (hblind : FrameBlind Pc) (hrc : rm.cells = mc) (hrs : rm.slots = ms)
    (hframes : rm.frames + 1 ≤ R.frames) (hlocals : W9 + (maxL + 11) + rm.locals ≤ R.locals)
    (hws : ∀ w ∈ ws, ∀ a' U, s.WarmedH U.vm → w.before a' U = true) (hcode : Cond.codeWith y bytes maxL ret hh ∈ ws) (hinit : ∀ a' U, s.WarmedH U.vm → (Cond.initialized y.cls).before a' U = true) :
    vx_Back l R p e below s sargs y len W9 (PreOf R mc ms Pc) (PostOf Qc mc ms free) (vx_Post XC mc ms free) := by
  intro m meth c A g ig mk a X hg hsize hdg hW hn hp
  have h1 : (headSpec ws rm).pre.before a A.U = true := atoms_intro fun w hw => hws w hw _ _ X.warmed
  have h2 : (Cond.codeWith y bytes maxL ret hh).before a A.U = true := hws _ hcode _ _ X.warmed
  have h3 : (Cond.initialized y.cls).before a A.U = true := hinit _ _ X.warmed
  have h4 : A.cells + (headSpec ws rm).room.cells ≤ R.cells := by rw [show (headSpec ws rm).room.cells = mc from hrc]; exact hp.1
  have h5 : A.slots + (headSpec ws rm).room.slots ≤ R.slots := by rw [show (headSpec ws rm).room.slots = ms from hrs]; exact hp.2.1
  have hPc : Pc a (A.U.calling g mk a) := hblind _ _ _ _ hp.2.2
  obtain ⟨U, Ls, c0, s0⟩ := A
  dsimp only [Pt.U, Pt.locs, Pt.cells, Pt.slots] at h1 h2 h3 h4 h5 X hn hPc ⊢
  obtain ⟨m9, methY, cY, hn9, hmY, hcY, -, hlY, -⟩ := Cond.codeWith_spec h2
  cases Option.some.inj (hn9.symm.trans hn)
  obtain ⟨kY, hkY, -⟩ := className_of_methodNamed hn
  have hinitY : kY.init = .initialized := Cond.initialized_spec (findClass_of_methodNamed hn) hkY h3
  have h : At U g.method c below := by rw [hg]; exact X.here
  have hlocals9 : W9 + (maxL + 11) + (headSpec ws rm).room.locals ≤ R.locals := hlocals
  have happ : (headSpec ws rm).appliesLoose y e.platform (U.calling g mk a) = true :=
    Spec.appliesLoose_calling (g := g) h hdg hn hkY hinitY
      (X.room_calling (g := g) (R' := (headSpec ws rm).room) hsize hmY hcY hframes (by rw [hlY]; omega) h4 h5) h1
  obtain ⟨mid, hmid⟩ := h.above
  have hfr : (U.setTop g).frames = (.java g :: mid) ++ below := by rw [State.frames_setTop' g h.top, hmid]; rfl
  obtain ⟨o, s₂, hsteps, -, hend, hq⟩ := Steps.callFree hM p X.admits X.cas X.clock (acts := []) hfr happ hPc trivial
  have hq' : vx_Q Qc XC mc ms free a (U.calling g mk a) o s₂ := hq
  rw [State.frames_setTop' g h.top] at hend
  obtain ⟨g₀, hg0⟩ := Option.isSome_iff_exists.mp h.top
  obtain ⟨r, hr⟩ := State.topJava?_eq_some.mp hg0
  have hr' : (({ U with heap := s₂.heap, slotsUsed := s₂.slotsUsed } : State).setVm s₂.vm).frames = .java g₀ :: r := hr
  rcases hq' with ⟨hqc, L, hfe, hL⟩ | ⟨q, rfl, E, ce, L, hx, hce, hcv, hcl, hW₂, hsm, hL⟩
  · obtain ⟨⟨v, rfl⟩, hW₂, e2, q2, q3, q4, q5, q6⟩ := id hfe
    have e3 : s₂ = ({ (U.calling g mk a).setFrames s₂.frames with heap := s₂.heap, slotsUsed := s₂.slotsUsed } : State).setVm s₂.vm := by
      have : s₂ = ({ s₂ with vm := (U.calling g mk a).vm } : State).setVm s₂.vm := rfl
      rw [e2] at this
      exact this
    obtain ⟨c₂, i₂, len₂, hc₂, hd₂, hf₂⟩ := hend
    have hW' : U.WarmedH s₂.vm := hW₂
    have hcc : c₂ = c := by
      have h1 : s₂.code? g.method = U.code? g.method := by
        rw [State.code?_eq, State.code?_eq, hW'.alike.method?]
      exact Option.some.inj (hc₂.symm.trans (h1.trans h.code))
    subst hcc
    have hlen : len₂ = len := by rw [hdg] at hd₂; cases hd₂; rfl
    subst hlen
    have hs₂ : s₂ = (({ U with heap := s₂.heap, slotsUsed := s₂.slotsUsed } : State).setVm s₂.vm).setTop { g with pc := g.pc + len₂, stack := v.toList ++ g.stack } := by
      refine e3.trans ?_
      rw [hf₂, State.calling_eq h.top, State.setFrames_setFrames, State.setTop_of_frames _ hr', hr]
      rfl
    have hsame : U.sameButNew ({ U with heap := s₂.heap, slotsUsed := s₂.slotsUsed } : State) L mc ms := by
      refine ⟨?_, q2, q3, q4, q5, q6⟩
      obtain ⟨t, ht, -⟩ := State.frames_cons hr
      show ({ U with heap := s₂.heap, slotsUsed := s₂.slotsUsed } : State) = { U.setFrames U.frames with heap := s₂.heap, slotsUsed := s₂.slotsUsed }
      rw [State.setFrames_self ht]
    subst hg
    refine Or.inl ⟨v, ⟨(({ U with heap := s₂.heap, slotsUsed := s₂.slotsUsed } : State).setVm s₂.vm), Ls ++ L, c0 + mc, s0 + ms⟩,
      ⟨X.admits, X.cas, X.clock, X.frames, X.room, X.hears, X.method, X.code, (X.here.setHeapUsed s₂.heap s₂.slotsUsed).setVm hW'.alike, X.tail, State.WarmedH.trans X.warmed hW', X.limits, X.bytes, X.same.trans (hsame.setVm s.vm)⟩,
      ⟨g, mk, s₂, L, rfl, rfl, hqc, rfl, hL, rfl, rfl⟩, ?_⟩
    show Steps p.tables e below _ ((({ U with heap := s₂.heap, slotsUsed := s₂.slotsUsed } : State).setVm s₂.vm).setTop { g with pc := g.pc + len₂, stack := v.toList ++ g.stack })
    rw [← hs₂]
    exact hsteps
  · obtain ⟨e2, q2, q3, q4, q5, q6⟩ := id hsm
    have e3 : s₂ = ({ (U.calling g mk a).setFrames s₂.frames with heap := s₂.heap, slotsUsed := s₂.slotsUsed } : State).setVm s₂.vm := by
      have : s₂ = ({ s₂ with vm := (U.calling g mk a).vm } : State).setVm s₂.vm := rfl
      rw [e2] at this
      exact this
    have hf₂ : s₂.frames = .throwing q :: .java g :: U.frames.tail := hend
    have hW' : U.WarmedH s₂.vm := hW₂
    have hs₂ : s₂ = ((({ U with heap := s₂.heap, slotsUsed := s₂.slotsUsed } : State).setVm s₂.vm).setTop g).pushFrame (.throwing q) := by
      refine e3.trans ?_
      rw [hf₂, State.calling_eq h.top, State.setFrames_setFrames, State.pushFrame, State.frames_setTop _ hr', State.setTop_of_frames _ hr', State.setFrames_setFrames, hr]
      rfl
    have hsame : U.sameButNew ({ U with heap := s₂.heap, slotsUsed := s₂.slotsUsed } : State) L mc ms := by
      refine ⟨?_, q2, q3, q4, q5, q6⟩
      obtain ⟨t, ht, -⟩ := State.frames_cons hr
      show ({ U with heap := s₂.heap, slotsUsed := s₂.slotsUsed } : State) = { U.setFrames U.frames with heap := s₂.heap, slotsUsed := s₂.slotsUsed }
      rw [State.setFrames_self ht]
    subst hg
    refine Or.inr ⟨q, ⟨(({ U with heap := s₂.heap, slotsUsed := s₂.slotsUsed } : State).setVm s₂.vm), Ls ++ L, c0 + mc, s0 + ms⟩,
      ⟨X.admits, X.cas, X.clock, X.frames, X.room, X.hears, X.method, X.code, (X.here.setHeapUsed s₂.heap s₂.slotsUsed).setVm hW'.alike, X.tail, State.WarmedH.trans X.warmed hW', X.limits, X.bytes, X.same.trans (hsame.setVm s.vm)⟩,
      ⟨g, mk, s₂, L, E, ce, rfl, rfl, hx, hce, hcv, hcl, rfl, hL, rfl, rfl⟩, ?_⟩
    show Steps p.tables e below _ (((({ U with heap := s₂.heap, slotsUsed := s₂.slotsUsed } : State).setVm s₂.vm).setTop g).pushFrame (.throwing q))
    rw [← hs₂]
    exact hsteps
end
variable {p : Program} {l : Launch} {e : Env} {R : Room} {s : State} {m : MethodId} {args : Array Value} {below : List Frame} {meth : Method} {c : Code} {T : State} {H : Heap} {locs : List Loc} {cells slots : Nat}
theorem vx_callVX (X : Stand p l e R s m args below meth c T locs cells slots) (hexec : p.tables.exec = Jvm.exec) {own C : String} {index : Nat} {y : MethodName} {bytes : ByteArray} {maxL : Nat} {ret : Option FieldType} {hh : List (Nat × Nat × Nat × Nat)}
    (hown : s.vm.findClass own = some m.cls) (hlink : (Cond.methodLink own index y).before args s = true) (hinst : (Cond.instanceMethod y).before args s = true) (hsel : (Cond.selects C y y).before args s = true)
    (hcode : (Cond.codeWith y bytes maxL ret hh).before args s = true) (hy : y.cls ≠ "java/lang/invoke/MethodHandle" ∧ y.cls ≠ "java/lang/invoke/VarHandle")
    {W9 : Nat} {Pre : Pt → Array Value → Prop} {Post : Pt → Array Value → Option Value → Pt → Prop} {PostX : Pt → Array Value → Addr → Pt → Prop} (hK : vx_Back l R p e below s args y 3 W9 Pre Post PostX)
    {b : Addr} {cellB : Cell} (hcell : T.heap[b]? = some cellB) (hobj : cellB.vm.isStatics = false) (hcls : s.vm.findClass C = some cellB.cls)
    {g : JFrame} (hg : g.method = m) (hsize : g.locals.size = c.maxLocals) {argsL rest : List Value} (hlen : ∀ sig, parseMethodDescriptor y.desc = some sig → argsL.length = sig.parameters.length)
    (hstack : g.stack = argsL.reverse ++ .ref b :: rest) (hW : 2 * g.monitorRoom + (rest.map fun v => v.category).sum ≤ W9) (hdg : decode c.code g.pc = .ok (.invokevirtual index, 3))
    (hpre : ∀ vm₁, s.WarmedH vm₁ → Pre ⟨T.setVm vm₁, locs, cells, slots⟩ (Value.ref b :: argsL).toArray) :
    (∃ (v : Option Value) (vm₁ : Vm) (B : Pt), s.WarmedH vm₁ ∧ Stand p l e R s m args below meth c B.U B.locs B.cells B.slots ∧ Post ⟨T.setVm vm₁, locs, cells, slots⟩ (Value.ref b :: argsL).toArray v B ∧
      ∀ target, Steps p.tables e below (B.U.setTop { g with pc := g.pc + 3, stack := v.toList ++ rest }) target → Steps p.tables e below (T.setTop g) target) ∨
    (∃ (q : Addr) (vm₁ : Vm) (B : Pt), s.WarmedH vm₁ ∧ Stand p l e R s m args below meth c B.U B.locs B.cells B.slots ∧ PostX ⟨T.setVm vm₁, locs, cells, slots⟩ (Value.ref b :: argsL).toArray q B ∧
      Steps p.tables e below (T.setTop g) ((B.U.setTop { g with stack := rest }).pushFrame (.throwing q))) := by
  obtain ⟨mk, methM, hnamed, hmethM, hstM, habM⟩ := Cond.instanceMethod_spec hinst
  obtain ⟨m8, methM', cM, hn8, hmethM', -, -, -, -, -, -, hsigM⟩ := Cond.codeWith_spec hcode
  cases Option.some.inj (hn8.symm.trans hnamed)
  cases hmethM.symm.trans hmethM'
  obtain ⟨c2, r2, m2, q1, q2, q3, q4, kP, hkP, hkPi⟩ := Cond.selects_spec hsel
  cases hcls.symm.trans q1
  cases (State.methodFound?_of_named hnamed hy).symm.trans q2
  cases hnamed.symm.trans q3
  have hselP : selectMethod e.platform s.vm cellB.cls mk = .method mk := by rw [Launch.admits_selectMethod X.admits]; exact q4
  obtain ⟨vm₁, X₁, hstep₁⟩ := X.invokevirtual hexec hown hlink hnamed hmethM hstM hkP hkPi hy (a := b) (cell := cellB) hcell
    (fun z h => by rw [h] at hobj; cases hobj) hselP hmethM habM hkP hkPi (g := g) hg (argsL := argsL) (rest := rest) (hlen _ hsigM) hstack hdg
  rcases hK m meth c ⟨T.setVm vm₁, locs, cells, slots⟩ { g with stack := rest } (.invokevirtual index) mk (Value.ref b :: argsL).toArray X₁ hg hsize hdg hW (X₁.named hnamed) (hpre vm₁ X₁.warmed) with ⟨v, B, X', hpost, hsteps⟩ | ⟨q, B, X', hpost, hsteps⟩
  · exact Or.inl ⟨v, vm₁, B, X₁.warmed, X', hpost, fun target h => hstep₁ _ fun acts => by rw [doInvoke_state]; exact hsteps.trans h⟩
  · exact Or.inr ⟨q, vm₁, B, X₁.warmed, X', hpost, hstep₁ _ fun acts => by rw [doInvoke_state]; exact hsteps⟩
theorem vx_callSX (X : Stand p l e R s m args below meth c T locs cells slots) (hexec : p.tables.exec = Jvm.exec) {own : String} {index : Nat} {y : MethodName} {bytes : ByteArray} {maxL : Nat} {ret : Option FieldType} {hh : List (Nat × Nat × Nat × Nat)}
    (hown : s.vm.findClass own = some m.cls) (hlink : (Cond.methodLink own index y).before args s = true) (hstat : (Cond.static y).before args s = true) (hinit : (Cond.initialized y.cls).before args s = true)
    (hcode : (Cond.codeWith y bytes maxL ret hh).before args s = true) (hy : y.cls ≠ "java/lang/invoke/MethodHandle" ∧ y.cls ≠ "java/lang/invoke/VarHandle")
    {W9 : Nat} {Pre : Pt → Array Value → Prop} {Post : Pt → Array Value → Option Value → Pt → Prop} {PostX : Pt → Array Value → Addr → Pt → Prop} (hK : vx_Back l R p e below s args y 3 W9 Pre Post PostX)
    {g : JFrame} (hg : g.method = m) (hsize : g.locals.size = c.maxLocals) {argsL rest : List Value} (hlen : ∀ sig, parseMethodDescriptor y.desc = some sig → argsL.length = sig.parameters.length)
    (hstack : g.stack = argsL.reverse ++ rest) (hW : 2 * g.monitorRoom + (rest.map fun v => v.category).sum ≤ W9) (hdg : decode c.code g.pc = .ok (.invokestatic index, 3))
    (hpre : ∀ vm₁, s.WarmedH vm₁ → Pre ⟨T.setVm vm₁, locs, cells, slots⟩ argsL.toArray) :
    (∃ (v : Option Value) (vm₁ : Vm) (B : Pt), s.WarmedH vm₁ ∧ Stand p l e R s m args below meth c B.U B.locs B.cells B.slots ∧ Post ⟨T.setVm vm₁, locs, cells, slots⟩ argsL.toArray v B ∧
      ∀ target, Steps p.tables e below (B.U.setTop { g with pc := g.pc + 3, stack := v.toList ++ rest }) target → Steps p.tables e below (T.setTop g) target) ∨
    (∃ (q : Addr) (vm₁ : Vm) (B : Pt), s.WarmedH vm₁ ∧ Stand p l e R s m args below meth c B.U B.locs B.cells B.slots ∧ PostX ⟨T.setVm vm₁, locs, cells, slots⟩ argsL.toArray q B ∧
      Steps p.tables e below (T.setTop g) ((B.U.setTop { g with stack := rest }).pushFrame (.throwing q))) := by
  obtain ⟨mk, methM, cM, hnamed, hmethM, -, -, -, -, -, -, hsigM⟩ := Cond.codeWith_spec hcode
  have hstatic : methM.isStatic = true := Cond.static_spec hnamed hmethM hstat
  obtain ⟨kP, hkP, -⟩ := className_of_methodNamed hnamed
  have hinitP : kP.init = .initialized := Cond.initialized_spec (findClass_of_methodNamed hnamed) hkP hinit
  obtain ⟨vm₁, X₁, hstep₁⟩ := X.invokestatic hexec hown hlink hnamed hmethM hstatic hkP hinitP hy (g := g) hg (argsL := argsL) (rest := rest) (hlen _ hsigM) hstack hdg
  rcases hK m meth c ⟨T.setVm vm₁, locs, cells, slots⟩ { g with stack := rest } (.invokestatic index) mk argsL.toArray X₁ hg hsize hdg hW (X₁.named hnamed) (hpre vm₁ X₁.warmed) with ⟨v, B, X', hpost, hsteps⟩ | ⟨q, B, X', hpost, hsteps⟩
  · exact Or.inl ⟨v, vm₁, B, X₁.warmed, X', hpost, fun target h => hstep₁ _ fun acts => by rw [doInvoke_state]; exact hsteps.trans h⟩
  · exact Or.inr ⟨q, vm₁, B, X₁.warmed, X', hpost, hstep₁ _ fun acts => by rw [doInvoke_state]; exact hsteps⟩
theorem vx_callVW (X : Stand p l e R s m args below meth c T locs cells slots) (hexec : p.tables.exec = Jvm.exec) {own C : String} {index : Nat} {y : MethodName} {bytes : ByteArray} {maxL : Nat} {ret : Option FieldType} {hh : List (Nat × Nat × Nat × Nat)}
    (hown : s.vm.findClass own = some m.cls) (hlink : (Cond.methodLink own index y).before args s = true) (hinst : (Cond.instanceMethod y).before args s = true) (hsel : (Cond.selects C y y).before args s = true)
    (hcode : (Cond.codeWith y bytes maxL ret hh).before args s = true) (hy : y.cls ≠ "java/lang/invoke/MethodHandle" ∧ y.cls ≠ "java/lang/invoke/VarHandle")
    {W9 : Nat} {Pre : Pt → Array Value → Prop} {Post : Pt → Array Value → Option Value → Pt → Prop} (hK : Back l R p e below s args y 3 W9 Pre Post)
    {b : Addr} {cellB : Cell} (hcell : T.heap[b]? = some cellB) (hobj : cellB.vm.isStatics = false) (hcls : s.vm.findClass C = some cellB.cls)
    {g : JFrame} (hg : g.method = m) (hsize : g.locals.size = c.maxLocals) {argsL rest : List Value} (hlen : ∀ sig, parseMethodDescriptor y.desc = some sig → argsL.length = sig.parameters.length)
    (hstack : g.stack = argsL.reverse ++ .ref b :: rest) (hW : 2 * g.monitorRoom + (rest.map fun v => v.category).sum ≤ W9) (hdg : decode c.code g.pc = .ok (.invokevirtual index, 3))
    (hpre : ∀ vm₁, s.WarmedH vm₁ → Pre ⟨T.setVm vm₁, locs, cells, slots⟩ (Value.ref b :: argsL).toArray) :
    ∃ (v : Option Value) (vm₁ : Vm) (B : Pt), s.WarmedH vm₁ ∧ Stand p l e R s m args below meth c B.U B.locs B.cells B.slots ∧ Post ⟨T.setVm vm₁, locs, cells, slots⟩ (Value.ref b :: argsL).toArray v B ∧
      ∀ target, Steps p.tables e below (B.U.setTop { g with pc := g.pc + 3, stack := v.toList ++ rest }) target → Steps p.tables e below (T.setTop g) target := by
  obtain ⟨mk, methM, hnamed, hmethM, hstM, habM⟩ := Cond.instanceMethod_spec hinst
  obtain ⟨m8, methM', cM, hn8, hmethM', -, -, -, -, -, -, hsigM⟩ := Cond.codeWith_spec hcode
  cases Option.some.inj (hn8.symm.trans hnamed)
  cases hmethM.symm.trans hmethM'
  obtain ⟨c2, r2, m2, q1, q2, q3, q4, kP, hkP, hkPi⟩ := Cond.selects_spec hsel
  cases hcls.symm.trans q1
  cases (State.methodFound?_of_named hnamed hy).symm.trans q2
  cases hnamed.symm.trans q3
  have hselP : selectMethod e.platform s.vm cellB.cls mk = .method mk := by rw [Launch.admits_selectMethod X.admits]; exact q4
  obtain ⟨vm₁, X₁, hstep₁⟩ := X.invokevirtual hexec hown hlink hnamed hmethM hstM hkP hkPi hy (a := b) (cell := cellB) hcell
    (fun z h => by rw [h] at hobj; cases hobj) hselP hmethM habM hkP hkPi (g := g) hg (argsL := argsL) (rest := rest) (hlen _ hsigM) hstack hdg
  obtain ⟨v, B, X', hpost, hsteps⟩ := hK m meth c ⟨T.setVm vm₁, locs, cells, slots⟩ { g with stack := rest } (.invokevirtual index) mk (Value.ref b :: argsL).toArray X₁ hg hsize hdg hW (X₁.named hnamed) (hpre vm₁ X₁.warmed)
  exact ⟨v, vm₁, B, X₁.warmed, X', hpost, fun target h => hstep₁ _ fun acts => by rw [doInvoke_state]; exact hsteps.trans h⟩
abbrev vx_CVW (R : Room) (s : State) (args : Array Value) (own C : String) (index : Nat) (y : MethodName) (bytes : ByteArray) (maxL : Nat) (ret : Option FieldType) (hh : List (Nat × Nat × Nat × Nat)) (ws : List Cond) (rm : Room) (mc ms n : Nat) : Prop :=
  (rm.cells = mc ∧ rm.slots = ms ∧ rm.frames + 1 ≤ R.frames ∧ 8 + (maxL + 11) + rm.locals ≤ R.locals ∧ (∀ w ∈ ws, ∀ (a' : Array Value) (U : State), s.WarmedH U.vm → w.before a' U = true) ∧ Cond.codeWith y bytes maxL ret hh ∈ ws) ∧
  (Cond.codeWith y bytes maxL ret hh).before args s = true ∧ (Cond.initialized y.cls).before args s = true ∧ (y.cls ≠ "java/lang/invoke/MethodHandle" ∧ y.cls ≠ "java/lang/invoke/VarHandle") ∧
  (∀ sig, parseMethodDescriptor y.desc = some sig → n = sig.parameters.length) ∧ (Cond.methodLink own index y).before args s = true ∧ (Cond.instanceMethod y).before args s = true ∧ (Cond.selects C y y).before args s = true
theorem vx_cwVW {own C : String} {index maxL mc ms : Nat} {y : MethodName} {bytes : ByteArray} {ret : Option FieldType} {hh : List (Nat × Nat × Nat × Nat)} {Ts ws ws' : List Cond} {rm : Room} (n : Nat) (ht : ∀ w ∈ Ts, w.before args s = true) (hT : GoodIn Ts (wsV own index C y ws)) (hw : ws = Cond.codeWith y bytes maxL ret hh :: ws') (hrc : rm.cells = mc) (hrs : rm.slots = ms)
    (hd : y.cls = C ∧ y.cls ≠ "java/lang/invoke/MethodHandle" ∧ y.cls ≠ "java/lang/invoke/VarHandle" ∧ (parseMethodDescriptor y.desc).map (fun d => d.parameters.length) = some n) (hR : rm.frames + 1 ≤ R.frames ∧ 8 + (maxL + 11) + rm.locals ≤ R.locals) :
    vx_CVW R s args own C index y bytes maxL ret hh ws rm mc ms n := by
  obtain ⟨hC, hd⟩ := hd
  subst hC
  have ok : ∀ w ∈ wsV own index y.cls y ws, w.before args s = true := fun w h => ht w (hT w h).1
  have hG : GoodIn Ts ws := fun w h => hT w (by unfold wsV; exact List.mem_append_right _ h)
  have hc : Cond.codeWith y bytes maxL ret hh ∈ ws := by rw [hw]; exact List.mem_cons_self
  refine ⟨⟨hrc, hrs, hR.1, hR.2, pay_in ht hG, hc⟩, ht _ (hG _ hc).1, ok _ (by simp [wsV]), ⟨hd.1, hd.2.1⟩, fun sig h => ?_, ok _ (by simp [wsV]), ok _ (by simp [wsV]), ok _ (by simp [wsV])⟩
  have h2 := hd.2.2
  rw [h] at h2
  exact (Option.some.inj h2).symm
theorem vx_runVW {y : MethodName} {bytes cc : ByteArray} {maxL nL mc ms n index : Nat} {ret : Option FieldType} {hh : List (Nat × Nat × Nat × Nat)} {ws : List Cond} {rm : Room} {Pc : Array Value → State → Prop} {Qc : Array Value → State → Outcome → State → Prop} {free : Addr → Prop} {Ts : List Cond} {own C : String} {b : Addr} {As rest : List Value} {g : JFrame}
    (S : CallFix p m c cc nL s args Ts own) (hM : Met l y ws rm Pc Qc mc ms free) (cw : vx_CVW R s args own C index y bytes maxL ret hh ws rm mc ms n) (hp : PreV s H C b Pc As)
    (hg : g.method = m) (hn : As.length = n) (hsize : g.locals.size = nL) (hstack : g.stack = As.reverse ++ .ref b :: rest) (hW : 2 * g.monitorRoom + (rest.map fun v => v.category).sum ≤ 8) (hdg : decode cc g.pc = .ok (.invokevirtual index, 3)) (hf : cells + mc ≤ R.cells ∧ slots + ms ≤ R.slots) :
    va_Run p l e R s m args below meth c H locs cells slots mc ms g rest (Qc (Value.ref b :: As).toArray) free := by
  obtain ⟨⟨hrc, hrs, hfr, hlo, hws, hcw⟩, hcode, hini, hy, hlen, hl, hin, hse⟩ := cw
  have hK : Back l R p e below s args y 3 8 (PreOf R mc ms Pc) (PostOf Qc mc ms free) := va_backW (hh := hh) (bytes := bytes) (maxL := maxL) (ret := ret) hM hp.1 hrc hrs hfr hlo hws hcw (fun a' U hW => word_at hW (Or.inl (by first | rfl | simp [Cond.onTables, Cond.keeps, Cond.steady])) hini)
  obtain ⟨hx, hb, hml, ho, -⟩ := S
  obtain ⟨-, ⟨cellB, hcB, hoB, hclB⟩, hPc⟩ := hp
  intro T hT X
  obtain ⟨v, vm₁, ⟨U', l2, c2, s2⟩, hW₁, X', ⟨g', mk, t, L, e1, e2, hq, h1, hL, h2, h3⟩, st⟩ := vx_callVW X hx (C := C) (hh := hh) (bytes := bytes) (maxL := maxL) (ret := ret) ho hl hin hse hcode hy hK (by rw [hT]; exact hcB) hoB hclB hg (hsize.trans hml.symm) (argsL := As) (rest := rest) (fun sig h => hn.trans (hlen sig h)) hstack hW (by rw [hb]; exact hdg)
    (fun vm₁ hW₁ => ⟨hf.1, hf.2, hPc (T.setVm vm₁) hT hW₁⟩)
  dsimp only [Pt.U, Pt.locs, Pt.cells, Pt.slots] at X' e1 e2 h1 h2 h3 st
  subst h1; subst h2; subst h3
  exact ⟨v, (T.setVm vm₁).calling g' mk (Value.ref b :: As).toArray, t, U', L, hT, X', hL, e1, e2, hq, st⟩
section
variable {y : MethodName} {bytes cc : ByteArray} {maxL nL mc ms n index : Nat} {ret : Option FieldType} {ws : List Cond} {rm : Room} {Pc : Array Value → State → Prop} {Qc : Array Value → State → Outcome → State → Prop} {XC : String → State → State → Prop} {free : Addr → Prop} {Ts : List Cond} {own C : String} {b : Addr} {As rest : List Value} {g : JFrame}
theorem vx_runVX {hh : List (Nat × Nat × Nat × Nat)} (S : CallFix p m c cc nL s args Ts own) (hM : vx_Met l y ws rm Pc Qc XC mc ms free) (cw : vx_CVW R s args own C index y bytes maxL ret hh ws rm mc ms n) (hp : PreV s H C b Pc As)
    (hg : g.method = m) (hn : As.length = n) (hsize : g.locals.size = nL) (hstack : g.stack = As.reverse ++ .ref b :: rest) (hW : 2 * g.monitorRoom + (rest.map fun v => v.category).sum ≤ 8) (hdg : decode cc g.pc = .ok (.invokevirtual index, 3)) (hf : cells + mc ≤ R.cells ∧ slots + ms ≤ R.slots) :
    vx_Run p l e R s m args below meth c H locs cells slots mc ms g rest (Qc (Value.ref b :: As).toArray) XC free := by
  obtain ⟨⟨hrc, hrs, hfr, hlo, hws, hcw⟩, hcode, hini, hy, hlen, hl, hin, hse⟩ := cw
  have hK : vx_Back l R p e below s args y 3 8 (PreOf R mc ms Pc) (PostOf Qc mc ms free) (vx_Post XC mc ms free) := vx_backW (hh := hh) (bytes := bytes) (maxL := maxL) (ret := ret) hM hp.1 hrc hrs hfr hlo hws hcw (fun a' U hW => word_at hW (Or.inl (by first | rfl | simp [Cond.onTables, Cond.keeps, Cond.steady])) hini)
  obtain ⟨hx, hb, hml, ho, -⟩ := S
  obtain ⟨-, ⟨cellB, hcB, hoB, hclB⟩, hPc⟩ := hp
  intro T hT X
  rcases vx_callVX X hx (C := C) (hh := hh) (bytes := bytes) (maxL := maxL) (ret := ret) ho hl hin hse hcode hy hK (by rw [hT]; exact hcB) hoB hclB hg (hsize.trans hml.symm) (argsL := As) (rest := rest) (fun sig h => hn.trans (hlen sig h)) hstack hW (by rw [hb]; exact hdg)
    (fun vm₁ hW₁ => ⟨hf.1, hf.2, hPc (T.setVm vm₁) hT hW₁⟩) with ⟨v, vm₁, ⟨U', l2, c2, s2⟩, hW₁, X', ⟨g', mk, t, L, e1, e2, hq, h1, hL, h2, h3⟩, st⟩ | ⟨q, vm₁, ⟨U', l2, c2, s2⟩, hW₁, X', ⟨g', mk, t, L, E, ce, e1, e2, hq, hce, hcv, hcl, h1, hL, h2, h3⟩, st⟩
  · dsimp only [Pt.U, Pt.locs, Pt.cells, Pt.slots] at X' e1 e2 h1 h2 h3 st
    subst h1; subst h2; subst h3
    exact Or.inl ⟨v, (T.setVm vm₁).calling g' mk (Value.ref b :: As).toArray, t, U', L, hT, X', hL, e1, e2, hq, st⟩
  · dsimp only [Pt.U, Pt.locs, Pt.cells, Pt.slots] at X' e1 e2 h1 h2 h3 st hcl
    subst h1; subst h2; subst h3
    exact Or.inr ⟨q, (T.setVm vm₁).calling g' mk (Value.ref b :: As).toArray, t, U', L, E, ce, hT, X', hL, e1, e2, hq, hce, hcv, vx_cls hW₁ hcl, st⟩
theorem vx_runSX {hh : List (Nat × Nat × Nat × Nat)} (S : CallFix p m c cc nL s args Ts own) (hM : vx_Met l y ws rm Pc Qc XC mc ms free) (cw : vx_CSW R s args own index y bytes maxL ret hh ws rm mc ms n) (hp : PreS s H Pc As)
    (hg : g.method = m) (hn : As.length = n) (hsize : g.locals.size = nL) (hstack : g.stack = As.reverse ++ rest) (hW : 2 * g.monitorRoom + (rest.map fun v => v.category).sum ≤ 8) (hdg : decode cc g.pc = .ok (.invokestatic index, 3)) (hf : cells + mc ≤ R.cells ∧ slots + ms ≤ R.slots) :
    vx_Run p l e R s m args below meth c H locs cells slots mc ms g rest (Qc As.toArray) XC free := by
  obtain ⟨⟨hrc, hrs, hfr, hlo, hws, hcw⟩, hcode, hini, hy, hlen, hl, hstt⟩ := cw
  have hK : vx_Back l R p e below s args y 3 8 (PreOf R mc ms Pc) (PostOf Qc mc ms free) (vx_Post XC mc ms free) := vx_backW (hh := hh) (bytes := bytes) (maxL := maxL) (ret := ret) hM hp.1 hrc hrs hfr hlo hws hcw (fun a' U hW => word_at hW (Or.inl (by first | rfl | simp [Cond.onTables, Cond.keeps, Cond.steady])) hini)
  obtain ⟨hx, hb, hml, ho, -⟩ := S
  intro T hT X
  rcases vx_callSX X hx (hh := hh) (bytes := bytes) (maxL := maxL) (ret := ret) ho hl hstt hini hcode hy hK hg (hsize.trans hml.symm) (argsL := As) (rest := rest) (fun sig h => hn.trans (hlen sig h)) hstack hW (by rw [hb]; exact hdg)
    (fun vm₁ hW₁ => ⟨hf.1, hf.2, hp.2 (T.setVm vm₁) hT hW₁⟩) with ⟨v, vm₁, ⟨U', l2, c2, s2⟩, hW₁, X', ⟨g', mk, t, L, e1, e2, hq, h1, hL, h2, h3⟩, st⟩ | ⟨q, vm₁, ⟨U', l2, c2, s2⟩, hW₁, X', ⟨g', mk, t, L, E, ce, e1, e2, hq, hce, hcv, hcl, h1, hL, h2, h3⟩, st⟩
  · dsimp only [Pt.U, Pt.locs, Pt.cells, Pt.slots] at X' e1 e2 h1 h2 h3 st
    subst h1; subst h2; subst h3
    exact Or.inl ⟨v, (T.setVm vm₁).calling g' mk As.toArray, t, U', L, hT, X', hL, e1, e2, hq, st⟩
  · dsimp only [Pt.U, Pt.locs, Pt.cells, Pt.slots] at X' e1 e2 h1 h2 h3 st hcl
    subst h1; subst h2; subst h3
    exact Or.inr ⟨q, (T.setVm vm₁).calling g' mk As.toArray, t, U', L, E, ce, hT, X', hL, e1, e2, hq, hce, hcv, vx_cls hW₁ hcl, st⟩
end
end VXH
theorem vx_ofWH {l : Launch} {y : MethodName} {ws ws' : List Cond} {rm : Room} {Pc : Array Value → State → Prop} {Qc : Array Value → State → Outcome → State → Prop} {XC : String → State → State → Prop} {mc ms : Nat} {free : Addr → Prop} {cc : ByteArray} {maxL : Nat} {ret : Option FieldType} {hh : List (Nat × Nat × Nat × Nat)}
    (hy : plainName y.cls = true) (hw : ws = Cond.codeWith y cc maxL ret hh :: ws')
    (body : ∀ p e s m args below meth c s₁, BodyLoose p l y (headSpec ws rm) cc maxL ret e s m args below meth c s₁ → c.maxLocals = maxL → Pc args s →
      W p l e (headSpec ws rm).room s m args below meth c s.heap [] 0 0 (vx_MQ below Qc XC args s mc ms free) (entryFrame m args maxL)) : vx_Met l y ws rm Pc Qc XC mc ms free := by
  refine MetFree.of_bodyS (code := cc) (maxLocals := maxL) (ret := ret) hy ?_ ?_
  · intro args s m h hn
    obtain ⟨m9, meth, c, hn9, h1, h2, h3, h4, -, h5, h6, -⟩ := Cond.codeWith_spec (atoms_spec (ws := ws) h _ (by rw [hw]; exact List.mem_cons_self))
    cases hn.symm.trans hn9
    exact ⟨meth, c, h1, h2, h3, h4, h5, h6⟩
  · intro p e s m args below meth c s₁ B hml hP _
    have hh0 : s₁.heap = s.heap := by rw [B.state]; rfl
    obtain ⟨t, a1, o, b1, b2, b3⟩ := body p e s m args below meth c s₁ B hml hP s₁ hh0 (Stand.of_body B)
    exact ⟨t, o, a1, b1, b2, b3⟩
/-! ===== END ===== -/
end
section
/-! names: kinds of objects, their fields, methods; the words of the tables, each by its place -/
def T_Ta : u_T := fun k => match k with
  | 0 => ("WeightOrder$Table", "keys", "[J", true)
  | 1 => ("WeightOrder$Table", "values", "[I", true)
  | _ => ("WeightOrder$Table", "size", "I", false)
def t_Ta : Nat → FieldType := fun k => match k with
  | 0 => .array .long
  | 1 => .array .int
  | _ => .int
theorem n_Ta : ∀ a, a < 3 → ∀ b, b < 3 → a ≠ b → (T_Ta a).2.1 ≠ (T_Ta b).2.1 := by decide +kernel
theorem t_Ta_ok : ∀ k, k < 3 → parseFieldDescriptor (T_Ta k).2.2.1 = some (t_Ta k) := by decide +kernel
def T_Li : u_T := fun k => match k with
  | 0 => ("WeightOrder$Line", "packed", "[J", true)
  | 1 => ("WeightOrder$Line", "variable", "[Z", true)
  | _ => ("WeightOrder$Line", "size", "I", false)
def t_Li : Nat → FieldType := fun k => match k with
  | 0 => .array .long
  | 1 => .array .boolean
  | _ => .int
theorem n_Li : ∀ a, a < 3 → ∀ b, b < 3 → a ≠ b → (T_Li a).2.1 ≠ (T_Li b).2.1 := by decide +kernel
theorem t_Li_ok : ∀ k, k < 3 → parseFieldDescriptor (T_Li k).2.2.1 = some (t_Li k) := by decide +kernel
def T_Ls : u_T := fun k => match k with
  | 0 => ("WeightOrder$Lines", "numbers", "LWeightOrder$Table;", true)
  | 1 => ("WeightOrder$Lines", "made", "[LWeightOrder$Line;", true)
  | 2 => ("WeightOrder$Lines", "size", "I", false)
  | _ => ("WeightOrder$Lines", "toldLast", "LWeightOrder$Line;", false)
def t_Ls : Nat → FieldType := fun k => match k with
  | 0 => .object "WeightOrder$Table"
  | 1 => .array (.object "WeightOrder$Line")
  | 2 => .int
  | _ => .object "WeightOrder$Line"
theorem n_Ls : ∀ a, a < 4 → ∀ b, b < 4 → a ≠ b → (T_Ls a).2.1 ≠ (T_Ls b).2.1 := by decide +kernel
theorem t_Ls_ok : ∀ k, k < 4 → parseFieldDescriptor (T_Ls k).2.2.1 = some (t_Ls k) := by decide +kernel
def T_Ro : u_T := fun k => match k with
  | 0 => ("WeightOrder$Row", "points", "[I", true)
  | _ => ("WeightOrder$Row", "size", "I", false)
def t_Ro : Nat → FieldType := fun k => match k with
  | 0 => .array .int
  | _ => .int
theorem n_Ro : ∀ a, a < 2 → ∀ b, b < 2 → a ≠ b → (T_Ro a).2.1 ≠ (T_Ro b).2.1 := by decide +kernel
theorem t_Ro_ok : ∀ k, k < 2 → parseFieldDescriptor (T_Ro k).2.2.1 = some (t_Ro k) := by decide +kernel
def T_El : u_T := fun k => match k with
  | 0 => ("WeightOrder$Elements", "packed", "[J", true)
  | 1 => ("WeightOrder$Elements", "size", "I", false)
  | 2 => ("WeightOrder$Elements", "shifted", "Z", false)
  | _ => ("WeightOrder$Elements", "behindVariable", "Z", false)
def t_El : Nat → FieldType := fun k => match k with
  | 0 => .array .long
  | 1 => .int
  | 2 => .boolean
  | _ => .boolean
theorem n_El : ∀ a, a < 4 → ∀ b, b < 4 → a ≠ b → (T_El a).2.1 ≠ (T_El b).2.1 := by decide +kernel
theorem t_El_ok : ∀ k, k < 4 → parseFieldDescriptor (T_El k).2.2.1 = some (t_El k) := by decide +kernel
def T_Fi : u_T := fun k => match k with
  | 0 => ("WeightOrder$Finder", "classes", "LWeightOrder$Table;", true)
  | 1 => ("WeightOrder$Finder", "lines", "LWeightOrder$Lines;", true)
  | 2 => ("WeightOrder$Finder", "points", "[I", true)
  | 3 => ("WeightOrder$Finder", "pointClasses", "[I", true)
  | 4 => ("WeightOrder$Finder", "start", "I", false)
  | 5 => ("WeightOrder$Finder", "end", "I", false)
  | 6 => ("WeightOrder$Finder", "key", "J", false)
  | 7 => ("WeightOrder$Finder", "length", "I", false)
  | _ => ("WeightOrder$Finder", "line", "LWeightOrder$Line;", false)
def t_Fi : Nat → FieldType := fun k => match k with
  | 0 => .object "WeightOrder$Table"
  | 1 => .object "WeightOrder$Lines"
  | 2 => .array .int
  | 3 => .array .int
  | 4 => .int
  | 5 => .int
  | 6 => .long
  | 7 => .int
  | _ => .object "WeightOrder$Line"
theorem n_Fi : ∀ a, a < 9 → ∀ b, b < 9 → a ≠ b → (T_Fi a).2.1 ≠ (T_Fi b).2.1 := by decide +kernel
theorem t_Fi_ok : ∀ k, k < 9 → parseFieldDescriptor (T_Fi k).2.2.1 = some (t_Fi k) := by decide +kernel
def T_Wo : u_T := fun k => match k with
  | 0 => ("WeightOrder", "classes", "LWeightOrder$Table;", true)
  | 1 => ("WeightOrder", "lines", "LWeightOrder$Lines;", true)
  | 2 => ("WeightOrder", "rows", "[LWeightOrder$Row;", true)
  | 3 => ("WeightOrder", "finder", "LWeightOrder$Finder;", true)
  | 4 => ("WeightOrder", "elements", "LWeightOrder$Elements;", true)
  | _ => ("WeightOrder", "otherElements", "LWeightOrder$Elements;", true)
def t_Wo : Nat → FieldType := fun k => match k with
  | 0 => .object "WeightOrder$Table"
  | 1 => .object "WeightOrder$Lines"
  | 2 => .array (.object "WeightOrder$Row")
  | 3 => .object "WeightOrder$Finder"
  | 4 => .object "WeightOrder$Elements"
  | _ => .object "WeightOrder$Elements"
theorem n_Wo : ∀ a, a < 6 → ∀ b, b < 6 → a ≠ b → (T_Wo a).2.1 ≠ (T_Wo b).2.1 := by decide +kernel
theorem t_Wo_ok : ∀ k, k < 6 → parseFieldDescriptor (T_Wo k).2.2.1 = some (t_Wo k) := by decide +kernel
def T_Mo : u_T := fun k => match k with
  | 0 => ("WeightOrderModel", "failed", "I", false)
  | 1 => ("WeightOrderModel", "points", "[I", true)
  | 2 => ("WeightOrderModel", "classes", "[I", true)
  | 3 => ("WeightOrderModel", "classed", "I", false)
  | 4 => ("WeightOrderModel", "lengths", "[I", true)
  | 5 => ("WeightOrderModel", "rows", "[I", true)
  | 6 => ("WeightOrderModel", "counts", "[I", true)
  | 7 => ("WeightOrderModel", "elements", "[I", true)
  | 8 => ("WeightOrderModel", "lines", "I", false)
  | 9 => ("WeightOrderModel", "told", "I", false)
  | 10 => ("WeightOrderModel", "texts", "[[I", true)
  | 11 => ("WeightOrderModel", "sizes", "[I", true)
  | 12 => ("WeightOrderModel", "left", "[I", true)
  | 13 => ("WeightOrderModel", "leftSize", "I", false)
  | 14 => ("WeightOrderModel", "found", "[I", true)
  | 15 => ("WeightOrderModel", "foundSize", "I", false)
  | _ => ("WeightOrderModel", "first", "[I", true)
def t_Mo : Nat → FieldType := fun k => match k with
  | 0 => .int
  | 1 => .array .int
  | 2 => .array .int
  | 3 => .int
  | 4 => .array .int
  | 5 => .array .int
  | 6 => .array .int
  | 7 => .array .int
  | 8 => .int
  | 9 => .int
  | 10 => .array (.array .int)
  | 11 => .array .int
  | 12 => .array .int
  | 13 => .int
  | 14 => .array .int
  | 15 => .int
  | _ => .array .int
theorem n_Mo : ∀ a, a < 17 → ∀ b, b < 17 → a ≠ b → (T_Mo a).2.1 ≠ (T_Mo b).2.1 := by decide +kernel
theorem t_Mo_ok : ∀ k, k < 17 → parseFieldDescriptor (T_Mo k).2.2.1 = some (t_Mo k) := by decide +kernel
abbrev cls : List vw_C := [("WeightOrder$Table", T_Ta, 3), ("WeightOrder$Line", T_Li, 3), ("WeightOrder$Lines", T_Ls, 4), ("WeightOrder$Row", T_Ro, 2), ("WeightOrder$Elements", T_El, 4), ("WeightOrder$Finder", T_Fi, 9), ("WeightOrder", T_Wo, 6), ("WeightOrderModel", T_Mo, 17)]
abbrev b_Wo_init : ByteArray := prog_1_method_1_code
abbrev y_Wo_init : MethodName := ⟨"WeightOrder", "<init>", "()V"⟩
abbrev b_Ta_init : ByteArray := prog_7_method_1_code
abbrev y_Ta_init : MethodName := ⟨"WeightOrder$Table", "<init>", "(I)V"⟩
abbrev b_Ls_init : ByteArray := prog_5_method_1_code
abbrev y_Ls_init : MethodName := ⟨"WeightOrder$Lines", "<init>", "()V"⟩
abbrev b_Ro_init : ByteArray := prog_6_method_1_code
abbrev y_Ro_init : MethodName := ⟨"WeightOrder$Row", "<init>", "()V"⟩
abbrev b_Fi_init : ByteArray := prog_3_method_1_code
abbrev y_Fi_init : MethodName := ⟨"WeightOrder$Finder", "<init>", "(LWeightOrder$Table;LWeightOrder$Lines;)V"⟩
abbrev b_El_init : ByteArray := prog_2_method_1_code
abbrev y_El_init : MethodName := ⟨"WeightOrder$Elements", "<init>", "()V"⟩
abbrev b_La_order : ByteArray := method_3_code
abbrev y_La_order : MethodName := ⟨"WeightOrderLaw", "order", "(LWeightOrder;II)I"⟩
abbrev b_Wo_order : ByteArray := prog_1_method_2_code
abbrev y_Wo_order : MethodName := ⟨"WeightOrder", "order", "(II)V"⟩
abbrev b_Wo_isWithin : ByteArray := prog_1_method_10_code
abbrev y_Wo_isWithin : MethodName := ⟨"WeightOrder", "isWithin", "(II)Z"⟩
abbrev b_Ta_put : ByteArray := prog_7_method_3_code
abbrev y_Ta_put : MethodName := ⟨"WeightOrder$Table", "put", "(JI)V"⟩
abbrev b_Ta_placeOf : ByteArray := prog_7_method_5_code
abbrev y_Ta_placeOf : MethodName := ⟨"WeightOrder$Table", "placeOf", "(J)I"⟩
abbrev b_Ta_insert : ByteArray := prog_7_method_4_code
abbrev y_Ta_insert : MethodName := ⟨"WeightOrder$Table", "insert", "(IJI)V"⟩
abbrev b_La_line : ByteArray := method_4_code
abbrev y_La_line : MethodName := ⟨"WeightOrderLaw", "line", "(LWeightOrder;IIII[J)I"⟩
abbrev b_Wo_line : ByteArray := prog_1_method_3_code
abbrev y_Wo_line : MethodName := ⟨"WeightOrder", "line", "(IIII)I"⟩
abbrev b_Wo_arePoints : ByteArray := prog_1_method_11_code
abbrev y_Wo_arePoints : MethodName := ⟨"WeightOrder", "arePoints", "(III)Z"⟩
abbrev b_Wo_keyOf : ByteArray := prog_1_method_12_code
abbrev y_Wo_keyOf : MethodName := ⟨"WeightOrder", "keyOf", "(IIII)J"⟩
abbrev b_Wo_longerKey : ByteArray := prog_1_method_13_code
abbrev y_Wo_longerKey : MethodName := ⟨"WeightOrder", "longerKey", "(JI)J"⟩
abbrev b_Ls_find : ByteArray := prog_5_method_3_code
abbrev y_Ls_find : MethodName := ⟨"WeightOrder$Lines", "find", "(J)LWeightOrder$Line;"⟩
abbrev b_Ta_valueOf : ByteArray := prog_7_method_2_code
abbrev y_Ta_valueOf : MethodName := ⟨"WeightOrder$Table", "valueOf", "(JI)I"⟩
abbrev b_Ls_isFull : ByteArray := prog_5_method_2_code
abbrev y_Ls_isFull : MethodName := ⟨"WeightOrder$Lines", "isFull", "()Z"⟩
abbrev b_Ls_tell : ByteArray := prog_5_method_4_code
abbrev y_Ls_tell : MethodName := ⟨"WeightOrder$Lines", "tell", "(J)V"⟩
abbrev b_Li_init : ByteArray := prog_4_method_1_code
abbrev y_Li_init : MethodName := ⟨"WeightOrder$Line", "<init>", "()V"⟩
abbrev b_La_element : ByteArray := method_5_code
abbrev y_La_element : MethodName := ⟨"WeightOrderLaw", "element", "(LWeightOrder;IIIZ[J)I"⟩
abbrev b_Wo_element : ByteArray := prog_1_method_4_code
abbrev y_Wo_element : MethodName := ⟨"WeightOrder", "element", "(IIIZ)I"⟩
abbrev b_Li_isFull : ByteArray := prog_4_method_2_code
abbrev y_Li_isFull : MethodName := ⟨"WeightOrder$Line", "isFull", "()Z"⟩
abbrev b_Wo_pack : ByteArray := prog_1_method_14_code
abbrev y_Wo_pack : MethodName := ⟨"WeightOrder", "pack", "(III)J"⟩
abbrev b_Li_append : ByteArray := prog_4_method_3_code
abbrev y_Li_append : MethodName := ⟨"WeightOrder$Line", "append", "(JZ)V"⟩
abbrev b_La_add : ByteArray := method_6_code
abbrev y_La_add : MethodName := ⟨"WeightOrderLaw", "add", "(LWeightOrder;II[J)I"⟩
abbrev b_Wo_add : ByteArray := prog_1_method_5_code
abbrev y_Wo_add : MethodName := ⟨"WeightOrder", "add", "(II)I"⟩
abbrev b_Ro_isFull : ByteArray := prog_6_method_2_code
abbrev y_Ro_isFull : MethodName := ⟨"WeightOrder$Row", "isFull", "()Z"⟩
abbrev b_Ro_append : ByteArray := prog_6_method_3_code
abbrev y_Ro_append : MethodName := ⟨"WeightOrder$Row", "append", "(I)V"⟩
abbrev b_La_clear : ByteArray := method_7_code
abbrev y_La_clear : MethodName := ⟨"WeightOrderLaw", "clear", "(LWeightOrder;I[J)I"⟩
abbrev b_Wo_clear : ByteArray := prog_1_method_6_code
abbrev y_Wo_clear : MethodName := ⟨"WeightOrder", "clear", "(I)I"⟩
abbrev b_La_count : ByteArray := method_8_code
abbrev y_La_count : MethodName := ⟨"WeightOrderLaw", "count", "(LWeightOrder;IZ[J)I"⟩
abbrev b_Wo_count : ByteArray := prog_1_method_7_code
abbrev y_Wo_count : MethodName := ⟨"WeightOrder", "count", "(IZ)I"⟩
abbrev b_Fi_findElements : ByteArray := prog_3_method_2_code
abbrev y_Fi_findElements : MethodName := ⟨"WeightOrder$Finder", "findElements", "(LWeightOrder$Row;ZLWeightOrder$Elements;)V"⟩
abbrev b_Fi_load : ByteArray := prog_3_method_3_code
abbrev y_Fi_load : MethodName := ⟨"WeightOrder$Finder", "load", "(LWeightOrder$Row;)V"⟩
abbrev b_El_begin : ByteArray := prog_2_method_2_code
abbrev y_El_begin : MethodName := ⟨"WeightOrder$Elements", "begin", "(Z)V"⟩
abbrev b_Fi_takeNext : ByteArray := prog_3_method_4_code
abbrev y_Fi_takeNext : MethodName := ⟨"WeightOrder$Finder", "takeNext", "(LWeightOrder$Elements;)V"⟩
abbrev b_Fi_seekBeginning : ByteArray := prog_3_method_5_code
abbrev y_Fi_seekBeginning : MethodName := ⟨"WeightOrder$Finder", "seekBeginning", "()V"⟩
abbrev b_Fi_become : ByteArray := prog_3_method_7_code
abbrev y_Fi_become : MethodName := ⟨"WeightOrder$Finder", "become", "(JILWeightOrder$Line;)V"⟩
abbrev b_El_appendImplicit : ByteArray := prog_2_method_5_code
abbrev y_El_appendImplicit : MethodName := ⟨"WeightOrder$Elements", "appendImplicit", "(I)V"⟩
abbrev b_El_append : ByteArray := prog_2_method_3_code
abbrev y_El_append : MethodName := ⟨"WeightOrder$Elements", "append", "(JZ)V"⟩
abbrev b_El_shift : ByteArray := prog_2_method_6_code
abbrev y_El_shift : MethodName := ⟨"WeightOrder$Elements", "shift", "(JZ)J"⟩
abbrev b_Wo_weightOf : ByteArray := prog_1_method_15_code
abbrev y_Wo_weightOf : MethodName := ⟨"WeightOrder", "weightOf", "(JI)I"⟩
abbrev b_Fi_seekBehind : ByteArray := prog_3_method_6_code
abbrev y_Fi_seekBehind : MethodName := ⟨"WeightOrder$Finder", "seekBehind", "()V"⟩
abbrev b_Ma_max : ByteArray := prog_14_method_65_code
abbrev y_Ma_max : MethodName := ⟨"java/lang/Math", "max", "(II)I"⟩
abbrev b_Fi_closeGap : ByteArray := prog_3_method_8_code
abbrev y_Fi_closeGap : MethodName := ⟨"WeightOrder$Finder", "closeGap", "(I)V"⟩
abbrev b_El_appendLine : ByteArray := prog_2_method_4_code
abbrev y_El_appendLine : MethodName := ⟨"WeightOrder$Elements", "appendLine", "(LWeightOrder$Line;)V"⟩
abbrev b_La_weight : ByteArray := method_9_code
abbrev y_La_weight : MethodName := ⟨"WeightOrderLaw", "weight", "(LWeightOrder;IZII[J)I"⟩
abbrev b_Wo_weight : ByteArray := prog_1_method_8_code
abbrev y_Wo_weight : MethodName := ⟨"WeightOrder", "weight", "(IZII)I"⟩
abbrev b_La_compare : ByteArray := method_10_code
abbrev y_La_compare : MethodName := ⟨"WeightOrderLaw", "compare", "(LWeightOrder;IIIZ[J)I"⟩
abbrev b_Wo_compare : ByteArray := prog_1_method_9_code
abbrev y_Wo_compare : MethodName := ⟨"WeightOrder", "compare", "(IIIZ)I"⟩
abbrev b_Wo_levelOrder : ByteArray := prog_1_method_16_code
abbrev y_Wo_levelOrder : MethodName := ⟨"WeightOrder", "levelOrder", "(LWeightOrder$Elements;LWeightOrder$Elements;I)I"⟩
abbrev b_El_nextWithWeight : ByteArray := prog_2_method_7_code
abbrev y_El_nextWithWeight : MethodName := ⟨"WeightOrder$Elements", "nextWithWeight", "(II)I"⟩
abbrev b_In_compare : ByteArray := prog_13_method_40_code
abbrev y_In_compare : MethodName := ⟨"java/lang/Integer", "compare", "(II)I"⟩
abbrev b_Mo_init : ByteArray := prog_9_method_1_code
abbrev y_Mo_init : MethodName := ⟨"WeightOrderModel", "<init>", "()V"⟩
abbrev b_Mo_thrown : ByteArray := prog_9_method_2_code
abbrev y_Mo_thrown : MethodName := ⟨"WeightOrderModel", "thrown", "()I"⟩
abbrev b_Mo_order : ByteArray := prog_9_method_5_code
abbrev y_Mo_order : MethodName := ⟨"WeightOrderModel", "order", "(II)V"⟩
abbrev b_Mo_out : ByteArray := prog_9_method_4_code
abbrev y_Mo_out : MethodName := ⟨"WeightOrderModel", "out", "(I)Z"⟩
abbrev b_Mo_line : ByteArray := prog_9_method_8_code
abbrev y_Mo_line : MethodName := ⟨"WeightOrderModel", "line", "(IIII)I"⟩
abbrev b_Mo_fail : ByteArray := prog_9_method_3_code
abbrev y_Mo_fail : MethodName := ⟨"WeightOrderModel", "fail", "(I)I"⟩
abbrev b_Mo_lineOf : ByteArray := prog_9_method_7_code
abbrev y_Mo_lineOf : MethodName := ⟨"WeightOrderModel", "lineOf", "(IIII)I"⟩
abbrev b_Mo_element : ByteArray := prog_9_method_9_code
abbrev y_Mo_element : MethodName := ⟨"WeightOrderModel", "element", "(IIIZ)I"⟩
abbrev b_Mo_add : ByteArray := prog_9_method_10_code
abbrev y_Mo_add : MethodName := ⟨"WeightOrderModel", "add", "(II)I"⟩
abbrev b_Mo_clear : ByteArray := prog_9_method_11_code
abbrev y_Mo_clear : MethodName := ⟨"WeightOrderModel", "clear", "(I)I"⟩
abbrev b_Mo_count : ByteArray := prog_9_method_15_code
abbrev y_Mo_count : MethodName := ⟨"WeightOrderModel", "count", "(IZ)I"⟩
abbrev b_Mo_take : ByteArray := prog_9_method_14_code
abbrev y_Mo_take : MethodName := ⟨"WeightOrderModel", "take", "(IZ)V"⟩
abbrev b_Mo_give : ByteArray := prog_9_method_13_code
abbrev y_Mo_give : MethodName := ⟨"WeightOrderModel", "give", "(IIII)V"⟩
abbrev b_Mo_drop : ByteArray := prog_9_method_12_code
abbrev y_Mo_drop : MethodName := ⟨"WeightOrderModel", "drop", "(II)V"⟩
abbrev b_Mo_classOf : ByteArray := prog_9_method_6_code
abbrev y_Mo_classOf : MethodName := ⟨"WeightOrderModel", "classOf", "(I)I"⟩
abbrev b_Mo_weight : ByteArray := prog_9_method_16_code
abbrev y_Mo_weight : MethodName := ⟨"WeightOrderModel", "weight", "(IZII)I"⟩
abbrev b_Mo_compare : ByteArray := prog_9_method_17_code
abbrev y_Mo_compare : MethodName := ⟨"WeightOrderModel", "compare", "(IIIZ)I"⟩
def gwords : List Cond := lw_tbl.filter goodWord
def nestWord : Cond → Bool
  | .fieldLinkNest .. => true
  | .methodLinkNest .. => true
  | .castable .. => true
  | .declares .. => true
  | .arrayOver (.object _) => true
  | _ => false
def nwords : List Cond := tables_1.filter nestWord
theorem gw_in1 {n : Nat} {w : Cond} (h : tables_1_1[n]? = some w) (g : goodWord w = true) : w ∈ gwords := List.mem_filter.mpr ⟨List.mem_append_right _ (show w ∈ tables_1_1 ++ (tables_1_2 ++ tables_1_3) from List.mem_append_left _ (List.mem_of_getElem? h)), g⟩
theorem nw_in1 {n : Nat} {w : Cond} (h : tables_1_1[n]? = some w) (g : nestWord w = true) : w ∈ nwords := List.mem_filter.mpr ⟨(show w ∈ tables_1_1 ++ (tables_1_2 ++ tables_1_3) from List.mem_append_left _ (List.mem_of_getElem? h)), g⟩
theorem gw_in2 {n : Nat} {w : Cond} (h : tables_1_2[n]? = some w) (g : goodWord w = true) : w ∈ gwords := List.mem_filter.mpr ⟨List.mem_append_right _ (show w ∈ tables_1_1 ++ (tables_1_2 ++ tables_1_3) from List.mem_append_right _ (List.mem_append_left _ (List.mem_of_getElem? h))), g⟩
theorem nw_in2 {n : Nat} {w : Cond} (h : tables_1_2[n]? = some w) (g : nestWord w = true) : w ∈ nwords := List.mem_filter.mpr ⟨(show w ∈ tables_1_1 ++ (tables_1_2 ++ tables_1_3) from List.mem_append_right _ (List.mem_append_left _ (List.mem_of_getElem? h))), g⟩
theorem gw_in3 {n : Nat} {w : Cond} (h : tables_1_3[n]? = some w) (g : goodWord w = true) : w ∈ gwords := List.mem_filter.mpr ⟨List.mem_append_right _ (show w ∈ tables_1_1 ++ (tables_1_2 ++ tables_1_3) from List.mem_append_right _ (List.mem_append_right _ (List.mem_of_getElem? h))), g⟩
theorem nw_in3 {n : Nat} {w : Cond} (h : tables_1_3[n]? = some w) (g : nestWord w = true) : w ∈ nwords := List.mem_filter.mpr ⟨(show w ∈ tables_1_1 ++ (tables_1_2 ++ tables_1_3) from List.mem_append_right _ (List.mem_append_right _ (List.mem_of_getElem? h))), g⟩
theorem gs_in {n : Nat} {w : Cond} (h : (k2_sels lw_privs)[n]? = some w) (g : goodWord w = true) : w ∈ gwords := List.mem_filter.mpr ⟨List.mem_append_left _ (List.mem_of_getElem? h), g⟩
theorem k_0 : (Jvm.Cond.initialized "WeightOrderLaw") ∈ gwords := gw_in1 (n := 0) rfl rfl
theorem k_1 : (Jvm.Cond.initialized "WeightOrder") ∈ gwords := gw_in1 (n := 1) rfl rfl
theorem k_2 : (Jvm.Cond.initialized "WeightOrder$Table") ∈ gwords := gw_in1 (n := 2) rfl rfl
theorem k_3 : (Jvm.Cond.initialized "WeightOrder$Lines") ∈ gwords := gw_in1 (n := 3) rfl rfl
theorem k_4 : (Jvm.Cond.initialized "WeightOrder$Row") ∈ gwords := gw_in1 (n := 4) rfl rfl
theorem k_5 : (Jvm.Cond.initialized "WeightOrder$Finder") ∈ gwords := gw_in1 (n := 5) rfl rfl
theorem k_6 : (Jvm.Cond.initialized "WeightOrder$Elements") ∈ gwords := gw_in1 (n := 6) rfl rfl
theorem k_7 : (Jvm.Cond.initialized "WeightOrderModel") ∈ gwords := gw_in1 (n := 7) rfl rfl
theorem k_8 : (Jvm.Cond.initialized "java/lang/Throwable") ∈ gwords := gw_in1 (n := 8) rfl rfl
theorem k_9 : (Jvm.Cond.initialized "java/lang/Exception") ∈ gwords := gw_in1 (n := 9) rfl rfl
theorem k_10 : (Jvm.Cond.initialized "java/lang/RuntimeException") ∈ gwords := gw_in1 (n := 10) rfl rfl
theorem k_11 : (Jvm.Cond.initialized "java/lang/IllegalArgumentException") ∈ gwords := gw_in1 (n := 11) rfl rfl
theorem k_12 : (Jvm.Cond.initialized "java/lang/System") ∈ gwords := gw_in1 (n := 12) rfl rfl
theorem k_13 : (Jvm.Cond.initialized "java/lang/IndexOutOfBoundsException") ∈ gwords := gw_in1 (n := 13) rfl rfl
theorem k_14 : (Jvm.Cond.initialized "WeightOrder$Line") ∈ gwords := gw_in1 (n := 14) rfl rfl
theorem k_15 : (Jvm.Cond.initialized "java/lang/Math") ∈ gwords := gw_in1 (n := 15) rfl rfl
theorem k_16 : (Jvm.Cond.initialized "java/lang/Integer") ∈ gwords := gw_in1 (n := 16) rfl rfl
theorem k_17 : (Jvm.Cond.classLink "WeightOrderLaw" (8 : Nat) "WeightOrder") ∈ gwords := gw_in1 (n := 17) rfl rfl
theorem k_18 : (Jvm.Cond.instantiable "WeightOrder" (6 : Nat)) ∈ gwords := gw_in1 (n := 18) rfl rfl
theorem k_19 : (Jvm.Cond.methodLink "WeightOrderLaw" (44 : Nat) ({ cls := "WeightOrder", name := "<init>", desc := "()V" } : Jvm.MethodName)) ∈ gwords := gw_in1 (n := 19) rfl rfl
theorem k_20 : (Jvm.Cond.instanceMethod ({ cls := "WeightOrder", name := "<init>", desc := "()V" } : Jvm.MethodName)) ∈ gwords := gw_in1 (n := 20) rfl rfl
theorem k_21 : (Jvm.Cond.code ({ cls := "WeightOrder", name := "<init>", desc := "()V" } : Jvm.MethodName) prog_1_method_1_code (1 : Nat) (Option.none : Option Jvm.ClassFile.FieldType)) ∈ gwords := gw_in1 (n := 21) rfl rfl
theorem k_22 : (Jvm.Cond.methodLink "WeightOrder" (3 : Nat) ({ cls := "java/lang/Object", name := "<init>", desc := "()V" } : Jvm.MethodName)) ∈ gwords := gw_in1 (n := 22) rfl rfl
theorem k_23 : (Jvm.Cond.instanceMethod ({ cls := "java/lang/Object", name := "<init>", desc := "()V" } : Jvm.MethodName)) ∈ gwords := gw_in1 (n := 23) rfl rfl
theorem k_24 : (Jvm.Cond.code ({ cls := "java/lang/Object", name := "<init>", desc := "()V" } : Jvm.MethodName) object_method_1_code (1 : Nat) (Option.none : Option Jvm.ClassFile.FieldType)) ∈ gwords := gw_in1 (n := 24) rfl rfl
theorem k_25 : (Jvm.Cond.classLink "WeightOrder" (9 : Nat) "WeightOrder$Table") ∈ gwords := gw_in1 (n := 25) rfl rfl
theorem k_26 : (Jvm.Cond.instantiable "WeightOrder$Table" (3 : Nat)) ∈ gwords := gw_in1 (n := 26) rfl rfl
theorem k_27 : (Jvm.Cond.methodLinkNest "WeightOrder" (11 : Nat) ({ cls := "WeightOrder$Table", name := "<init>", desc := "(I)V" } : Jvm.MethodName) "WeightOrder") ∈ nwords := nw_in1 (n := 27) rfl rfl
theorem k_28 : (Jvm.Cond.instanceMethod ({ cls := "WeightOrder$Table", name := "<init>", desc := "(I)V" } : Jvm.MethodName)) ∈ gwords := gw_in1 (n := 28) rfl rfl
theorem k_29 : (Jvm.Cond.code ({ cls := "WeightOrder$Table", name := "<init>", desc := "(I)V" } : Jvm.MethodName) prog_7_method_1_code (2 : Nat) (Option.none : Option Jvm.ClassFile.FieldType)) ∈ gwords := gw_in1 (n := 29) rfl rfl
theorem k_30 : (Jvm.Cond.methodLink "WeightOrder$Table" (1 : Nat) ({ cls := "java/lang/Object", name := "<init>", desc := "()V" } : Jvm.MethodName)) ∈ gwords := gw_in1 (n := 30) rfl rfl
theorem k_31 : (Jvm.Cond.fieldLink "WeightOrder$Table" (7 : Nat) "WeightOrder$Table" "keys" "[J") ∈ gwords := gw_in1 (n := 31) rfl rfl
theorem k_32 : (Jvm.Cond.fieldLink "WeightOrder$Table" (13 : Nat) "WeightOrder$Table" "values" "[I") ∈ gwords := gw_in1 (n := 32) rfl rfl
theorem k_33 : (Jvm.Cond.fieldLink "WeightOrder$Table" (21 : Nat) "WeightOrder$Table" "size" "I") ∈ gwords := gw_in1 (n := 33) rfl rfl
theorem k_34 : (Jvm.Cond.laysFinal "WeightOrder$Table" "WeightOrder$Table" "keys" "[J") ∈ gwords := gw_in1 (n := 34) rfl rfl
theorem k_35 : (Jvm.Cond.soleField "WeightOrder$Table" "keys") ∈ gwords := gw_in1 (n := 35) rfl rfl
theorem k_36 : (Jvm.Cond.laysFinal "WeightOrder$Table" "WeightOrder$Table" "values" "[I") ∈ gwords := gw_in1 (n := 36) rfl rfl
theorem k_37 : (Jvm.Cond.soleField "WeightOrder$Table" "values") ∈ gwords := gw_in1 (n := 37) rfl rfl
theorem k_38 : (Jvm.Cond.lays "WeightOrder$Table" "WeightOrder$Table" "size" "I") ∈ gwords := gw_in1 (n := 38) rfl rfl
theorem k_39 : (Jvm.Cond.soleField "WeightOrder$Table" "size") ∈ gwords := gw_in1 (n := 39) rfl rfl
theorem k_40 : (Jvm.Cond.superclass "WeightOrder$Table" "java/lang/Object") ∈ gwords := gw_in1 (n := 40) rfl rfl
theorem k_41 : (Jvm.Cond.arrayClass Jvm.ClassFile.FieldType.long) ∈ gwords := gw_in1 (n := 41) rfl rfl
theorem k_42 : (Jvm.Cond.arrayClass Jvm.ClassFile.FieldType.int) ∈ gwords := gw_in1 (n := 42) rfl rfl
theorem k_43 : (Jvm.Cond.classLink "WeightOrder" (18 : Nat) "WeightOrder$Lines") ∈ gwords := gw_in1 (n := 43) rfl rfl
theorem k_44 : (Jvm.Cond.instantiable "WeightOrder$Lines" (4 : Nat)) ∈ gwords := gw_in1 (n := 44) rfl rfl
theorem k_45 : (Jvm.Cond.methodLinkNest "WeightOrder" (20 : Nat) ({ cls := "WeightOrder$Lines", name := "<init>", desc := "()V" } : Jvm.MethodName) "WeightOrder") ∈ nwords := nw_in1 (n := 45) rfl rfl
theorem k_46 : (Jvm.Cond.instanceMethod ({ cls := "WeightOrder$Lines", name := "<init>", desc := "()V" } : Jvm.MethodName)) ∈ gwords := gw_in1 (n := 46) rfl rfl
theorem k_47 : (Jvm.Cond.code ({ cls := "WeightOrder$Lines", name := "<init>", desc := "()V" } : Jvm.MethodName) prog_5_method_1_code (1 : Nat) (Option.none : Option Jvm.ClassFile.FieldType)) ∈ gwords := gw_in1 (n := 47) rfl rfl
theorem k_48 : (Jvm.Cond.methodLink "WeightOrder$Lines" (3 : Nat) ({ cls := "java/lang/Object", name := "<init>", desc := "()V" } : Jvm.MethodName)) ∈ gwords := gw_in1 (n := 48) rfl rfl
theorem k_49 : (Jvm.Cond.classLink "WeightOrder$Lines" (9 : Nat) "WeightOrder$Table") ∈ gwords := gw_in1 (n := 49) rfl rfl
theorem k_50 : (Jvm.Cond.methodLinkNest "WeightOrder$Lines" (11 : Nat) ({ cls := "WeightOrder$Table", name := "<init>", desc := "(I)V" } : Jvm.MethodName) "WeightOrder") ∈ nwords := nw_in1 (n := 50) rfl rfl
theorem k_51 : (Jvm.Cond.classLink "WeightOrder$Lines" (20 : Nat) "WeightOrder$Line") ∈ gwords := gw_in1 (n := 51) rfl rfl
theorem k_52 : (Jvm.Cond.arrayOver (Jvm.ClassFile.FieldType.object "WeightOrder$Line")) ∈ nwords := nw_in1 (n := 52) rfl rfl
theorem k_53 : (Jvm.Cond.fieldLink "WeightOrder$Lines" (14 : Nat) "WeightOrder$Lines" "numbers" "LWeightOrder$Table;") ∈ gwords := gw_in1 (n := 53) rfl rfl
theorem k_54 : (Jvm.Cond.fieldLink "WeightOrder$Lines" (22 : Nat) "WeightOrder$Lines" "made" "[LWeightOrder$Line;") ∈ gwords := gw_in1 (n := 54) rfl rfl
theorem k_55 : (Jvm.Cond.fieldLink "WeightOrder$Lines" (26 : Nat) "WeightOrder$Lines" "size" "I") ∈ gwords := gw_in1 (n := 55) rfl rfl
theorem k_56 : (Jvm.Cond.fieldLinkNest "WeightOrder" (86 : Nat) "WeightOrder$Lines" "size" "I" "WeightOrder") ∈ nwords := nw_in1 (n := 56) rfl rfl
theorem k_57 : (Jvm.Cond.fieldLinkNest "WeightOrder" (91 : Nat) "WeightOrder$Lines" "toldLast" "LWeightOrder$Line;" "WeightOrder") ∈ nwords := nw_in1 (n := 57) rfl rfl
theorem k_58 : (Jvm.Cond.fieldLink "WeightOrder$Lines" (44 : Nat) "WeightOrder$Lines" "toldLast" "LWeightOrder$Line;") ∈ gwords := gw_in1 (n := 58) rfl rfl
theorem k_59 : (Jvm.Cond.laysFinal "WeightOrder$Lines" "WeightOrder$Lines" "numbers" "LWeightOrder$Table;") ∈ gwords := gw_in1 (n := 59) rfl rfl
theorem k_60 : (Jvm.Cond.soleField "WeightOrder$Lines" "numbers") ∈ gwords := gw_in1 (n := 60) rfl rfl
theorem k_61 : (Jvm.Cond.laysFinal "WeightOrder$Lines" "WeightOrder$Lines" "made" "[LWeightOrder$Line;") ∈ gwords := gw_in1 (n := 61) rfl rfl
theorem k_62 : (Jvm.Cond.soleField "WeightOrder$Lines" "made") ∈ gwords := gw_in1 (n := 62) rfl rfl
theorem k_63 : (Jvm.Cond.lays "WeightOrder$Lines" "WeightOrder$Lines" "size" "I") ∈ gwords := gw_in1 (n := 63) rfl rfl
theorem k_64 : (Jvm.Cond.soleField "WeightOrder$Lines" "size") ∈ gwords := gw_in1 (n := 64) rfl rfl
theorem k_65 : (Jvm.Cond.lays "WeightOrder$Lines" "WeightOrder$Lines" "toldLast" "LWeightOrder$Line;") ∈ gwords := gw_in1 (n := 65) rfl rfl
theorem k_66 : (Jvm.Cond.soleField "WeightOrder$Lines" "toldLast") ∈ gwords := gw_in1 (n := 66) rfl rfl
theorem k_67 : (Jvm.Cond.superclass "WeightOrder$Lines" "java/lang/Object") ∈ gwords := gw_in1 (n := 67) rfl rfl
theorem k_68 : (Jvm.Cond.classLink "WeightOrder" (25 : Nat) "WeightOrder$Row") ∈ gwords := gw_in1 (n := 68) rfl rfl
theorem k_69 : (Jvm.Cond.arrayOver (Jvm.ClassFile.FieldType.object "WeightOrder$Row")) ∈ nwords := nw_in1 (n := 69) rfl rfl
theorem k_70 : (Jvm.Cond.instantiable "WeightOrder$Row" (2 : Nat)) ∈ gwords := gw_in1 (n := 70) rfl rfl
theorem k_71 : (Jvm.Cond.methodLinkNest "WeightOrder" (27 : Nat) ({ cls := "WeightOrder$Row", name := "<init>", desc := "()V" } : Jvm.MethodName) "WeightOrder") ∈ nwords := nw_in1 (n := 71) rfl rfl
theorem k_72 : (Jvm.Cond.instanceMethod ({ cls := "WeightOrder$Row", name := "<init>", desc := "()V" } : Jvm.MethodName)) ∈ gwords := gw_in1 (n := 72) rfl rfl
theorem k_73 : (Jvm.Cond.code ({ cls := "WeightOrder$Row", name := "<init>", desc := "()V" } : Jvm.MethodName) prog_6_method_1_code (1 : Nat) (Option.none : Option Jvm.ClassFile.FieldType)) ∈ gwords := gw_in1 (n := 73) rfl rfl
theorem k_74 : (Jvm.Cond.methodLink "WeightOrder$Row" (3 : Nat) ({ cls := "java/lang/Object", name := "<init>", desc := "()V" } : Jvm.MethodName)) ∈ gwords := gw_in1 (n := 74) rfl rfl
theorem k_75 : (Jvm.Cond.fieldLink "WeightOrder$Row" (9 : Nat) "WeightOrder$Row" "points" "[I") ∈ gwords := gw_in1 (n := 75) rfl rfl
theorem k_76 : (Jvm.Cond.fieldLinkNest "WeightOrder$Finder" (52 : Nat) "WeightOrder$Row" "points" "[I" "WeightOrder") ∈ nwords := nw_in1 (n := 76) rfl rfl
theorem k_77 : (Jvm.Cond.fieldLink "WeightOrder$Row" (15 : Nat) "WeightOrder$Row" "size" "I") ∈ gwords := gw_in1 (n := 77) rfl rfl
theorem k_78 : (Jvm.Cond.fieldLinkNest "WeightOrder$Finder" (47 : Nat) "WeightOrder$Row" "size" "I" "WeightOrder") ∈ nwords := nw_in1 (n := 78) rfl rfl
theorem k_79 : (Jvm.Cond.fieldLinkNest "WeightOrder" (110 : Nat) "WeightOrder$Row" "size" "I" "WeightOrder") ∈ nwords := nw_in1 (n := 79) rfl rfl
theorem k_80 : (Jvm.Cond.laysFinal "WeightOrder$Row" "WeightOrder$Row" "points" "[I") ∈ gwords := gw_in1 (n := 80) rfl rfl
theorem k_81 : (Jvm.Cond.soleField "WeightOrder$Row" "points") ∈ gwords := gw_in1 (n := 81) rfl rfl
theorem k_82 : (Jvm.Cond.lays "WeightOrder$Row" "WeightOrder$Row" "size" "I") ∈ gwords := gw_in1 (n := 82) rfl rfl
theorem k_83 : (Jvm.Cond.soleField "WeightOrder$Row" "size") ∈ gwords := gw_in1 (n := 83) rfl rfl
theorem k_84 : (Jvm.Cond.superclass "WeightOrder$Row" "java/lang/Object") ∈ gwords := gw_in1 (n := 84) rfl rfl
theorem k_85 : (Jvm.Cond.classLink "WeightOrder" (32 : Nat) "WeightOrder$Finder") ∈ gwords := gw_in1 (n := 85) rfl rfl
theorem k_86 : (Jvm.Cond.instantiable "WeightOrder$Finder" (9 : Nat)) ∈ gwords := gw_in1 (n := 86) rfl rfl
theorem k_87 : (Jvm.Cond.methodLinkNest "WeightOrder" (34 : Nat) ({ cls := "WeightOrder$Finder", name := "<init>", desc := "(LWeightOrder$Table;LWeightOrder$Lines;)V" } : Jvm.MethodName) "WeightOrder") ∈ nwords := nw_in1 (n := 87) rfl rfl
theorem k_88 : (Jvm.Cond.instanceMethod ({ cls := "WeightOrder$Finder", name := "<init>", desc := "(LWeightOrder$Table;LWeightOrder$Lines;)V" } : Jvm.MethodName)) ∈ gwords := gw_in1 (n := 88) rfl rfl
theorem k_89 : (Jvm.Cond.code ({ cls := "WeightOrder$Finder", name := "<init>", desc := "(LWeightOrder$Table;LWeightOrder$Lines;)V" } : Jvm.MethodName) prog_3_method_1_code (3 : Nat) (Option.none : Option Jvm.ClassFile.FieldType)) ∈ gwords := gw_in1 (n := 89) rfl rfl
theorem k_90 : (Jvm.Cond.methodLink "WeightOrder$Finder" (3 : Nat) ({ cls := "java/lang/Object", name := "<init>", desc := "()V" } : Jvm.MethodName)) ∈ gwords := gw_in1 (n := 90) rfl rfl
theorem k_91 : (Jvm.Cond.fieldLink "WeightOrder$Finder" (18 : Nat) "WeightOrder$Finder" "classes" "LWeightOrder$Table;") ∈ gwords := gw_in1 (n := 91) rfl rfl
theorem k_92 : (Jvm.Cond.fieldLink "WeightOrder$Finder" (22 : Nat) "WeightOrder$Finder" "lines" "LWeightOrder$Lines;") ∈ gwords := gw_in1 (n := 92) rfl rfl
theorem k_93 : (Jvm.Cond.fieldLink "WeightOrder$Finder" (9 : Nat) "WeightOrder$Finder" "points" "[I") ∈ gwords := gw_in1 (n := 93) rfl rfl
theorem k_94 : (Jvm.Cond.fieldLink "WeightOrder$Finder" (15 : Nat) "WeightOrder$Finder" "pointClasses" "[I") ∈ gwords := gw_in1 (n := 94) rfl rfl
theorem k_95 : (Jvm.Cond.fieldLink "WeightOrder$Finder" (36 : Nat) "WeightOrder$Finder" "start" "I") ∈ gwords := gw_in1 (n := 95) rfl rfl
theorem k_96 : (Jvm.Cond.fieldLink "WeightOrder$Finder" (40 : Nat) "WeightOrder$Finder" "end" "I") ∈ gwords := gw_in1 (n := 96) rfl rfl
theorem k_97 : (Jvm.Cond.fieldLink "WeightOrder$Finder" (94 : Nat) "WeightOrder$Finder" "key" "J") ∈ gwords := gw_in1 (n := 97) rfl rfl
theorem k_98 : (Jvm.Cond.fieldLink "WeightOrder$Finder" (70 : Nat) "WeightOrder$Finder" "length" "I") ∈ gwords := gw_in1 (n := 98) rfl rfl
theorem k_99 : (Jvm.Cond.fieldLink "WeightOrder$Finder" (62 : Nat) "WeightOrder$Finder" "line" "LWeightOrder$Line;") ∈ gwords := gw_in1 (n := 99) rfl rfl
theorem k_100 : (Jvm.Cond.laysFinal "WeightOrder$Finder" "WeightOrder$Finder" "classes" "LWeightOrder$Table;") ∈ gwords := gw_in1 (n := 100) rfl rfl
theorem k_101 : (Jvm.Cond.soleField "WeightOrder$Finder" "classes") ∈ gwords := gw_in1 (n := 101) rfl rfl
theorem k_102 : (Jvm.Cond.laysFinal "WeightOrder$Finder" "WeightOrder$Finder" "lines" "LWeightOrder$Lines;") ∈ gwords := gw_in1 (n := 102) rfl rfl
theorem k_103 : (Jvm.Cond.soleField "WeightOrder$Finder" "lines") ∈ gwords := gw_in1 (n := 103) rfl rfl
theorem k_104 : (Jvm.Cond.laysFinal "WeightOrder$Finder" "WeightOrder$Finder" "points" "[I") ∈ gwords := gw_in1 (n := 104) rfl rfl
theorem k_105 : (Jvm.Cond.soleField "WeightOrder$Finder" "points") ∈ gwords := gw_in1 (n := 105) rfl rfl
theorem k_106 : (Jvm.Cond.laysFinal "WeightOrder$Finder" "WeightOrder$Finder" "pointClasses" "[I") ∈ gwords := gw_in1 (n := 106) rfl rfl
theorem k_107 : (Jvm.Cond.soleField "WeightOrder$Finder" "pointClasses") ∈ gwords := gw_in1 (n := 107) rfl rfl
theorem k_108 : (Jvm.Cond.lays "WeightOrder$Finder" "WeightOrder$Finder" "start" "I") ∈ gwords := gw_in1 (n := 108) rfl rfl
theorem k_109 : (Jvm.Cond.soleField "WeightOrder$Finder" "start") ∈ gwords := gw_in1 (n := 109) rfl rfl
theorem k_110 : (Jvm.Cond.lays "WeightOrder$Finder" "WeightOrder$Finder" "end" "I") ∈ gwords := gw_in1 (n := 110) rfl rfl
theorem k_111 : (Jvm.Cond.soleField "WeightOrder$Finder" "end") ∈ gwords := gw_in1 (n := 111) rfl rfl
theorem k_112 : (Jvm.Cond.lays "WeightOrder$Finder" "WeightOrder$Finder" "key" "J") ∈ gwords := gw_in1 (n := 112) rfl rfl
theorem k_113 : (Jvm.Cond.soleField "WeightOrder$Finder" "key") ∈ gwords := gw_in1 (n := 113) rfl rfl
theorem k_114 : (Jvm.Cond.lays "WeightOrder$Finder" "WeightOrder$Finder" "length" "I") ∈ gwords := gw_in1 (n := 114) rfl rfl
theorem k_115 : (Jvm.Cond.soleField "WeightOrder$Finder" "length") ∈ gwords := gw_in1 (n := 115) rfl rfl
theorem k_116 : (Jvm.Cond.lays "WeightOrder$Finder" "WeightOrder$Finder" "line" "LWeightOrder$Line;") ∈ gwords := gw_in1 (n := 116) rfl rfl
theorem k_117 : (Jvm.Cond.soleField "WeightOrder$Finder" "line") ∈ gwords := gw_in1 (n := 117) rfl rfl
theorem k_118 : (Jvm.Cond.superclass "WeightOrder$Finder" "java/lang/Object") ∈ gwords := gw_in1 (n := 118) rfl rfl
theorem k_119 : (Jvm.Cond.classLink "WeightOrder" (41 : Nat) "WeightOrder$Elements") ∈ gwords := gw_in1 (n := 119) rfl rfl
theorem k_120 : (Jvm.Cond.instantiable "WeightOrder$Elements" (4 : Nat)) ∈ gwords := gw_in1 (n := 120) rfl rfl
theorem k_121 : (Jvm.Cond.methodLinkNest "WeightOrder" (43 : Nat) ({ cls := "WeightOrder$Elements", name := "<init>", desc := "()V" } : Jvm.MethodName) "WeightOrder") ∈ nwords := nw_in1 (n := 121) rfl rfl
theorem k_122 : (Jvm.Cond.instanceMethod ({ cls := "WeightOrder$Elements", name := "<init>", desc := "()V" } : Jvm.MethodName)) ∈ gwords := gw_in1 (n := 122) rfl rfl
theorem k_123 : (Jvm.Cond.code ({ cls := "WeightOrder$Elements", name := "<init>", desc := "()V" } : Jvm.MethodName) prog_2_method_1_code (1 : Nat) (Option.none : Option Jvm.ClassFile.FieldType)) ∈ gwords := gw_in1 (n := 123) rfl rfl
theorem k_124 : (Jvm.Cond.methodLink "WeightOrder$Elements" (3 : Nat) ({ cls := "java/lang/Object", name := "<init>", desc := "()V" } : Jvm.MethodName)) ∈ gwords := gw_in1 (n := 124) rfl rfl
theorem k_125 : (Jvm.Cond.fieldLink "WeightOrder$Elements" (9 : Nat) "WeightOrder$Elements" "packed" "[J") ∈ gwords := gw_in1 (n := 125) rfl rfl
theorem k_126 : (Jvm.Cond.fieldLinkNest "WeightOrder" (116 : Nat) "WeightOrder$Elements" "packed" "[J" "WeightOrder") ∈ nwords := nw_in1 (n := 126) rfl rfl
theorem k_127 : (Jvm.Cond.fieldLink "WeightOrder$Elements" (15 : Nat) "WeightOrder$Elements" "size" "I") ∈ gwords := gw_in1 (n := 127) rfl rfl
theorem k_128 : (Jvm.Cond.fieldLinkNest "WeightOrder" (115 : Nat) "WeightOrder$Elements" "size" "I" "WeightOrder") ∈ nwords := nw_in1 (n := 128) rfl rfl
theorem k_129 : (Jvm.Cond.fieldLink "WeightOrder$Elements" (19 : Nat) "WeightOrder$Elements" "shifted" "Z") ∈ gwords := gw_in1 (n := 129) rfl rfl
theorem k_130 : (Jvm.Cond.fieldLink "WeightOrder$Elements" (23 : Nat) "WeightOrder$Elements" "behindVariable" "Z") ∈ gwords := gw_in1 (n := 130) rfl rfl
theorem k_131 : (Jvm.Cond.laysFinal "WeightOrder$Elements" "WeightOrder$Elements" "packed" "[J") ∈ gwords := gw_in1 (n := 131) rfl rfl
theorem k_132 : (Jvm.Cond.soleField "WeightOrder$Elements" "packed") ∈ gwords := gw_in1 (n := 132) rfl rfl
theorem k_133 : (Jvm.Cond.lays "WeightOrder$Elements" "WeightOrder$Elements" "size" "I") ∈ gwords := gw_in1 (n := 133) rfl rfl
theorem k_134 : (Jvm.Cond.soleField "WeightOrder$Elements" "size") ∈ gwords := gw_in1 (n := 134) rfl rfl
theorem k_135 : (Jvm.Cond.lays "WeightOrder$Elements" "WeightOrder$Elements" "shifted" "Z") ∈ gwords := gw_in1 (n := 135) rfl rfl
theorem k_136 : (Jvm.Cond.soleField "WeightOrder$Elements" "shifted") ∈ gwords := gw_in1 (n := 136) rfl rfl
theorem k_137 : (Jvm.Cond.lays "WeightOrder$Elements" "WeightOrder$Elements" "behindVariable" "Z") ∈ gwords := gw_in1 (n := 137) rfl rfl
theorem k_138 : (Jvm.Cond.soleField "WeightOrder$Elements" "behindVariable") ∈ gwords := gw_in1 (n := 138) rfl rfl
theorem k_139 : (Jvm.Cond.superclass "WeightOrder$Elements" "java/lang/Object") ∈ gwords := gw_in1 (n := 139) rfl rfl
theorem k_140 : (Jvm.Cond.fieldLink "WeightOrder" (14 : Nat) "WeightOrder" "classes" "LWeightOrder$Table;") ∈ gwords := gw_in1 (n := 140) rfl rfl
theorem k_141 : (Jvm.Cond.fieldLink "WeightOrder" (21 : Nat) "WeightOrder" "lines" "LWeightOrder$Lines;") ∈ gwords := gw_in1 (n := 141) rfl rfl
theorem k_142 : (Jvm.Cond.fieldLink "WeightOrder" (28 : Nat) "WeightOrder" "rows" "[LWeightOrder$Row;") ∈ gwords := gw_in1 (n := 142) rfl rfl
theorem k_143 : (Jvm.Cond.fieldLink "WeightOrder" (37 : Nat) "WeightOrder" "finder" "LWeightOrder$Finder;") ∈ gwords := gw_in1 (n := 143) rfl rfl
theorem k_144 : (Jvm.Cond.fieldLink "WeightOrder" (44 : Nat) "WeightOrder" "elements" "LWeightOrder$Elements;") ∈ gwords := gw_in1 (n := 144) rfl rfl
theorem k_145 : (Jvm.Cond.fieldLink "WeightOrder" (48 : Nat) "WeightOrder" "otherElements" "LWeightOrder$Elements;") ∈ gwords := gw_in1 (n := 145) rfl rfl
theorem k_146 : (Jvm.Cond.laysFinal "WeightOrder" "WeightOrder" "classes" "LWeightOrder$Table;") ∈ gwords := gw_in1 (n := 146) rfl rfl
theorem k_147 : (Jvm.Cond.soleField "WeightOrder" "classes") ∈ gwords := gw_in1 (n := 147) rfl rfl
theorem k_148 : (Jvm.Cond.laysFinal "WeightOrder" "WeightOrder" "lines" "LWeightOrder$Lines;") ∈ gwords := gw_in1 (n := 148) rfl rfl
theorem k_149 : (Jvm.Cond.soleField "WeightOrder" "lines") ∈ gwords := gw_in1 (n := 149) rfl rfl
theorem k_150 : (Jvm.Cond.laysFinal "WeightOrder" "WeightOrder" "rows" "[LWeightOrder$Row;") ∈ gwords := gw_in1 (n := 150) rfl rfl
theorem k_151 : (Jvm.Cond.soleField "WeightOrder" "rows") ∈ gwords := gw_in1 (n := 151) rfl rfl
theorem k_152 : (Jvm.Cond.laysFinal "WeightOrder" "WeightOrder" "finder" "LWeightOrder$Finder;") ∈ gwords := gw_in1 (n := 152) rfl rfl
theorem k_153 : (Jvm.Cond.soleField "WeightOrder" "finder") ∈ gwords := gw_in1 (n := 153) rfl rfl
theorem k_154 : (Jvm.Cond.laysFinal "WeightOrder" "WeightOrder" "elements" "LWeightOrder$Elements;") ∈ gwords := gw_in1 (n := 154) rfl rfl
theorem k_155 : (Jvm.Cond.soleField "WeightOrder" "elements") ∈ gwords := gw_in1 (n := 155) rfl rfl
theorem k_156 : (Jvm.Cond.laysFinal "WeightOrder" "WeightOrder" "otherElements" "LWeightOrder$Elements;") ∈ gwords := gw_in1 (n := 156) rfl rfl
theorem k_157 : (Jvm.Cond.soleField "WeightOrder" "otherElements") ∈ gwords := gw_in1 (n := 157) rfl rfl
theorem k_158 : (Jvm.Cond.superclass "WeightOrder" "java/lang/Object") ∈ gwords := gw_in1 (n := 158) rfl rfl
theorem k_159 : (Jvm.Cond.methodLink "WeightOrderLaw" (48 : Nat) ({ cls := "WeightOrderLaw", name := "order", desc := "(LWeightOrder;II)I" } : Jvm.MethodName)) ∈ gwords := gw_in1 (n := 159) rfl rfl
theorem k_160 : (Jvm.Cond.static ({ cls := "WeightOrderLaw", name := "order", desc := "(LWeightOrder;II)I" } : Jvm.MethodName)) ∈ gwords := gw_in1 (n := 160) rfl rfl
theorem k_161 : (Jvm.Cond.codeWith ({ cls := "WeightOrderLaw", name := "order", desc := "(LWeightOrder;II)I" } : Jvm.MethodName) method_3_code (4 : Nat) (Option.some Jvm.ClassFile.FieldType.int) [((0 : Nat), (6 : Nat), (9 : Nat), (13 : Nat))]) ∈ gwords := gw_in1 (n := 161) rfl rfl
theorem k_162 : (Jvm.Cond.classLink "WeightOrderLaw" (13 : Nat) "java/lang/IllegalArgumentException") ∈ gwords := gw_in1 (n := 162) rfl rfl
theorem k_163 : (Jvm.Cond.methodLink "WeightOrderLaw" (7 : Nat) ({ cls := "WeightOrder", name := "order", desc := "(II)V" } : Jvm.MethodName)) ∈ gwords := gw_in1 (n := 163) rfl rfl
theorem k_164 : (Jvm.Cond.instanceMethod ({ cls := "WeightOrder", name := "order", desc := "(II)V" } : Jvm.MethodName)) ∈ gwords := gw_in1 (n := 164) rfl rfl
theorem k_165 : (Jvm.Cond.selects "WeightOrder" ({ cls := "WeightOrder", name := "order", desc := "(II)V" } : Jvm.MethodName) ({ cls := "WeightOrder", name := "order", desc := "(II)V" } : Jvm.MethodName)) ∈ gwords := gw_in1 (n := 165) rfl rfl
theorem k_166 : (Jvm.Cond.code ({ cls := "WeightOrder", name := "order", desc := "(II)V" } : Jvm.MethodName) prog_1_method_2_code (3 : Nat) (Option.none : Option Jvm.ClassFile.FieldType)) ∈ gwords := gw_in1 (n := 166) rfl rfl
theorem k_167 : (Jvm.Cond.constant "WeightOrder" (51 : Nat) (1114111 : Int32)) ∈ gwords := gw_in1 (n := 167) rfl rfl
theorem k_168 : (Jvm.Cond.methodLink "WeightOrder" (52 : Nat) ({ cls := "WeightOrder", name := "isWithin", desc := "(II)Z" } : Jvm.MethodName)) ∈ gwords := gw_in1 (n := 168) rfl rfl
theorem k_169 : (Jvm.Cond.static ({ cls := "WeightOrder", name := "isWithin", desc := "(II)Z" } : Jvm.MethodName)) ∈ gwords := gw_in1 (n := 169) rfl rfl
theorem k_170 : (Jvm.Cond.code ({ cls := "WeightOrder", name := "isWithin", desc := "(II)Z" } : Jvm.MethodName) prog_1_method_10_code (2 : Nat) (Option.some Jvm.ClassFile.FieldType.boolean)) ∈ gwords := gw_in1 (n := 170) rfl rfl
theorem k_171 : (Jvm.Cond.classLink "WeightOrder" (56 : Nat) "java/lang/IllegalArgumentException") ∈ gwords := gw_in1 (n := 171) rfl rfl
theorem k_172 : (Jvm.Cond.instantiable "java/lang/IllegalArgumentException" (6 : Nat)) ∈ gwords := gw_in1 (n := 172) rfl rfl
theorem k_173 : (Jvm.Cond.castable "java/lang/IllegalArgumentException" "java/lang/IllegalArgumentException") ∈ nwords := nw_in1 (n := 173) rfl rfl
theorem k_174 : (Jvm.Cond.declares ({ cls := "java/lang/RuntimeException", name := "<init>", desc := "()V" } : Jvm.MethodName)) ∈ nwords := nw_in1 (n := 174) rfl rfl
theorem k_175 : (Jvm.Cond.declares ({ cls := "java/lang/RuntimeException", name := "<init>", desc := "(Ljava/lang/String;)V" } : Jvm.MethodName)) ∈ nwords := nw_in1 (n := 175) rfl rfl
theorem k_176 : (Jvm.Cond.declares ({ cls := "java/lang/Exception", name := "<init>", desc := "()V" } : Jvm.MethodName)) ∈ nwords := nw_in1 (n := 176) rfl rfl
theorem k_177 : (Jvm.Cond.declares ({ cls := "java/lang/Exception", name := "<init>", desc := "(Ljava/lang/String;)V" } : Jvm.MethodName)) ∈ nwords := nw_in1 (n := 177) rfl rfl
theorem k_178 : (Jvm.Cond.declares ({ cls := "java/lang/Throwable", name := "<init>", desc := "()V" } : Jvm.MethodName)) ∈ nwords := nw_in1 (n := 178) rfl rfl
theorem k_179 : (Jvm.Cond.declares ({ cls := "java/lang/Throwable", name := "<init>", desc := "(Ljava/lang/String;)V" } : Jvm.MethodName)) ∈ nwords := nw_in1 (n := 179) rfl rfl
theorem k_180 : (Jvm.Cond.selects "java/lang/IllegalArgumentException" ({ cls := "java/lang/Throwable", name := "fillInStackTrace", desc := "(I)Ljava/lang/Throwable;" } : Jvm.MethodName) ({ cls := "java/lang/Throwable", name := "fillInStackTrace", desc := "(I)Ljava/lang/Throwable;" } : Jvm.MethodName)) ∈ gwords := gw_in1 (n := 180) rfl rfl
theorem k_181 : (Jvm.Cond.selects "java/lang/IllegalArgumentException" ({ cls := "java/lang/Throwable", name := "fillInStackTrace", desc := "()Ljava/lang/Throwable;" } : Jvm.MethodName) ({ cls := "java/lang/Throwable", name := "fillInStackTrace", desc := "()Ljava/lang/Throwable;" } : Jvm.MethodName)) ∈ gwords := gw_in1 (n := 181) rfl rfl
theorem k_182 : (Jvm.Cond.lays "java/lang/IllegalArgumentException" "java/lang/Throwable" "cause" "Ljava/lang/Throwable;") ∈ gwords := gw_in1 (n := 182) rfl rfl
theorem k_183 : (Jvm.Cond.lays "java/lang/Throwable" "java/lang/Throwable" "cause" "Ljava/lang/Throwable;") ∈ gwords := gw_in1 (n := 183) rfl rfl
theorem k_184 : (Jvm.Cond.lays "java/lang/IllegalArgumentException" "java/lang/Throwable" "stackTrace" "[Ljava/lang/StackTraceElement;") ∈ gwords := gw_in1 (n := 184) rfl rfl
theorem k_185 : (Jvm.Cond.lays "java/lang/Throwable" "java/lang/Throwable" "stackTrace" "[Ljava/lang/StackTraceElement;") ∈ gwords := gw_in1 (n := 185) rfl rfl
theorem k_186 : (Jvm.Cond.lays "java/lang/IllegalArgumentException" "java/lang/Throwable" "suppressedExceptions" "Ljava/util/List;") ∈ gwords := gw_in1 (n := 186) rfl rfl
theorem k_187 : (Jvm.Cond.lays "java/lang/Throwable" "java/lang/Throwable" "suppressedExceptions" "Ljava/util/List;") ∈ gwords := gw_in1 (n := 187) rfl rfl
theorem k_188 : (Jvm.Cond.lays "java/lang/IllegalArgumentException" "java/lang/Throwable" "detailMessage" "Ljava/lang/String;") ∈ gwords := gw_in1 (n := 188) rfl rfl
theorem k_189 : (Jvm.Cond.lays "java/lang/Throwable" "java/lang/Throwable" "detailMessage" "Ljava/lang/String;") ∈ gwords := gw_in1 (n := 189) rfl rfl
theorem k_190 : (Jvm.Cond.lays "java/lang/IllegalArgumentException" "java/lang/Throwable" "backtrace" "Ljava/lang/Object;") ∈ gwords := gw_in1 (n := 190) rfl rfl
theorem k_191 : (Jvm.Cond.lays "java/lang/Throwable" "java/lang/Throwable" "backtrace" "Ljava/lang/Object;") ∈ gwords := gw_in1 (n := 191) rfl rfl
theorem k_192 : (Jvm.Cond.fieldLink "java/lang/Throwable" (198 : Nat) "java/lang/Throwable" "backtrace" "Ljava/lang/Object;") ∈ gwords := gw_in1 (n := 192) rfl rfl
theorem k_193 : (Jvm.Cond.superclass "java/lang/Throwable" "java/lang/Object") ∈ gwords := gw_in1 (n := 193) rfl rfl
theorem k_194 : (Jvm.Cond.instanceMethod ({ cls := "java/lang/Throwable", name := "<init>", desc := "()V" } : Jvm.MethodName)) ∈ gwords := gw_in1 (n := 194) rfl rfl
theorem k_195 : (Jvm.Cond.code ({ cls := "java/lang/Throwable", name := "<init>", desc := "()V" } : Jvm.MethodName) prog_17_method_1_code (1 : Nat) (Option.none : Option Jvm.ClassFile.FieldType)) ∈ gwords := gw_in1 (n := 195) rfl rfl
theorem k_196 : (Jvm.Cond.methodLink "java/lang/Throwable" (1 : Nat) ({ cls := "java/lang/Object", name := "<init>", desc := "()V" } : Jvm.MethodName)) ∈ gwords := gw_in1 (n := 196) rfl rfl
theorem k_197 : (Jvm.Cond.fieldLink "java/lang/Throwable" (13 : Nat) "java/lang/Throwable" "UNASSIGNED_STACK" "[Ljava/lang/StackTraceElement;") ∈ gwords := gw_in1 (n := 197) rfl rfl
theorem k_199 : (Jvm.Cond.fieldLink "java/lang/Throwable" (20 : Nat) "java/lang/Throwable" "SUPPRESSED_SENTINEL" "Ljava/util/List;") ∈ gwords := gw_in1 (n := 199) rfl rfl
theorem k_201 : (Jvm.Cond.methodLink "java/lang/Throwable" (27 : Nat) ({ cls := "java/lang/Throwable", name := "fillInStackTrace", desc := "()Ljava/lang/Throwable;" } : Jvm.MethodName)) ∈ gwords := gw_in1 (n := 201) rfl rfl
theorem k_202 : (Jvm.Cond.instanceMethod ({ cls := "java/lang/Throwable", name := "fillInStackTrace", desc := "()Ljava/lang/Throwable;" } : Jvm.MethodName)) ∈ gwords := gw_in1 (n := 202) rfl rfl
theorem k_203 : (Jvm.Cond.sameMethod "java/lang/Throwable" "java/lang/Throwable" "fillInStackTrace" "()Ljava/lang/Throwable;") ∈ gwords := gw_in1 (n := 203) rfl rfl
theorem k_204 : (Jvm.Cond.selects "java/lang/IndexOutOfBoundsException" ({ cls := "java/lang/Throwable", name := "fillInStackTrace", desc := "()Ljava/lang/Throwable;" } : Jvm.MethodName) ({ cls := "java/lang/Throwable", name := "fillInStackTrace", desc := "()Ljava/lang/Throwable;" } : Jvm.MethodName)) ∈ gwords := gw_in1 (n := 204) rfl rfl
theorem k_205 : (Jvm.Cond.codeSync ({ cls := "java/lang/Throwable", name := "fillInStackTrace", desc := "()Ljava/lang/Throwable;" } : Jvm.MethodName) prog_17_method_18_code (1 : Nat) (Option.some (Jvm.ClassFile.FieldType.object "java/lang/Throwable"))) ∈ gwords := gw_in1 (n := 205) rfl rfl
theorem k_206 : (Jvm.Cond.methodLink "java/lang/Throwable" (202 : Nat) ({ cls := "java/lang/Throwable", name := "fillInStackTrace", desc := "(I)Ljava/lang/Throwable;" } : Jvm.MethodName)) ∈ gwords := gw_in1 (n := 206) rfl rfl
theorem k_208 : (Jvm.Cond.instanceMethod ({ cls := "java/lang/Throwable", name := "fillInStackTrace", desc := "(I)Ljava/lang/Throwable;" } : Jvm.MethodName)) ∈ gwords := gw_in1 (n := 208) rfl rfl
theorem k_209 : (Jvm.Cond.instantiable "java/lang/Throwable" (6 : Nat)) ∈ gwords := gw_in1 (n := 209) rfl rfl
theorem k_210 : (Jvm.Cond.native ({ cls := "java/lang/Throwable", name := "fillInStackTrace", desc := "(I)Ljava/lang/Throwable;" } : Jvm.MethodName)) ∈ gwords := gw_in1 (n := 210) rfl rfl
theorem k_211 : (Jvm.Cond.methodLink "WeightOrder" (58 : Nat) ({ cls := "java/lang/IllegalArgumentException", name := "<init>", desc := "()V" } : Jvm.MethodName)) ∈ gwords := gw_in1 (n := 211) rfl rfl
theorem k_212 : (Jvm.Cond.instanceMethod ({ cls := "java/lang/IllegalArgumentException", name := "<init>", desc := "()V" } : Jvm.MethodName)) ∈ gwords := gw_in1 (n := 212) rfl rfl
theorem k_213 : (Jvm.Cond.code ({ cls := "java/lang/IllegalArgumentException", name := "<init>", desc := "()V" } : Jvm.MethodName) prog_11_method_1_code (1 : Nat) (Option.none : Option Jvm.ClassFile.FieldType)) ∈ gwords := gw_in1 (n := 213) rfl rfl
theorem k_214 : (Jvm.Cond.methodLink "java/lang/IllegalArgumentException" (1 : Nat) ({ cls := "java/lang/RuntimeException", name := "<init>", desc := "()V" } : Jvm.MethodName)) ∈ gwords := gw_in1 (n := 214) rfl rfl
theorem k_215 : (Jvm.Cond.instanceMethod ({ cls := "java/lang/RuntimeException", name := "<init>", desc := "()V" } : Jvm.MethodName)) ∈ gwords := gw_in1 (n := 215) rfl rfl
theorem k_216 : (Jvm.Cond.code ({ cls := "java/lang/RuntimeException", name := "<init>", desc := "()V" } : Jvm.MethodName) prog_15_method_1_code (1 : Nat) (Option.none : Option Jvm.ClassFile.FieldType)) ∈ gwords := gw_in1 (n := 216) rfl rfl
theorem k_217 : (Jvm.Cond.methodLink "java/lang/RuntimeException" (1 : Nat) ({ cls := "java/lang/Exception", name := "<init>", desc := "()V" } : Jvm.MethodName)) ∈ gwords := gw_in1 (n := 217) rfl rfl
theorem k_218 : (Jvm.Cond.instanceMethod ({ cls := "java/lang/Exception", name := "<init>", desc := "()V" } : Jvm.MethodName)) ∈ gwords := gw_in1 (n := 218) rfl rfl
theorem k_219 : (Jvm.Cond.code ({ cls := "java/lang/Exception", name := "<init>", desc := "()V" } : Jvm.MethodName) prog_10_method_1_code (1 : Nat) (Option.none : Option Jvm.ClassFile.FieldType)) ∈ gwords := gw_in1 (n := 219) rfl rfl
theorem k_220 : (Jvm.Cond.methodLink "java/lang/Exception" (1 : Nat) ({ cls := "java/lang/Throwable", name := "<init>", desc := "()V" } : Jvm.MethodName)) ∈ gwords := gw_in1 (n := 220) rfl rfl
theorem k_221 : (Jvm.Cond.fieldLink "java/lang/Throwable" (198 : Nat) "java/lang/Throwable" "backtrace" "Ljava/lang/Object;") ∈ gwords := gw_in1 (n := 221) rfl rfl
theorem k_222 : (Jvm.Cond.fieldLink "java/lang/Throwable" (7 : Nat) "java/lang/Throwable" "cause" "Ljava/lang/Throwable;") ∈ gwords := gw_in1 (n := 222) rfl rfl
theorem k_223 : (Jvm.Cond.fieldLink "java/lang/Throwable" (17 : Nat) "java/lang/Throwable" "stackTrace" "[Ljava/lang/StackTraceElement;") ∈ gwords := gw_in1 (n := 223) rfl rfl
theorem k_224 : (Jvm.Cond.fieldLink "java/lang/Throwable" (24 : Nat) "java/lang/Throwable" "suppressedExceptions" "Ljava/util/List;") ∈ gwords := gw_in1 (n := 224) rfl rfl
theorem k_225 : (Jvm.Cond.soleField "java/lang/Throwable" "backtrace") ∈ gwords := gw_in1 (n := 225) rfl rfl
theorem k_226 : (Jvm.Cond.soleField "java/lang/Throwable" "detailMessage") ∈ gwords := gw_in1 (n := 226) rfl rfl
theorem k_227 : (Jvm.Cond.soleField "java/lang/Throwable" "cause") ∈ gwords := gw_in1 (n := 227) rfl rfl
theorem k_228 : (Jvm.Cond.soleField "java/lang/Throwable" "stackTrace") ∈ gwords := gw_in1 (n := 228) rfl rfl
theorem k_229 : (Jvm.Cond.lays "java/lang/IllegalArgumentException" "java/lang/Throwable" "depth" "I") ∈ gwords := gw_in1 (n := 229) rfl rfl
theorem k_230 : (Jvm.Cond.soleField "java/lang/Throwable" "depth") ∈ gwords := gw_in1 (n := 230) rfl rfl
theorem k_231 : (Jvm.Cond.soleField "java/lang/Throwable" "suppressedExceptions") ∈ gwords := gw_in1 (n := 231) rfl rfl
theorem k_232 : (Jvm.Cond.superclass "java/lang/IllegalArgumentException" "java/lang/RuntimeException") ∈ gwords := gw_in1 (n := 232) rfl rfl
theorem k_233 : (Jvm.Cond.methodLinkNest "WeightOrder" (59 : Nat) ({ cls := "WeightOrder$Table", name := "put", desc := "(JI)V" } : Jvm.MethodName) "WeightOrder") ∈ nwords := nw_in1 (n := 233) rfl rfl
theorem k_235 : (Jvm.Cond.instanceMethod ({ cls := "WeightOrder$Table", name := "put", desc := "(JI)V" } : Jvm.MethodName)) ∈ gwords := gw_in1 (n := 235) rfl rfl
theorem k_236 : (Jvm.Cond.code ({ cls := "WeightOrder$Table", name := "put", desc := "(JI)V" } : Jvm.MethodName) prog_7_method_3_code (5 : Nat) (Option.none : Option Jvm.ClassFile.FieldType)) ∈ gwords := gw_in1 (n := 236) rfl rfl
theorem k_237 : (Jvm.Cond.methodLink "WeightOrder$Table" (17 : Nat) ({ cls := "WeightOrder$Table", name := "placeOf", desc := "(J)I" } : Jvm.MethodName)) ∈ gwords := gw_in1 (n := 237) rfl rfl
theorem k_239 : (Jvm.Cond.instanceMethod ({ cls := "WeightOrder$Table", name := "placeOf", desc := "(J)I" } : Jvm.MethodName)) ∈ gwords := gw_in1 (n := 239) rfl rfl
theorem k_240 : (Jvm.Cond.code ({ cls := "WeightOrder$Table", name := "placeOf", desc := "(J)I" } : Jvm.MethodName) prog_7_method_5_code (6 : Nat) (Option.some Jvm.ClassFile.FieldType.int)) ∈ gwords := gw_in2 (n := 0) rfl rfl
theorem k_241 : (Jvm.Cond.methodLink "WeightOrder$Table" (25 : Nat) ({ cls := "WeightOrder$Table", name := "insert", desc := "(IJI)V" } : Jvm.MethodName)) ∈ gwords := gw_in2 (n := 1) rfl rfl
theorem k_243 : (Jvm.Cond.instanceMethod ({ cls := "WeightOrder$Table", name := "insert", desc := "(IJI)V" } : Jvm.MethodName)) ∈ gwords := gw_in2 (n := 3) rfl rfl
theorem k_244 : (Jvm.Cond.code ({ cls := "WeightOrder$Table", name := "insert", desc := "(IJI)V" } : Jvm.MethodName) prog_7_method_4_code (5 : Nat) (Option.none : Option Jvm.ClassFile.FieldType)) ∈ gwords := gw_in2 (n := 4) rfl rfl
theorem k_245 : (Jvm.Cond.methodLink "WeightOrder$Table" (29 : Nat) ({ cls := "java/lang/System", name := "arraycopy", desc := "(Ljava/lang/Object;ILjava/lang/Object;II)V" } : Jvm.MethodName)) ∈ gwords := gw_in2 (n := 5) rfl rfl
theorem k_246 : (Jvm.Cond.static ({ cls := "java/lang/System", name := "arraycopy", desc := "(Ljava/lang/Object;ILjava/lang/Object;II)V" } : Jvm.MethodName)) ∈ gwords := gw_in2 (n := 6) rfl rfl
theorem k_247 : (Jvm.Cond.native ({ cls := "java/lang/System", name := "arraycopy", desc := "(Ljava/lang/Object;ILjava/lang/Object;II)V" } : Jvm.MethodName)) ∈ gwords := gw_in2 (n := 7) rfl rfl
theorem k_248 : (Jvm.Cond.methodLink "WeightOrderLaw" (58 : Nat) ({ cls := "WeightOrderLaw", name := "line", desc := "(LWeightOrder;IIII[J)I" } : Jvm.MethodName)) ∈ gwords := gw_in2 (n := 8) rfl rfl
theorem k_249 : (Jvm.Cond.static ({ cls := "WeightOrderLaw", name := "line", desc := "(LWeightOrder;IIII[J)I" } : Jvm.MethodName)) ∈ gwords := gw_in2 (n := 9) rfl rfl
theorem k_250 : (Jvm.Cond.codeWith ({ cls := "WeightOrderLaw", name := "line", desc := "(LWeightOrder;IIII[J)I" } : Jvm.MethodName) method_4_code (7 : Nat) (Option.some Jvm.ClassFile.FieldType.int) [((0 : Nat), (14 : Nat), (17 : Nat), (13 : Nat)), ((0 : Nat), (14 : Nat), (21 : Nat), (19 : Nat))]) ∈ gwords := gw_in2 (n := 10) rfl rfl
theorem k_251 : (Jvm.Cond.classLink "WeightOrderLaw" (19 : Nat) "java/lang/IndexOutOfBoundsException") ∈ gwords := gw_in2 (n := 11) rfl rfl
theorem k_252 : (Jvm.Cond.methodLink "WeightOrderLaw" (15 : Nat) ({ cls := "WeightOrder", name := "line", desc := "(IIII)I" } : Jvm.MethodName)) ∈ gwords := gw_in2 (n := 12) rfl rfl
theorem k_253 : (Jvm.Cond.instanceMethod ({ cls := "WeightOrder", name := "line", desc := "(IIII)I" } : Jvm.MethodName)) ∈ gwords := gw_in2 (n := 13) rfl rfl
theorem k_254 : (Jvm.Cond.selects "WeightOrder" ({ cls := "WeightOrder", name := "line", desc := "(IIII)I" } : Jvm.MethodName) ({ cls := "WeightOrder", name := "line", desc := "(IIII)I" } : Jvm.MethodName)) ∈ gwords := gw_in2 (n := 14) rfl rfl
theorem k_255 : (Jvm.Cond.code ({ cls := "WeightOrder", name := "line", desc := "(IIII)I" } : Jvm.MethodName) prog_1_method_3_code (7 : Nat) (Option.some Jvm.ClassFile.FieldType.int)) ∈ gwords := gw_in2 (n := 15) rfl rfl
theorem k_256 : (Jvm.Cond.methodLink "WeightOrder" (63 : Nat) ({ cls := "WeightOrder", name := "arePoints", desc := "(III)Z" } : Jvm.MethodName)) ∈ gwords := gw_in2 (n := 16) rfl rfl
theorem k_257 : (Jvm.Cond.static ({ cls := "WeightOrder", name := "arePoints", desc := "(III)Z" } : Jvm.MethodName)) ∈ gwords := gw_in2 (n := 17) rfl rfl
theorem k_258 : (Jvm.Cond.code ({ cls := "WeightOrder", name := "arePoints", desc := "(III)Z" } : Jvm.MethodName) prog_1_method_11_code (3 : Nat) (Option.some Jvm.ClassFile.FieldType.boolean)) ∈ gwords := gw_in2 (n := 18) rfl rfl
theorem k_259 : (Jvm.Cond.methodLink "WeightOrder" (67 : Nat) ({ cls := "WeightOrder", name := "keyOf", desc := "(IIII)J" } : Jvm.MethodName)) ∈ gwords := gw_in2 (n := 19) rfl rfl
theorem k_260 : (Jvm.Cond.static ({ cls := "WeightOrder", name := "keyOf", desc := "(IIII)J" } : Jvm.MethodName)) ∈ gwords := gw_in2 (n := 20) rfl rfl
theorem k_261 : (Jvm.Cond.code ({ cls := "WeightOrder", name := "keyOf", desc := "(IIII)J" } : Jvm.MethodName) prog_1_method_12_code (6 : Nat) (Option.some Jvm.ClassFile.FieldType.long)) ∈ gwords := gw_in2 (n := 21) rfl rfl
theorem k_262 : (Jvm.Cond.methodLink "WeightOrder" (128 : Nat) ({ cls := "WeightOrder", name := "longerKey", desc := "(JI)J" } : Jvm.MethodName)) ∈ gwords := gw_in2 (n := 22) rfl rfl
theorem k_263 : (Jvm.Cond.static ({ cls := "WeightOrder", name := "longerKey", desc := "(JI)J" } : Jvm.MethodName)) ∈ gwords := gw_in2 (n := 23) rfl rfl
theorem k_264 : (Jvm.Cond.code ({ cls := "WeightOrder", name := "longerKey", desc := "(JI)J" } : Jvm.MethodName) prog_1_method_13_code (3 : Nat) (Option.some Jvm.ClassFile.FieldType.long)) ∈ gwords := gw_in2 (n := 24) rfl rfl
theorem k_265 : (Jvm.Cond.methodLinkNest "WeightOrder" (71 : Nat) ({ cls := "WeightOrder$Lines", name := "find", desc := "(J)LWeightOrder$Line;" } : Jvm.MethodName) "WeightOrder") ∈ nwords := nw_in2 (n := 25) rfl rfl
theorem k_267 : (Jvm.Cond.instanceMethod ({ cls := "WeightOrder$Lines", name := "find", desc := "(J)LWeightOrder$Line;" } : Jvm.MethodName)) ∈ gwords := gw_in2 (n := 27) rfl rfl
theorem k_268 : (Jvm.Cond.code ({ cls := "WeightOrder$Lines", name := "find", desc := "(J)LWeightOrder$Line;" } : Jvm.MethodName) prog_5_method_3_code (4 : Nat) (Option.some (Jvm.ClassFile.FieldType.object "WeightOrder$Line"))) ∈ gwords := gw_in2 (n := 28) rfl rfl
theorem k_269 : (Jvm.Cond.methodLinkNest "WeightOrder$Lines" (30 : Nat) ({ cls := "WeightOrder$Table", name := "valueOf", desc := "(JI)I" } : Jvm.MethodName) "WeightOrder") ∈ nwords := nw_in2 (n := 29) rfl rfl
theorem k_271 : (Jvm.Cond.instanceMethod ({ cls := "WeightOrder$Table", name := "valueOf", desc := "(JI)I" } : Jvm.MethodName)) ∈ gwords := gw_in2 (n := 31) rfl rfl
theorem k_272 : (Jvm.Cond.code ({ cls := "WeightOrder$Table", name := "valueOf", desc := "(JI)I" } : Jvm.MethodName) prog_7_method_2_code (5 : Nat) (Option.some Jvm.ClassFile.FieldType.int)) ∈ gwords := gw_in2 (n := 32) rfl rfl
theorem k_273 : (Jvm.Cond.methodLinkNest "WeightOrder" (75 : Nat) ({ cls := "WeightOrder$Lines", name := "isFull", desc := "()Z" } : Jvm.MethodName) "WeightOrder") ∈ nwords := nw_in2 (n := 33) rfl rfl
theorem k_275 : (Jvm.Cond.instanceMethod ({ cls := "WeightOrder$Lines", name := "isFull", desc := "()Z" } : Jvm.MethodName)) ∈ gwords := gw_in2 (n := 35) rfl rfl
theorem k_276 : (Jvm.Cond.code ({ cls := "WeightOrder$Lines", name := "isFull", desc := "()Z" } : Jvm.MethodName) prog_5_method_2_code (1 : Nat) (Option.some Jvm.ClassFile.FieldType.boolean)) ∈ gwords := gw_in2 (n := 36) rfl rfl
theorem k_277 : (Jvm.Cond.classLink "WeightOrder" (79 : Nat) "java/lang/IndexOutOfBoundsException") ∈ gwords := gw_in2 (n := 37) rfl rfl
theorem k_278 : (Jvm.Cond.instantiable "java/lang/IndexOutOfBoundsException" (6 : Nat)) ∈ gwords := gw_in2 (n := 38) rfl rfl
theorem k_279 : (Jvm.Cond.castable "java/lang/IndexOutOfBoundsException" "java/lang/IndexOutOfBoundsException") ∈ nwords := nw_in2 (n := 39) rfl rfl
theorem k_280 : (Jvm.Cond.selects "java/lang/IndexOutOfBoundsException" ({ cls := "java/lang/Throwable", name := "fillInStackTrace", desc := "(I)Ljava/lang/Throwable;" } : Jvm.MethodName) ({ cls := "java/lang/Throwable", name := "fillInStackTrace", desc := "(I)Ljava/lang/Throwable;" } : Jvm.MethodName)) ∈ gwords := gw_in2 (n := 40) rfl rfl
theorem k_281 : (Jvm.Cond.lays "java/lang/IndexOutOfBoundsException" "java/lang/Throwable" "cause" "Ljava/lang/Throwable;") ∈ gwords := gw_in2 (n := 41) rfl rfl
theorem k_282 : (Jvm.Cond.lays "java/lang/IndexOutOfBoundsException" "java/lang/Throwable" "stackTrace" "[Ljava/lang/StackTraceElement;") ∈ gwords := gw_in2 (n := 42) rfl rfl
theorem k_283 : (Jvm.Cond.lays "java/lang/IndexOutOfBoundsException" "java/lang/Throwable" "suppressedExceptions" "Ljava/util/List;") ∈ gwords := gw_in2 (n := 43) rfl rfl
theorem k_284 : (Jvm.Cond.lays "java/lang/IndexOutOfBoundsException" "java/lang/Throwable" "detailMessage" "Ljava/lang/String;") ∈ gwords := gw_in2 (n := 44) rfl rfl
theorem k_285 : (Jvm.Cond.lays "java/lang/IndexOutOfBoundsException" "java/lang/Throwable" "backtrace" "Ljava/lang/Object;") ∈ gwords := gw_in2 (n := 45) rfl rfl
theorem k_286 : (Jvm.Cond.methodLink "WeightOrder" (81 : Nat) ({ cls := "java/lang/IndexOutOfBoundsException", name := "<init>", desc := "()V" } : Jvm.MethodName)) ∈ gwords := gw_in2 (n := 46) rfl rfl
theorem k_287 : (Jvm.Cond.instanceMethod ({ cls := "java/lang/IndexOutOfBoundsException", name := "<init>", desc := "()V" } : Jvm.MethodName)) ∈ gwords := gw_in2 (n := 47) rfl rfl
theorem k_288 : (Jvm.Cond.code ({ cls := "java/lang/IndexOutOfBoundsException", name := "<init>", desc := "()V" } : Jvm.MethodName) prog_12_method_1_code (1 : Nat) (Option.none : Option Jvm.ClassFile.FieldType)) ∈ gwords := gw_in2 (n := 48) rfl rfl
theorem k_289 : (Jvm.Cond.methodLink "java/lang/IndexOutOfBoundsException" (1 : Nat) ({ cls := "java/lang/RuntimeException", name := "<init>", desc := "()V" } : Jvm.MethodName)) ∈ gwords := gw_in2 (n := 49) rfl rfl
theorem k_290 : (Jvm.Cond.lays "java/lang/IndexOutOfBoundsException" "java/lang/Throwable" "depth" "I") ∈ gwords := gw_in2 (n := 50) rfl rfl
theorem k_291 : (Jvm.Cond.superclass "java/lang/IndexOutOfBoundsException" "java/lang/RuntimeException") ∈ gwords := gw_in2 (n := 51) rfl rfl
theorem k_292 : (Jvm.Cond.methodLinkNest "WeightOrder" (82 : Nat) ({ cls := "WeightOrder$Lines", name := "tell", desc := "(J)V" } : Jvm.MethodName) "WeightOrder") ∈ nwords := nw_in2 (n := 52) rfl rfl
theorem k_294 : (Jvm.Cond.instanceMethod ({ cls := "WeightOrder$Lines", name := "tell", desc := "(J)V" } : Jvm.MethodName)) ∈ gwords := gw_in2 (n := 54) rfl rfl
theorem k_295 : (Jvm.Cond.code ({ cls := "WeightOrder$Lines", name := "tell", desc := "(J)V" } : Jvm.MethodName) prog_5_method_4_code (4 : Nat) (Option.none : Option Jvm.ClassFile.FieldType)) ∈ gwords := gw_in2 (n := 55) rfl rfl
theorem k_296 : (Jvm.Cond.methodLink "WeightOrder$Lines" (34 : Nat) ({ cls := "WeightOrder$Lines", name := "find", desc := "(J)LWeightOrder$Line;" } : Jvm.MethodName)) ∈ gwords := gw_in2 (n := 56) rfl rfl
theorem k_297 : (Jvm.Cond.instantiable "WeightOrder$Line" (3 : Nat)) ∈ gwords := gw_in2 (n := 57) rfl rfl
theorem k_298 : (Jvm.Cond.methodLinkNest "WeightOrder$Lines" (38 : Nat) ({ cls := "WeightOrder$Line", name := "<init>", desc := "()V" } : Jvm.MethodName) "WeightOrder") ∈ nwords := nw_in2 (n := 58) rfl rfl
theorem k_299 : (Jvm.Cond.instanceMethod ({ cls := "WeightOrder$Line", name := "<init>", desc := "()V" } : Jvm.MethodName)) ∈ gwords := gw_in2 (n := 59) rfl rfl
theorem k_300 : (Jvm.Cond.code ({ cls := "WeightOrder$Line", name := "<init>", desc := "()V" } : Jvm.MethodName) prog_4_method_1_code (1 : Nat) (Option.none : Option Jvm.ClassFile.FieldType)) ∈ gwords := gw_in2 (n := 60) rfl rfl
theorem k_301 : (Jvm.Cond.methodLink "WeightOrder$Line" (3 : Nat) ({ cls := "java/lang/Object", name := "<init>", desc := "()V" } : Jvm.MethodName)) ∈ gwords := gw_in2 (n := 61) rfl rfl
theorem k_302 : (Jvm.Cond.fieldLink "WeightOrder$Line" (9 : Nat) "WeightOrder$Line" "packed" "[J") ∈ gwords := gw_in2 (n := 62) rfl rfl
theorem k_303 : (Jvm.Cond.fieldLinkNest "WeightOrder$Elements" (33 : Nat) "WeightOrder$Line" "packed" "[J" "WeightOrder") ∈ nwords := nw_in2 (n := 63) rfl rfl
theorem k_304 : (Jvm.Cond.fieldLink "WeightOrder$Line" (15 : Nat) "WeightOrder$Line" "variable" "[Z") ∈ gwords := gw_in2 (n := 64) rfl rfl
theorem k_305 : (Jvm.Cond.fieldLinkNest "WeightOrder$Elements" (34 : Nat) "WeightOrder$Line" "variable" "[Z" "WeightOrder") ∈ nwords := nw_in2 (n := 65) rfl rfl
theorem k_306 : (Jvm.Cond.fieldLink "WeightOrder$Line" (19 : Nat) "WeightOrder$Line" "size" "I") ∈ gwords := gw_in2 (n := 66) rfl rfl
theorem k_307 : (Jvm.Cond.fieldLinkNest "WeightOrder$Elements" (30 : Nat) "WeightOrder$Line" "size" "I" "WeightOrder") ∈ nwords := nw_in2 (n := 67) rfl rfl
theorem k_308 : (Jvm.Cond.fieldLinkNest "WeightOrder$Lines" (43 : Nat) "WeightOrder$Line" "size" "I" "WeightOrder") ∈ nwords := nw_in2 (n := 68) rfl rfl
theorem k_309 : (Jvm.Cond.fieldLinkNest "WeightOrder" (106 : Nat) "WeightOrder$Line" "size" "I" "WeightOrder") ∈ nwords := nw_in2 (n := 69) rfl rfl
theorem k_310 : (Jvm.Cond.laysFinal "WeightOrder$Line" "WeightOrder$Line" "packed" "[J") ∈ gwords := gw_in2 (n := 70) rfl rfl
theorem k_311 : (Jvm.Cond.soleField "WeightOrder$Line" "packed") ∈ gwords := gw_in2 (n := 71) rfl rfl
theorem k_312 : (Jvm.Cond.laysFinal "WeightOrder$Line" "WeightOrder$Line" "variable" "[Z") ∈ gwords := gw_in2 (n := 72) rfl rfl
theorem k_313 : (Jvm.Cond.soleField "WeightOrder$Line" "variable") ∈ gwords := gw_in2 (n := 73) rfl rfl
theorem k_314 : (Jvm.Cond.lays "WeightOrder$Line" "WeightOrder$Line" "size" "I") ∈ gwords := gw_in2 (n := 74) rfl rfl
theorem k_315 : (Jvm.Cond.soleField "WeightOrder$Line" "size") ∈ gwords := gw_in2 (n := 75) rfl rfl
theorem k_316 : (Jvm.Cond.superclass "WeightOrder$Line" "java/lang/Object") ∈ gwords := gw_in2 (n := 76) rfl rfl
theorem k_317 : (Jvm.Cond.arrayClass Jvm.ClassFile.FieldType.boolean) ∈ gwords := gw_in2 (n := 77) rfl rfl
theorem k_318 : (Jvm.Cond.methodLinkNest "WeightOrder$Lines" (39 : Nat) ({ cls := "WeightOrder$Table", name := "put", desc := "(JI)V" } : Jvm.MethodName) "WeightOrder") ∈ nwords := nw_in2 (n := 78) rfl rfl
theorem k_319 : (Jvm.Cond.methodLink "WeightOrderLaw" (62 : Nat) ({ cls := "WeightOrderLaw", name := "element", desc := "(LWeightOrder;IIIZ[J)I" } : Jvm.MethodName)) ∈ gwords := gw_in2 (n := 79) rfl rfl
theorem k_320 : (Jvm.Cond.static ({ cls := "WeightOrderLaw", name := "element", desc := "(LWeightOrder;IIIZ[J)I" } : Jvm.MethodName)) ∈ gwords := gw_in2 (n := 80) rfl rfl
theorem k_321 : (Jvm.Cond.codeWith ({ cls := "WeightOrderLaw", name := "element", desc := "(LWeightOrder;IIIZ[J)I" } : Jvm.MethodName) method_5_code (7 : Nat) (Option.some Jvm.ClassFile.FieldType.int) [((0 : Nat), (14 : Nat), (17 : Nat), (13 : Nat)), ((0 : Nat), (14 : Nat), (21 : Nat), (19 : Nat))]) ∈ gwords := gw_in2 (n := 81) rfl rfl
theorem k_322 : (Jvm.Cond.methodLink "WeightOrderLaw" (21 : Nat) ({ cls := "WeightOrder", name := "element", desc := "(IIIZ)I" } : Jvm.MethodName)) ∈ gwords := gw_in2 (n := 82) rfl rfl
theorem k_323 : (Jvm.Cond.instanceMethod ({ cls := "WeightOrder", name := "element", desc := "(IIIZ)I" } : Jvm.MethodName)) ∈ gwords := gw_in2 (n := 83) rfl rfl
theorem k_324 : (Jvm.Cond.selects "WeightOrder" ({ cls := "WeightOrder", name := "element", desc := "(IIIZ)I" } : Jvm.MethodName) ({ cls := "WeightOrder", name := "element", desc := "(IIIZ)I" } : Jvm.MethodName)) ∈ gwords := gw_in2 (n := 84) rfl rfl
theorem k_325 : (Jvm.Cond.code ({ cls := "WeightOrder", name := "element", desc := "(IIIZ)I" } : Jvm.MethodName) prog_1_method_4_code (6 : Nat) (Option.some Jvm.ClassFile.FieldType.int)) ∈ gwords := gw_in2 (n := 85) rfl rfl
theorem k_326 : (Jvm.Cond.constant "WeightOrder" (90 : Nat) (65535 : Int32)) ∈ gwords := gw_in2 (n := 86) rfl rfl
theorem k_327 : (Jvm.Cond.methodLinkNest "WeightOrder" (95 : Nat) ({ cls := "WeightOrder$Line", name := "isFull", desc := "()Z" } : Jvm.MethodName) "WeightOrder") ∈ nwords := nw_in2 (n := 87) rfl rfl
theorem k_329 : (Jvm.Cond.instanceMethod ({ cls := "WeightOrder$Line", name := "isFull", desc := "()Z" } : Jvm.MethodName)) ∈ gwords := gw_in2 (n := 89) rfl rfl
theorem k_330 : (Jvm.Cond.code ({ cls := "WeightOrder$Line", name := "isFull", desc := "()Z" } : Jvm.MethodName) prog_4_method_2_code (1 : Nat) (Option.some Jvm.ClassFile.FieldType.boolean)) ∈ gwords := gw_in2 (n := 90) rfl rfl
theorem k_331 : (Jvm.Cond.methodLink "WeightOrder" (98 : Nat) ({ cls := "WeightOrder", name := "pack", desc := "(III)J" } : Jvm.MethodName)) ∈ gwords := gw_in2 (n := 91) rfl rfl
theorem k_332 : (Jvm.Cond.static ({ cls := "WeightOrder", name := "pack", desc := "(III)J" } : Jvm.MethodName)) ∈ gwords := gw_in2 (n := 92) rfl rfl
theorem k_333 : (Jvm.Cond.code ({ cls := "WeightOrder", name := "pack", desc := "(III)J" } : Jvm.MethodName) prog_1_method_14_code (3 : Nat) (Option.some Jvm.ClassFile.FieldType.long)) ∈ gwords := gw_in2 (n := 93) rfl rfl
theorem k_334 : (Jvm.Cond.methodLinkNest "WeightOrder" (102 : Nat) ({ cls := "WeightOrder$Line", name := "append", desc := "(JZ)V" } : Jvm.MethodName) "WeightOrder") ∈ nwords := nw_in2 (n := 94) rfl rfl
theorem k_336 : (Jvm.Cond.instanceMethod ({ cls := "WeightOrder$Line", name := "append", desc := "(JZ)V" } : Jvm.MethodName)) ∈ gwords := gw_in2 (n := 96) rfl rfl
theorem k_337 : (Jvm.Cond.code ({ cls := "WeightOrder$Line", name := "append", desc := "(JZ)V" } : Jvm.MethodName) prog_4_method_3_code (4 : Nat) (Option.none : Option Jvm.ClassFile.FieldType)) ∈ gwords := gw_in2 (n := 97) rfl rfl
theorem k_338 : (Jvm.Cond.methodLink "WeightOrderLaw" (66 : Nat) ({ cls := "WeightOrderLaw", name := "add", desc := "(LWeightOrder;II[J)I" } : Jvm.MethodName)) ∈ gwords := gw_in2 (n := 98) rfl rfl
theorem k_339 : (Jvm.Cond.static ({ cls := "WeightOrderLaw", name := "add", desc := "(LWeightOrder;II[J)I" } : Jvm.MethodName)) ∈ gwords := gw_in2 (n := 99) rfl rfl
theorem k_340 : (Jvm.Cond.codeWith ({ cls := "WeightOrderLaw", name := "add", desc := "(LWeightOrder;II[J)I" } : Jvm.MethodName) method_6_code (5 : Nat) (Option.some Jvm.ClassFile.FieldType.int) [((0 : Nat), (10 : Nat), (13 : Nat), (13 : Nat)), ((0 : Nat), (10 : Nat), (17 : Nat), (19 : Nat))]) ∈ gwords := gw_in2 (n := 100) rfl rfl
theorem k_341 : (Jvm.Cond.methodLink "WeightOrderLaw" (25 : Nat) ({ cls := "WeightOrder", name := "add", desc := "(II)I" } : Jvm.MethodName)) ∈ gwords := gw_in2 (n := 101) rfl rfl
theorem k_342 : (Jvm.Cond.instanceMethod ({ cls := "WeightOrder", name := "add", desc := "(II)I" } : Jvm.MethodName)) ∈ gwords := gw_in2 (n := 102) rfl rfl
theorem k_343 : (Jvm.Cond.selects "WeightOrder" ({ cls := "WeightOrder", name := "add", desc := "(II)I" } : Jvm.MethodName) ({ cls := "WeightOrder", name := "add", desc := "(II)I" } : Jvm.MethodName)) ∈ gwords := gw_in2 (n := 103) rfl rfl
theorem k_344 : (Jvm.Cond.code ({ cls := "WeightOrder", name := "add", desc := "(II)I" } : Jvm.MethodName) prog_1_method_5_code (3 : Nat) (Option.some Jvm.ClassFile.FieldType.int)) ∈ gwords := gw_in2 (n := 104) rfl rfl
theorem k_345 : (Jvm.Cond.methodLinkNest "WeightOrder" (107 : Nat) ({ cls := "WeightOrder$Row", name := "isFull", desc := "()Z" } : Jvm.MethodName) "WeightOrder") ∈ nwords := nw_in2 (n := 105) rfl rfl
theorem k_347 : (Jvm.Cond.instanceMethod ({ cls := "WeightOrder$Row", name := "isFull", desc := "()Z" } : Jvm.MethodName)) ∈ gwords := gw_in2 (n := 107) rfl rfl
theorem k_348 : (Jvm.Cond.code ({ cls := "WeightOrder$Row", name := "isFull", desc := "()Z" } : Jvm.MethodName) prog_6_method_2_code (1 : Nat) (Option.some Jvm.ClassFile.FieldType.boolean)) ∈ gwords := gw_in2 (n := 108) rfl rfl
theorem k_349 : (Jvm.Cond.methodLinkNest "WeightOrder" (108 : Nat) ({ cls := "WeightOrder$Row", name := "append", desc := "(I)V" } : Jvm.MethodName) "WeightOrder") ∈ nwords := nw_in2 (n := 109) rfl rfl
theorem k_351 : (Jvm.Cond.instanceMethod ({ cls := "WeightOrder$Row", name := "append", desc := "(I)V" } : Jvm.MethodName)) ∈ gwords := gw_in2 (n := 111) rfl rfl
theorem k_352 : (Jvm.Cond.code ({ cls := "WeightOrder$Row", name := "append", desc := "(I)V" } : Jvm.MethodName) prog_6_method_3_code (2 : Nat) (Option.none : Option Jvm.ClassFile.FieldType)) ∈ gwords := gw_in2 (n := 112) rfl rfl
theorem k_353 : (Jvm.Cond.methodLink "WeightOrderLaw" (70 : Nat) ({ cls := "WeightOrderLaw", name := "clear", desc := "(LWeightOrder;I[J)I" } : Jvm.MethodName)) ∈ gwords := gw_in2 (n := 113) rfl rfl
theorem k_354 : (Jvm.Cond.static ({ cls := "WeightOrderLaw", name := "clear", desc := "(LWeightOrder;I[J)I" } : Jvm.MethodName)) ∈ gwords := gw_in2 (n := 114) rfl rfl
theorem k_355 : (Jvm.Cond.codeWith ({ cls := "WeightOrderLaw", name := "clear", desc := "(LWeightOrder;I[J)I" } : Jvm.MethodName) method_7_code (4 : Nat) (Option.some Jvm.ClassFile.FieldType.int) [((0 : Nat), (9 : Nat), (12 : Nat), (13 : Nat))]) ∈ gwords := gw_in2 (n := 115) rfl rfl
theorem k_356 : (Jvm.Cond.methodLink "WeightOrderLaw" (29 : Nat) ({ cls := "WeightOrder", name := "clear", desc := "(I)I" } : Jvm.MethodName)) ∈ gwords := gw_in2 (n := 116) rfl rfl
theorem k_357 : (Jvm.Cond.instanceMethod ({ cls := "WeightOrder", name := "clear", desc := "(I)I" } : Jvm.MethodName)) ∈ gwords := gw_in2 (n := 117) rfl rfl
theorem k_358 : (Jvm.Cond.selects "WeightOrder" ({ cls := "WeightOrder", name := "clear", desc := "(I)I" } : Jvm.MethodName) ({ cls := "WeightOrder", name := "clear", desc := "(I)I" } : Jvm.MethodName)) ∈ gwords := gw_in2 (n := 118) rfl rfl
theorem k_359 : (Jvm.Cond.code ({ cls := "WeightOrder", name := "clear", desc := "(I)I" } : Jvm.MethodName) prog_1_method_6_code (3 : Nat) (Option.some Jvm.ClassFile.FieldType.int)) ∈ gwords := gw_in2 (n := 119) rfl rfl
theorem k_360 : (Jvm.Cond.methodLink "WeightOrderLaw" (74 : Nat) ({ cls := "WeightOrderLaw", name := "count", desc := "(LWeightOrder;IZ[J)I" } : Jvm.MethodName)) ∈ gwords := gw_in2 (n := 120) rfl rfl
theorem k_361 : (Jvm.Cond.static ({ cls := "WeightOrderLaw", name := "count", desc := "(LWeightOrder;IZ[J)I" } : Jvm.MethodName)) ∈ gwords := gw_in2 (n := 121) rfl rfl
theorem k_362 : (Jvm.Cond.codeWith ({ cls := "WeightOrderLaw", name := "count", desc := "(LWeightOrder;IZ[J)I" } : Jvm.MethodName) method_8_code (5 : Nat) (Option.some Jvm.ClassFile.FieldType.int) [((0 : Nat), (10 : Nat), (13 : Nat), (13 : Nat))]) ∈ gwords := gw_in2 (n := 122) rfl rfl
theorem k_363 : (Jvm.Cond.methodLink "WeightOrderLaw" (33 : Nat) ({ cls := "WeightOrder", name := "count", desc := "(IZ)I" } : Jvm.MethodName)) ∈ gwords := gw_in2 (n := 123) rfl rfl
theorem k_364 : (Jvm.Cond.instanceMethod ({ cls := "WeightOrder", name := "count", desc := "(IZ)I" } : Jvm.MethodName)) ∈ gwords := gw_in2 (n := 124) rfl rfl
theorem k_365 : (Jvm.Cond.selects "WeightOrder" ({ cls := "WeightOrder", name := "count", desc := "(IZ)I" } : Jvm.MethodName) ({ cls := "WeightOrder", name := "count", desc := "(IZ)I" } : Jvm.MethodName)) ∈ gwords := gw_in2 (n := 125) rfl rfl
theorem k_366 : (Jvm.Cond.code ({ cls := "WeightOrder", name := "count", desc := "(IZ)I" } : Jvm.MethodName) prog_1_method_7_code (3 : Nat) (Option.some Jvm.ClassFile.FieldType.int)) ∈ gwords := gw_in2 (n := 126) rfl rfl
theorem k_367 : (Jvm.Cond.methodLinkNest "WeightOrder" (111 : Nat) ({ cls := "WeightOrder$Finder", name := "findElements", desc := "(LWeightOrder$Row;ZLWeightOrder$Elements;)V" } : Jvm.MethodName) "WeightOrder") ∈ nwords := nw_in2 (n := 127) rfl rfl
theorem k_369 : (Jvm.Cond.instanceMethod ({ cls := "WeightOrder$Finder", name := "findElements", desc := "(LWeightOrder$Row;ZLWeightOrder$Elements;)V" } : Jvm.MethodName)) ∈ gwords := gw_in2 (n := 129) rfl rfl
theorem k_370 : (Jvm.Cond.code ({ cls := "WeightOrder$Finder", name := "findElements", desc := "(LWeightOrder$Row;ZLWeightOrder$Elements;)V" } : Jvm.MethodName) prog_3_method_2_code (5 : Nat) (Option.none : Option Jvm.ClassFile.FieldType)) ∈ gwords := gw_in2 (n := 130) rfl rfl
theorem k_371 : (Jvm.Cond.methodLink "WeightOrder$Finder" (26 : Nat) ({ cls := "WeightOrder$Finder", name := "load", desc := "(LWeightOrder$Row;)V" } : Jvm.MethodName)) ∈ gwords := gw_in2 (n := 131) rfl rfl
theorem k_373 : (Jvm.Cond.instanceMethod ({ cls := "WeightOrder$Finder", name := "load", desc := "(LWeightOrder$Row;)V" } : Jvm.MethodName)) ∈ gwords := gw_in2 (n := 133) rfl rfl
theorem k_374 : (Jvm.Cond.code ({ cls := "WeightOrder$Finder", name := "load", desc := "(LWeightOrder$Row;)V" } : Jvm.MethodName) prog_3_method_3_code (3 : Nat) (Option.none : Option Jvm.ClassFile.FieldType)) ∈ gwords := gw_in2 (n := 134) rfl rfl
theorem k_375 : (Jvm.Cond.methodLinkNest "WeightOrder$Finder" (53 : Nat) ({ cls := "WeightOrder$Table", name := "valueOf", desc := "(JI)I" } : Jvm.MethodName) "WeightOrder") ∈ nwords := nw_in2 (n := 135) rfl rfl
theorem k_376 : (Jvm.Cond.methodLinkNest "WeightOrder$Finder" (30 : Nat) ({ cls := "WeightOrder$Elements", name := "begin", desc := "(Z)V" } : Jvm.MethodName) "WeightOrder") ∈ nwords := nw_in2 (n := 136) rfl rfl
theorem k_378 : (Jvm.Cond.instanceMethod ({ cls := "WeightOrder$Elements", name := "begin", desc := "(Z)V" } : Jvm.MethodName)) ∈ gwords := gw_in2 (n := 138) rfl rfl
theorem k_379 : (Jvm.Cond.code ({ cls := "WeightOrder$Elements", name := "begin", desc := "(Z)V" } : Jvm.MethodName) prog_2_method_2_code (2 : Nat) (Option.none : Option Jvm.ClassFile.FieldType)) ∈ gwords := gw_in2 (n := 139) rfl rfl
theorem k_380 : (Jvm.Cond.methodLink "WeightOrder$Finder" (43 : Nat) ({ cls := "WeightOrder$Finder", name := "takeNext", desc := "(LWeightOrder$Elements;)V" } : Jvm.MethodName)) ∈ gwords := gw_in2 (n := 140) rfl rfl
theorem k_382 : (Jvm.Cond.instanceMethod ({ cls := "WeightOrder$Finder", name := "takeNext", desc := "(LWeightOrder$Elements;)V" } : Jvm.MethodName)) ∈ gwords := gw_in2 (n := 142) rfl rfl
theorem k_383 : (Jvm.Cond.code ({ cls := "WeightOrder$Finder", name := "takeNext", desc := "(LWeightOrder$Elements;)V" } : Jvm.MethodName) prog_3_method_4_code (2 : Nat) (Option.none : Option Jvm.ClassFile.FieldType)) ∈ gwords := gw_in2 (n := 143) rfl rfl
theorem k_384 : (Jvm.Cond.methodLink "WeightOrder$Finder" (59 : Nat) ({ cls := "WeightOrder$Finder", name := "seekBeginning", desc := "()V" } : Jvm.MethodName)) ∈ gwords := gw_in2 (n := 144) rfl rfl
theorem k_386 : (Jvm.Cond.instanceMethod ({ cls := "WeightOrder$Finder", name := "seekBeginning", desc := "()V" } : Jvm.MethodName)) ∈ gwords := gw_in2 (n := 146) rfl rfl
theorem k_387 : (Jvm.Cond.code ({ cls := "WeightOrder$Finder", name := "seekBeginning", desc := "()V" } : Jvm.MethodName) prog_3_method_5_code (5 : Nat) (Option.none : Option Jvm.ClassFile.FieldType)) ∈ gwords := gw_in2 (n := 147) rfl rfl
theorem k_388 : (Jvm.Cond.methodLinkNest "WeightOrder$Finder" (80 : Nat) ({ cls := "WeightOrder", name := "longerKey", desc := "(JI)J" } : Jvm.MethodName) "WeightOrder") ∈ nwords := nw_in2 (n := 148) rfl rfl
theorem k_389 : (Jvm.Cond.methodLinkNest "WeightOrder$Finder" (84 : Nat) ({ cls := "WeightOrder$Lines", name := "find", desc := "(J)LWeightOrder$Line;" } : Jvm.MethodName) "WeightOrder") ∈ nwords := nw_in2 (n := 149) rfl rfl
theorem k_390 : (Jvm.Cond.methodLink "WeightOrder$Finder" (90 : Nat) ({ cls := "WeightOrder$Finder", name := "become", desc := "(JILWeightOrder$Line;)V" } : Jvm.MethodName)) ∈ gwords := gw_in2 (n := 150) rfl rfl
theorem k_392 : (Jvm.Cond.instanceMethod ({ cls := "WeightOrder$Finder", name := "become", desc := "(JILWeightOrder$Line;)V" } : Jvm.MethodName)) ∈ gwords := gw_in2 (n := 152) rfl rfl
theorem k_393 : (Jvm.Cond.code ({ cls := "WeightOrder$Finder", name := "become", desc := "(JILWeightOrder$Line;)V" } : Jvm.MethodName) prog_3_method_7_code (5 : Nat) (Option.none : Option Jvm.ClassFile.FieldType)) ∈ gwords := gw_in2 (n := 153) rfl rfl
theorem k_394 : (Jvm.Cond.methodLinkNest "WeightOrder$Finder" (66 : Nat) ({ cls := "WeightOrder$Elements", name := "appendImplicit", desc := "(I)V" } : Jvm.MethodName) "WeightOrder") ∈ nwords := nw_in2 (n := 154) rfl rfl
theorem k_396 : (Jvm.Cond.instanceMethod ({ cls := "WeightOrder$Elements", name := "appendImplicit", desc := "(I)V" } : Jvm.MethodName)) ∈ gwords := gw_in2 (n := 156) rfl rfl
theorem k_397 : (Jvm.Cond.code ({ cls := "WeightOrder$Elements", name := "appendImplicit", desc := "(I)V" } : Jvm.MethodName) prog_2_method_5_code (2 : Nat) (Option.none : Option Jvm.ClassFile.FieldType)) ∈ gwords := gw_in2 (n := 157) rfl rfl
theorem k_398 : (Jvm.Cond.constant "WeightOrder$Elements" (42 : Nat) (64448 : Int32)) ∈ gwords := gw_in2 (n := 158) rfl rfl
theorem k_399 : (Jvm.Cond.constant "WeightOrder$Elements" (43 : Nat) (32768 : Int32)) ∈ gwords := gw_in2 (n := 159) rfl rfl
theorem k_400 : (Jvm.Cond.methodLinkNest "WeightOrder$Elements" (44 : Nat) ({ cls := "WeightOrder", name := "pack", desc := "(III)J" } : Jvm.MethodName) "WeightOrder") ∈ nwords := nw_in2 (n := 160) rfl rfl
theorem k_401 : (Jvm.Cond.methodLink "WeightOrder$Elements" (38 : Nat) ({ cls := "WeightOrder$Elements", name := "append", desc := "(JZ)V" } : Jvm.MethodName)) ∈ gwords := gw_in2 (n := 161) rfl rfl
theorem k_403 : (Jvm.Cond.instanceMethod ({ cls := "WeightOrder$Elements", name := "append", desc := "(JZ)V" } : Jvm.MethodName)) ∈ gwords := gw_in2 (n := 163) rfl rfl
theorem k_404 : (Jvm.Cond.code ({ cls := "WeightOrder$Elements", name := "append", desc := "(JZ)V" } : Jvm.MethodName) prog_2_method_3_code (4 : Nat) (Option.none : Option Jvm.ClassFile.FieldType)) ∈ gwords := gw_in2 (n := 164) rfl rfl
theorem k_405 : (Jvm.Cond.methodLink "WeightOrder$Elements" (26 : Nat) ({ cls := "WeightOrder$Elements", name := "shift", desc := "(JZ)J" } : Jvm.MethodName)) ∈ gwords := gw_in2 (n := 165) rfl rfl
theorem k_407 : (Jvm.Cond.instanceMethod ({ cls := "WeightOrder$Elements", name := "shift", desc := "(JZ)J" } : Jvm.MethodName)) ∈ gwords := gw_in2 (n := 167) rfl rfl
theorem k_408 : (Jvm.Cond.code ({ cls := "WeightOrder$Elements", name := "shift", desc := "(JZ)J" } : Jvm.MethodName) prog_2_method_6_code (5 : Nat) (Option.some Jvm.ClassFile.FieldType.long)) ∈ gwords := gw_in2 (n := 168) rfl rfl
theorem k_409 : (Jvm.Cond.methodLinkNest "WeightOrder$Elements" (48 : Nat) ({ cls := "WeightOrder", name := "weightOf", desc := "(JI)I" } : Jvm.MethodName) "WeightOrder") ∈ nwords := nw_in2 (n := 169) rfl rfl
theorem k_410 : (Jvm.Cond.static ({ cls := "WeightOrder", name := "weightOf", desc := "(JI)I" } : Jvm.MethodName)) ∈ gwords := gw_in2 (n := 170) rfl rfl
theorem k_411 : (Jvm.Cond.code ({ cls := "WeightOrder", name := "weightOf", desc := "(JI)I" } : Jvm.MethodName) prog_1_method_15_code (3 : Nat) (Option.some Jvm.ClassFile.FieldType.int)) ∈ gwords := gw_in2 (n := 171) rfl rfl
theorem k_412 : (Jvm.Cond.constantLong "WeightOrder$Elements" (52 : Nat) (65535 : Int64)) ∈ gwords := gw_in2 (n := 172) rfl rfl
theorem k_413 : (Jvm.Cond.methodLink "WeightOrder$Finder" (73 : Nat) ({ cls := "WeightOrder$Finder", name := "seekBehind", desc := "()V" } : Jvm.MethodName)) ∈ gwords := gw_in2 (n := 173) rfl rfl
theorem k_415 : (Jvm.Cond.instanceMethod ({ cls := "WeightOrder$Finder", name := "seekBehind", desc := "()V" } : Jvm.MethodName)) ∈ gwords := gw_in2 (n := 175) rfl rfl
theorem k_416 : (Jvm.Cond.code ({ cls := "WeightOrder$Finder", name := "seekBehind", desc := "()V" } : Jvm.MethodName) prog_3_method_6_code (4 : Nat) (Option.none : Option Jvm.ClassFile.FieldType)) ∈ gwords := gw_in2 (n := 176) rfl rfl
theorem k_417 : (Jvm.Cond.methodLink "WeightOrder$Finder" (98 : Nat) ({ cls := "java/lang/Math", name := "max", desc := "(II)I" } : Jvm.MethodName)) ∈ gwords := gw_in2 (n := 177) rfl rfl
theorem k_418 : (Jvm.Cond.static ({ cls := "java/lang/Math", name := "max", desc := "(II)I" } : Jvm.MethodName)) ∈ gwords := gw_in2 (n := 178) rfl rfl
theorem k_419 : (Jvm.Cond.code ({ cls := "java/lang/Math", name := "max", desc := "(II)I" } : Jvm.MethodName) prog_14_method_65_code (2 : Nat) (Option.some Jvm.ClassFile.FieldType.int)) ∈ gwords := gw_in2 (n := 179) rfl rfl
theorem k_420 : (Jvm.Cond.methodLink "WeightOrder$Finder" (104 : Nat) ({ cls := "WeightOrder$Finder", name := "closeGap", desc := "(I)V" } : Jvm.MethodName)) ∈ gwords := gw_in2 (n := 180) rfl rfl
theorem k_422 : (Jvm.Cond.instanceMethod ({ cls := "WeightOrder$Finder", name := "closeGap", desc := "(I)V" } : Jvm.MethodName)) ∈ gwords := gw_in2 (n := 182) rfl rfl
theorem k_423 : (Jvm.Cond.code ({ cls := "WeightOrder$Finder", name := "closeGap", desc := "(I)V" } : Jvm.MethodName) prog_3_method_8_code (2 : Nat) (Option.none : Option Jvm.ClassFile.FieldType)) ∈ gwords := gw_in2 (n := 183) rfl rfl
theorem k_424 : (Jvm.Cond.methodLink "WeightOrder$Finder" (107 : Nat) ({ cls := "java/lang/System", name := "arraycopy", desc := "(Ljava/lang/Object;ILjava/lang/Object;II)V" } : Jvm.MethodName)) ∈ gwords := gw_in2 (n := 184) rfl rfl
theorem k_425 : (Jvm.Cond.methodLinkNest "WeightOrder$Finder" (76 : Nat) ({ cls := "WeightOrder$Elements", name := "appendLine", desc := "(LWeightOrder$Line;)V" } : Jvm.MethodName) "WeightOrder") ∈ nwords := nw_in2 (n := 185) rfl rfl
theorem k_427 : (Jvm.Cond.instanceMethod ({ cls := "WeightOrder$Elements", name := "appendLine", desc := "(LWeightOrder$Line;)V" } : Jvm.MethodName)) ∈ gwords := gw_in2 (n := 187) rfl rfl
theorem k_428 : (Jvm.Cond.code ({ cls := "WeightOrder$Elements", name := "appendLine", desc := "(LWeightOrder$Line;)V" } : Jvm.MethodName) prog_2_method_4_code (3 : Nat) (Option.none : Option Jvm.ClassFile.FieldType)) ∈ gwords := gw_in2 (n := 188) rfl rfl
theorem k_429 : (Jvm.Cond.methodLink "WeightOrderLaw" (78 : Nat) ({ cls := "WeightOrderLaw", name := "weight", desc := "(LWeightOrder;IZII[J)I" } : Jvm.MethodName)) ∈ gwords := gw_in2 (n := 189) rfl rfl
theorem k_430 : (Jvm.Cond.static ({ cls := "WeightOrderLaw", name := "weight", desc := "(LWeightOrder;IZII[J)I" } : Jvm.MethodName)) ∈ gwords := gw_in2 (n := 190) rfl rfl
theorem k_431 : (Jvm.Cond.codeWith ({ cls := "WeightOrderLaw", name := "weight", desc := "(LWeightOrder;IZII[J)I" } : Jvm.MethodName) method_9_code (7 : Nat) (Option.some Jvm.ClassFile.FieldType.int) [((0 : Nat), (14 : Nat), (17 : Nat), (13 : Nat))]) ∈ gwords := gw_in2 (n := 191) rfl rfl
theorem k_432 : (Jvm.Cond.methodLink "WeightOrderLaw" (37 : Nat) ({ cls := "WeightOrder", name := "weight", desc := "(IZII)I" } : Jvm.MethodName)) ∈ gwords := gw_in2 (n := 192) rfl rfl
theorem k_433 : (Jvm.Cond.instanceMethod ({ cls := "WeightOrder", name := "weight", desc := "(IZII)I" } : Jvm.MethodName)) ∈ gwords := gw_in2 (n := 193) rfl rfl
theorem k_434 : (Jvm.Cond.selects "WeightOrder" ({ cls := "WeightOrder", name := "weight", desc := "(IZII)I" } : Jvm.MethodName) ({ cls := "WeightOrder", name := "weight", desc := "(IZII)I" } : Jvm.MethodName)) ∈ gwords := gw_in2 (n := 194) rfl rfl
theorem k_435 : (Jvm.Cond.code ({ cls := "WeightOrder", name := "weight", desc := "(IZII)I" } : Jvm.MethodName) prog_1_method_8_code (5 : Nat) (Option.some Jvm.ClassFile.FieldType.int)) ∈ gwords := gw_in2 (n := 195) rfl rfl
theorem k_436 : (Jvm.Cond.methodLink "WeightOrder" (120 : Nat) ({ cls := "WeightOrder", name := "weightOf", desc := "(JI)I" } : Jvm.MethodName)) ∈ gwords := gw_in2 (n := 196) rfl rfl
theorem k_437 : (Jvm.Cond.methodLink "WeightOrderLaw" (82 : Nat) ({ cls := "WeightOrderLaw", name := "compare", desc := "(LWeightOrder;IIIZ[J)I" } : Jvm.MethodName)) ∈ gwords := gw_in2 (n := 197) rfl rfl
theorem k_438 : (Jvm.Cond.static ({ cls := "WeightOrderLaw", name := "compare", desc := "(LWeightOrder;IIIZ[J)I" } : Jvm.MethodName)) ∈ gwords := gw_in2 (n := 198) rfl rfl
theorem k_439 : (Jvm.Cond.codeWith ({ cls := "WeightOrderLaw", name := "compare", desc := "(LWeightOrder;IIIZ[J)I" } : Jvm.MethodName) method_10_code (7 : Nat) (Option.some Jvm.ClassFile.FieldType.int) [((0 : Nat), (14 : Nat), (17 : Nat), (13 : Nat))]) ∈ gwords := gw_in2 (n := 199) rfl rfl
theorem k_440 : (Jvm.Cond.methodLink "WeightOrderLaw" (41 : Nat) ({ cls := "WeightOrder", name := "compare", desc := "(IIIZ)I" } : Jvm.MethodName)) ∈ gwords := gw_in2 (n := 200) rfl rfl
theorem k_441 : (Jvm.Cond.instanceMethod ({ cls := "WeightOrder", name := "compare", desc := "(IIIZ)I" } : Jvm.MethodName)) ∈ gwords := gw_in2 (n := 201) rfl rfl
theorem k_442 : (Jvm.Cond.selects "WeightOrder" ({ cls := "WeightOrder", name := "compare", desc := "(IIIZ)I" } : Jvm.MethodName) ({ cls := "WeightOrder", name := "compare", desc := "(IIIZ)I" } : Jvm.MethodName)) ∈ gwords := gw_in2 (n := 202) rfl rfl
theorem k_443 : (Jvm.Cond.code ({ cls := "WeightOrder", name := "compare", desc := "(IIIZ)I" } : Jvm.MethodName) prog_1_method_9_code (7 : Nat) (Option.some Jvm.ClassFile.FieldType.int)) ∈ gwords := gw_in2 (n := 203) rfl rfl
theorem k_444 : (Jvm.Cond.methodLink "WeightOrder" (124 : Nat) ({ cls := "WeightOrder", name := "levelOrder", desc := "(LWeightOrder$Elements;LWeightOrder$Elements;I)I" } : Jvm.MethodName)) ∈ gwords := gw_in2 (n := 204) rfl rfl
theorem k_445 : (Jvm.Cond.static ({ cls := "WeightOrder", name := "levelOrder", desc := "(LWeightOrder$Elements;LWeightOrder$Elements;I)I" } : Jvm.MethodName)) ∈ gwords := gw_in2 (n := 205) rfl rfl
theorem k_446 : (Jvm.Cond.code ({ cls := "WeightOrder", name := "levelOrder", desc := "(LWeightOrder$Elements;LWeightOrder$Elements;I)I" } : Jvm.MethodName) prog_1_method_16_code (7 : Nat) (Option.some Jvm.ClassFile.FieldType.int)) ∈ gwords := gw_in2 (n := 206) rfl rfl
theorem k_447 : (Jvm.Cond.methodLinkNest "WeightOrder" (132 : Nat) ({ cls := "WeightOrder$Elements", name := "nextWithWeight", desc := "(II)I" } : Jvm.MethodName) "WeightOrder") ∈ nwords := nw_in2 (n := 207) rfl rfl
theorem k_449 : (Jvm.Cond.instanceMethod ({ cls := "WeightOrder$Elements", name := "nextWithWeight", desc := "(II)I" } : Jvm.MethodName)) ∈ gwords := gw_in2 (n := 209) rfl rfl
theorem k_450 : (Jvm.Cond.code ({ cls := "WeightOrder$Elements", name := "nextWithWeight", desc := "(II)I" } : Jvm.MethodName) prog_2_method_7_code (4 : Nat) (Option.some Jvm.ClassFile.FieldType.int)) ∈ gwords := gw_in2 (n := 210) rfl rfl
theorem k_451 : (Jvm.Cond.methodLink "WeightOrder" (136 : Nat) ({ cls := "java/lang/Integer", name := "compare", desc := "(II)I" } : Jvm.MethodName)) ∈ gwords := gw_in2 (n := 211) rfl rfl
theorem k_452 : (Jvm.Cond.static ({ cls := "java/lang/Integer", name := "compare", desc := "(II)I" } : Jvm.MethodName)) ∈ gwords := gw_in2 (n := 212) rfl rfl
theorem k_453 : (Jvm.Cond.code ({ cls := "java/lang/Integer", name := "compare", desc := "(II)I" } : Jvm.MethodName) prog_13_method_40_code (2 : Nat) (Option.some Jvm.ClassFile.FieldType.int)) ∈ gwords := gw_in2 (n := 213) rfl rfl
theorem k_454 : (Jvm.Cond.classLink "WeightOrderLaw" (45 : Nat) "WeightOrderModel") ∈ gwords := gw_in2 (n := 214) rfl rfl
theorem k_455 : (Jvm.Cond.instantiable "WeightOrderModel" (17 : Nat)) ∈ gwords := gw_in2 (n := 215) rfl rfl
theorem k_456 : (Jvm.Cond.methodLink "WeightOrderLaw" (47 : Nat) ({ cls := "WeightOrderModel", name := "<init>", desc := "()V" } : Jvm.MethodName)) ∈ gwords := gw_in2 (n := 216) rfl rfl
theorem k_457 : (Jvm.Cond.instanceMethod ({ cls := "WeightOrderModel", name := "<init>", desc := "()V" } : Jvm.MethodName)) ∈ gwords := gw_in2 (n := 217) rfl rfl
theorem k_458 : (Jvm.Cond.code ({ cls := "WeightOrderModel", name := "<init>", desc := "()V" } : Jvm.MethodName) prog_9_method_1_code (1 : Nat) (Option.none : Option Jvm.ClassFile.FieldType)) ∈ gwords := gw_in2 (n := 218) rfl rfl
theorem k_459 : (Jvm.Cond.methodLink "WeightOrderModel" (1 : Nat) ({ cls := "java/lang/Object", name := "<init>", desc := "()V" } : Jvm.MethodName)) ∈ gwords := gw_in2 (n := 219) rfl rfl
theorem k_460 : (Jvm.Cond.classLink "WeightOrderModel" (32 : Nat) "[[I") ∈ gwords := gw_in2 (n := 220) rfl rfl
theorem k_462 : (Jvm.Cond.fieldLink "WeightOrderModel" (49 : Nat) "WeightOrderModel" "failed" "I") ∈ gwords := gw_in2 (n := 222) rfl rfl
theorem k_463 : (Jvm.Cond.fieldLink "WeightOrderModel" (7 : Nat) "WeightOrderModel" "points" "[I") ∈ gwords := gw_in2 (n := 223) rfl rfl
theorem k_464 : (Jvm.Cond.fieldLink "WeightOrderModel" (13 : Nat) "WeightOrderModel" "classes" "[I") ∈ gwords := gw_in2 (n := 224) rfl rfl
theorem k_465 : (Jvm.Cond.fieldLink "WeightOrderModel" (57 : Nat) "WeightOrderModel" "classed" "I") ∈ gwords := gw_in2 (n := 225) rfl rfl
theorem k_466 : (Jvm.Cond.fieldLink "WeightOrderModel" (16 : Nat) "WeightOrderModel" "lengths" "[I") ∈ gwords := gw_in2 (n := 226) rfl rfl
theorem k_467 : (Jvm.Cond.fieldLink "WeightOrderModel" (19 : Nat) "WeightOrderModel" "rows" "[I") ∈ gwords := gw_in2 (n := 227) rfl rfl
theorem k_468 : (Jvm.Cond.fieldLink "WeightOrderModel" (22 : Nat) "WeightOrderModel" "counts" "[I") ∈ gwords := gw_in2 (n := 228) rfl rfl
theorem k_469 : (Jvm.Cond.fieldLink "WeightOrderModel" (25 : Nat) "WeightOrderModel" "elements" "[I") ∈ gwords := gw_in2 (n := 229) rfl rfl
theorem k_470 : (Jvm.Cond.fieldLink "WeightOrderModel" (60 : Nat) "WeightOrderModel" "lines" "I") ∈ gwords := gw_in2 (n := 230) rfl rfl
theorem k_471 : (Jvm.Cond.fieldLink "WeightOrderModel" (28 : Nat) "WeightOrderModel" "told" "I") ∈ gwords := gw_in2 (n := 231) rfl rfl
theorem k_472 : (Jvm.Cond.fieldLink "WeightOrderModel" (34 : Nat) "WeightOrderModel" "texts" "[[I") ∈ gwords := gw_in2 (n := 232) rfl rfl
theorem k_473 : (Jvm.Cond.fieldLink "WeightOrderModel" (37 : Nat) "WeightOrderModel" "sizes" "[I") ∈ gwords := gw_in2 (n := 233) rfl rfl
theorem k_474 : (Jvm.Cond.fieldLink "WeightOrderModel" (40 : Nat) "WeightOrderModel" "left" "[I") ∈ gwords := gw_in2 (n := 234) rfl rfl
theorem k_475 : (Jvm.Cond.fieldLink "WeightOrderModel" (72 : Nat) "WeightOrderModel" "leftSize" "I") ∈ gwords := gw_in2 (n := 235) rfl rfl
theorem k_476 : (Jvm.Cond.fieldLink "WeightOrderModel" (43 : Nat) "WeightOrderModel" "found" "[I") ∈ gwords := gw_in2 (n := 236) rfl rfl
theorem k_477 : (Jvm.Cond.fieldLink "WeightOrderModel" (75 : Nat) "WeightOrderModel" "foundSize" "I") ∈ gwords := gw_in2 (n := 237) rfl rfl
theorem k_478 : (Jvm.Cond.fieldLink "WeightOrderModel" (46 : Nat) "WeightOrderModel" "first" "[I") ∈ gwords := gw_in2 (n := 238) rfl rfl
theorem k_479 : (Jvm.Cond.lays "WeightOrderModel" "WeightOrderModel" "failed" "I") ∈ gwords := gw_in2 (n := 239) rfl rfl
theorem k_480 : (Jvm.Cond.soleField "WeightOrderModel" "failed") ∈ gwords := gw_in3 (n := 0) rfl rfl
theorem k_481 : (Jvm.Cond.laysFinal "WeightOrderModel" "WeightOrderModel" "points" "[I") ∈ gwords := gw_in3 (n := 1) rfl rfl
theorem k_482 : (Jvm.Cond.soleField "WeightOrderModel" "points") ∈ gwords := gw_in3 (n := 2) rfl rfl
theorem k_483 : (Jvm.Cond.laysFinal "WeightOrderModel" "WeightOrderModel" "classes" "[I") ∈ gwords := gw_in3 (n := 3) rfl rfl
theorem k_484 : (Jvm.Cond.soleField "WeightOrderModel" "classes") ∈ gwords := gw_in3 (n := 4) rfl rfl
theorem k_485 : (Jvm.Cond.lays "WeightOrderModel" "WeightOrderModel" "classed" "I") ∈ gwords := gw_in3 (n := 5) rfl rfl
theorem k_486 : (Jvm.Cond.soleField "WeightOrderModel" "classed") ∈ gwords := gw_in3 (n := 6) rfl rfl
theorem k_487 : (Jvm.Cond.laysFinal "WeightOrderModel" "WeightOrderModel" "lengths" "[I") ∈ gwords := gw_in3 (n := 7) rfl rfl
theorem k_488 : (Jvm.Cond.soleField "WeightOrderModel" "lengths") ∈ gwords := gw_in3 (n := 8) rfl rfl
theorem k_489 : (Jvm.Cond.laysFinal "WeightOrderModel" "WeightOrderModel" "rows" "[I") ∈ gwords := gw_in3 (n := 9) rfl rfl
theorem k_490 : (Jvm.Cond.soleField "WeightOrderModel" "rows") ∈ gwords := gw_in3 (n := 10) rfl rfl
theorem k_491 : (Jvm.Cond.laysFinal "WeightOrderModel" "WeightOrderModel" "counts" "[I") ∈ gwords := gw_in3 (n := 11) rfl rfl
theorem k_492 : (Jvm.Cond.soleField "WeightOrderModel" "counts") ∈ gwords := gw_in3 (n := 12) rfl rfl
theorem k_493 : (Jvm.Cond.laysFinal "WeightOrderModel" "WeightOrderModel" "elements" "[I") ∈ gwords := gw_in3 (n := 13) rfl rfl
theorem k_494 : (Jvm.Cond.soleField "WeightOrderModel" "elements") ∈ gwords := gw_in3 (n := 14) rfl rfl
theorem k_495 : (Jvm.Cond.lays "WeightOrderModel" "WeightOrderModel" "lines" "I") ∈ gwords := gw_in3 (n := 15) rfl rfl
theorem k_496 : (Jvm.Cond.soleField "WeightOrderModel" "lines") ∈ gwords := gw_in3 (n := 16) rfl rfl
theorem k_497 : (Jvm.Cond.lays "WeightOrderModel" "WeightOrderModel" "told" "I") ∈ gwords := gw_in3 (n := 17) rfl rfl
theorem k_498 : (Jvm.Cond.soleField "WeightOrderModel" "told") ∈ gwords := gw_in3 (n := 18) rfl rfl
theorem k_499 : (Jvm.Cond.laysFinal "WeightOrderModel" "WeightOrderModel" "texts" "[[I") ∈ gwords := gw_in3 (n := 19) rfl rfl
theorem k_500 : (Jvm.Cond.soleField "WeightOrderModel" "texts") ∈ gwords := gw_in3 (n := 20) rfl rfl
theorem k_501 : (Jvm.Cond.laysFinal "WeightOrderModel" "WeightOrderModel" "sizes" "[I") ∈ gwords := gw_in3 (n := 21) rfl rfl
theorem k_502 : (Jvm.Cond.soleField "WeightOrderModel" "sizes") ∈ gwords := gw_in3 (n := 22) rfl rfl
theorem k_503 : (Jvm.Cond.laysFinal "WeightOrderModel" "WeightOrderModel" "left" "[I") ∈ gwords := gw_in3 (n := 23) rfl rfl
theorem k_504 : (Jvm.Cond.soleField "WeightOrderModel" "left") ∈ gwords := gw_in3 (n := 24) rfl rfl
theorem k_505 : (Jvm.Cond.lays "WeightOrderModel" "WeightOrderModel" "leftSize" "I") ∈ gwords := gw_in3 (n := 25) rfl rfl
theorem k_506 : (Jvm.Cond.soleField "WeightOrderModel" "leftSize") ∈ gwords := gw_in3 (n := 26) rfl rfl
theorem k_507 : (Jvm.Cond.laysFinal "WeightOrderModel" "WeightOrderModel" "found" "[I") ∈ gwords := gw_in3 (n := 27) rfl rfl
theorem k_508 : (Jvm.Cond.soleField "WeightOrderModel" "found") ∈ gwords := gw_in3 (n := 28) rfl rfl
theorem k_509 : (Jvm.Cond.lays "WeightOrderModel" "WeightOrderModel" "foundSize" "I") ∈ gwords := gw_in3 (n := 29) rfl rfl
theorem k_510 : (Jvm.Cond.soleField "WeightOrderModel" "foundSize") ∈ gwords := gw_in3 (n := 30) rfl rfl
theorem k_511 : (Jvm.Cond.laysFinal "WeightOrderModel" "WeightOrderModel" "first" "[I") ∈ gwords := gw_in3 (n := 31) rfl rfl
theorem k_512 : (Jvm.Cond.soleField "WeightOrderModel" "first") ∈ gwords := gw_in3 (n := 32) rfl rfl
theorem k_513 : (Jvm.Cond.superclass "WeightOrderModel" "java/lang/Object") ∈ gwords := gw_in3 (n := 33) rfl rfl
theorem k_514 : (Jvm.Cond.methodLink "WeightOrderLaw" (54 : Nat) ({ cls := "WeightOrderModel", name := "thrown", desc := "()I" } : Jvm.MethodName)) ∈ gwords := gw_in3 (n := 34) rfl rfl
theorem k_515 : (Jvm.Cond.instanceMethod ({ cls := "WeightOrderModel", name := "thrown", desc := "()I" } : Jvm.MethodName)) ∈ gwords := gw_in3 (n := 35) rfl rfl
theorem k_516 : (Jvm.Cond.selects "WeightOrderModel" ({ cls := "WeightOrderModel", name := "thrown", desc := "()I" } : Jvm.MethodName) ({ cls := "WeightOrderModel", name := "thrown", desc := "()I" } : Jvm.MethodName)) ∈ gwords := gw_in3 (n := 36) rfl rfl
theorem k_517 : (Jvm.Cond.code ({ cls := "WeightOrderModel", name := "thrown", desc := "()I" } : Jvm.MethodName) prog_9_method_2_code (1 : Nat) (Option.some Jvm.ClassFile.FieldType.int)) ∈ gwords := gw_in3 (n := 37) rfl rfl
theorem k_518 : (Jvm.Cond.methodLink "WeightOrderLaw" (53 : Nat) ({ cls := "WeightOrderModel", name := "order", desc := "(II)V" } : Jvm.MethodName)) ∈ gwords := gw_in3 (n := 38) rfl rfl
theorem k_519 : (Jvm.Cond.instanceMethod ({ cls := "WeightOrderModel", name := "order", desc := "(II)V" } : Jvm.MethodName)) ∈ gwords := gw_in3 (n := 39) rfl rfl
theorem k_520 : (Jvm.Cond.selects "WeightOrderModel" ({ cls := "WeightOrderModel", name := "order", desc := "(II)V" } : Jvm.MethodName) ({ cls := "WeightOrderModel", name := "order", desc := "(II)V" } : Jvm.MethodName)) ∈ gwords := gw_in3 (n := 40) rfl rfl
theorem k_521 : (Jvm.Cond.code ({ cls := "WeightOrderModel", name := "order", desc := "(II)V" } : Jvm.MethodName) prog_9_method_5_code (4 : Nat) (Option.none : Option Jvm.ClassFile.FieldType)) ∈ gwords := gw_in3 (n := 41) rfl rfl
theorem k_522 : (Jvm.Cond.methodLink "WeightOrderModel" (53 : Nat) ({ cls := "WeightOrderModel", name := "out", desc := "(I)Z" } : Jvm.MethodName)) ∈ gwords := gw_in3 (n := 42) rfl rfl
theorem k_524 : (Jvm.Cond.instanceMethod ({ cls := "WeightOrderModel", name := "out", desc := "(I)Z" } : Jvm.MethodName)) ∈ gwords := gw_in3 (n := 44) rfl rfl
theorem k_525 : (Jvm.Cond.code ({ cls := "WeightOrderModel", name := "out", desc := "(I)Z" } : Jvm.MethodName) prog_9_method_4_code (2 : Nat) (Option.some Jvm.ClassFile.FieldType.boolean)) ∈ gwords := gw_in3 (n := 45) rfl rfl
theorem k_526 : (Jvm.Cond.constant "WeightOrderModel" (52 : Nat) (1114111 : Int32)) ∈ gwords := gw_in3 (n := 46) rfl rfl
theorem k_527 : (Jvm.Cond.methodLink "WeightOrderLaw" (61 : Nat) ({ cls := "WeightOrderModel", name := "line", desc := "(IIII)I" } : Jvm.MethodName)) ∈ gwords := gw_in3 (n := 47) rfl rfl
theorem k_528 : (Jvm.Cond.instanceMethod ({ cls := "WeightOrderModel", name := "line", desc := "(IIII)I" } : Jvm.MethodName)) ∈ gwords := gw_in3 (n := 48) rfl rfl
theorem k_529 : (Jvm.Cond.selects "WeightOrderModel" ({ cls := "WeightOrderModel", name := "line", desc := "(IIII)I" } : Jvm.MethodName) ({ cls := "WeightOrderModel", name := "line", desc := "(IIII)I" } : Jvm.MethodName)) ∈ gwords := gw_in3 (n := 49) rfl rfl
theorem k_530 : (Jvm.Cond.code ({ cls := "WeightOrderModel", name := "line", desc := "(IIII)I" } : Jvm.MethodName) prog_9_method_8_code (6 : Nat) (Option.some Jvm.ClassFile.FieldType.int)) ∈ gwords := gw_in3 (n := 50) rfl rfl
theorem k_531 : (Jvm.Cond.methodLink "WeightOrderModel" (63 : Nat) ({ cls := "WeightOrderModel", name := "fail", desc := "(I)I" } : Jvm.MethodName)) ∈ gwords := gw_in3 (n := 51) rfl rfl
theorem k_533 : (Jvm.Cond.instanceMethod ({ cls := "WeightOrderModel", name := "fail", desc := "(I)I" } : Jvm.MethodName)) ∈ gwords := gw_in3 (n := 53) rfl rfl
theorem k_534 : (Jvm.Cond.code ({ cls := "WeightOrderModel", name := "fail", desc := "(I)I" } : Jvm.MethodName) prog_9_method_3_code (2 : Nat) (Option.some Jvm.ClassFile.FieldType.int)) ∈ gwords := gw_in3 (n := 54) rfl rfl
theorem k_535 : (Jvm.Cond.methodLink "WeightOrderModel" (67 : Nat) ({ cls := "WeightOrderModel", name := "lineOf", desc := "(IIII)I" } : Jvm.MethodName)) ∈ gwords := gw_in3 (n := 55) rfl rfl
theorem k_537 : (Jvm.Cond.instanceMethod ({ cls := "WeightOrderModel", name := "lineOf", desc := "(IIII)I" } : Jvm.MethodName)) ∈ gwords := gw_in3 (n := 57) rfl rfl
theorem k_538 : (Jvm.Cond.code ({ cls := "WeightOrderModel", name := "lineOf", desc := "(IIII)I" } : Jvm.MethodName) prog_9_method_7_code (6 : Nat) (Option.some Jvm.ClassFile.FieldType.int)) ∈ gwords := gw_in3 (n := 58) rfl rfl
theorem k_539 : (Jvm.Cond.methodLink "WeightOrderLaw" (65 : Nat) ({ cls := "WeightOrderModel", name := "element", desc := "(IIIZ)I" } : Jvm.MethodName)) ∈ gwords := gw_in3 (n := 59) rfl rfl
theorem k_540 : (Jvm.Cond.instanceMethod ({ cls := "WeightOrderModel", name := "element", desc := "(IIIZ)I" } : Jvm.MethodName)) ∈ gwords := gw_in3 (n := 60) rfl rfl
theorem k_541 : (Jvm.Cond.selects "WeightOrderModel" ({ cls := "WeightOrderModel", name := "element", desc := "(IIIZ)I" } : Jvm.MethodName) ({ cls := "WeightOrderModel", name := "element", desc := "(IIIZ)I" } : Jvm.MethodName)) ∈ gwords := gw_in3 (n := 61) rfl rfl
theorem k_542 : (Jvm.Cond.code ({ cls := "WeightOrderModel", name := "element", desc := "(IIIZ)I" } : Jvm.MethodName) prog_9_method_9_code (6 : Nat) (Option.some Jvm.ClassFile.FieldType.int)) ∈ gwords := gw_in3 (n := 62) rfl rfl
theorem k_543 : (Jvm.Cond.constant "WeightOrderModel" (71 : Nat) (65535 : Int32)) ∈ gwords := gw_in3 (n := 63) rfl rfl
theorem k_544 : (Jvm.Cond.methodLink "WeightOrderLaw" (69 : Nat) ({ cls := "WeightOrderModel", name := "add", desc := "(II)I" } : Jvm.MethodName)) ∈ gwords := gw_in3 (n := 64) rfl rfl
theorem k_545 : (Jvm.Cond.instanceMethod ({ cls := "WeightOrderModel", name := "add", desc := "(II)I" } : Jvm.MethodName)) ∈ gwords := gw_in3 (n := 65) rfl rfl
theorem k_546 : (Jvm.Cond.selects "WeightOrderModel" ({ cls := "WeightOrderModel", name := "add", desc := "(II)I" } : Jvm.MethodName) ({ cls := "WeightOrderModel", name := "add", desc := "(II)I" } : Jvm.MethodName)) ∈ gwords := gw_in3 (n := 66) rfl rfl
theorem k_547 : (Jvm.Cond.code ({ cls := "WeightOrderModel", name := "add", desc := "(II)I" } : Jvm.MethodName) prog_9_method_10_code (3 : Nat) (Option.some Jvm.ClassFile.FieldType.int)) ∈ gwords := gw_in3 (n := 67) rfl rfl
theorem k_548 : (Jvm.Cond.methodLink "WeightOrderLaw" (73 : Nat) ({ cls := "WeightOrderModel", name := "clear", desc := "(I)I" } : Jvm.MethodName)) ∈ gwords := gw_in3 (n := 68) rfl rfl
theorem k_549 : (Jvm.Cond.instanceMethod ({ cls := "WeightOrderModel", name := "clear", desc := "(I)I" } : Jvm.MethodName)) ∈ gwords := gw_in3 (n := 69) rfl rfl
theorem k_550 : (Jvm.Cond.selects "WeightOrderModel" ({ cls := "WeightOrderModel", name := "clear", desc := "(I)I" } : Jvm.MethodName) ({ cls := "WeightOrderModel", name := "clear", desc := "(I)I" } : Jvm.MethodName)) ∈ gwords := gw_in3 (n := 70) rfl rfl
theorem k_551 : (Jvm.Cond.code ({ cls := "WeightOrderModel", name := "clear", desc := "(I)I" } : Jvm.MethodName) prog_9_method_11_code (3 : Nat) (Option.some Jvm.ClassFile.FieldType.int)) ∈ gwords := gw_in3 (n := 71) rfl rfl
theorem k_552 : (Jvm.Cond.methodLink "WeightOrderLaw" (77 : Nat) ({ cls := "WeightOrderModel", name := "count", desc := "(IZ)I" } : Jvm.MethodName)) ∈ gwords := gw_in3 (n := 72) rfl rfl
theorem k_553 : (Jvm.Cond.instanceMethod ({ cls := "WeightOrderModel", name := "count", desc := "(IZ)I" } : Jvm.MethodName)) ∈ gwords := gw_in3 (n := 73) rfl rfl
theorem k_554 : (Jvm.Cond.selects "WeightOrderModel" ({ cls := "WeightOrderModel", name := "count", desc := "(IZ)I" } : Jvm.MethodName) ({ cls := "WeightOrderModel", name := "count", desc := "(IZ)I" } : Jvm.MethodName)) ∈ gwords := gw_in3 (n := 74) rfl rfl
theorem k_555 : (Jvm.Cond.code ({ cls := "WeightOrderModel", name := "count", desc := "(IZ)I" } : Jvm.MethodName) prog_9_method_15_code (3 : Nat) (Option.some Jvm.ClassFile.FieldType.int)) ∈ gwords := gw_in3 (n := 75) rfl rfl
theorem k_556 : (Jvm.Cond.methodLink "WeightOrderModel" (97 : Nat) ({ cls := "WeightOrderModel", name := "take", desc := "(IZ)V" } : Jvm.MethodName)) ∈ gwords := gw_in3 (n := 76) rfl rfl
theorem k_558 : (Jvm.Cond.instanceMethod ({ cls := "WeightOrderModel", name := "take", desc := "(IZ)V" } : Jvm.MethodName)) ∈ gwords := gw_in3 (n := 78) rfl rfl
theorem k_559 : (Jvm.Cond.code ({ cls := "WeightOrderModel", name := "take", desc := "(IZ)V" } : Jvm.MethodName) prog_9_method_14_code (11 : Nat) (Option.none : Option Jvm.ClassFile.FieldType)) ∈ gwords := gw_in3 (n := 79) rfl rfl
theorem k_560 : (Jvm.Cond.constant "WeightOrderModel" (78 : Nat) (64448 : Int32)) ∈ gwords := gw_in3 (n := 80) rfl rfl
theorem k_561 : (Jvm.Cond.constant "WeightOrderModel" (79 : Nat) (32768 : Int32)) ∈ gwords := gw_in3 (n := 81) rfl rfl
theorem k_562 : (Jvm.Cond.methodLink "WeightOrderModel" (80 : Nat) ({ cls := "WeightOrderModel", name := "give", desc := "(IIII)V" } : Jvm.MethodName)) ∈ gwords := gw_in3 (n := 82) rfl rfl
theorem k_564 : (Jvm.Cond.instanceMethod ({ cls := "WeightOrderModel", name := "give", desc := "(IIII)V" } : Jvm.MethodName)) ∈ gwords := gw_in3 (n := 84) rfl rfl
theorem k_565 : (Jvm.Cond.code ({ cls := "WeightOrderModel", name := "give", desc := "(IIII)V" } : Jvm.MethodName) prog_9_method_13_code (5 : Nat) (Option.none : Option Jvm.ClassFile.FieldType)) ∈ gwords := gw_in3 (n := 85) rfl rfl
theorem k_566 : (Jvm.Cond.methodLink "WeightOrderModel" (84 : Nat) ({ cls := "WeightOrderModel", name := "drop", desc := "(II)V" } : Jvm.MethodName)) ∈ gwords := gw_in3 (n := 86) rfl rfl
theorem k_568 : (Jvm.Cond.instanceMethod ({ cls := "WeightOrderModel", name := "drop", desc := "(II)V" } : Jvm.MethodName)) ∈ gwords := gw_in3 (n := 88) rfl rfl
theorem k_569 : (Jvm.Cond.code ({ cls := "WeightOrderModel", name := "drop", desc := "(II)V" } : Jvm.MethodName) prog_9_method_12_code (4 : Nat) (Option.none : Option Jvm.ClassFile.FieldType)) ∈ gwords := gw_in3 (n := 89) rfl rfl
theorem k_570 : (Jvm.Cond.methodLink "WeightOrderModel" (88 : Nat) ({ cls := "WeightOrderModel", name := "classOf", desc := "(I)I" } : Jvm.MethodName)) ∈ gwords := gw_in3 (n := 90) rfl rfl
theorem k_572 : (Jvm.Cond.instanceMethod ({ cls := "WeightOrderModel", name := "classOf", desc := "(I)I" } : Jvm.MethodName)) ∈ gwords := gw_in3 (n := 92) rfl rfl
theorem k_573 : (Jvm.Cond.code ({ cls := "WeightOrderModel", name := "classOf", desc := "(I)I" } : Jvm.MethodName) prog_9_method_6_code (3 : Nat) (Option.some Jvm.ClassFile.FieldType.int)) ∈ gwords := gw_in3 (n := 93) rfl rfl
theorem k_574 : (Jvm.Cond.methodLink "WeightOrderModel" (91 : Nat) ({ cls := "java/lang/Math", name := "max", desc := "(II)I" } : Jvm.MethodName)) ∈ gwords := gw_in3 (n := 94) rfl rfl
theorem k_575 : (Jvm.Cond.methodLink "WeightOrderLaw" (81 : Nat) ({ cls := "WeightOrderModel", name := "weight", desc := "(IZII)I" } : Jvm.MethodName)) ∈ gwords := gw_in3 (n := 95) rfl rfl
theorem k_576 : (Jvm.Cond.instanceMethod ({ cls := "WeightOrderModel", name := "weight", desc := "(IZII)I" } : Jvm.MethodName)) ∈ gwords := gw_in3 (n := 96) rfl rfl
theorem k_577 : (Jvm.Cond.selects "WeightOrderModel" ({ cls := "WeightOrderModel", name := "weight", desc := "(IZII)I" } : Jvm.MethodName) ({ cls := "WeightOrderModel", name := "weight", desc := "(IZII)I" } : Jvm.MethodName)) ∈ gwords := gw_in3 (n := 97) rfl rfl
theorem k_578 : (Jvm.Cond.code ({ cls := "WeightOrderModel", name := "weight", desc := "(IZII)I" } : Jvm.MethodName) prog_9_method_16_code (5 : Nat) (Option.some Jvm.ClassFile.FieldType.int)) ∈ gwords := gw_in3 (n := 98) rfl rfl
theorem k_579 : (Jvm.Cond.methodLink "WeightOrderLaw" (84 : Nat) ({ cls := "WeightOrderModel", name := "compare", desc := "(IIIZ)I" } : Jvm.MethodName)) ∈ gwords := gw_in3 (n := 99) rfl rfl
theorem k_580 : (Jvm.Cond.instanceMethod ({ cls := "WeightOrderModel", name := "compare", desc := "(IIIZ)I" } : Jvm.MethodName)) ∈ gwords := gw_in3 (n := 100) rfl rfl
theorem k_581 : (Jvm.Cond.selects "WeightOrderModel" ({ cls := "WeightOrderModel", name := "compare", desc := "(IIIZ)I" } : Jvm.MethodName) ({ cls := "WeightOrderModel", name := "compare", desc := "(IIIZ)I" } : Jvm.MethodName)) ∈ gwords := gw_in3 (n := 101) rfl rfl
theorem k_582 : (Jvm.Cond.code ({ cls := "WeightOrderModel", name := "compare", desc := "(IIIZ)I" } : Jvm.MethodName) prog_9_method_17_code (9 : Nat) (Option.some Jvm.ClassFile.FieldType.int)) ∈ gwords := gw_in3 (n := 102) rfl rfl
theorem k_583 : (Jvm.Cond.sameMethod "java/lang/Throwable" "java/lang/Throwable" "fillInStackTrace" "(I)Ljava/lang/Throwable;") ∈ gwords := gw_in3 (n := 103) rfl rfl
theorem ks_0 : Cond.selects "java/lang/Throwable" ⟨"java/lang/Throwable", "fillInStackTrace", "(I)Ljava/lang/Throwable;"⟩ ⟨"java/lang/Throwable", "fillInStackTrace", "(I)Ljava/lang/Throwable;"⟩ ∈ gwords := gs_in (n := 0) rfl rfl
theorem ks_1 : Cond.selects "WeightOrder$Table" ⟨"WeightOrder$Table", "put", "(JI)V"⟩ ⟨"WeightOrder$Table", "put", "(JI)V"⟩ ∈ gwords := gs_in (n := 1) rfl rfl
theorem ks_2 : Cond.selects "WeightOrder$Table" ⟨"WeightOrder$Table", "placeOf", "(J)I"⟩ ⟨"WeightOrder$Table", "placeOf", "(J)I"⟩ ∈ gwords := gs_in (n := 2) rfl rfl
theorem ks_3 : Cond.selects "WeightOrder$Table" ⟨"WeightOrder$Table", "insert", "(IJI)V"⟩ ⟨"WeightOrder$Table", "insert", "(IJI)V"⟩ ∈ gwords := gs_in (n := 3) rfl rfl
theorem ks_4 : Cond.selects "WeightOrder$Lines" ⟨"WeightOrder$Lines", "find", "(J)LWeightOrder$Line;"⟩ ⟨"WeightOrder$Lines", "find", "(J)LWeightOrder$Line;"⟩ ∈ gwords := gs_in (n := 4) rfl rfl
theorem ks_5 : Cond.selects "WeightOrder$Table" ⟨"WeightOrder$Table", "valueOf", "(JI)I"⟩ ⟨"WeightOrder$Table", "valueOf", "(JI)I"⟩ ∈ gwords := gs_in (n := 5) rfl rfl
theorem ks_6 : Cond.selects "WeightOrder$Lines" ⟨"WeightOrder$Lines", "isFull", "()Z"⟩ ⟨"WeightOrder$Lines", "isFull", "()Z"⟩ ∈ gwords := gs_in (n := 6) rfl rfl
theorem ks_7 : Cond.selects "WeightOrder$Lines" ⟨"WeightOrder$Lines", "tell", "(J)V"⟩ ⟨"WeightOrder$Lines", "tell", "(J)V"⟩ ∈ gwords := gs_in (n := 7) rfl rfl
theorem ks_8 : Cond.selects "WeightOrder$Line" ⟨"WeightOrder$Line", "isFull", "()Z"⟩ ⟨"WeightOrder$Line", "isFull", "()Z"⟩ ∈ gwords := gs_in (n := 8) rfl rfl
theorem ks_9 : Cond.selects "WeightOrder$Line" ⟨"WeightOrder$Line", "append", "(JZ)V"⟩ ⟨"WeightOrder$Line", "append", "(JZ)V"⟩ ∈ gwords := gs_in (n := 9) rfl rfl
theorem ks_10 : Cond.selects "WeightOrder$Row" ⟨"WeightOrder$Row", "isFull", "()Z"⟩ ⟨"WeightOrder$Row", "isFull", "()Z"⟩ ∈ gwords := gs_in (n := 10) rfl rfl
theorem ks_11 : Cond.selects "WeightOrder$Row" ⟨"WeightOrder$Row", "append", "(I)V"⟩ ⟨"WeightOrder$Row", "append", "(I)V"⟩ ∈ gwords := gs_in (n := 11) rfl rfl
theorem ks_12 : Cond.selects "WeightOrder$Finder" ⟨"WeightOrder$Finder", "findElements", "(LWeightOrder$Row;ZLWeightOrder$Elements;)V"⟩ ⟨"WeightOrder$Finder", "findElements", "(LWeightOrder$Row;ZLWeightOrder$Elements;)V"⟩ ∈ gwords := gs_in (n := 12) rfl rfl
theorem ks_13 : Cond.selects "WeightOrder$Finder" ⟨"WeightOrder$Finder", "load", "(LWeightOrder$Row;)V"⟩ ⟨"WeightOrder$Finder", "load", "(LWeightOrder$Row;)V"⟩ ∈ gwords := gs_in (n := 13) rfl rfl
theorem ks_14 : Cond.selects "WeightOrder$Elements" ⟨"WeightOrder$Elements", "begin", "(Z)V"⟩ ⟨"WeightOrder$Elements", "begin", "(Z)V"⟩ ∈ gwords := gs_in (n := 14) rfl rfl
theorem ks_15 : Cond.selects "WeightOrder$Finder" ⟨"WeightOrder$Finder", "takeNext", "(LWeightOrder$Elements;)V"⟩ ⟨"WeightOrder$Finder", "takeNext", "(LWeightOrder$Elements;)V"⟩ ∈ gwords := gs_in (n := 15) rfl rfl
theorem ks_16 : Cond.selects "WeightOrder$Finder" ⟨"WeightOrder$Finder", "seekBeginning", "()V"⟩ ⟨"WeightOrder$Finder", "seekBeginning", "()V"⟩ ∈ gwords := gs_in (n := 16) rfl rfl
theorem ks_17 : Cond.selects "WeightOrder$Finder" ⟨"WeightOrder$Finder", "become", "(JILWeightOrder$Line;)V"⟩ ⟨"WeightOrder$Finder", "become", "(JILWeightOrder$Line;)V"⟩ ∈ gwords := gs_in (n := 17) rfl rfl
theorem ks_18 : Cond.selects "WeightOrder$Elements" ⟨"WeightOrder$Elements", "appendImplicit", "(I)V"⟩ ⟨"WeightOrder$Elements", "appendImplicit", "(I)V"⟩ ∈ gwords := gs_in (n := 18) rfl rfl
theorem ks_19 : Cond.selects "WeightOrder$Elements" ⟨"WeightOrder$Elements", "append", "(JZ)V"⟩ ⟨"WeightOrder$Elements", "append", "(JZ)V"⟩ ∈ gwords := gs_in (n := 19) rfl rfl
theorem ks_20 : Cond.selects "WeightOrder$Elements" ⟨"WeightOrder$Elements", "shift", "(JZ)J"⟩ ⟨"WeightOrder$Elements", "shift", "(JZ)J"⟩ ∈ gwords := gs_in (n := 20) rfl rfl
theorem ks_21 : Cond.selects "WeightOrder$Finder" ⟨"WeightOrder$Finder", "seekBehind", "()V"⟩ ⟨"WeightOrder$Finder", "seekBehind", "()V"⟩ ∈ gwords := gs_in (n := 21) rfl rfl
theorem ks_22 : Cond.selects "WeightOrder$Finder" ⟨"WeightOrder$Finder", "closeGap", "(I)V"⟩ ⟨"WeightOrder$Finder", "closeGap", "(I)V"⟩ ∈ gwords := gs_in (n := 22) rfl rfl
theorem ks_23 : Cond.selects "WeightOrder$Elements" ⟨"WeightOrder$Elements", "appendLine", "(LWeightOrder$Line;)V"⟩ ⟨"WeightOrder$Elements", "appendLine", "(LWeightOrder$Line;)V"⟩ ∈ gwords := gs_in (n := 23) rfl rfl
theorem ks_24 : Cond.selects "WeightOrder$Elements" ⟨"WeightOrder$Elements", "nextWithWeight", "(II)I"⟩ ⟨"WeightOrder$Elements", "nextWithWeight", "(II)I"⟩ ∈ gwords := gs_in (n := 24) rfl rfl
theorem ks_25 : Cond.selects "WeightOrderModel" ⟨"WeightOrderModel", "out", "(I)Z"⟩ ⟨"WeightOrderModel", "out", "(I)Z"⟩ ∈ gwords := gs_in (n := 25) rfl rfl
theorem ks_26 : Cond.selects "WeightOrderModel" ⟨"WeightOrderModel", "fail", "(I)I"⟩ ⟨"WeightOrderModel", "fail", "(I)I"⟩ ∈ gwords := gs_in (n := 26) rfl rfl
theorem ks_27 : Cond.selects "WeightOrderModel" ⟨"WeightOrderModel", "lineOf", "(IIII)I"⟩ ⟨"WeightOrderModel", "lineOf", "(IIII)I"⟩ ∈ gwords := gs_in (n := 27) rfl rfl
theorem ks_28 : Cond.selects "WeightOrderModel" ⟨"WeightOrderModel", "take", "(IZ)V"⟩ ⟨"WeightOrderModel", "take", "(IZ)V"⟩ ∈ gwords := gs_in (n := 28) rfl rfl
theorem ks_29 : Cond.selects "WeightOrderModel" ⟨"WeightOrderModel", "give", "(IIII)V"⟩ ⟨"WeightOrderModel", "give", "(IIII)V"⟩ ∈ gwords := gs_in (n := 29) rfl rfl
theorem ks_30 : Cond.selects "WeightOrderModel" ⟨"WeightOrderModel", "drop", "(II)V"⟩ ⟨"WeightOrderModel", "drop", "(II)V"⟩ ∈ gwords := gs_in (n := 30) rfl rfl
theorem ks_31 : Cond.selects "WeightOrderModel" ⟨"WeightOrderModel", "classOf", "(I)I"⟩ ⟨"WeightOrderModel", "classOf", "(I)I"⟩ ∈ gwords := gs_in (n := 31) rfl rfl
end
section
/-! each instruction, decoded -/
theorem d_Wo_init_0 : decode b_Wo_init 0 = .ok (.aload_n 0, 1) := by decide +kernel
theorem d_Wo_init_1 : decode b_Wo_init 1 = .ok (.invokespecial 3, 3) := by decide +kernel
theorem d_Wo_init_4 : decode b_Wo_init 4 = .ok (.aload_n 0, 1) := by decide +kernel
theorem d_Wo_init_5 : decode b_Wo_init 5 = .ok (.new 9, 3) := by decide +kernel
theorem d_Wo_init_8 : decode b_Wo_init 8 = .ok (.dup, 1) := by decide +kernel
theorem d_Wo_init_9 : decode b_Wo_init 9 = .ok (.sipush 512, 3) := by decide +kernel
theorem d_Wo_init_12 : decode b_Wo_init 12 = .ok (.invokespecial 11, 3) := by decide +kernel
theorem d_Wo_init_15 : decode b_Wo_init 15 = .ok (.putfield 14, 3) := by decide +kernel
theorem d_Wo_init_18 : decode b_Wo_init 18 = .ok (.aload_n 0, 1) := by decide +kernel
theorem d_Wo_init_19 : decode b_Wo_init 19 = .ok (.new 18, 3) := by decide +kernel
theorem d_Wo_init_22 : decode b_Wo_init 22 = .ok (.dup, 1) := by decide +kernel
theorem d_Wo_init_23 : decode b_Wo_init 23 = .ok (.invokespecial 20, 3) := by decide +kernel
theorem d_Wo_init_26 : decode b_Wo_init 26 = .ok (.putfield 21, 3) := by decide +kernel
theorem d_Wo_init_29 : decode b_Wo_init 29 = .ok (.aload_n 0, 1) := by decide +kernel
theorem d_Wo_init_30 : decode b_Wo_init 30 = .ok (.iconst 4, 1) := by decide +kernel
theorem d_Wo_init_31 : decode b_Wo_init 31 = .ok (.anewarray 25, 3) := by decide +kernel
theorem d_Wo_init_34 : decode b_Wo_init 34 = .ok (.dup, 1) := by decide +kernel
theorem d_Wo_init_35 : decode b_Wo_init 35 = .ok (.iconst 0, 1) := by decide +kernel
theorem d_Wo_init_36 : decode b_Wo_init 36 = .ok (.new 25, 3) := by decide +kernel
theorem d_Wo_init_39 : decode b_Wo_init 39 = .ok (.dup, 1) := by decide +kernel
theorem d_Wo_init_40 : decode b_Wo_init 40 = .ok (.invokespecial 27, 3) := by decide +kernel
theorem d_Wo_init_43 : decode b_Wo_init 43 = .ok (.aastore, 1) := by decide +kernel
theorem d_Wo_init_44 : decode b_Wo_init 44 = .ok (.dup, 1) := by decide +kernel
theorem d_Wo_init_45 : decode b_Wo_init 45 = .ok (.iconst 1, 1) := by decide +kernel
theorem d_Wo_init_46 : decode b_Wo_init 46 = .ok (.new 25, 3) := by decide +kernel
theorem d_Wo_init_49 : decode b_Wo_init 49 = .ok (.dup, 1) := by decide +kernel
theorem d_Wo_init_50 : decode b_Wo_init 50 = .ok (.invokespecial 27, 3) := by decide +kernel
theorem d_Wo_init_53 : decode b_Wo_init 53 = .ok (.aastore, 1) := by decide +kernel
theorem d_Wo_init_54 : decode b_Wo_init 54 = .ok (.dup, 1) := by decide +kernel
theorem d_Wo_init_55 : decode b_Wo_init 55 = .ok (.iconst 2, 1) := by decide +kernel
theorem d_Wo_init_56 : decode b_Wo_init 56 = .ok (.new 25, 3) := by decide +kernel
theorem d_Wo_init_59 : decode b_Wo_init 59 = .ok (.dup, 1) := by decide +kernel
theorem d_Wo_init_60 : decode b_Wo_init 60 = .ok (.invokespecial 27, 3) := by decide +kernel
theorem d_Wo_init_63 : decode b_Wo_init 63 = .ok (.aastore, 1) := by decide +kernel
theorem d_Wo_init_64 : decode b_Wo_init 64 = .ok (.dup, 1) := by decide +kernel
theorem d_Wo_init_65 : decode b_Wo_init 65 = .ok (.iconst 3, 1) := by decide +kernel
theorem d_Wo_init_66 : decode b_Wo_init 66 = .ok (.new 25, 3) := by decide +kernel
theorem d_Wo_init_69 : decode b_Wo_init 69 = .ok (.dup, 1) := by decide +kernel
theorem d_Wo_init_70 : decode b_Wo_init 70 = .ok (.invokespecial 27, 3) := by decide +kernel
theorem d_Wo_init_73 : decode b_Wo_init 73 = .ok (.aastore, 1) := by decide +kernel
theorem d_Wo_init_74 : decode b_Wo_init 74 = .ok (.putfield 28, 3) := by decide +kernel
theorem d_Wo_init_77 : decode b_Wo_init 77 = .ok (.aload_n 0, 1) := by decide +kernel
theorem d_Wo_init_78 : decode b_Wo_init 78 = .ok (.new 32, 3) := by decide +kernel
theorem d_Wo_init_81 : decode b_Wo_init 81 = .ok (.dup, 1) := by decide +kernel
theorem d_Wo_init_82 : decode b_Wo_init 82 = .ok (.aload_n 0, 1) := by decide +kernel
theorem d_Wo_init_83 : decode b_Wo_init 83 = .ok (.getfield 14, 3) := by decide +kernel
theorem d_Wo_init_86 : decode b_Wo_init 86 = .ok (.aload_n 0, 1) := by decide +kernel
theorem d_Wo_init_87 : decode b_Wo_init 87 = .ok (.getfield 21, 3) := by decide +kernel
theorem d_Wo_init_90 : decode b_Wo_init 90 = .ok (.invokespecial 34, 3) := by decide +kernel
theorem d_Wo_init_93 : decode b_Wo_init 93 = .ok (.putfield 37, 3) := by decide +kernel
theorem d_Wo_init_96 : decode b_Wo_init 96 = .ok (.aload_n 0, 1) := by decide +kernel
theorem d_Wo_init_97 : decode b_Wo_init 97 = .ok (.new 41, 3) := by decide +kernel
theorem d_Wo_init_100 : decode b_Wo_init 100 = .ok (.dup, 1) := by decide +kernel
theorem d_Wo_init_101 : decode b_Wo_init 101 = .ok (.invokespecial 43, 3) := by decide +kernel
theorem d_Wo_init_104 : decode b_Wo_init 104 = .ok (.putfield 44, 3) := by decide +kernel
theorem d_Wo_init_107 : decode b_Wo_init 107 = .ok (.aload_n 0, 1) := by decide +kernel
theorem d_Wo_init_108 : decode b_Wo_init 108 = .ok (.new 41, 3) := by decide +kernel
theorem d_Wo_init_111 : decode b_Wo_init 111 = .ok (.dup, 1) := by decide +kernel
theorem d_Wo_init_112 : decode b_Wo_init 112 = .ok (.invokespecial 43, 3) := by decide +kernel
theorem d_Wo_init_115 : decode b_Wo_init 115 = .ok (.putfield 48, 3) := by decide +kernel
theorem d_Wo_init_118 : decode b_Wo_init 118 = .ok (.return_, 1) := by decide +kernel
theorem d_Ta_init_0 : decode b_Ta_init 0 = .ok (.aload_n 0, 1) := by decide +kernel
theorem d_Ta_init_1 : decode b_Ta_init 1 = .ok (.invokespecial 1, 3) := by decide +kernel
theorem d_Ta_init_4 : decode b_Ta_init 4 = .ok (.aload_n 0, 1) := by decide +kernel
theorem d_Ta_init_5 : decode b_Ta_init 5 = .ok (.iload_n 1, 1) := by decide +kernel
theorem d_Ta_init_6 : decode b_Ta_init 6 = .ok (.newarray .long, 2) := by decide +kernel
theorem d_Ta_init_8 : decode b_Ta_init 8 = .ok (.putfield 7, 3) := by decide +kernel
theorem d_Ta_init_11 : decode b_Ta_init 11 = .ok (.aload_n 0, 1) := by decide +kernel
theorem d_Ta_init_12 : decode b_Ta_init 12 = .ok (.iload_n 1, 1) := by decide +kernel
theorem d_Ta_init_13 : decode b_Ta_init 13 = .ok (.newarray .int, 2) := by decide +kernel
theorem d_Ta_init_15 : decode b_Ta_init 15 = .ok (.putfield 13, 3) := by decide +kernel
theorem d_Ta_init_18 : decode b_Ta_init 18 = .ok (.return_, 1) := by decide +kernel
theorem d_Ls_init_0 : decode b_Ls_init 0 = .ok (.aload_n 0, 1) := by decide +kernel
theorem d_Ls_init_1 : decode b_Ls_init 1 = .ok (.invokespecial 3, 3) := by decide +kernel
theorem d_Ls_init_4 : decode b_Ls_init 4 = .ok (.aload_n 0, 1) := by decide +kernel
theorem d_Ls_init_5 : decode b_Ls_init 5 = .ok (.new 9, 3) := by decide +kernel
theorem d_Ls_init_8 : decode b_Ls_init 8 = .ok (.dup, 1) := by decide +kernel
theorem d_Ls_init_9 : decode b_Ls_init 9 = .ok (.sipush 500, 3) := by decide +kernel
theorem d_Ls_init_12 : decode b_Ls_init 12 = .ok (.invokespecial 11, 3) := by decide +kernel
theorem d_Ls_init_15 : decode b_Ls_init 15 = .ok (.putfield 14, 3) := by decide +kernel
theorem d_Ls_init_18 : decode b_Ls_init 18 = .ok (.aload_n 0, 1) := by decide +kernel
theorem d_Ls_init_19 : decode b_Ls_init 19 = .ok (.sipush 500, 3) := by decide +kernel
theorem d_Ls_init_22 : decode b_Ls_init 22 = .ok (.anewarray 20, 3) := by decide +kernel
theorem d_Ls_init_25 : decode b_Ls_init 25 = .ok (.putfield 22, 3) := by decide +kernel
theorem d_Ls_init_28 : decode b_Ls_init 28 = .ok (.return_, 1) := by decide +kernel
theorem d_Ro_init_0 : decode b_Ro_init 0 = .ok (.aload_n 0, 1) := by decide +kernel
theorem d_Ro_init_1 : decode b_Ro_init 1 = .ok (.invokespecial 3, 3) := by decide +kernel
theorem d_Ro_init_4 : decode b_Ro_init 4 = .ok (.aload_n 0, 1) := by decide +kernel
theorem d_Ro_init_5 : decode b_Ro_init 5 = .ok (.sipush 200, 3) := by decide +kernel
theorem d_Ro_init_8 : decode b_Ro_init 8 = .ok (.newarray .int, 2) := by decide +kernel
theorem d_Ro_init_10 : decode b_Ro_init 10 = .ok (.putfield 9, 3) := by decide +kernel
theorem d_Ro_init_13 : decode b_Ro_init 13 = .ok (.return_, 1) := by decide +kernel
theorem d_Fi_init_0 : decode b_Fi_init 0 = .ok (.aload_n 0, 1) := by decide +kernel
theorem d_Fi_init_1 : decode b_Fi_init 1 = .ok (.invokespecial 3, 3) := by decide +kernel
theorem d_Fi_init_4 : decode b_Fi_init 4 = .ok (.aload_n 0, 1) := by decide +kernel
theorem d_Fi_init_5 : decode b_Fi_init 5 = .ok (.sipush 200, 3) := by decide +kernel
theorem d_Fi_init_8 : decode b_Fi_init 8 = .ok (.newarray .int, 2) := by decide +kernel
theorem d_Fi_init_10 : decode b_Fi_init 10 = .ok (.putfield 9, 3) := by decide +kernel
theorem d_Fi_init_13 : decode b_Fi_init 13 = .ok (.aload_n 0, 1) := by decide +kernel
theorem d_Fi_init_14 : decode b_Fi_init 14 = .ok (.sipush 200, 3) := by decide +kernel
theorem d_Fi_init_17 : decode b_Fi_init 17 = .ok (.newarray .int, 2) := by decide +kernel
theorem d_Fi_init_19 : decode b_Fi_init 19 = .ok (.putfield 15, 3) := by decide +kernel
theorem d_Fi_init_22 : decode b_Fi_init 22 = .ok (.aload_n 0, 1) := by decide +kernel
theorem d_Fi_init_23 : decode b_Fi_init 23 = .ok (.aload_n 1, 1) := by decide +kernel
theorem d_Fi_init_24 : decode b_Fi_init 24 = .ok (.putfield 18, 3) := by decide +kernel
theorem d_Fi_init_27 : decode b_Fi_init 27 = .ok (.aload_n 0, 1) := by decide +kernel
theorem d_Fi_init_28 : decode b_Fi_init 28 = .ok (.aload_n 2, 1) := by decide +kernel
theorem d_Fi_init_29 : decode b_Fi_init 29 = .ok (.putfield 22, 3) := by decide +kernel
theorem d_Fi_init_32 : decode b_Fi_init 32 = .ok (.return_, 1) := by decide +kernel
theorem d_El_init_0 : decode b_El_init 0 = .ok (.aload_n 0, 1) := by decide +kernel
theorem d_El_init_1 : decode b_El_init 1 = .ok (.invokespecial 3, 3) := by decide +kernel
theorem d_El_init_4 : decode b_El_init 4 = .ok (.aload_n 0, 1) := by decide +kernel
theorem d_El_init_5 : decode b_El_init 5 = .ok (.sipush 1600, 3) := by decide +kernel
theorem d_El_init_8 : decode b_El_init 8 = .ok (.newarray .long, 2) := by decide +kernel
theorem d_El_init_10 : decode b_El_init 10 = .ok (.putfield 9, 3) := by decide +kernel
theorem d_El_init_13 : decode b_El_init 13 = .ok (.return_, 1) := by decide +kernel
theorem d_Wo_order_0 : decode b_Wo_order 0 = .ok (.iload_n 1, 1) := by decide +kernel
theorem d_Wo_order_1 : decode b_Wo_order 1 = .ok (.ldc 51, 2) := by decide +kernel
theorem d_Wo_order_3 : decode b_Wo_order 3 = .ok (.invokestatic 52, 3) := by decide +kernel
theorem d_Wo_order_6 : decode b_Wo_order 6 = .ok (.ifCond .eq 13, 3) := by decide +kernel
theorem d_Wo_order_9 : decode b_Wo_order 9 = .ok (.iload_n 2, 1) := by decide +kernel
theorem d_Wo_order_10 : decode b_Wo_order 10 = .ok (.sipush 254, 3) := by decide +kernel
theorem d_Wo_order_13 : decode b_Wo_order 13 = .ok (.invokestatic 52, 3) := by decide +kernel
theorem d_Wo_order_16 : decode b_Wo_order 16 = .ok (.ifCond .ne 11, 3) := by decide +kernel
theorem d_Wo_order_19 : decode b_Wo_order 19 = .ok (.new 56, 3) := by decide +kernel
theorem d_Wo_order_22 : decode b_Wo_order 22 = .ok (.dup, 1) := by decide +kernel
theorem d_Wo_order_23 : decode b_Wo_order 23 = .ok (.invokespecial 58, 3) := by decide +kernel
theorem d_Wo_order_26 : decode b_Wo_order 26 = .ok (.athrow, 1) := by decide +kernel
theorem d_Wo_order_27 : decode b_Wo_order 27 = .ok (.aload_n 0, 1) := by decide +kernel
theorem d_Wo_order_28 : decode b_Wo_order 28 = .ok (.getfield 14, 3) := by decide +kernel
theorem d_Wo_order_31 : decode b_Wo_order 31 = .ok (.iload_n 1, 1) := by decide +kernel
theorem d_Wo_order_32 : decode b_Wo_order 32 = .ok (.i2l, 1) := by decide +kernel
theorem d_Wo_order_33 : decode b_Wo_order 33 = .ok (.iload_n 2, 1) := by decide +kernel
theorem d_Wo_order_34 : decode b_Wo_order 34 = .ok (.invokevirtual 59, 3) := by decide +kernel
theorem d_Wo_order_37 : decode b_Wo_order 37 = .ok (.return_, 1) := by decide +kernel
theorem d_Wo_isWithin_0 : decode b_Wo_isWithin 0 = .ok (.iload_n 0, 1) := by decide +kernel
theorem d_Wo_isWithin_1 : decode b_Wo_isWithin 1 = .ok (.ifCond .lt 12, 3) := by decide +kernel
theorem d_Wo_isWithin_4 : decode b_Wo_isWithin 4 = .ok (.iload_n 0, 1) := by decide +kernel
theorem d_Wo_isWithin_5 : decode b_Wo_isWithin 5 = .ok (.iload_n 1, 1) := by decide +kernel
theorem d_Wo_isWithin_6 : decode b_Wo_isWithin 6 = .ok (.if_icmp .gt 7, 3) := by decide +kernel
theorem d_Wo_isWithin_9 : decode b_Wo_isWithin 9 = .ok (.iconst 1, 1) := by decide +kernel
theorem d_Wo_isWithin_10 : decode b_Wo_isWithin 10 = .ok (.goto 4, 3) := by decide +kernel
theorem d_Wo_isWithin_13 : decode b_Wo_isWithin 13 = .ok (.iconst 0, 1) := by decide +kernel
theorem d_Wo_isWithin_14 : decode b_Wo_isWithin 14 = .ok (.ireturn, 1) := by decide +kernel
theorem d_Ta_put_0 : decode b_Ta_put 0 = .ok (.aload_n 0, 1) := by decide +kernel
theorem d_Ta_put_1 : decode b_Ta_put 1 = .ok (.lload_n 1, 1) := by decide +kernel
theorem d_Ta_put_2 : decode b_Ta_put 2 = .ok (.invokevirtual 17, 3) := by decide +kernel
theorem d_Ta_put_5 : decode b_Ta_put 5 = .ok (.istore 4, 2) := by decide +kernel
theorem d_Ta_put_7 : decode b_Ta_put 7 = .ok (.iload 4, 2) := by decide +kernel
theorem d_Ta_put_9 : decode b_Ta_put 9 = .ok (.aload_n 0, 1) := by decide +kernel
theorem d_Ta_put_10 : decode b_Ta_put 10 = .ok (.getfield 21, 3) := by decide +kernel
theorem d_Ta_put_13 : decode b_Ta_put 13 = .ok (.if_icmp .ge 26, 3) := by decide +kernel
theorem d_Ta_put_16 : decode b_Ta_put 16 = .ok (.aload_n 0, 1) := by decide +kernel
theorem d_Ta_put_17 : decode b_Ta_put 17 = .ok (.getfield 7, 3) := by decide +kernel
theorem d_Ta_put_20 : decode b_Ta_put 20 = .ok (.iload 4, 2) := by decide +kernel
theorem d_Ta_put_22 : decode b_Ta_put 22 = .ok (.laload, 1) := by decide +kernel
theorem d_Ta_put_23 : decode b_Ta_put 23 = .ok (.lload_n 1, 1) := by decide +kernel
theorem d_Ta_put_24 : decode b_Ta_put 24 = .ok (.lcmp, 1) := by decide +kernel
theorem d_Ta_put_25 : decode b_Ta_put 25 = .ok (.ifCond .ne 14, 3) := by decide +kernel
theorem d_Ta_put_28 : decode b_Ta_put 28 = .ok (.aload_n 0, 1) := by decide +kernel
theorem d_Ta_put_29 : decode b_Ta_put 29 = .ok (.getfield 13, 3) := by decide +kernel
theorem d_Ta_put_32 : decode b_Ta_put 32 = .ok (.iload 4, 2) := by decide +kernel
theorem d_Ta_put_34 : decode b_Ta_put 34 = .ok (.iload_n 3, 1) := by decide +kernel
theorem d_Ta_put_35 : decode b_Ta_put 35 = .ok (.iastore, 1) := by decide +kernel
theorem d_Ta_put_36 : decode b_Ta_put 36 = .ok (.goto 23, 3) := by decide +kernel
theorem d_Ta_put_39 : decode b_Ta_put 39 = .ok (.aload_n 0, 1) := by decide +kernel
theorem d_Ta_put_40 : decode b_Ta_put 40 = .ok (.getfield 21, 3) := by decide +kernel
theorem d_Ta_put_43 : decode b_Ta_put 43 = .ok (.aload_n 0, 1) := by decide +kernel
theorem d_Ta_put_44 : decode b_Ta_put 44 = .ok (.getfield 7, 3) := by decide +kernel
theorem d_Ta_put_47 : decode b_Ta_put 47 = .ok (.arraylength, 1) := by decide +kernel
theorem d_Ta_put_48 : decode b_Ta_put 48 = .ok (.if_icmp .ge 11, 3) := by decide +kernel
theorem d_Ta_put_51 : decode b_Ta_put 51 = .ok (.aload_n 0, 1) := by decide +kernel
theorem d_Ta_put_52 : decode b_Ta_put 52 = .ok (.iload 4, 2) := by decide +kernel
theorem d_Ta_put_54 : decode b_Ta_put 54 = .ok (.lload_n 1, 1) := by decide +kernel
theorem d_Ta_put_55 : decode b_Ta_put 55 = .ok (.iload_n 3, 1) := by decide +kernel
theorem d_Ta_put_56 : decode b_Ta_put 56 = .ok (.invokevirtual 25, 3) := by decide +kernel
theorem d_Ta_put_59 : decode b_Ta_put 59 = .ok (.return_, 1) := by decide +kernel
theorem d_Ta_placeOf_0 : decode b_Ta_placeOf 0 = .ok (.iconst 0, 1) := by decide +kernel
theorem d_Ta_placeOf_1 : decode b_Ta_placeOf 1 = .ok (.istore_n 3, 1) := by decide +kernel
theorem d_Ta_placeOf_2 : decode b_Ta_placeOf 2 = .ok (.aload_n 0, 1) := by decide +kernel
theorem d_Ta_placeOf_3 : decode b_Ta_placeOf 3 = .ok (.getfield 21, 3) := by decide +kernel
theorem d_Ta_placeOf_6 : decode b_Ta_placeOf 6 = .ok (.istore 4, 2) := by decide +kernel
theorem d_Ta_placeOf_8 : decode b_Ta_placeOf 8 = .ok (.iload_n 3, 1) := by decide +kernel
theorem d_Ta_placeOf_9 : decode b_Ta_placeOf 9 = .ok (.iload 4, 2) := by decide +kernel
theorem d_Ta_placeOf_11 : decode b_Ta_placeOf 11 = .ok (.if_icmp .ge 38, 3) := by decide +kernel
theorem d_Ta_placeOf_14 : decode b_Ta_placeOf 14 = .ok (.iload_n 3, 1) := by decide +kernel
theorem d_Ta_placeOf_15 : decode b_Ta_placeOf 15 = .ok (.iload 4, 2) := by decide +kernel
theorem d_Ta_placeOf_17 : decode b_Ta_placeOf 17 = .ok (.iadd, 1) := by decide +kernel
theorem d_Ta_placeOf_18 : decode b_Ta_placeOf 18 = .ok (.iconst 1, 1) := by decide +kernel
theorem d_Ta_placeOf_19 : decode b_Ta_placeOf 19 = .ok (.iushr, 1) := by decide +kernel
theorem d_Ta_placeOf_20 : decode b_Ta_placeOf 20 = .ok (.istore 5, 2) := by decide +kernel
theorem d_Ta_placeOf_22 : decode b_Ta_placeOf 22 = .ok (.aload_n 0, 1) := by decide +kernel
theorem d_Ta_placeOf_23 : decode b_Ta_placeOf 23 = .ok (.getfield 7, 3) := by decide +kernel
theorem d_Ta_placeOf_26 : decode b_Ta_placeOf 26 = .ok (.iload 5, 2) := by decide +kernel
theorem d_Ta_placeOf_28 : decode b_Ta_placeOf 28 = .ok (.laload, 1) := by decide +kernel
theorem d_Ta_placeOf_29 : decode b_Ta_placeOf 29 = .ok (.lload_n 1, 1) := by decide +kernel
theorem d_Ta_placeOf_30 : decode b_Ta_placeOf 30 = .ok (.lcmp, 1) := by decide +kernel
theorem d_Ta_placeOf_31 : decode b_Ta_placeOf 31 = .ok (.ifCond .ge 11, 3) := by decide +kernel
theorem d_Ta_placeOf_34 : decode b_Ta_placeOf 34 = .ok (.iload 5, 2) := by decide +kernel
theorem d_Ta_placeOf_36 : decode b_Ta_placeOf 36 = .ok (.iconst 1, 1) := by decide +kernel
theorem d_Ta_placeOf_37 : decode b_Ta_placeOf 37 = .ok (.iadd, 1) := by decide +kernel
theorem d_Ta_placeOf_38 : decode b_Ta_placeOf 38 = .ok (.istore_n 3, 1) := by decide +kernel
theorem d_Ta_placeOf_39 : decode b_Ta_placeOf 39 = .ok (.goto 7, 3) := by decide +kernel
theorem d_Ta_placeOf_42 : decode b_Ta_placeOf 42 = .ok (.iload 5, 2) := by decide +kernel
theorem d_Ta_placeOf_44 : decode b_Ta_placeOf 44 = .ok (.istore 4, 2) := by decide +kernel
theorem d_Ta_placeOf_46 : decode b_Ta_placeOf 46 = .ok (.goto (-38), 3) := by decide +kernel
theorem d_Ta_placeOf_49 : decode b_Ta_placeOf 49 = .ok (.iload_n 3, 1) := by decide +kernel
theorem d_Ta_placeOf_50 : decode b_Ta_placeOf 50 = .ok (.ireturn, 1) := by decide +kernel
theorem d_Ta_insert_0 : decode b_Ta_insert 0 = .ok (.aload_n 0, 1) := by decide +kernel
theorem d_Ta_insert_1 : decode b_Ta_insert 1 = .ok (.getfield 7, 3) := by decide +kernel
theorem d_Ta_insert_4 : decode b_Ta_insert 4 = .ok (.iload_n 1, 1) := by decide +kernel
theorem d_Ta_insert_5 : decode b_Ta_insert 5 = .ok (.aload_n 0, 1) := by decide +kernel
theorem d_Ta_insert_6 : decode b_Ta_insert 6 = .ok (.getfield 7, 3) := by decide +kernel
theorem d_Ta_insert_9 : decode b_Ta_insert 9 = .ok (.iload_n 1, 1) := by decide +kernel
theorem d_Ta_insert_10 : decode b_Ta_insert 10 = .ok (.iconst 1, 1) := by decide +kernel
theorem d_Ta_insert_11 : decode b_Ta_insert 11 = .ok (.iadd, 1) := by decide +kernel
theorem d_Ta_insert_12 : decode b_Ta_insert 12 = .ok (.aload_n 0, 1) := by decide +kernel
theorem d_Ta_insert_13 : decode b_Ta_insert 13 = .ok (.getfield 21, 3) := by decide +kernel
theorem d_Ta_insert_16 : decode b_Ta_insert 16 = .ok (.iload_n 1, 1) := by decide +kernel
theorem d_Ta_insert_17 : decode b_Ta_insert 17 = .ok (.isub, 1) := by decide +kernel
theorem d_Ta_insert_18 : decode b_Ta_insert 18 = .ok (.invokestatic 29, 3) := by decide +kernel
theorem d_Ta_insert_21 : decode b_Ta_insert 21 = .ok (.aload_n 0, 1) := by decide +kernel
theorem d_Ta_insert_22 : decode b_Ta_insert 22 = .ok (.getfield 13, 3) := by decide +kernel
theorem d_Ta_insert_25 : decode b_Ta_insert 25 = .ok (.iload_n 1, 1) := by decide +kernel
theorem d_Ta_insert_26 : decode b_Ta_insert 26 = .ok (.aload_n 0, 1) := by decide +kernel
theorem d_Ta_insert_27 : decode b_Ta_insert 27 = .ok (.getfield 13, 3) := by decide +kernel
theorem d_Ta_insert_30 : decode b_Ta_insert 30 = .ok (.iload_n 1, 1) := by decide +kernel
theorem d_Ta_insert_31 : decode b_Ta_insert 31 = .ok (.iconst 1, 1) := by decide +kernel
theorem d_Ta_insert_32 : decode b_Ta_insert 32 = .ok (.iadd, 1) := by decide +kernel
theorem d_Ta_insert_33 : decode b_Ta_insert 33 = .ok (.aload_n 0, 1) := by decide +kernel
theorem d_Ta_insert_34 : decode b_Ta_insert 34 = .ok (.getfield 21, 3) := by decide +kernel
theorem d_Ta_insert_37 : decode b_Ta_insert 37 = .ok (.iload_n 1, 1) := by decide +kernel
theorem d_Ta_insert_38 : decode b_Ta_insert 38 = .ok (.isub, 1) := by decide +kernel
theorem d_Ta_insert_39 : decode b_Ta_insert 39 = .ok (.invokestatic 29, 3) := by decide +kernel
theorem d_Ta_insert_42 : decode b_Ta_insert 42 = .ok (.aload_n 0, 1) := by decide +kernel
theorem d_Ta_insert_43 : decode b_Ta_insert 43 = .ok (.getfield 7, 3) := by decide +kernel
theorem d_Ta_insert_46 : decode b_Ta_insert 46 = .ok (.iload_n 1, 1) := by decide +kernel
theorem d_Ta_insert_47 : decode b_Ta_insert 47 = .ok (.lload_n 2, 1) := by decide +kernel
theorem d_Ta_insert_48 : decode b_Ta_insert 48 = .ok (.lastore, 1) := by decide +kernel
theorem d_Ta_insert_49 : decode b_Ta_insert 49 = .ok (.aload_n 0, 1) := by decide +kernel
theorem d_Ta_insert_50 : decode b_Ta_insert 50 = .ok (.getfield 13, 3) := by decide +kernel
theorem d_Ta_insert_53 : decode b_Ta_insert 53 = .ok (.iload_n 1, 1) := by decide +kernel
theorem d_Ta_insert_54 : decode b_Ta_insert 54 = .ok (.iload 4, 2) := by decide +kernel
theorem d_Ta_insert_56 : decode b_Ta_insert 56 = .ok (.iastore, 1) := by decide +kernel
theorem d_Ta_insert_57 : decode b_Ta_insert 57 = .ok (.aload_n 0, 1) := by decide +kernel
theorem d_Ta_insert_58 : decode b_Ta_insert 58 = .ok (.dup, 1) := by decide +kernel
theorem d_Ta_insert_59 : decode b_Ta_insert 59 = .ok (.getfield 21, 3) := by decide +kernel
theorem d_Ta_insert_62 : decode b_Ta_insert 62 = .ok (.iconst 1, 1) := by decide +kernel
theorem d_Ta_insert_63 : decode b_Ta_insert 63 = .ok (.iadd, 1) := by decide +kernel
theorem d_Ta_insert_64 : decode b_Ta_insert 64 = .ok (.putfield 21, 3) := by decide +kernel
theorem d_Ta_insert_67 : decode b_Ta_insert 67 = .ok (.return_, 1) := by decide +kernel
theorem d_Wo_line_0 : decode b_Wo_line 0 = .ok (.iload_n 1, 1) := by decide +kernel
theorem d_Wo_line_1 : decode b_Wo_line 1 = .ok (.iconst 1, 1) := by decide +kernel
theorem d_Wo_line_2 : decode b_Wo_line 2 = .ok (.if_icmp .lt 18, 3) := by decide +kernel
theorem d_Wo_line_5 : decode b_Wo_line 5 = .ok (.iload_n 1, 1) := by decide +kernel
theorem d_Wo_line_6 : decode b_Wo_line 6 = .ok (.iconst 3, 1) := by decide +kernel
theorem d_Wo_line_7 : decode b_Wo_line 7 = .ok (.if_icmp .gt 13, 3) := by decide +kernel
theorem d_Wo_line_10 : decode b_Wo_line 10 = .ok (.iload_n 2, 1) := by decide +kernel
theorem d_Wo_line_11 : decode b_Wo_line 11 = .ok (.iload_n 3, 1) := by decide +kernel
theorem d_Wo_line_12 : decode b_Wo_line 12 = .ok (.iload 4, 2) := by decide +kernel
theorem d_Wo_line_14 : decode b_Wo_line 14 = .ok (.invokestatic 63, 3) := by decide +kernel
theorem d_Wo_line_17 : decode b_Wo_line 17 = .ok (.ifCond .ne 11, 3) := by decide +kernel
theorem d_Wo_line_20 : decode b_Wo_line 20 = .ok (.new 56, 3) := by decide +kernel
theorem d_Wo_line_23 : decode b_Wo_line 23 = .ok (.dup, 1) := by decide +kernel
theorem d_Wo_line_24 : decode b_Wo_line 24 = .ok (.invokespecial 58, 3) := by decide +kernel
theorem d_Wo_line_27 : decode b_Wo_line 27 = .ok (.athrow, 1) := by decide +kernel
theorem d_Wo_line_28 : decode b_Wo_line 28 = .ok (.iload_n 1, 1) := by decide +kernel
theorem d_Wo_line_29 : decode b_Wo_line 29 = .ok (.iload_n 2, 1) := by decide +kernel
theorem d_Wo_line_30 : decode b_Wo_line 30 = .ok (.iload_n 3, 1) := by decide +kernel
theorem d_Wo_line_31 : decode b_Wo_line 31 = .ok (.iload 4, 2) := by decide +kernel
theorem d_Wo_line_33 : decode b_Wo_line 33 = .ok (.invokestatic 67, 3) := by decide +kernel
theorem d_Wo_line_36 : decode b_Wo_line 36 = .ok (.lstore 5, 2) := by decide +kernel
theorem d_Wo_line_38 : decode b_Wo_line 38 = .ok (.aload_n 0, 1) := by decide +kernel
theorem d_Wo_line_39 : decode b_Wo_line 39 = .ok (.getfield 21, 3) := by decide +kernel
theorem d_Wo_line_42 : decode b_Wo_line 42 = .ok (.lload 5, 2) := by decide +kernel
theorem d_Wo_line_44 : decode b_Wo_line 44 = .ok (.invokevirtual 71, 3) := by decide +kernel
theorem d_Wo_line_47 : decode b_Wo_line 47 = .ok (.ifnonnull 21, 3) := by decide +kernel
theorem d_Wo_line_50 : decode b_Wo_line 50 = .ok (.aload_n 0, 1) := by decide +kernel
theorem d_Wo_line_51 : decode b_Wo_line 51 = .ok (.getfield 21, 3) := by decide +kernel
theorem d_Wo_line_54 : decode b_Wo_line 54 = .ok (.invokevirtual 75, 3) := by decide +kernel
theorem d_Wo_line_57 : decode b_Wo_line 57 = .ok (.ifCond .eq 11, 3) := by decide +kernel
theorem d_Wo_line_60 : decode b_Wo_line 60 = .ok (.new 79, 3) := by decide +kernel
theorem d_Wo_line_63 : decode b_Wo_line 63 = .ok (.dup, 1) := by decide +kernel
theorem d_Wo_line_64 : decode b_Wo_line 64 = .ok (.invokespecial 81, 3) := by decide +kernel
theorem d_Wo_line_67 : decode b_Wo_line 67 = .ok (.athrow, 1) := by decide +kernel
theorem d_Wo_line_68 : decode b_Wo_line 68 = .ok (.aload_n 0, 1) := by decide +kernel
theorem d_Wo_line_69 : decode b_Wo_line 69 = .ok (.getfield 21, 3) := by decide +kernel
theorem d_Wo_line_72 : decode b_Wo_line 72 = .ok (.lload 5, 2) := by decide +kernel
theorem d_Wo_line_74 : decode b_Wo_line 74 = .ok (.invokevirtual 82, 3) := by decide +kernel
theorem d_Wo_line_77 : decode b_Wo_line 77 = .ok (.aload_n 0, 1) := by decide +kernel
theorem d_Wo_line_78 : decode b_Wo_line 78 = .ok (.getfield 21, 3) := by decide +kernel
theorem d_Wo_line_81 : decode b_Wo_line 81 = .ok (.getfield 86, 3) := by decide +kernel
theorem d_Wo_line_84 : decode b_Wo_line 84 = .ok (.ireturn, 1) := by decide +kernel
theorem d_Wo_arePoints_0 : decode b_Wo_arePoints 0 = .ok (.iload_n 0, 1) := by decide +kernel
theorem d_Wo_arePoints_1 : decode b_Wo_arePoints 1 = .ok (.ldc 51, 2) := by decide +kernel
theorem d_Wo_arePoints_3 : decode b_Wo_arePoints 3 = .ok (.invokestatic 52, 3) := by decide +kernel
theorem d_Wo_arePoints_6 : decode b_Wo_arePoints 6 = .ok (.ifCond .eq 25, 3) := by decide +kernel
theorem d_Wo_arePoints_9 : decode b_Wo_arePoints 9 = .ok (.iload_n 1, 1) := by decide +kernel
theorem d_Wo_arePoints_10 : decode b_Wo_arePoints 10 = .ok (.ldc 51, 2) := by decide +kernel
theorem d_Wo_arePoints_12 : decode b_Wo_arePoints 12 = .ok (.invokestatic 52, 3) := by decide +kernel
theorem d_Wo_arePoints_15 : decode b_Wo_arePoints 15 = .ok (.ifCond .eq 16, 3) := by decide +kernel
theorem d_Wo_arePoints_18 : decode b_Wo_arePoints 18 = .ok (.iload_n 2, 1) := by decide +kernel
theorem d_Wo_arePoints_19 : decode b_Wo_arePoints 19 = .ok (.ldc 51, 2) := by decide +kernel
theorem d_Wo_arePoints_21 : decode b_Wo_arePoints 21 = .ok (.invokestatic 52, 3) := by decide +kernel
theorem d_Wo_arePoints_24 : decode b_Wo_arePoints 24 = .ok (.ifCond .eq 7, 3) := by decide +kernel
theorem d_Wo_arePoints_27 : decode b_Wo_arePoints 27 = .ok (.iconst 1, 1) := by decide +kernel
theorem d_Wo_arePoints_28 : decode b_Wo_arePoints 28 = .ok (.goto 4, 3) := by decide +kernel
theorem d_Wo_arePoints_31 : decode b_Wo_arePoints 31 = .ok (.iconst 0, 1) := by decide +kernel
theorem d_Wo_arePoints_32 : decode b_Wo_arePoints 32 = .ok (.ireturn, 1) := by decide +kernel
theorem d_Wo_keyOf_0 : decode b_Wo_keyOf 0 = .ok (.lconst 0, 1) := by decide +kernel
theorem d_Wo_keyOf_1 : decode b_Wo_keyOf 1 = .ok (.iload_n 1, 1) := by decide +kernel
theorem d_Wo_keyOf_2 : decode b_Wo_keyOf 2 = .ok (.invokestatic 128, 3) := by decide +kernel
theorem d_Wo_keyOf_5 : decode b_Wo_keyOf 5 = .ok (.lstore 4, 2) := by decide +kernel
theorem d_Wo_keyOf_7 : decode b_Wo_keyOf 7 = .ok (.iload_n 0, 1) := by decide +kernel
theorem d_Wo_keyOf_8 : decode b_Wo_keyOf 8 = .ok (.iconst 1, 1) := by decide +kernel
theorem d_Wo_keyOf_9 : decode b_Wo_keyOf 9 = .ok (.if_icmp .le 11, 3) := by decide +kernel
theorem d_Wo_keyOf_12 : decode b_Wo_keyOf 12 = .ok (.lload 4, 2) := by decide +kernel
theorem d_Wo_keyOf_14 : decode b_Wo_keyOf 14 = .ok (.iload_n 2, 1) := by decide +kernel
theorem d_Wo_keyOf_15 : decode b_Wo_keyOf 15 = .ok (.invokestatic 128, 3) := by decide +kernel
theorem d_Wo_keyOf_18 : decode b_Wo_keyOf 18 = .ok (.lstore 4, 2) := by decide +kernel
theorem d_Wo_keyOf_20 : decode b_Wo_keyOf 20 = .ok (.iload_n 0, 1) := by decide +kernel
theorem d_Wo_keyOf_21 : decode b_Wo_keyOf 21 = .ok (.iconst 2, 1) := by decide +kernel
theorem d_Wo_keyOf_22 : decode b_Wo_keyOf 22 = .ok (.if_icmp .le 11, 3) := by decide +kernel
theorem d_Wo_keyOf_25 : decode b_Wo_keyOf 25 = .ok (.lload 4, 2) := by decide +kernel
theorem d_Wo_keyOf_27 : decode b_Wo_keyOf 27 = .ok (.iload_n 3, 1) := by decide +kernel
theorem d_Wo_keyOf_28 : decode b_Wo_keyOf 28 = .ok (.invokestatic 128, 3) := by decide +kernel
theorem d_Wo_keyOf_31 : decode b_Wo_keyOf 31 = .ok (.lstore 4, 2) := by decide +kernel
theorem d_Wo_keyOf_33 : decode b_Wo_keyOf 33 = .ok (.lload 4, 2) := by decide +kernel
theorem d_Wo_keyOf_35 : decode b_Wo_keyOf 35 = .ok (.lreturn, 1) := by decide +kernel
theorem d_Wo_longerKey_0 : decode b_Wo_longerKey 0 = .ok (.lload_n 0, 1) := by decide +kernel
theorem d_Wo_longerKey_1 : decode b_Wo_longerKey 1 = .ok (.bipush 21, 2) := by decide +kernel
theorem d_Wo_longerKey_3 : decode b_Wo_longerKey 3 = .ok (.lshl, 1) := by decide +kernel
theorem d_Wo_longerKey_4 : decode b_Wo_longerKey 4 = .ok (.iload_n 2, 1) := by decide +kernel
theorem d_Wo_longerKey_5 : decode b_Wo_longerKey 5 = .ok (.iconst 1, 1) := by decide +kernel
theorem d_Wo_longerKey_6 : decode b_Wo_longerKey 6 = .ok (.iadd, 1) := by decide +kernel
theorem d_Wo_longerKey_7 : decode b_Wo_longerKey 7 = .ok (.i2l, 1) := by decide +kernel
theorem d_Wo_longerKey_8 : decode b_Wo_longerKey 8 = .ok (.lor, 1) := by decide +kernel
theorem d_Wo_longerKey_9 : decode b_Wo_longerKey 9 = .ok (.lreturn, 1) := by decide +kernel
theorem d_Ls_find_0 : decode b_Ls_find 0 = .ok (.aload_n 0, 1) := by decide +kernel
theorem d_Ls_find_1 : decode b_Ls_find 1 = .ok (.getfield 14, 3) := by decide +kernel
theorem d_Ls_find_4 : decode b_Ls_find 4 = .ok (.lload_n 1, 1) := by decide +kernel
theorem d_Ls_find_5 : decode b_Ls_find 5 = .ok (.iconst (-1), 1) := by decide +kernel
theorem d_Ls_find_6 : decode b_Ls_find 6 = .ok (.invokevirtual 30, 3) := by decide +kernel
theorem d_Ls_find_9 : decode b_Ls_find 9 = .ok (.istore_n 3, 1) := by decide +kernel
theorem d_Ls_find_10 : decode b_Ls_find 10 = .ok (.iload_n 3, 1) := by decide +kernel
theorem d_Ls_find_11 : decode b_Ls_find 11 = .ok (.iconst (-1), 1) := by decide +kernel
theorem d_Ls_find_12 : decode b_Ls_find 12 = .ok (.if_icmp .ne 7, 3) := by decide +kernel
theorem d_Ls_find_15 : decode b_Ls_find 15 = .ok (.aconst_null, 1) := by decide +kernel
theorem d_Ls_find_16 : decode b_Ls_find 16 = .ok (.goto 9, 3) := by decide +kernel
theorem d_Ls_find_19 : decode b_Ls_find 19 = .ok (.aload_n 0, 1) := by decide +kernel
theorem d_Ls_find_20 : decode b_Ls_find 20 = .ok (.getfield 22, 3) := by decide +kernel
theorem d_Ls_find_23 : decode b_Ls_find 23 = .ok (.iload_n 3, 1) := by decide +kernel
theorem d_Ls_find_24 : decode b_Ls_find 24 = .ok (.aaload, 1) := by decide +kernel
theorem d_Ls_find_25 : decode b_Ls_find 25 = .ok (.areturn, 1) := by decide +kernel
theorem d_Ta_valueOf_0 : decode b_Ta_valueOf 0 = .ok (.aload_n 0, 1) := by decide +kernel
theorem d_Ta_valueOf_1 : decode b_Ta_valueOf 1 = .ok (.lload_n 1, 1) := by decide +kernel
theorem d_Ta_valueOf_2 : decode b_Ta_valueOf 2 = .ok (.invokevirtual 17, 3) := by decide +kernel
theorem d_Ta_valueOf_5 : decode b_Ta_valueOf 5 = .ok (.istore 4, 2) := by decide +kernel
theorem d_Ta_valueOf_7 : decode b_Ta_valueOf 7 = .ok (.iload 4, 2) := by decide +kernel
theorem d_Ta_valueOf_9 : decode b_Ta_valueOf 9 = .ok (.aload_n 0, 1) := by decide +kernel
theorem d_Ta_valueOf_10 : decode b_Ta_valueOf 10 = .ok (.getfield 21, 3) := by decide +kernel
theorem d_Ta_valueOf_13 : decode b_Ta_valueOf 13 = .ok (.if_icmp .ge 25, 3) := by decide +kernel
theorem d_Ta_valueOf_16 : decode b_Ta_valueOf 16 = .ok (.aload_n 0, 1) := by decide +kernel
theorem d_Ta_valueOf_17 : decode b_Ta_valueOf 17 = .ok (.getfield 7, 3) := by decide +kernel
theorem d_Ta_valueOf_20 : decode b_Ta_valueOf 20 = .ok (.iload 4, 2) := by decide +kernel
theorem d_Ta_valueOf_22 : decode b_Ta_valueOf 22 = .ok (.laload, 1) := by decide +kernel
theorem d_Ta_valueOf_23 : decode b_Ta_valueOf 23 = .ok (.lload_n 1, 1) := by decide +kernel
theorem d_Ta_valueOf_24 : decode b_Ta_valueOf 24 = .ok (.lcmp, 1) := by decide +kernel
theorem d_Ta_valueOf_25 : decode b_Ta_valueOf 25 = .ok (.ifCond .ne 13, 3) := by decide +kernel
theorem d_Ta_valueOf_28 : decode b_Ta_valueOf 28 = .ok (.aload_n 0, 1) := by decide +kernel
theorem d_Ta_valueOf_29 : decode b_Ta_valueOf 29 = .ok (.getfield 13, 3) := by decide +kernel
theorem d_Ta_valueOf_32 : decode b_Ta_valueOf 32 = .ok (.iload 4, 2) := by decide +kernel
theorem d_Ta_valueOf_34 : decode b_Ta_valueOf 34 = .ok (.iaload, 1) := by decide +kernel
theorem d_Ta_valueOf_35 : decode b_Ta_valueOf 35 = .ok (.goto 4, 3) := by decide +kernel
theorem d_Ta_valueOf_38 : decode b_Ta_valueOf 38 = .ok (.iload_n 3, 1) := by decide +kernel
theorem d_Ta_valueOf_39 : decode b_Ta_valueOf 39 = .ok (.ireturn, 1) := by decide +kernel
theorem d_Ls_isFull_0 : decode b_Ls_isFull 0 = .ok (.aload_n 0, 1) := by decide +kernel
theorem d_Ls_isFull_1 : decode b_Ls_isFull 1 = .ok (.getfield 26, 3) := by decide +kernel
theorem d_Ls_isFull_4 : decode b_Ls_isFull 4 = .ok (.aload_n 0, 1) := by decide +kernel
theorem d_Ls_isFull_5 : decode b_Ls_isFull 5 = .ok (.getfield 22, 3) := by decide +kernel
theorem d_Ls_isFull_8 : decode b_Ls_isFull 8 = .ok (.arraylength, 1) := by decide +kernel
theorem d_Ls_isFull_9 : decode b_Ls_isFull 9 = .ok (.if_icmp .ne 7, 3) := by decide +kernel
theorem d_Ls_isFull_12 : decode b_Ls_isFull 12 = .ok (.iconst 1, 1) := by decide +kernel
theorem d_Ls_isFull_13 : decode b_Ls_isFull 13 = .ok (.goto 4, 3) := by decide +kernel
theorem d_Ls_isFull_16 : decode b_Ls_isFull 16 = .ok (.iconst 0, 1) := by decide +kernel
theorem d_Ls_isFull_17 : decode b_Ls_isFull 17 = .ok (.ireturn, 1) := by decide +kernel
theorem d_Ls_tell_0 : decode b_Ls_tell 0 = .ok (.aload_n 0, 1) := by decide +kernel
theorem d_Ls_tell_1 : decode b_Ls_tell 1 = .ok (.lload_n 1, 1) := by decide +kernel
theorem d_Ls_tell_2 : decode b_Ls_tell 2 = .ok (.invokevirtual 34, 3) := by decide +kernel
theorem d_Ls_tell_5 : decode b_Ls_tell 5 = .ok (.astore_n 3, 1) := by decide +kernel
theorem d_Ls_tell_6 : decode b_Ls_tell 6 = .ok (.aload_n 3, 1) := by decide +kernel
theorem d_Ls_tell_7 : decode b_Ls_tell 7 = .ok (.ifnonnull 43, 3) := by decide +kernel
theorem d_Ls_tell_10 : decode b_Ls_tell 10 = .ok (.new 20, 3) := by decide +kernel
theorem d_Ls_tell_13 : decode b_Ls_tell 13 = .ok (.dup, 1) := by decide +kernel
theorem d_Ls_tell_14 : decode b_Ls_tell 14 = .ok (.invokespecial 38, 3) := by decide +kernel
theorem d_Ls_tell_17 : decode b_Ls_tell 17 = .ok (.astore_n 3, 1) := by decide +kernel
theorem d_Ls_tell_18 : decode b_Ls_tell 18 = .ok (.aload_n 0, 1) := by decide +kernel
theorem d_Ls_tell_19 : decode b_Ls_tell 19 = .ok (.getfield 14, 3) := by decide +kernel
theorem d_Ls_tell_22 : decode b_Ls_tell 22 = .ok (.lload_n 1, 1) := by decide +kernel
theorem d_Ls_tell_23 : decode b_Ls_tell 23 = .ok (.aload_n 0, 1) := by decide +kernel
theorem d_Ls_tell_24 : decode b_Ls_tell 24 = .ok (.getfield 26, 3) := by decide +kernel
theorem d_Ls_tell_27 : decode b_Ls_tell 27 = .ok (.invokevirtual 39, 3) := by decide +kernel
theorem d_Ls_tell_30 : decode b_Ls_tell 30 = .ok (.aload_n 0, 1) := by decide +kernel
theorem d_Ls_tell_31 : decode b_Ls_tell 31 = .ok (.getfield 22, 3) := by decide +kernel
theorem d_Ls_tell_34 : decode b_Ls_tell 34 = .ok (.aload_n 0, 1) := by decide +kernel
theorem d_Ls_tell_35 : decode b_Ls_tell 35 = .ok (.getfield 26, 3) := by decide +kernel
theorem d_Ls_tell_38 : decode b_Ls_tell 38 = .ok (.aload_n 3, 1) := by decide +kernel
theorem d_Ls_tell_39 : decode b_Ls_tell 39 = .ok (.aastore, 1) := by decide +kernel
theorem d_Ls_tell_40 : decode b_Ls_tell 40 = .ok (.aload_n 0, 1) := by decide +kernel
theorem d_Ls_tell_41 : decode b_Ls_tell 41 = .ok (.dup, 1) := by decide +kernel
theorem d_Ls_tell_42 : decode b_Ls_tell 42 = .ok (.getfield 26, 3) := by decide +kernel
theorem d_Ls_tell_45 : decode b_Ls_tell 45 = .ok (.iconst 1, 1) := by decide +kernel
theorem d_Ls_tell_46 : decode b_Ls_tell 46 = .ok (.iadd, 1) := by decide +kernel
theorem d_Ls_tell_47 : decode b_Ls_tell 47 = .ok (.putfield 26, 3) := by decide +kernel
theorem d_Ls_tell_50 : decode b_Ls_tell 50 = .ok (.aload_n 3, 1) := by decide +kernel
theorem d_Ls_tell_51 : decode b_Ls_tell 51 = .ok (.iconst 0, 1) := by decide +kernel
theorem d_Ls_tell_52 : decode b_Ls_tell 52 = .ok (.putfield 43, 3) := by decide +kernel
theorem d_Ls_tell_55 : decode b_Ls_tell 55 = .ok (.aload_n 0, 1) := by decide +kernel
theorem d_Ls_tell_56 : decode b_Ls_tell 56 = .ok (.aload_n 3, 1) := by decide +kernel
theorem d_Ls_tell_57 : decode b_Ls_tell 57 = .ok (.putfield 44, 3) := by decide +kernel
theorem d_Ls_tell_60 : decode b_Ls_tell 60 = .ok (.return_, 1) := by decide +kernel
theorem d_Li_init_0 : decode b_Li_init 0 = .ok (.aload_n 0, 1) := by decide +kernel
theorem d_Li_init_1 : decode b_Li_init 1 = .ok (.invokespecial 3, 3) := by decide +kernel
theorem d_Li_init_4 : decode b_Li_init 4 = .ok (.aload_n 0, 1) := by decide +kernel
theorem d_Li_init_5 : decode b_Li_init 5 = .ok (.bipush 8, 2) := by decide +kernel
theorem d_Li_init_7 : decode b_Li_init 7 = .ok (.newarray .long, 2) := by decide +kernel
theorem d_Li_init_9 : decode b_Li_init 9 = .ok (.putfield 9, 3) := by decide +kernel
theorem d_Li_init_12 : decode b_Li_init 12 = .ok (.aload_n 0, 1) := by decide +kernel
theorem d_Li_init_13 : decode b_Li_init 13 = .ok (.bipush 8, 2) := by decide +kernel
theorem d_Li_init_15 : decode b_Li_init 15 = .ok (.newarray .boolean, 2) := by decide +kernel
theorem d_Li_init_17 : decode b_Li_init 17 = .ok (.putfield 15, 3) := by decide +kernel
theorem d_Li_init_20 : decode b_Li_init 20 = .ok (.return_, 1) := by decide +kernel
theorem d_Wo_element_0 : decode b_Wo_element 0 = .ok (.iload_n 1, 1) := by decide +kernel
theorem d_Wo_element_1 : decode b_Wo_element 1 = .ok (.ldc 90, 2) := by decide +kernel
theorem d_Wo_element_3 : decode b_Wo_element 3 = .ok (.invokestatic 52, 3) := by decide +kernel
theorem d_Wo_element_6 : decode b_Wo_element 6 = .ok (.ifCond .eq 21, 3) := by decide +kernel
theorem d_Wo_element_9 : decode b_Wo_element 9 = .ok (.iload_n 2, 1) := by decide +kernel
theorem d_Wo_element_10 : decode b_Wo_element 10 = .ok (.ldc 90, 2) := by decide +kernel
theorem d_Wo_element_12 : decode b_Wo_element 12 = .ok (.invokestatic 52, 3) := by decide +kernel
theorem d_Wo_element_15 : decode b_Wo_element 15 = .ok (.ifCond .eq 12, 3) := by decide +kernel
theorem d_Wo_element_18 : decode b_Wo_element 18 = .ok (.iload_n 3, 1) := by decide +kernel
theorem d_Wo_element_19 : decode b_Wo_element 19 = .ok (.ldc 90, 2) := by decide +kernel
theorem d_Wo_element_21 : decode b_Wo_element 21 = .ok (.invokestatic 52, 3) := by decide +kernel
theorem d_Wo_element_24 : decode b_Wo_element 24 = .ok (.ifCond .ne 11, 3) := by decide +kernel
theorem d_Wo_element_27 : decode b_Wo_element 27 = .ok (.new 56, 3) := by decide +kernel
theorem d_Wo_element_30 : decode b_Wo_element 30 = .ok (.dup, 1) := by decide +kernel
theorem d_Wo_element_31 : decode b_Wo_element 31 = .ok (.invokespecial 58, 3) := by decide +kernel
theorem d_Wo_element_34 : decode b_Wo_element 34 = .ok (.athrow, 1) := by decide +kernel
theorem d_Wo_element_35 : decode b_Wo_element 35 = .ok (.aload_n 0, 1) := by decide +kernel
theorem d_Wo_element_36 : decode b_Wo_element 36 = .ok (.getfield 21, 3) := by decide +kernel
theorem d_Wo_element_39 : decode b_Wo_element 39 = .ok (.getfield 91, 3) := by decide +kernel
theorem d_Wo_element_42 : decode b_Wo_element 42 = .ok (.astore 5, 2) := by decide +kernel
theorem d_Wo_element_44 : decode b_Wo_element 44 = .ok (.aload 5, 2) := by decide +kernel
theorem d_Wo_element_46 : decode b_Wo_element 46 = .ok (.ifnonnull 11, 3) := by decide +kernel
theorem d_Wo_element_49 : decode b_Wo_element 49 = .ok (.new 56, 3) := by decide +kernel
theorem d_Wo_element_52 : decode b_Wo_element 52 = .ok (.dup, 1) := by decide +kernel
theorem d_Wo_element_53 : decode b_Wo_element 53 = .ok (.invokespecial 58, 3) := by decide +kernel
theorem d_Wo_element_56 : decode b_Wo_element 56 = .ok (.athrow, 1) := by decide +kernel
theorem d_Wo_element_57 : decode b_Wo_element 57 = .ok (.aload 5, 2) := by decide +kernel
theorem d_Wo_element_59 : decode b_Wo_element 59 = .ok (.invokevirtual 95, 3) := by decide +kernel
theorem d_Wo_element_62 : decode b_Wo_element 62 = .ok (.ifCond .eq 11, 3) := by decide +kernel
theorem d_Wo_element_65 : decode b_Wo_element 65 = .ok (.new 79, 3) := by decide +kernel
theorem d_Wo_element_68 : decode b_Wo_element 68 = .ok (.dup, 1) := by decide +kernel
theorem d_Wo_element_69 : decode b_Wo_element 69 = .ok (.invokespecial 81, 3) := by decide +kernel
theorem d_Wo_element_72 : decode b_Wo_element 72 = .ok (.athrow, 1) := by decide +kernel
theorem d_Wo_element_73 : decode b_Wo_element 73 = .ok (.aload 5, 2) := by decide +kernel
theorem d_Wo_element_75 : decode b_Wo_element 75 = .ok (.iload_n 1, 1) := by decide +kernel
theorem d_Wo_element_76 : decode b_Wo_element 76 = .ok (.iload_n 2, 1) := by decide +kernel
theorem d_Wo_element_77 : decode b_Wo_element 77 = .ok (.iload_n 3, 1) := by decide +kernel
theorem d_Wo_element_78 : decode b_Wo_element 78 = .ok (.invokestatic 98, 3) := by decide +kernel
theorem d_Wo_element_81 : decode b_Wo_element 81 = .ok (.iload 4, 2) := by decide +kernel
theorem d_Wo_element_83 : decode b_Wo_element 83 = .ok (.invokevirtual 102, 3) := by decide +kernel
theorem d_Wo_element_86 : decode b_Wo_element 86 = .ok (.aload 5, 2) := by decide +kernel
theorem d_Wo_element_88 : decode b_Wo_element 88 = .ok (.getfield 106, 3) := by decide +kernel
theorem d_Wo_element_91 : decode b_Wo_element 91 = .ok (.ireturn, 1) := by decide +kernel
theorem d_Li_isFull_0 : decode b_Li_isFull 0 = .ok (.aload_n 0, 1) := by decide +kernel
theorem d_Li_isFull_1 : decode b_Li_isFull 1 = .ok (.getfield 19, 3) := by decide +kernel
theorem d_Li_isFull_4 : decode b_Li_isFull 4 = .ok (.aload_n 0, 1) := by decide +kernel
theorem d_Li_isFull_5 : decode b_Li_isFull 5 = .ok (.getfield 9, 3) := by decide +kernel
theorem d_Li_isFull_8 : decode b_Li_isFull 8 = .ok (.arraylength, 1) := by decide +kernel
theorem d_Li_isFull_9 : decode b_Li_isFull 9 = .ok (.if_icmp .ne 7, 3) := by decide +kernel
theorem d_Li_isFull_12 : decode b_Li_isFull 12 = .ok (.iconst 1, 1) := by decide +kernel
theorem d_Li_isFull_13 : decode b_Li_isFull 13 = .ok (.goto 4, 3) := by decide +kernel
theorem d_Li_isFull_16 : decode b_Li_isFull 16 = .ok (.iconst 0, 1) := by decide +kernel
theorem d_Li_isFull_17 : decode b_Li_isFull 17 = .ok (.ireturn, 1) := by decide +kernel
theorem d_Wo_pack_0 : decode b_Wo_pack 0 = .ok (.iload_n 0, 1) := by decide +kernel
theorem d_Wo_pack_1 : decode b_Wo_pack 1 = .ok (.i2l, 1) := by decide +kernel
theorem d_Wo_pack_2 : decode b_Wo_pack 2 = .ok (.bipush 48, 2) := by decide +kernel
theorem d_Wo_pack_4 : decode b_Wo_pack 4 = .ok (.lshl, 1) := by decide +kernel
theorem d_Wo_pack_5 : decode b_Wo_pack 5 = .ok (.iload_n 1, 1) := by decide +kernel
theorem d_Wo_pack_6 : decode b_Wo_pack 6 = .ok (.i2l, 1) := by decide +kernel
theorem d_Wo_pack_7 : decode b_Wo_pack 7 = .ok (.bipush 32, 2) := by decide +kernel
theorem d_Wo_pack_9 : decode b_Wo_pack 9 = .ok (.lshl, 1) := by decide +kernel
theorem d_Wo_pack_10 : decode b_Wo_pack 10 = .ok (.lor, 1) := by decide +kernel
theorem d_Wo_pack_11 : decode b_Wo_pack 11 = .ok (.iload_n 2, 1) := by decide +kernel
theorem d_Wo_pack_12 : decode b_Wo_pack 12 = .ok (.i2l, 1) := by decide +kernel
theorem d_Wo_pack_13 : decode b_Wo_pack 13 = .ok (.bipush 16, 2) := by decide +kernel
theorem d_Wo_pack_15 : decode b_Wo_pack 15 = .ok (.lshl, 1) := by decide +kernel
theorem d_Wo_pack_16 : decode b_Wo_pack 16 = .ok (.lor, 1) := by decide +kernel
theorem d_Wo_pack_17 : decode b_Wo_pack 17 = .ok (.lreturn, 1) := by decide +kernel
theorem d_Li_append_0 : decode b_Li_append 0 = .ok (.aload_n 0, 1) := by decide +kernel
theorem d_Li_append_1 : decode b_Li_append 1 = .ok (.getfield 9, 3) := by decide +kernel
theorem d_Li_append_4 : decode b_Li_append 4 = .ok (.aload_n 0, 1) := by decide +kernel
theorem d_Li_append_5 : decode b_Li_append 5 = .ok (.getfield 19, 3) := by decide +kernel
theorem d_Li_append_8 : decode b_Li_append 8 = .ok (.lload_n 1, 1) := by decide +kernel
theorem d_Li_append_9 : decode b_Li_append 9 = .ok (.lastore, 1) := by decide +kernel
theorem d_Li_append_10 : decode b_Li_append 10 = .ok (.aload_n 0, 1) := by decide +kernel
theorem d_Li_append_11 : decode b_Li_append 11 = .ok (.getfield 15, 3) := by decide +kernel
theorem d_Li_append_14 : decode b_Li_append 14 = .ok (.aload_n 0, 1) := by decide +kernel
theorem d_Li_append_15 : decode b_Li_append 15 = .ok (.getfield 19, 3) := by decide +kernel
theorem d_Li_append_18 : decode b_Li_append 18 = .ok (.iload_n 3, 1) := by decide +kernel
theorem d_Li_append_19 : decode b_Li_append 19 = .ok (.bastore, 1) := by decide +kernel
theorem d_Li_append_20 : decode b_Li_append 20 = .ok (.aload_n 0, 1) := by decide +kernel
theorem d_Li_append_21 : decode b_Li_append 21 = .ok (.dup, 1) := by decide +kernel
theorem d_Li_append_22 : decode b_Li_append 22 = .ok (.getfield 19, 3) := by decide +kernel
theorem d_Li_append_25 : decode b_Li_append 25 = .ok (.iconst 1, 1) := by decide +kernel
theorem d_Li_append_26 : decode b_Li_append 26 = .ok (.iadd, 1) := by decide +kernel
theorem d_Li_append_27 : decode b_Li_append 27 = .ok (.putfield 19, 3) := by decide +kernel
theorem d_Li_append_30 : decode b_Li_append 30 = .ok (.return_, 1) := by decide +kernel
theorem d_Wo_add_0 : decode b_Wo_add 0 = .ok (.iload_n 1, 1) := by decide +kernel
theorem d_Wo_add_1 : decode b_Wo_add 1 = .ok (.iconst 3, 1) := by decide +kernel
theorem d_Wo_add_2 : decode b_Wo_add 2 = .ok (.invokestatic 52, 3) := by decide +kernel
theorem d_Wo_add_5 : decode b_Wo_add 5 = .ok (.ifCond .eq 12, 3) := by decide +kernel
theorem d_Wo_add_8 : decode b_Wo_add 8 = .ok (.iload_n 2, 1) := by decide +kernel
theorem d_Wo_add_9 : decode b_Wo_add 9 = .ok (.ldc 51, 2) := by decide +kernel
theorem d_Wo_add_11 : decode b_Wo_add 11 = .ok (.invokestatic 52, 3) := by decide +kernel
theorem d_Wo_add_14 : decode b_Wo_add 14 = .ok (.ifCond .ne 11, 3) := by decide +kernel
theorem d_Wo_add_17 : decode b_Wo_add 17 = .ok (.new 56, 3) := by decide +kernel
theorem d_Wo_add_20 : decode b_Wo_add 20 = .ok (.dup, 1) := by decide +kernel
theorem d_Wo_add_21 : decode b_Wo_add 21 = .ok (.invokespecial 58, 3) := by decide +kernel
theorem d_Wo_add_24 : decode b_Wo_add 24 = .ok (.athrow, 1) := by decide +kernel
theorem d_Wo_add_25 : decode b_Wo_add 25 = .ok (.aload_n 0, 1) := by decide +kernel
theorem d_Wo_add_26 : decode b_Wo_add 26 = .ok (.getfield 28, 3) := by decide +kernel
theorem d_Wo_add_29 : decode b_Wo_add 29 = .ok (.iload_n 1, 1) := by decide +kernel
theorem d_Wo_add_30 : decode b_Wo_add 30 = .ok (.aaload, 1) := by decide +kernel
theorem d_Wo_add_31 : decode b_Wo_add 31 = .ok (.invokevirtual 107, 3) := by decide +kernel
theorem d_Wo_add_34 : decode b_Wo_add 34 = .ok (.ifCond .eq 11, 3) := by decide +kernel
theorem d_Wo_add_37 : decode b_Wo_add 37 = .ok (.new 79, 3) := by decide +kernel
theorem d_Wo_add_40 : decode b_Wo_add 40 = .ok (.dup, 1) := by decide +kernel
theorem d_Wo_add_41 : decode b_Wo_add 41 = .ok (.invokespecial 81, 3) := by decide +kernel
theorem d_Wo_add_44 : decode b_Wo_add 44 = .ok (.athrow, 1) := by decide +kernel
theorem d_Wo_add_45 : decode b_Wo_add 45 = .ok (.aload_n 0, 1) := by decide +kernel
theorem d_Wo_add_46 : decode b_Wo_add 46 = .ok (.getfield 28, 3) := by decide +kernel
theorem d_Wo_add_49 : decode b_Wo_add 49 = .ok (.iload_n 1, 1) := by decide +kernel
theorem d_Wo_add_50 : decode b_Wo_add 50 = .ok (.aaload, 1) := by decide +kernel
theorem d_Wo_add_51 : decode b_Wo_add 51 = .ok (.iload_n 2, 1) := by decide +kernel
theorem d_Wo_add_52 : decode b_Wo_add 52 = .ok (.invokevirtual 108, 3) := by decide +kernel
theorem d_Wo_add_55 : decode b_Wo_add 55 = .ok (.aload_n 0, 1) := by decide +kernel
theorem d_Wo_add_56 : decode b_Wo_add 56 = .ok (.getfield 28, 3) := by decide +kernel
theorem d_Wo_add_59 : decode b_Wo_add 59 = .ok (.iload_n 1, 1) := by decide +kernel
theorem d_Wo_add_60 : decode b_Wo_add 60 = .ok (.aaload, 1) := by decide +kernel
theorem d_Wo_add_61 : decode b_Wo_add 61 = .ok (.getfield 110, 3) := by decide +kernel
theorem d_Wo_add_64 : decode b_Wo_add 64 = .ok (.ireturn, 1) := by decide +kernel
theorem d_Ro_isFull_0 : decode b_Ro_isFull 0 = .ok (.aload_n 0, 1) := by decide +kernel
theorem d_Ro_isFull_1 : decode b_Ro_isFull 1 = .ok (.getfield 15, 3) := by decide +kernel
theorem d_Ro_isFull_4 : decode b_Ro_isFull 4 = .ok (.aload_n 0, 1) := by decide +kernel
theorem d_Ro_isFull_5 : decode b_Ro_isFull 5 = .ok (.getfield 9, 3) := by decide +kernel
theorem d_Ro_isFull_8 : decode b_Ro_isFull 8 = .ok (.arraylength, 1) := by decide +kernel
theorem d_Ro_isFull_9 : decode b_Ro_isFull 9 = .ok (.if_icmp .ne 7, 3) := by decide +kernel
theorem d_Ro_isFull_12 : decode b_Ro_isFull 12 = .ok (.iconst 1, 1) := by decide +kernel
theorem d_Ro_isFull_13 : decode b_Ro_isFull 13 = .ok (.goto 4, 3) := by decide +kernel
theorem d_Ro_isFull_16 : decode b_Ro_isFull 16 = .ok (.iconst 0, 1) := by decide +kernel
theorem d_Ro_isFull_17 : decode b_Ro_isFull 17 = .ok (.ireturn, 1) := by decide +kernel
theorem d_Ro_append_0 : decode b_Ro_append 0 = .ok (.aload_n 0, 1) := by decide +kernel
theorem d_Ro_append_1 : decode b_Ro_append 1 = .ok (.getfield 9, 3) := by decide +kernel
theorem d_Ro_append_4 : decode b_Ro_append 4 = .ok (.aload_n 0, 1) := by decide +kernel
theorem d_Ro_append_5 : decode b_Ro_append 5 = .ok (.getfield 15, 3) := by decide +kernel
theorem d_Ro_append_8 : decode b_Ro_append 8 = .ok (.iload_n 1, 1) := by decide +kernel
theorem d_Ro_append_9 : decode b_Ro_append 9 = .ok (.iastore, 1) := by decide +kernel
theorem d_Ro_append_10 : decode b_Ro_append 10 = .ok (.aload_n 0, 1) := by decide +kernel
theorem d_Ro_append_11 : decode b_Ro_append 11 = .ok (.dup, 1) := by decide +kernel
theorem d_Ro_append_12 : decode b_Ro_append 12 = .ok (.getfield 15, 3) := by decide +kernel
theorem d_Ro_append_15 : decode b_Ro_append 15 = .ok (.iconst 1, 1) := by decide +kernel
theorem d_Ro_append_16 : decode b_Ro_append 16 = .ok (.iadd, 1) := by decide +kernel
theorem d_Ro_append_17 : decode b_Ro_append 17 = .ok (.putfield 15, 3) := by decide +kernel
theorem d_Ro_append_20 : decode b_Ro_append 20 = .ok (.return_, 1) := by decide +kernel
theorem d_Wo_clear_0 : decode b_Wo_clear 0 = .ok (.iload_n 1, 1) := by decide +kernel
theorem d_Wo_clear_1 : decode b_Wo_clear 1 = .ok (.iconst 3, 1) := by decide +kernel
theorem d_Wo_clear_2 : decode b_Wo_clear 2 = .ok (.invokestatic 52, 3) := by decide +kernel
theorem d_Wo_clear_5 : decode b_Wo_clear 5 = .ok (.ifCond .ne 11, 3) := by decide +kernel
theorem d_Wo_clear_8 : decode b_Wo_clear 8 = .ok (.new 56, 3) := by decide +kernel
theorem d_Wo_clear_11 : decode b_Wo_clear 11 = .ok (.dup, 1) := by decide +kernel
theorem d_Wo_clear_12 : decode b_Wo_clear 12 = .ok (.invokespecial 58, 3) := by decide +kernel
theorem d_Wo_clear_15 : decode b_Wo_clear 15 = .ok (.athrow, 1) := by decide +kernel
theorem d_Wo_clear_16 : decode b_Wo_clear 16 = .ok (.aload_n 0, 1) := by decide +kernel
theorem d_Wo_clear_17 : decode b_Wo_clear 17 = .ok (.getfield 28, 3) := by decide +kernel
theorem d_Wo_clear_20 : decode b_Wo_clear 20 = .ok (.iload_n 1, 1) := by decide +kernel
theorem d_Wo_clear_21 : decode b_Wo_clear 21 = .ok (.aaload, 1) := by decide +kernel
theorem d_Wo_clear_22 : decode b_Wo_clear 22 = .ok (.getfield 110, 3) := by decide +kernel
theorem d_Wo_clear_25 : decode b_Wo_clear 25 = .ok (.istore_n 2, 1) := by decide +kernel
theorem d_Wo_clear_26 : decode b_Wo_clear 26 = .ok (.aload_n 0, 1) := by decide +kernel
theorem d_Wo_clear_27 : decode b_Wo_clear 27 = .ok (.getfield 28, 3) := by decide +kernel
theorem d_Wo_clear_30 : decode b_Wo_clear 30 = .ok (.iload_n 1, 1) := by decide +kernel
theorem d_Wo_clear_31 : decode b_Wo_clear 31 = .ok (.aaload, 1) := by decide +kernel
theorem d_Wo_clear_32 : decode b_Wo_clear 32 = .ok (.iconst 0, 1) := by decide +kernel
theorem d_Wo_clear_33 : decode b_Wo_clear 33 = .ok (.putfield 110, 3) := by decide +kernel
theorem d_Wo_clear_36 : decode b_Wo_clear 36 = .ok (.iload_n 2, 1) := by decide +kernel
theorem d_Wo_clear_37 : decode b_Wo_clear 37 = .ok (.ireturn, 1) := by decide +kernel
theorem d_Wo_count_0 : decode b_Wo_count 0 = .ok (.iload_n 1, 1) := by decide +kernel
theorem d_Wo_count_1 : decode b_Wo_count 1 = .ok (.iconst 3, 1) := by decide +kernel
theorem d_Wo_count_2 : decode b_Wo_count 2 = .ok (.invokestatic 52, 3) := by decide +kernel
theorem d_Wo_count_5 : decode b_Wo_count 5 = .ok (.ifCond .ne 11, 3) := by decide +kernel
theorem d_Wo_count_8 : decode b_Wo_count 8 = .ok (.new 56, 3) := by decide +kernel
theorem d_Wo_count_11 : decode b_Wo_count 11 = .ok (.dup, 1) := by decide +kernel
theorem d_Wo_count_12 : decode b_Wo_count 12 = .ok (.invokespecial 58, 3) := by decide +kernel
theorem d_Wo_count_15 : decode b_Wo_count 15 = .ok (.athrow, 1) := by decide +kernel
theorem d_Wo_count_16 : decode b_Wo_count 16 = .ok (.aload_n 0, 1) := by decide +kernel
theorem d_Wo_count_17 : decode b_Wo_count 17 = .ok (.getfield 37, 3) := by decide +kernel
theorem d_Wo_count_20 : decode b_Wo_count 20 = .ok (.aload_n 0, 1) := by decide +kernel
theorem d_Wo_count_21 : decode b_Wo_count 21 = .ok (.getfield 28, 3) := by decide +kernel
theorem d_Wo_count_24 : decode b_Wo_count 24 = .ok (.iload_n 1, 1) := by decide +kernel
theorem d_Wo_count_25 : decode b_Wo_count 25 = .ok (.aaload, 1) := by decide +kernel
theorem d_Wo_count_26 : decode b_Wo_count 26 = .ok (.iload_n 2, 1) := by decide +kernel
theorem d_Wo_count_27 : decode b_Wo_count 27 = .ok (.aload_n 0, 1) := by decide +kernel
theorem d_Wo_count_28 : decode b_Wo_count 28 = .ok (.getfield 44, 3) := by decide +kernel
theorem d_Wo_count_31 : decode b_Wo_count 31 = .ok (.invokevirtual 111, 3) := by decide +kernel
theorem d_Wo_count_34 : decode b_Wo_count 34 = .ok (.aload_n 0, 1) := by decide +kernel
theorem d_Wo_count_35 : decode b_Wo_count 35 = .ok (.getfield 44, 3) := by decide +kernel
theorem d_Wo_count_38 : decode b_Wo_count 38 = .ok (.getfield 115, 3) := by decide +kernel
theorem d_Wo_count_41 : decode b_Wo_count 41 = .ok (.ireturn, 1) := by decide +kernel
theorem d_Fi_findElements_0 : decode b_Fi_findElements 0 = .ok (.aload_n 0, 1) := by decide +kernel
theorem d_Fi_findElements_1 : decode b_Fi_findElements 1 = .ok (.aload_n 1, 1) := by decide +kernel
theorem d_Fi_findElements_2 : decode b_Fi_findElements 2 = .ok (.invokevirtual 26, 3) := by decide +kernel
theorem d_Fi_findElements_5 : decode b_Fi_findElements 5 = .ok (.aload_n 3, 1) := by decide +kernel
theorem d_Fi_findElements_6 : decode b_Fi_findElements 6 = .ok (.iload_n 2, 1) := by decide +kernel
theorem d_Fi_findElements_7 : decode b_Fi_findElements 7 = .ok (.invokevirtual 30, 3) := by decide +kernel
theorem d_Fi_findElements_10 : decode b_Fi_findElements 10 = .ok (.iconst 0, 1) := by decide +kernel
theorem d_Fi_findElements_11 : decode b_Fi_findElements 11 = .ok (.istore 4, 2) := by decide +kernel
theorem d_Fi_findElements_13 : decode b_Fi_findElements 13 = .ok (.iload 4, 2) := by decide +kernel
theorem d_Fi_findElements_15 : decode b_Fi_findElements 15 = .ok (.sipush 200, 3) := by decide +kernel
theorem d_Fi_findElements_18 : decode b_Fi_findElements 18 = .ok (.if_icmp .ge 25, 3) := by decide +kernel
theorem d_Fi_findElements_21 : decode b_Fi_findElements 21 = .ok (.aload_n 0, 1) := by decide +kernel
theorem d_Fi_findElements_22 : decode b_Fi_findElements 22 = .ok (.getfield 36, 3) := by decide +kernel
theorem d_Fi_findElements_25 : decode b_Fi_findElements 25 = .ok (.aload_n 0, 1) := by decide +kernel
theorem d_Fi_findElements_26 : decode b_Fi_findElements 26 = .ok (.getfield 40, 3) := by decide +kernel
theorem d_Fi_findElements_29 : decode b_Fi_findElements 29 = .ok (.if_icmp .ge 14, 3) := by decide +kernel
theorem d_Fi_findElements_32 : decode b_Fi_findElements 32 = .ok (.aload_n 0, 1) := by decide +kernel
theorem d_Fi_findElements_33 : decode b_Fi_findElements 33 = .ok (.aload_n 3, 1) := by decide +kernel
theorem d_Fi_findElements_34 : decode b_Fi_findElements 34 = .ok (.invokevirtual 43, 3) := by decide +kernel
theorem d_Fi_findElements_37 : decode b_Fi_findElements 37 = .ok (.iinc 4 1, 3) := by decide +kernel
theorem d_Fi_findElements_40 : decode b_Fi_findElements 40 = .ok (.goto (-27), 3) := by decide +kernel
theorem d_Fi_findElements_43 : decode b_Fi_findElements 43 = .ok (.return_, 1) := by decide +kernel
theorem d_Fi_load_0 : decode b_Fi_load 0 = .ok (.aload_n 0, 1) := by decide +kernel
theorem d_Fi_load_1 : decode b_Fi_load 1 = .ok (.iconst 0, 1) := by decide +kernel
theorem d_Fi_load_2 : decode b_Fi_load 2 = .ok (.putfield 36, 3) := by decide +kernel
theorem d_Fi_load_5 : decode b_Fi_load 5 = .ok (.aload_n 0, 1) := by decide +kernel
theorem d_Fi_load_6 : decode b_Fi_load 6 = .ok (.aload_n 1, 1) := by decide +kernel
theorem d_Fi_load_7 : decode b_Fi_load 7 = .ok (.getfield 47, 3) := by decide +kernel
theorem d_Fi_load_10 : decode b_Fi_load 10 = .ok (.putfield 40, 3) := by decide +kernel
theorem d_Fi_load_13 : decode b_Fi_load 13 = .ok (.iconst 0, 1) := by decide +kernel
theorem d_Fi_load_14 : decode b_Fi_load 14 = .ok (.istore_n 2, 1) := by decide +kernel
theorem d_Fi_load_15 : decode b_Fi_load 15 = .ok (.iload_n 2, 1) := by decide +kernel
theorem d_Fi_load_16 : decode b_Fi_load 16 = .ok (.aload_n 0, 1) := by decide +kernel
theorem d_Fi_load_17 : decode b_Fi_load 17 = .ok (.getfield 40, 3) := by decide +kernel
theorem d_Fi_load_20 : decode b_Fi_load 20 = .ok (.if_icmp .ge 42, 3) := by decide +kernel
theorem d_Fi_load_23 : decode b_Fi_load 23 = .ok (.aload_n 0, 1) := by decide +kernel
theorem d_Fi_load_24 : decode b_Fi_load 24 = .ok (.getfield 9, 3) := by decide +kernel
theorem d_Fi_load_27 : decode b_Fi_load 27 = .ok (.iload_n 2, 1) := by decide +kernel
theorem d_Fi_load_28 : decode b_Fi_load 28 = .ok (.aload_n 1, 1) := by decide +kernel
theorem d_Fi_load_29 : decode b_Fi_load 29 = .ok (.getfield 52, 3) := by decide +kernel
theorem d_Fi_load_32 : decode b_Fi_load 32 = .ok (.iload_n 2, 1) := by decide +kernel
theorem d_Fi_load_33 : decode b_Fi_load 33 = .ok (.iaload, 1) := by decide +kernel
theorem d_Fi_load_34 : decode b_Fi_load 34 = .ok (.iastore, 1) := by decide +kernel
theorem d_Fi_load_35 : decode b_Fi_load 35 = .ok (.aload_n 0, 1) := by decide +kernel
theorem d_Fi_load_36 : decode b_Fi_load 36 = .ok (.getfield 15, 3) := by decide +kernel
theorem d_Fi_load_39 : decode b_Fi_load 39 = .ok (.iload_n 2, 1) := by decide +kernel
theorem d_Fi_load_40 : decode b_Fi_load 40 = .ok (.aload_n 0, 1) := by decide +kernel
theorem d_Fi_load_41 : decode b_Fi_load 41 = .ok (.getfield 18, 3) := by decide +kernel
theorem d_Fi_load_44 : decode b_Fi_load 44 = .ok (.aload_n 0, 1) := by decide +kernel
theorem d_Fi_load_45 : decode b_Fi_load 45 = .ok (.getfield 9, 3) := by decide +kernel
theorem d_Fi_load_48 : decode b_Fi_load 48 = .ok (.iload_n 2, 1) := by decide +kernel
theorem d_Fi_load_49 : decode b_Fi_load 49 = .ok (.iaload, 1) := by decide +kernel
theorem d_Fi_load_50 : decode b_Fi_load 50 = .ok (.i2l, 1) := by decide +kernel
theorem d_Fi_load_51 : decode b_Fi_load 51 = .ok (.iconst 0, 1) := by decide +kernel
theorem d_Fi_load_52 : decode b_Fi_load 52 = .ok (.invokevirtual 53, 3) := by decide +kernel
theorem d_Fi_load_55 : decode b_Fi_load 55 = .ok (.iastore, 1) := by decide +kernel
theorem d_Fi_load_56 : decode b_Fi_load 56 = .ok (.iinc 2 1, 3) := by decide +kernel
theorem d_Fi_load_59 : decode b_Fi_load 59 = .ok (.goto (-44), 3) := by decide +kernel
theorem d_Fi_load_62 : decode b_Fi_load 62 = .ok (.return_, 1) := by decide +kernel
theorem d_El_begin_0 : decode b_El_begin 0 = .ok (.aload_n 0, 1) := by decide +kernel
theorem d_El_begin_1 : decode b_El_begin 1 = .ok (.iconst 0, 1) := by decide +kernel
theorem d_El_begin_2 : decode b_El_begin 2 = .ok (.putfield 15, 3) := by decide +kernel
theorem d_El_begin_5 : decode b_El_begin 5 = .ok (.aload_n 0, 1) := by decide +kernel
theorem d_El_begin_6 : decode b_El_begin 6 = .ok (.iload_n 1, 1) := by decide +kernel
theorem d_El_begin_7 : decode b_El_begin 7 = .ok (.putfield 19, 3) := by decide +kernel
theorem d_El_begin_10 : decode b_El_begin 10 = .ok (.aload_n 0, 1) := by decide +kernel
theorem d_El_begin_11 : decode b_El_begin 11 = .ok (.iconst 0, 1) := by decide +kernel
theorem d_El_begin_12 : decode b_El_begin 12 = .ok (.putfield 23, 3) := by decide +kernel
theorem d_El_begin_15 : decode b_El_begin 15 = .ok (.return_, 1) := by decide +kernel
theorem d_Fi_takeNext_0 : decode b_Fi_takeNext 0 = .ok (.aload_n 0, 1) := by decide +kernel
theorem d_Fi_takeNext_1 : decode b_Fi_takeNext 1 = .ok (.invokevirtual 59, 3) := by decide +kernel
theorem d_Fi_takeNext_4 : decode b_Fi_takeNext 4 = .ok (.aload_n 0, 1) := by decide +kernel
theorem d_Fi_takeNext_5 : decode b_Fi_takeNext 5 = .ok (.getfield 62, 3) := by decide +kernel
theorem d_Fi_takeNext_8 : decode b_Fi_takeNext 8 = .ok (.ifnonnull 29, 3) := by decide +kernel
theorem d_Fi_takeNext_11 : decode b_Fi_takeNext 11 = .ok (.aload_n 1, 1) := by decide +kernel
theorem d_Fi_takeNext_12 : decode b_Fi_takeNext 12 = .ok (.aload_n 0, 1) := by decide +kernel
theorem d_Fi_takeNext_13 : decode b_Fi_takeNext 13 = .ok (.getfield 9, 3) := by decide +kernel
theorem d_Fi_takeNext_16 : decode b_Fi_takeNext 16 = .ok (.aload_n 0, 1) := by decide +kernel
theorem d_Fi_takeNext_17 : decode b_Fi_takeNext 17 = .ok (.getfield 36, 3) := by decide +kernel
theorem d_Fi_takeNext_20 : decode b_Fi_takeNext 20 = .ok (.iaload, 1) := by decide +kernel
theorem d_Fi_takeNext_21 : decode b_Fi_takeNext 21 = .ok (.invokevirtual 66, 3) := by decide +kernel
theorem d_Fi_takeNext_24 : decode b_Fi_takeNext 24 = .ok (.aload_n 0, 1) := by decide +kernel
theorem d_Fi_takeNext_25 : decode b_Fi_takeNext 25 = .ok (.dup, 1) := by decide +kernel
theorem d_Fi_takeNext_26 : decode b_Fi_takeNext 26 = .ok (.getfield 36, 3) := by decide +kernel
theorem d_Fi_takeNext_29 : decode b_Fi_takeNext 29 = .ok (.iconst 1, 1) := by decide +kernel
theorem d_Fi_takeNext_30 : decode b_Fi_takeNext 30 = .ok (.iadd, 1) := by decide +kernel
theorem d_Fi_takeNext_31 : decode b_Fi_takeNext 31 = .ok (.putfield 36, 3) := by decide +kernel
theorem d_Fi_takeNext_34 : decode b_Fi_takeNext 34 = .ok (.goto 28, 3) := by decide +kernel
theorem d_Fi_takeNext_37 : decode b_Fi_takeNext 37 = .ok (.aload_n 0, 1) := by decide +kernel
theorem d_Fi_takeNext_38 : decode b_Fi_takeNext 38 = .ok (.dup, 1) := by decide +kernel
theorem d_Fi_takeNext_39 : decode b_Fi_takeNext 39 = .ok (.getfield 36, 3) := by decide +kernel
theorem d_Fi_takeNext_42 : decode b_Fi_takeNext 42 = .ok (.aload_n 0, 1) := by decide +kernel
theorem d_Fi_takeNext_43 : decode b_Fi_takeNext 43 = .ok (.getfield 70, 3) := by decide +kernel
theorem d_Fi_takeNext_46 : decode b_Fi_takeNext 46 = .ok (.iadd, 1) := by decide +kernel
theorem d_Fi_takeNext_47 : decode b_Fi_takeNext 47 = .ok (.putfield 36, 3) := by decide +kernel
theorem d_Fi_takeNext_50 : decode b_Fi_takeNext 50 = .ok (.aload_n 0, 1) := by decide +kernel
theorem d_Fi_takeNext_51 : decode b_Fi_takeNext 51 = .ok (.invokevirtual 73, 3) := by decide +kernel
theorem d_Fi_takeNext_54 : decode b_Fi_takeNext 54 = .ok (.aload_n 1, 1) := by decide +kernel
theorem d_Fi_takeNext_55 : decode b_Fi_takeNext 55 = .ok (.aload_n 0, 1) := by decide +kernel
theorem d_Fi_takeNext_56 : decode b_Fi_takeNext 56 = .ok (.getfield 62, 3) := by decide +kernel
theorem d_Fi_takeNext_59 : decode b_Fi_takeNext 59 = .ok (.invokevirtual 76, 3) := by decide +kernel
theorem d_Fi_takeNext_62 : decode b_Fi_takeNext 62 = .ok (.return_, 1) := by decide +kernel
theorem d_Fi_seekBeginning_0 : decode b_Fi_seekBeginning 0 = .ok (.aload_n 0, 1) := by decide +kernel
theorem d_Fi_seekBeginning_1 : decode b_Fi_seekBeginning 1 = .ok (.aconst_null, 1) := by decide +kernel
theorem d_Fi_seekBeginning_2 : decode b_Fi_seekBeginning 2 = .ok (.putfield 62, 3) := by decide +kernel
theorem d_Fi_seekBeginning_5 : decode b_Fi_seekBeginning 5 = .ok (.lconst 0, 1) := by decide +kernel
theorem d_Fi_seekBeginning_6 : decode b_Fi_seekBeginning 6 = .ok (.lstore_n 1, 1) := by decide +kernel
theorem d_Fi_seekBeginning_7 : decode b_Fi_seekBeginning 7 = .ok (.iconst 1, 1) := by decide +kernel
theorem d_Fi_seekBeginning_8 : decode b_Fi_seekBeginning 8 = .ok (.istore_n 3, 1) := by decide +kernel
theorem d_Fi_seekBeginning_9 : decode b_Fi_seekBeginning 9 = .ok (.iload_n 3, 1) := by decide +kernel
theorem d_Fi_seekBeginning_10 : decode b_Fi_seekBeginning 10 = .ok (.iconst 3, 1) := by decide +kernel
theorem d_Fi_seekBeginning_11 : decode b_Fi_seekBeginning 11 = .ok (.if_icmp .gt 63, 3) := by decide +kernel
theorem d_Fi_seekBeginning_14 : decode b_Fi_seekBeginning 14 = .ok (.aload_n 0, 1) := by decide +kernel
theorem d_Fi_seekBeginning_15 : decode b_Fi_seekBeginning 15 = .ok (.getfield 36, 3) := by decide +kernel
theorem d_Fi_seekBeginning_18 : decode b_Fi_seekBeginning 18 = .ok (.iload_n 3, 1) := by decide +kernel
theorem d_Fi_seekBeginning_19 : decode b_Fi_seekBeginning 19 = .ok (.iadd, 1) := by decide +kernel
theorem d_Fi_seekBeginning_20 : decode b_Fi_seekBeginning 20 = .ok (.aload_n 0, 1) := by decide +kernel
theorem d_Fi_seekBeginning_21 : decode b_Fi_seekBeginning 21 = .ok (.getfield 40, 3) := by decide +kernel
theorem d_Fi_seekBeginning_24 : decode b_Fi_seekBeginning 24 = .ok (.if_icmp .gt 50, 3) := by decide +kernel
theorem d_Fi_seekBeginning_27 : decode b_Fi_seekBeginning 27 = .ok (.lload_n 1, 1) := by decide +kernel
theorem d_Fi_seekBeginning_28 : decode b_Fi_seekBeginning 28 = .ok (.aload_n 0, 1) := by decide +kernel
theorem d_Fi_seekBeginning_29 : decode b_Fi_seekBeginning 29 = .ok (.getfield 9, 3) := by decide +kernel
theorem d_Fi_seekBeginning_32 : decode b_Fi_seekBeginning 32 = .ok (.aload_n 0, 1) := by decide +kernel
theorem d_Fi_seekBeginning_33 : decode b_Fi_seekBeginning 33 = .ok (.getfield 36, 3) := by decide +kernel
theorem d_Fi_seekBeginning_36 : decode b_Fi_seekBeginning 36 = .ok (.iload_n 3, 1) := by decide +kernel
theorem d_Fi_seekBeginning_37 : decode b_Fi_seekBeginning 37 = .ok (.iadd, 1) := by decide +kernel
theorem d_Fi_seekBeginning_38 : decode b_Fi_seekBeginning 38 = .ok (.iconst 1, 1) := by decide +kernel
theorem d_Fi_seekBeginning_39 : decode b_Fi_seekBeginning 39 = .ok (.isub, 1) := by decide +kernel
theorem d_Fi_seekBeginning_40 : decode b_Fi_seekBeginning 40 = .ok (.iaload, 1) := by decide +kernel
theorem d_Fi_seekBeginning_41 : decode b_Fi_seekBeginning 41 = .ok (.invokestatic 80, 3) := by decide +kernel
theorem d_Fi_seekBeginning_44 : decode b_Fi_seekBeginning 44 = .ok (.lstore_n 1, 1) := by decide +kernel
theorem d_Fi_seekBeginning_45 : decode b_Fi_seekBeginning 45 = .ok (.aload_n 0, 1) := by decide +kernel
theorem d_Fi_seekBeginning_46 : decode b_Fi_seekBeginning 46 = .ok (.getfield 22, 3) := by decide +kernel
theorem d_Fi_seekBeginning_49 : decode b_Fi_seekBeginning 49 = .ok (.lload_n 1, 1) := by decide +kernel
theorem d_Fi_seekBeginning_50 : decode b_Fi_seekBeginning 50 = .ok (.invokevirtual 84, 3) := by decide +kernel
theorem d_Fi_seekBeginning_53 : decode b_Fi_seekBeginning 53 = .ok (.astore 4, 2) := by decide +kernel
theorem d_Fi_seekBeginning_55 : decode b_Fi_seekBeginning 55 = .ok (.aload 4, 2) := by decide +kernel
theorem d_Fi_seekBeginning_57 : decode b_Fi_seekBeginning 57 = .ok (.ifnull 11, 3) := by decide +kernel
theorem d_Fi_seekBeginning_60 : decode b_Fi_seekBeginning 60 = .ok (.aload_n 0, 1) := by decide +kernel
theorem d_Fi_seekBeginning_61 : decode b_Fi_seekBeginning 61 = .ok (.lload_n 1, 1) := by decide +kernel
theorem d_Fi_seekBeginning_62 : decode b_Fi_seekBeginning 62 = .ok (.iload_n 3, 1) := by decide +kernel
theorem d_Fi_seekBeginning_63 : decode b_Fi_seekBeginning 63 = .ok (.aload 4, 2) := by decide +kernel
theorem d_Fi_seekBeginning_65 : decode b_Fi_seekBeginning 65 = .ok (.invokevirtual 90, 3) := by decide +kernel
theorem d_Fi_seekBeginning_68 : decode b_Fi_seekBeginning 68 = .ok (.iinc 3 1, 3) := by decide +kernel
theorem d_Fi_seekBeginning_71 : decode b_Fi_seekBeginning 71 = .ok (.goto (-62), 3) := by decide +kernel
theorem d_Fi_seekBeginning_74 : decode b_Fi_seekBeginning 74 = .ok (.return_, 1) := by decide +kernel
theorem d_Fi_become_0 : decode b_Fi_become 0 = .ok (.aload_n 0, 1) := by decide +kernel
theorem d_Fi_become_1 : decode b_Fi_become 1 = .ok (.lload_n 1, 1) := by decide +kernel
theorem d_Fi_become_2 : decode b_Fi_become 2 = .ok (.putfield 94, 3) := by decide +kernel
theorem d_Fi_become_5 : decode b_Fi_become 5 = .ok (.aload_n 0, 1) := by decide +kernel
theorem d_Fi_become_6 : decode b_Fi_become 6 = .ok (.iload_n 3, 1) := by decide +kernel
theorem d_Fi_become_7 : decode b_Fi_become 7 = .ok (.putfield 70, 3) := by decide +kernel
theorem d_Fi_become_10 : decode b_Fi_become 10 = .ok (.aload_n 0, 1) := by decide +kernel
theorem d_Fi_become_11 : decode b_Fi_become 11 = .ok (.aload 4, 2) := by decide +kernel
theorem d_Fi_become_13 : decode b_Fi_become 13 = .ok (.putfield 62, 3) := by decide +kernel
theorem d_Fi_become_16 : decode b_Fi_become 16 = .ok (.return_, 1) := by decide +kernel
theorem d_El_appendImplicit_0 : decode b_El_appendImplicit 0 = .ok (.aload_n 0, 1) := by decide +kernel
theorem d_El_appendImplicit_1 : decode b_El_appendImplicit 1 = .ok (.ldc 42, 2) := by decide +kernel
theorem d_El_appendImplicit_3 : decode b_El_appendImplicit 3 = .ok (.iload_n 1, 1) := by decide +kernel
theorem d_El_appendImplicit_4 : decode b_El_appendImplicit 4 = .ok (.ldc 43, 2) := by decide +kernel
theorem d_El_appendImplicit_6 : decode b_El_appendImplicit 6 = .ok (.idiv, 1) := by decide +kernel
theorem d_El_appendImplicit_7 : decode b_El_appendImplicit 7 = .ok (.iadd, 1) := by decide +kernel
theorem d_El_appendImplicit_8 : decode b_El_appendImplicit 8 = .ok (.bipush 32, 2) := by decide +kernel
theorem d_El_appendImplicit_10 : decode b_El_appendImplicit 10 = .ok (.iconst 2, 1) := by decide +kernel
theorem d_El_appendImplicit_11 : decode b_El_appendImplicit 11 = .ok (.invokestatic 44, 3) := by decide +kernel
theorem d_El_appendImplicit_14 : decode b_El_appendImplicit 14 = .ok (.iconst 0, 1) := by decide +kernel
theorem d_El_appendImplicit_15 : decode b_El_appendImplicit 15 = .ok (.invokevirtual 38, 3) := by decide +kernel
theorem d_El_appendImplicit_18 : decode b_El_appendImplicit 18 = .ok (.aload_n 0, 1) := by decide +kernel
theorem d_El_appendImplicit_19 : decode b_El_appendImplicit 19 = .ok (.iload_n 1, 1) := by decide +kernel
theorem d_El_appendImplicit_20 : decode b_El_appendImplicit 20 = .ok (.ldc 43, 2) := by decide +kernel
theorem d_El_appendImplicit_22 : decode b_El_appendImplicit 22 = .ok (.irem, 1) := by decide +kernel
theorem d_El_appendImplicit_23 : decode b_El_appendImplicit 23 = .ok (.ldc 43, 2) := by decide +kernel
theorem d_El_appendImplicit_25 : decode b_El_appendImplicit 25 = .ok (.iadd, 1) := by decide +kernel
theorem d_El_appendImplicit_26 : decode b_El_appendImplicit 26 = .ok (.iconst 0, 1) := by decide +kernel
theorem d_El_appendImplicit_27 : decode b_El_appendImplicit 27 = .ok (.iconst 0, 1) := by decide +kernel
theorem d_El_appendImplicit_28 : decode b_El_appendImplicit 28 = .ok (.invokestatic 44, 3) := by decide +kernel
theorem d_El_appendImplicit_31 : decode b_El_appendImplicit 31 = .ok (.iconst 0, 1) := by decide +kernel
theorem d_El_appendImplicit_32 : decode b_El_appendImplicit 32 = .ok (.invokevirtual 38, 3) := by decide +kernel
theorem d_El_appendImplicit_35 : decode b_El_appendImplicit 35 = .ok (.return_, 1) := by decide +kernel
theorem d_El_append_0 : decode b_El_append 0 = .ok (.aload_n 0, 1) := by decide +kernel
theorem d_El_append_1 : decode b_El_append 1 = .ok (.getfield 15, 3) := by decide +kernel
theorem d_El_append_4 : decode b_El_append 4 = .ok (.aload_n 0, 1) := by decide +kernel
theorem d_El_append_5 : decode b_El_append 5 = .ok (.getfield 9, 3) := by decide +kernel
theorem d_El_append_8 : decode b_El_append 8 = .ok (.arraylength, 1) := by decide +kernel
theorem d_El_append_9 : decode b_El_append 9 = .ok (.if_icmp .ge 39, 3) := by decide +kernel
theorem d_El_append_12 : decode b_El_append 12 = .ok (.aload_n 0, 1) := by decide +kernel
theorem d_El_append_13 : decode b_El_append 13 = .ok (.getfield 9, 3) := by decide +kernel
theorem d_El_append_16 : decode b_El_append 16 = .ok (.aload_n 0, 1) := by decide +kernel
theorem d_El_append_17 : decode b_El_append 17 = .ok (.getfield 15, 3) := by decide +kernel
theorem d_El_append_20 : decode b_El_append 20 = .ok (.aload_n 0, 1) := by decide +kernel
theorem d_El_append_21 : decode b_El_append 21 = .ok (.getfield 19, 3) := by decide +kernel
theorem d_El_append_24 : decode b_El_append 24 = .ok (.ifCond .eq 12, 3) := by decide +kernel
theorem d_El_append_27 : decode b_El_append 27 = .ok (.aload_n 0, 1) := by decide +kernel
theorem d_El_append_28 : decode b_El_append 28 = .ok (.lload_n 1, 1) := by decide +kernel
theorem d_El_append_29 : decode b_El_append 29 = .ok (.iload_n 3, 1) := by decide +kernel
theorem d_El_append_30 : decode b_El_append 30 = .ok (.invokevirtual 26, 3) := by decide +kernel
theorem d_El_append_33 : decode b_El_append 33 = .ok (.goto 4, 3) := by decide +kernel
theorem d_El_append_36 : decode b_El_append 36 = .ok (.lload_n 1, 1) := by decide +kernel
theorem d_El_append_37 : decode b_El_append 37 = .ok (.lastore, 1) := by decide +kernel
theorem d_El_append_38 : decode b_El_append 38 = .ok (.aload_n 0, 1) := by decide +kernel
theorem d_El_append_39 : decode b_El_append 39 = .ok (.dup, 1) := by decide +kernel
theorem d_El_append_40 : decode b_El_append 40 = .ok (.getfield 15, 3) := by decide +kernel
theorem d_El_append_43 : decode b_El_append 43 = .ok (.iconst 1, 1) := by decide +kernel
theorem d_El_append_44 : decode b_El_append 44 = .ok (.iadd, 1) := by decide +kernel
theorem d_El_append_45 : decode b_El_append 45 = .ok (.putfield 15, 3) := by decide +kernel
theorem d_El_append_48 : decode b_El_append 48 = .ok (.return_, 1) := by decide +kernel
theorem d_El_shift_0 : decode b_El_shift 0 = .ok (.lload_n 1, 1) := by decide +kernel
theorem d_El_shift_1 : decode b_El_shift 1 = .ok (.iconst 0, 1) := by decide +kernel
theorem d_El_shift_2 : decode b_El_shift 2 = .ok (.invokestatic 48, 3) := by decide +kernel
theorem d_El_shift_5 : decode b_El_shift 5 = .ok (.istore 4, 2) := by decide +kernel
theorem d_El_shift_7 : decode b_El_shift 7 = .ok (.iload 4, 2) := by decide +kernel
theorem d_El_shift_9 : decode b_El_shift 9 = .ok (.ifCond .le 24, 3) := by decide +kernel
theorem d_El_shift_12 : decode b_El_shift 12 = .ok (.aload_n 0, 1) := by decide +kernel
theorem d_El_shift_13 : decode b_El_shift 13 = .ok (.iload_n 3, 1) := by decide +kernel
theorem d_El_shift_14 : decode b_El_shift 14 = .ok (.putfield 23, 3) := by decide +kernel
theorem d_El_shift_17 : decode b_El_shift 17 = .ok (.iload_n 3, 1) := by decide +kernel
theorem d_El_shift_18 : decode b_El_shift 18 = .ok (.ifCond .eq 9, 3) := by decide +kernel
theorem d_El_shift_21 : decode b_El_shift 21 = .ok (.iload 4, 2) := by decide +kernel
theorem d_El_shift_23 : decode b_El_shift 23 = .ok (.i2l, 1) := by decide +kernel
theorem d_El_shift_24 : decode b_El_shift 24 = .ok (.goto 8, 3) := by decide +kernel
theorem d_El_shift_27 : decode b_El_shift 27 = .ok (.lload_n 1, 1) := by decide +kernel
theorem d_El_shift_28 : decode b_El_shift 28 = .ok (.ldc2_w 52, 3) := by decide +kernel
theorem d_El_shift_31 : decode b_El_shift 31 = .ok (.lor, 1) := by decide +kernel
theorem d_El_shift_32 : decode b_El_shift 32 = .ok (.lreturn, 1) := by decide +kernel
theorem d_El_shift_33 : decode b_El_shift 33 = .ok (.aload_n 0, 1) := by decide +kernel
theorem d_El_shift_34 : decode b_El_shift 34 = .ok (.getfield 23, 3) := by decide +kernel
theorem d_El_shift_37 : decode b_El_shift 37 = .ok (.ifCond .ne 9, 3) := by decide +kernel
theorem d_El_shift_40 : decode b_El_shift 40 = .ok (.lload_n 1, 1) := by decide +kernel
theorem d_El_shift_41 : decode b_El_shift 41 = .ok (.lconst 0, 1) := by decide +kernel
theorem d_El_shift_42 : decode b_El_shift 42 = .ok (.lcmp, 1) := by decide +kernel
theorem d_El_shift_43 : decode b_El_shift 43 = .ok (.ifCond .ne 7, 3) := by decide +kernel
theorem d_El_shift_46 : decode b_El_shift 46 = .ok (.lconst 0, 1) := by decide +kernel
theorem d_El_shift_47 : decode b_El_shift 47 = .ok (.goto 8, 3) := by decide +kernel
theorem d_El_shift_50 : decode b_El_shift 50 = .ok (.lload_n 1, 1) := by decide +kernel
theorem d_El_shift_51 : decode b_El_shift 51 = .ok (.ldc2_w 52, 3) := by decide +kernel
theorem d_El_shift_54 : decode b_El_shift 54 = .ok (.lor, 1) := by decide +kernel
theorem d_El_shift_55 : decode b_El_shift 55 = .ok (.lreturn, 1) := by decide +kernel
theorem d_Wo_weightOf_0 : decode b_Wo_weightOf 0 = .ok (.lload_n 0, 1) := by decide +kernel
theorem d_Wo_weightOf_1 : decode b_Wo_weightOf 1 = .ok (.bipush 48, 2) := by decide +kernel
theorem d_Wo_weightOf_3 : decode b_Wo_weightOf 3 = .ok (.bipush 16, 2) := by decide +kernel
theorem d_Wo_weightOf_5 : decode b_Wo_weightOf 5 = .ok (.iload_n 2, 1) := by decide +kernel
theorem d_Wo_weightOf_6 : decode b_Wo_weightOf 6 = .ok (.imul, 1) := by decide +kernel
theorem d_Wo_weightOf_7 : decode b_Wo_weightOf 7 = .ok (.isub, 1) := by decide +kernel
theorem d_Wo_weightOf_8 : decode b_Wo_weightOf 8 = .ok (.lushr, 1) := by decide +kernel
theorem d_Wo_weightOf_9 : decode b_Wo_weightOf 9 = .ok (.l2i, 1) := by decide +kernel
theorem d_Wo_weightOf_10 : decode b_Wo_weightOf 10 = .ok (.ldc 90, 2) := by decide +kernel
theorem d_Wo_weightOf_12 : decode b_Wo_weightOf 12 = .ok (.iand, 1) := by decide +kernel
theorem d_Wo_weightOf_13 : decode b_Wo_weightOf 13 = .ok (.ireturn, 1) := by decide +kernel
theorem d_Fi_seekBehind_0 : decode b_Fi_seekBehind 0 = .ok (.iconst 0, 1) := by decide +kernel
theorem d_Fi_seekBehind_1 : decode b_Fi_seekBehind 1 = .ok (.istore_n 1, 1) := by decide +kernel
theorem d_Fi_seekBehind_2 : decode b_Fi_seekBehind 2 = .ok (.aload_n 0, 1) := by decide +kernel
theorem d_Fi_seekBehind_3 : decode b_Fi_seekBehind 3 = .ok (.getfield 36, 3) := by decide +kernel
theorem d_Fi_seekBehind_6 : decode b_Fi_seekBehind 6 = .ok (.istore_n 2, 1) := by decide +kernel
theorem d_Fi_seekBehind_7 : decode b_Fi_seekBehind 7 = .ok (.iload_n 2, 1) := by decide +kernel
theorem d_Fi_seekBehind_8 : decode b_Fi_seekBehind 8 = .ok (.aload_n 0, 1) := by decide +kernel
theorem d_Fi_seekBehind_9 : decode b_Fi_seekBehind 9 = .ok (.getfield 40, 3) := by decide +kernel
theorem d_Fi_seekBehind_12 : decode b_Fi_seekBehind 12 = .ok (.if_icmp .ge 106, 3) := by decide +kernel
theorem d_Fi_seekBehind_15 : decode b_Fi_seekBehind 15 = .ok (.aload_n 0, 1) := by decide +kernel
theorem d_Fi_seekBehind_16 : decode b_Fi_seekBehind 16 = .ok (.getfield 15, 3) := by decide +kernel
theorem d_Fi_seekBehind_19 : decode b_Fi_seekBehind 19 = .ok (.iload_n 2, 1) := by decide +kernel
theorem d_Fi_seekBehind_20 : decode b_Fi_seekBehind 20 = .ok (.iaload, 1) := by decide +kernel
theorem d_Fi_seekBehind_21 : decode b_Fi_seekBehind 21 = .ok (.ifCond .le 97, 3) := by decide +kernel
theorem d_Fi_seekBehind_24 : decode b_Fi_seekBehind 24 = .ok (.aload_n 0, 1) := by decide +kernel
theorem d_Fi_seekBehind_25 : decode b_Fi_seekBehind 25 = .ok (.getfield 70, 3) := by decide +kernel
theorem d_Fi_seekBehind_28 : decode b_Fi_seekBehind 28 = .ok (.iconst 3, 1) := by decide +kernel
theorem d_Fi_seekBehind_29 : decode b_Fi_seekBehind 29 = .ok (.if_icmp .ge 89, 3) := by decide +kernel
theorem d_Fi_seekBehind_32 : decode b_Fi_seekBehind 32 = .ok (.aconst_null, 1) := by decide +kernel
theorem d_Fi_seekBehind_33 : decode b_Fi_seekBehind 33 = .ok (.astore_n 3, 1) := by decide +kernel
theorem d_Fi_seekBehind_34 : decode b_Fi_seekBehind 34 = .ok (.aload_n 0, 1) := by decide +kernel
theorem d_Fi_seekBehind_35 : decode b_Fi_seekBehind 35 = .ok (.getfield 15, 3) := by decide +kernel
theorem d_Fi_seekBehind_38 : decode b_Fi_seekBehind 38 = .ok (.iload_n 2, 1) := by decide +kernel
theorem d_Fi_seekBehind_39 : decode b_Fi_seekBehind 39 = .ok (.iaload, 1) := by decide +kernel
theorem d_Fi_seekBehind_40 : decode b_Fi_seekBehind 40 = .ok (.iload_n 1, 1) := by decide +kernel
theorem d_Fi_seekBehind_41 : decode b_Fi_seekBehind 41 = .ok (.if_icmp .le 24, 3) := by decide +kernel
theorem d_Fi_seekBehind_44 : decode b_Fi_seekBehind 44 = .ok (.aload_n 0, 1) := by decide +kernel
theorem d_Fi_seekBehind_45 : decode b_Fi_seekBehind 45 = .ok (.getfield 22, 3) := by decide +kernel
theorem d_Fi_seekBehind_48 : decode b_Fi_seekBehind 48 = .ok (.aload_n 0, 1) := by decide +kernel
theorem d_Fi_seekBehind_49 : decode b_Fi_seekBehind 49 = .ok (.getfield 94, 3) := by decide +kernel
theorem d_Fi_seekBehind_52 : decode b_Fi_seekBehind 52 = .ok (.aload_n 0, 1) := by decide +kernel
theorem d_Fi_seekBehind_53 : decode b_Fi_seekBehind 53 = .ok (.getfield 9, 3) := by decide +kernel
theorem d_Fi_seekBehind_56 : decode b_Fi_seekBehind 56 = .ok (.iload_n 2, 1) := by decide +kernel
theorem d_Fi_seekBehind_57 : decode b_Fi_seekBehind 57 = .ok (.iaload, 1) := by decide +kernel
theorem d_Fi_seekBehind_58 : decode b_Fi_seekBehind 58 = .ok (.invokestatic 80, 3) := by decide +kernel
theorem d_Fi_seekBehind_61 : decode b_Fi_seekBehind 61 = .ok (.invokevirtual 84, 3) := by decide +kernel
theorem d_Fi_seekBehind_64 : decode b_Fi_seekBehind 64 = .ok (.astore_n 3, 1) := by decide +kernel
theorem d_Fi_seekBehind_65 : decode b_Fi_seekBehind 65 = .ok (.aload_n 3, 1) := by decide +kernel
theorem d_Fi_seekBehind_66 : decode b_Fi_seekBehind 66 = .ok (.ifnonnull 17, 3) := by decide +kernel
theorem d_Fi_seekBehind_69 : decode b_Fi_seekBehind 69 = .ok (.iload_n 1, 1) := by decide +kernel
theorem d_Fi_seekBehind_70 : decode b_Fi_seekBehind 70 = .ok (.aload_n 0, 1) := by decide +kernel
theorem d_Fi_seekBehind_71 : decode b_Fi_seekBehind 71 = .ok (.getfield 15, 3) := by decide +kernel
theorem d_Fi_seekBehind_74 : decode b_Fi_seekBehind 74 = .ok (.iload_n 2, 1) := by decide +kernel
theorem d_Fi_seekBehind_75 : decode b_Fi_seekBehind 75 = .ok (.iaload, 1) := by decide +kernel
theorem d_Fi_seekBehind_76 : decode b_Fi_seekBehind 76 = .ok (.invokestatic 98, 3) := by decide +kernel
theorem d_Fi_seekBehind_79 : decode b_Fi_seekBehind 79 = .ok (.istore_n 1, 1) := by decide +kernel
theorem d_Fi_seekBehind_80 : decode b_Fi_seekBehind 80 = .ok (.goto 32, 3) := by decide +kernel
theorem d_Fi_seekBehind_83 : decode b_Fi_seekBehind 83 = .ok (.aload_n 0, 1) := by decide +kernel
theorem d_Fi_seekBehind_84 : decode b_Fi_seekBehind 84 = .ok (.aload_n 0, 1) := by decide +kernel
theorem d_Fi_seekBehind_85 : decode b_Fi_seekBehind 85 = .ok (.getfield 94, 3) := by decide +kernel
theorem d_Fi_seekBehind_88 : decode b_Fi_seekBehind 88 = .ok (.aload_n 0, 1) := by decide +kernel
theorem d_Fi_seekBehind_89 : decode b_Fi_seekBehind 89 = .ok (.getfield 9, 3) := by decide +kernel
theorem d_Fi_seekBehind_92 : decode b_Fi_seekBehind 92 = .ok (.iload_n 2, 1) := by decide +kernel
theorem d_Fi_seekBehind_93 : decode b_Fi_seekBehind 93 = .ok (.iaload, 1) := by decide +kernel
theorem d_Fi_seekBehind_94 : decode b_Fi_seekBehind 94 = .ok (.invokestatic 80, 3) := by decide +kernel
theorem d_Fi_seekBehind_97 : decode b_Fi_seekBehind 97 = .ok (.aload_n 0, 1) := by decide +kernel
theorem d_Fi_seekBehind_98 : decode b_Fi_seekBehind 98 = .ok (.getfield 70, 3) := by decide +kernel
theorem d_Fi_seekBehind_101 : decode b_Fi_seekBehind 101 = .ok (.iconst 1, 1) := by decide +kernel
theorem d_Fi_seekBehind_102 : decode b_Fi_seekBehind 102 = .ok (.iadd, 1) := by decide +kernel
theorem d_Fi_seekBehind_103 : decode b_Fi_seekBehind 103 = .ok (.aload_n 3, 1) := by decide +kernel
theorem d_Fi_seekBehind_104 : decode b_Fi_seekBehind 104 = .ok (.invokevirtual 90, 3) := by decide +kernel
theorem d_Fi_seekBehind_107 : decode b_Fi_seekBehind 107 = .ok (.aload_n 0, 1) := by decide +kernel
theorem d_Fi_seekBehind_108 : decode b_Fi_seekBehind 108 = .ok (.iload_n 2, 1) := by decide +kernel
theorem d_Fi_seekBehind_109 : decode b_Fi_seekBehind 109 = .ok (.invokevirtual 104, 3) := by decide +kernel
theorem d_Fi_seekBehind_112 : decode b_Fi_seekBehind 112 = .ok (.iinc 2 1, 3) := by decide +kernel
theorem d_Fi_seekBehind_115 : decode b_Fi_seekBehind 115 = .ok (.goto (-108), 3) := by decide +kernel
theorem d_Fi_seekBehind_118 : decode b_Fi_seekBehind 118 = .ok (.return_, 1) := by decide +kernel
theorem d_Ma_max_0 : decode b_Ma_max 0 = .ok (.iload_n 0, 1) := by decide +kernel
theorem d_Ma_max_1 : decode b_Ma_max 1 = .ok (.iload_n 1, 1) := by decide +kernel
theorem d_Ma_max_2 : decode b_Ma_max 2 = .ok (.if_icmp .lt 7, 3) := by decide +kernel
theorem d_Ma_max_5 : decode b_Ma_max 5 = .ok (.iload_n 0, 1) := by decide +kernel
theorem d_Ma_max_6 : decode b_Ma_max 6 = .ok (.goto 4, 3) := by decide +kernel
theorem d_Ma_max_9 : decode b_Ma_max 9 = .ok (.iload_n 1, 1) := by decide +kernel
theorem d_Ma_max_10 : decode b_Ma_max 10 = .ok (.ireturn, 1) := by decide +kernel
theorem d_Fi_closeGap_0 : decode b_Fi_closeGap 0 = .ok (.aload_n 0, 1) := by decide +kernel
theorem d_Fi_closeGap_1 : decode b_Fi_closeGap 1 = .ok (.getfield 9, 3) := by decide +kernel
theorem d_Fi_closeGap_4 : decode b_Fi_closeGap 4 = .ok (.aload_n 0, 1) := by decide +kernel
theorem d_Fi_closeGap_5 : decode b_Fi_closeGap 5 = .ok (.getfield 36, 3) := by decide +kernel
theorem d_Fi_closeGap_8 : decode b_Fi_closeGap 8 = .ok (.aload_n 0, 1) := by decide +kernel
theorem d_Fi_closeGap_9 : decode b_Fi_closeGap 9 = .ok (.getfield 9, 3) := by decide +kernel
theorem d_Fi_closeGap_12 : decode b_Fi_closeGap 12 = .ok (.aload_n 0, 1) := by decide +kernel
theorem d_Fi_closeGap_13 : decode b_Fi_closeGap 13 = .ok (.getfield 36, 3) := by decide +kernel
theorem d_Fi_closeGap_16 : decode b_Fi_closeGap 16 = .ok (.iconst 1, 1) := by decide +kernel
theorem d_Fi_closeGap_17 : decode b_Fi_closeGap 17 = .ok (.iadd, 1) := by decide +kernel
theorem d_Fi_closeGap_18 : decode b_Fi_closeGap 18 = .ok (.iload_n 1, 1) := by decide +kernel
theorem d_Fi_closeGap_19 : decode b_Fi_closeGap 19 = .ok (.aload_n 0, 1) := by decide +kernel
theorem d_Fi_closeGap_20 : decode b_Fi_closeGap 20 = .ok (.getfield 36, 3) := by decide +kernel
theorem d_Fi_closeGap_23 : decode b_Fi_closeGap 23 = .ok (.isub, 1) := by decide +kernel
theorem d_Fi_closeGap_24 : decode b_Fi_closeGap 24 = .ok (.invokestatic 107, 3) := by decide +kernel
theorem d_Fi_closeGap_27 : decode b_Fi_closeGap 27 = .ok (.aload_n 0, 1) := by decide +kernel
theorem d_Fi_closeGap_28 : decode b_Fi_closeGap 28 = .ok (.getfield 15, 3) := by decide +kernel
theorem d_Fi_closeGap_31 : decode b_Fi_closeGap 31 = .ok (.aload_n 0, 1) := by decide +kernel
theorem d_Fi_closeGap_32 : decode b_Fi_closeGap 32 = .ok (.getfield 36, 3) := by decide +kernel
theorem d_Fi_closeGap_35 : decode b_Fi_closeGap 35 = .ok (.aload_n 0, 1) := by decide +kernel
theorem d_Fi_closeGap_36 : decode b_Fi_closeGap 36 = .ok (.getfield 15, 3) := by decide +kernel
theorem d_Fi_closeGap_39 : decode b_Fi_closeGap 39 = .ok (.aload_n 0, 1) := by decide +kernel
theorem d_Fi_closeGap_40 : decode b_Fi_closeGap 40 = .ok (.getfield 36, 3) := by decide +kernel
theorem d_Fi_closeGap_43 : decode b_Fi_closeGap 43 = .ok (.iconst 1, 1) := by decide +kernel
theorem d_Fi_closeGap_44 : decode b_Fi_closeGap 44 = .ok (.iadd, 1) := by decide +kernel
theorem d_Fi_closeGap_45 : decode b_Fi_closeGap 45 = .ok (.iload_n 1, 1) := by decide +kernel
theorem d_Fi_closeGap_46 : decode b_Fi_closeGap 46 = .ok (.aload_n 0, 1) := by decide +kernel
theorem d_Fi_closeGap_47 : decode b_Fi_closeGap 47 = .ok (.getfield 36, 3) := by decide +kernel
theorem d_Fi_closeGap_50 : decode b_Fi_closeGap 50 = .ok (.isub, 1) := by decide +kernel
theorem d_Fi_closeGap_51 : decode b_Fi_closeGap 51 = .ok (.invokestatic 107, 3) := by decide +kernel
theorem d_Fi_closeGap_54 : decode b_Fi_closeGap 54 = .ok (.aload_n 0, 1) := by decide +kernel
theorem d_Fi_closeGap_55 : decode b_Fi_closeGap 55 = .ok (.dup, 1) := by decide +kernel
theorem d_Fi_closeGap_56 : decode b_Fi_closeGap 56 = .ok (.getfield 36, 3) := by decide +kernel
theorem d_Fi_closeGap_59 : decode b_Fi_closeGap 59 = .ok (.iconst 1, 1) := by decide +kernel
theorem d_Fi_closeGap_60 : decode b_Fi_closeGap 60 = .ok (.iadd, 1) := by decide +kernel
theorem d_Fi_closeGap_61 : decode b_Fi_closeGap 61 = .ok (.putfield 36, 3) := by decide +kernel
theorem d_Fi_closeGap_64 : decode b_Fi_closeGap 64 = .ok (.return_, 1) := by decide +kernel
theorem d_El_appendLine_0 : decode b_El_appendLine 0 = .ok (.iconst 0, 1) := by decide +kernel
theorem d_El_appendLine_1 : decode b_El_appendLine 1 = .ok (.istore_n 2, 1) := by decide +kernel
theorem d_El_appendLine_2 : decode b_El_appendLine 2 = .ok (.iload_n 2, 1) := by decide +kernel
theorem d_El_appendLine_3 : decode b_El_appendLine 3 = .ok (.aload_n 1, 1) := by decide +kernel
theorem d_El_appendLine_4 : decode b_El_appendLine 4 = .ok (.getfield 30, 3) := by decide +kernel
theorem d_El_appendLine_7 : decode b_El_appendLine 7 = .ok (.if_icmp .ge 25, 3) := by decide +kernel
theorem d_El_appendLine_10 : decode b_El_appendLine 10 = .ok (.aload_n 0, 1) := by decide +kernel
theorem d_El_appendLine_11 : decode b_El_appendLine 11 = .ok (.aload_n 1, 1) := by decide +kernel
theorem d_El_appendLine_12 : decode b_El_appendLine 12 = .ok (.getfield 33, 3) := by decide +kernel
theorem d_El_appendLine_15 : decode b_El_appendLine 15 = .ok (.iload_n 2, 1) := by decide +kernel
theorem d_El_appendLine_16 : decode b_El_appendLine 16 = .ok (.laload, 1) := by decide +kernel
theorem d_El_appendLine_17 : decode b_El_appendLine 17 = .ok (.aload_n 1, 1) := by decide +kernel
theorem d_El_appendLine_18 : decode b_El_appendLine 18 = .ok (.getfield 34, 3) := by decide +kernel
theorem d_El_appendLine_21 : decode b_El_appendLine 21 = .ok (.iload_n 2, 1) := by decide +kernel
theorem d_El_appendLine_22 : decode b_El_appendLine 22 = .ok (.baload, 1) := by decide +kernel
theorem d_El_appendLine_23 : decode b_El_appendLine 23 = .ok (.invokevirtual 38, 3) := by decide +kernel
theorem d_El_appendLine_26 : decode b_El_appendLine 26 = .ok (.iinc 2 1, 3) := by decide +kernel
theorem d_El_appendLine_29 : decode b_El_appendLine 29 = .ok (.goto (-27), 3) := by decide +kernel
theorem d_El_appendLine_32 : decode b_El_appendLine 32 = .ok (.return_, 1) := by decide +kernel
theorem d_Wo_weight_0 : decode b_Wo_weight 0 = .ok (.iload_n 1, 1) := by decide +kernel
theorem d_Wo_weight_1 : decode b_Wo_weight 1 = .ok (.iconst 3, 1) := by decide +kernel
theorem d_Wo_weight_2 : decode b_Wo_weight 2 = .ok (.invokestatic 52, 3) := by decide +kernel
theorem d_Wo_weight_5 : decode b_Wo_weight 5 = .ok (.ifCond .eq 12, 3) := by decide +kernel
theorem d_Wo_weight_8 : decode b_Wo_weight 8 = .ok (.iload 4, 2) := by decide +kernel
theorem d_Wo_weight_10 : decode b_Wo_weight 10 = .ok (.iconst 3, 1) := by decide +kernel
theorem d_Wo_weight_11 : decode b_Wo_weight 11 = .ok (.invokestatic 52, 3) := by decide +kernel
theorem d_Wo_weight_14 : decode b_Wo_weight 14 = .ok (.ifCond .ne 11, 3) := by decide +kernel
theorem d_Wo_weight_17 : decode b_Wo_weight 17 = .ok (.new 56, 3) := by decide +kernel
theorem d_Wo_weight_20 : decode b_Wo_weight 20 = .ok (.dup, 1) := by decide +kernel
theorem d_Wo_weight_21 : decode b_Wo_weight 21 = .ok (.invokespecial 58, 3) := by decide +kernel
theorem d_Wo_weight_24 : decode b_Wo_weight 24 = .ok (.athrow, 1) := by decide +kernel
theorem d_Wo_weight_25 : decode b_Wo_weight 25 = .ok (.aload_n 0, 1) := by decide +kernel
theorem d_Wo_weight_26 : decode b_Wo_weight 26 = .ok (.getfield 37, 3) := by decide +kernel
theorem d_Wo_weight_29 : decode b_Wo_weight 29 = .ok (.aload_n 0, 1) := by decide +kernel
theorem d_Wo_weight_30 : decode b_Wo_weight 30 = .ok (.getfield 28, 3) := by decide +kernel
theorem d_Wo_weight_33 : decode b_Wo_weight 33 = .ok (.iload_n 1, 1) := by decide +kernel
theorem d_Wo_weight_34 : decode b_Wo_weight 34 = .ok (.aaload, 1) := by decide +kernel
theorem d_Wo_weight_35 : decode b_Wo_weight 35 = .ok (.iload_n 2, 1) := by decide +kernel
theorem d_Wo_weight_36 : decode b_Wo_weight 36 = .ok (.aload_n 0, 1) := by decide +kernel
theorem d_Wo_weight_37 : decode b_Wo_weight 37 = .ok (.getfield 44, 3) := by decide +kernel
theorem d_Wo_weight_40 : decode b_Wo_weight 40 = .ok (.invokevirtual 111, 3) := by decide +kernel
theorem d_Wo_weight_43 : decode b_Wo_weight 43 = .ok (.iload_n 3, 1) := by decide +kernel
theorem d_Wo_weight_44 : decode b_Wo_weight 44 = .ok (.aload_n 0, 1) := by decide +kernel
theorem d_Wo_weight_45 : decode b_Wo_weight 45 = .ok (.getfield 44, 3) := by decide +kernel
theorem d_Wo_weight_48 : decode b_Wo_weight 48 = .ok (.getfield 115, 3) := by decide +kernel
theorem d_Wo_weight_51 : decode b_Wo_weight 51 = .ok (.iconst 1, 1) := by decide +kernel
theorem d_Wo_weight_52 : decode b_Wo_weight 52 = .ok (.isub, 1) := by decide +kernel
theorem d_Wo_weight_53 : decode b_Wo_weight 53 = .ok (.invokestatic 52, 3) := by decide +kernel
theorem d_Wo_weight_56 : decode b_Wo_weight 56 = .ok (.ifCond .ne 11, 3) := by decide +kernel
theorem d_Wo_weight_59 : decode b_Wo_weight 59 = .ok (.new 56, 3) := by decide +kernel
theorem d_Wo_weight_62 : decode b_Wo_weight 62 = .ok (.dup, 1) := by decide +kernel
theorem d_Wo_weight_63 : decode b_Wo_weight 63 = .ok (.invokespecial 58, 3) := by decide +kernel
theorem d_Wo_weight_66 : decode b_Wo_weight 66 = .ok (.athrow, 1) := by decide +kernel
theorem d_Wo_weight_67 : decode b_Wo_weight 67 = .ok (.aload_n 0, 1) := by decide +kernel
theorem d_Wo_weight_68 : decode b_Wo_weight 68 = .ok (.getfield 44, 3) := by decide +kernel
theorem d_Wo_weight_71 : decode b_Wo_weight 71 = .ok (.getfield 116, 3) := by decide +kernel
theorem d_Wo_weight_74 : decode b_Wo_weight 74 = .ok (.iload_n 3, 1) := by decide +kernel
theorem d_Wo_weight_75 : decode b_Wo_weight 75 = .ok (.laload, 1) := by decide +kernel
theorem d_Wo_weight_76 : decode b_Wo_weight 76 = .ok (.iload 4, 2) := by decide +kernel
theorem d_Wo_weight_78 : decode b_Wo_weight 78 = .ok (.invokestatic 120, 3) := by decide +kernel
theorem d_Wo_weight_81 : decode b_Wo_weight 81 = .ok (.ireturn, 1) := by decide +kernel
theorem d_Wo_compare_0 : decode b_Wo_compare 0 = .ok (.iload_n 1, 1) := by decide +kernel
theorem d_Wo_compare_1 : decode b_Wo_compare 1 = .ok (.iconst 3, 1) := by decide +kernel
theorem d_Wo_compare_2 : decode b_Wo_compare 2 = .ok (.invokestatic 52, 3) := by decide +kernel
theorem d_Wo_compare_5 : decode b_Wo_compare 5 = .ok (.ifCond .eq 21, 3) := by decide +kernel
theorem d_Wo_compare_8 : decode b_Wo_compare 8 = .ok (.iload_n 2, 1) := by decide +kernel
theorem d_Wo_compare_9 : decode b_Wo_compare 9 = .ok (.iconst 3, 1) := by decide +kernel
theorem d_Wo_compare_10 : decode b_Wo_compare 10 = .ok (.invokestatic 52, 3) := by decide +kernel
theorem d_Wo_compare_13 : decode b_Wo_compare 13 = .ok (.ifCond .eq 13, 3) := by decide +kernel
theorem d_Wo_compare_16 : decode b_Wo_compare 16 = .ok (.iload_n 3, 1) := by decide +kernel
theorem d_Wo_compare_17 : decode b_Wo_compare 17 = .ok (.iconst 1, 1) := by decide +kernel
theorem d_Wo_compare_18 : decode b_Wo_compare 18 = .ok (.if_icmp .lt 8, 3) := by decide +kernel
theorem d_Wo_compare_21 : decode b_Wo_compare 21 = .ok (.iload_n 3, 1) := by decide +kernel
theorem d_Wo_compare_22 : decode b_Wo_compare 22 = .ok (.iconst 4, 1) := by decide +kernel
theorem d_Wo_compare_23 : decode b_Wo_compare 23 = .ok (.if_icmp .le 11, 3) := by decide +kernel
theorem d_Wo_compare_26 : decode b_Wo_compare 26 = .ok (.new 56, 3) := by decide +kernel
theorem d_Wo_compare_29 : decode b_Wo_compare 29 = .ok (.dup, 1) := by decide +kernel
theorem d_Wo_compare_30 : decode b_Wo_compare 30 = .ok (.invokespecial 58, 3) := by decide +kernel
theorem d_Wo_compare_33 : decode b_Wo_compare 33 = .ok (.athrow, 1) := by decide +kernel
theorem d_Wo_compare_34 : decode b_Wo_compare 34 = .ok (.aload_n 0, 1) := by decide +kernel
theorem d_Wo_compare_35 : decode b_Wo_compare 35 = .ok (.getfield 37, 3) := by decide +kernel
theorem d_Wo_compare_38 : decode b_Wo_compare 38 = .ok (.aload_n 0, 1) := by decide +kernel
theorem d_Wo_compare_39 : decode b_Wo_compare 39 = .ok (.getfield 28, 3) := by decide +kernel
theorem d_Wo_compare_42 : decode b_Wo_compare 42 = .ok (.iload_n 1, 1) := by decide +kernel
theorem d_Wo_compare_43 : decode b_Wo_compare 43 = .ok (.aaload, 1) := by decide +kernel
theorem d_Wo_compare_44 : decode b_Wo_compare 44 = .ok (.iload 4, 2) := by decide +kernel
theorem d_Wo_compare_46 : decode b_Wo_compare 46 = .ok (.aload_n 0, 1) := by decide +kernel
theorem d_Wo_compare_47 : decode b_Wo_compare 47 = .ok (.getfield 44, 3) := by decide +kernel
theorem d_Wo_compare_50 : decode b_Wo_compare 50 = .ok (.invokevirtual 111, 3) := by decide +kernel
theorem d_Wo_compare_53 : decode b_Wo_compare 53 = .ok (.aload_n 0, 1) := by decide +kernel
theorem d_Wo_compare_54 : decode b_Wo_compare 54 = .ok (.getfield 37, 3) := by decide +kernel
theorem d_Wo_compare_57 : decode b_Wo_compare 57 = .ok (.aload_n 0, 1) := by decide +kernel
theorem d_Wo_compare_58 : decode b_Wo_compare 58 = .ok (.getfield 28, 3) := by decide +kernel
theorem d_Wo_compare_61 : decode b_Wo_compare 61 = .ok (.iload_n 2, 1) := by decide +kernel
theorem d_Wo_compare_62 : decode b_Wo_compare 62 = .ok (.aaload, 1) := by decide +kernel
theorem d_Wo_compare_63 : decode b_Wo_compare 63 = .ok (.iload 4, 2) := by decide +kernel
theorem d_Wo_compare_65 : decode b_Wo_compare 65 = .ok (.aload_n 0, 1) := by decide +kernel
theorem d_Wo_compare_66 : decode b_Wo_compare 66 = .ok (.getfield 48, 3) := by decide +kernel
theorem d_Wo_compare_69 : decode b_Wo_compare 69 = .ok (.invokevirtual 111, 3) := by decide +kernel
theorem d_Wo_compare_72 : decode b_Wo_compare 72 = .ok (.iconst 0, 1) := by decide +kernel
theorem d_Wo_compare_73 : decode b_Wo_compare 73 = .ok (.istore 5, 2) := by decide +kernel
theorem d_Wo_compare_75 : decode b_Wo_compare 75 = .ok (.iconst 0, 1) := by decide +kernel
theorem d_Wo_compare_76 : decode b_Wo_compare 76 = .ok (.istore 6, 2) := by decide +kernel
theorem d_Wo_compare_78 : decode b_Wo_compare 78 = .ok (.iload 6, 2) := by decide +kernel
theorem d_Wo_compare_80 : decode b_Wo_compare 80 = .ok (.iload_n 3, 1) := by decide +kernel
theorem d_Wo_compare_81 : decode b_Wo_compare 81 = .ok (.if_icmp .ge 29, 3) := by decide +kernel
theorem d_Wo_compare_84 : decode b_Wo_compare 84 = .ok (.iload 5, 2) := by decide +kernel
theorem d_Wo_compare_86 : decode b_Wo_compare 86 = .ok (.ifCond .ne 24, 3) := by decide +kernel
theorem d_Wo_compare_89 : decode b_Wo_compare 89 = .ok (.aload_n 0, 1) := by decide +kernel
theorem d_Wo_compare_90 : decode b_Wo_compare 90 = .ok (.getfield 44, 3) := by decide +kernel
theorem d_Wo_compare_93 : decode b_Wo_compare 93 = .ok (.aload_n 0, 1) := by decide +kernel
theorem d_Wo_compare_94 : decode b_Wo_compare 94 = .ok (.getfield 48, 3) := by decide +kernel
theorem d_Wo_compare_97 : decode b_Wo_compare 97 = .ok (.iload 6, 2) := by decide +kernel
theorem d_Wo_compare_99 : decode b_Wo_compare 99 = .ok (.invokestatic 124, 3) := by decide +kernel
theorem d_Wo_compare_102 : decode b_Wo_compare 102 = .ok (.istore 5, 2) := by decide +kernel
theorem d_Wo_compare_104 : decode b_Wo_compare 104 = .ok (.iinc 6 1, 3) := by decide +kernel
theorem d_Wo_compare_107 : decode b_Wo_compare 107 = .ok (.goto (-29), 3) := by decide +kernel
theorem d_Wo_compare_110 : decode b_Wo_compare 110 = .ok (.iload 5, 2) := by decide +kernel
theorem d_Wo_compare_112 : decode b_Wo_compare 112 = .ok (.ireturn, 1) := by decide +kernel
theorem d_Wo_levelOrder_0 : decode b_Wo_levelOrder 0 = .ok (.aload_n 0, 1) := by decide +kernel
theorem d_Wo_levelOrder_1 : decode b_Wo_levelOrder 1 = .ok (.iconst 0, 1) := by decide +kernel
theorem d_Wo_levelOrder_2 : decode b_Wo_levelOrder 2 = .ok (.iload_n 2, 1) := by decide +kernel
theorem d_Wo_levelOrder_3 : decode b_Wo_levelOrder 3 = .ok (.invokevirtual 132, 3) := by decide +kernel
theorem d_Wo_levelOrder_6 : decode b_Wo_levelOrder 6 = .ok (.istore_n 3, 1) := by decide +kernel
theorem d_Wo_levelOrder_7 : decode b_Wo_levelOrder 7 = .ok (.aload_n 1, 1) := by decide +kernel
theorem d_Wo_levelOrder_8 : decode b_Wo_levelOrder 8 = .ok (.iconst 0, 1) := by decide +kernel
theorem d_Wo_levelOrder_9 : decode b_Wo_levelOrder 9 = .ok (.iload_n 2, 1) := by decide +kernel
theorem d_Wo_levelOrder_10 : decode b_Wo_levelOrder 10 = .ok (.invokevirtual 132, 3) := by decide +kernel
theorem d_Wo_levelOrder_13 : decode b_Wo_levelOrder 13 = .ok (.istore 4, 2) := by decide +kernel
theorem d_Wo_levelOrder_15 : decode b_Wo_levelOrder 15 = .ok (.iconst 0, 1) := by decide +kernel
theorem d_Wo_levelOrder_16 : decode b_Wo_levelOrder 16 = .ok (.istore 5, 2) := by decide +kernel
theorem d_Wo_levelOrder_18 : decode b_Wo_levelOrder 18 = .ok (.iload 5, 2) := by decide +kernel
theorem d_Wo_levelOrder_20 : decode b_Wo_levelOrder 20 = .ok (.sipush 1600, 3) := by decide +kernel
theorem d_Wo_levelOrder_23 : decode b_Wo_levelOrder 23 = .ok (.if_icmp .ge 80, 3) := by decide +kernel
theorem d_Wo_levelOrder_26 : decode b_Wo_levelOrder 26 = .ok (.iload_n 3, 1) := by decide +kernel
theorem d_Wo_levelOrder_27 : decode b_Wo_levelOrder 27 = .ok (.aload_n 0, 1) := by decide +kernel
theorem d_Wo_levelOrder_28 : decode b_Wo_levelOrder 28 = .ok (.getfield 115, 3) := by decide +kernel
theorem d_Wo_levelOrder_31 : decode b_Wo_levelOrder 31 = .ok (.if_icmp .ge 72, 3) := by decide +kernel
theorem d_Wo_levelOrder_34 : decode b_Wo_levelOrder 34 = .ok (.iload 4, 2) := by decide +kernel
theorem d_Wo_levelOrder_36 : decode b_Wo_levelOrder 36 = .ok (.aload_n 1, 1) := by decide +kernel
theorem d_Wo_levelOrder_37 : decode b_Wo_levelOrder 37 = .ok (.getfield 115, 3) := by decide +kernel
theorem d_Wo_levelOrder_40 : decode b_Wo_levelOrder 40 = .ok (.if_icmp .ge 63, 3) := by decide +kernel
theorem d_Wo_levelOrder_43 : decode b_Wo_levelOrder 43 = .ok (.aload_n 0, 1) := by decide +kernel
theorem d_Wo_levelOrder_44 : decode b_Wo_levelOrder 44 = .ok (.getfield 116, 3) := by decide +kernel
theorem d_Wo_levelOrder_47 : decode b_Wo_levelOrder 47 = .ok (.iload_n 3, 1) := by decide +kernel
theorem d_Wo_levelOrder_48 : decode b_Wo_levelOrder 48 = .ok (.laload, 1) := by decide +kernel
theorem d_Wo_levelOrder_49 : decode b_Wo_levelOrder 49 = .ok (.iload_n 2, 1) := by decide +kernel
theorem d_Wo_levelOrder_50 : decode b_Wo_levelOrder 50 = .ok (.invokestatic 120, 3) := by decide +kernel
theorem d_Wo_levelOrder_53 : decode b_Wo_levelOrder 53 = .ok (.aload_n 1, 1) := by decide +kernel
theorem d_Wo_levelOrder_54 : decode b_Wo_levelOrder 54 = .ok (.getfield 116, 3) := by decide +kernel
theorem d_Wo_levelOrder_57 : decode b_Wo_levelOrder 57 = .ok (.iload 4, 2) := by decide +kernel
theorem d_Wo_levelOrder_59 : decode b_Wo_levelOrder 59 = .ok (.laload, 1) := by decide +kernel
theorem d_Wo_levelOrder_60 : decode b_Wo_levelOrder 60 = .ok (.iload_n 2, 1) := by decide +kernel
theorem d_Wo_levelOrder_61 : decode b_Wo_levelOrder 61 = .ok (.invokestatic 120, 3) := by decide +kernel
theorem d_Wo_levelOrder_64 : decode b_Wo_levelOrder 64 = .ok (.invokestatic 136, 3) := by decide +kernel
theorem d_Wo_levelOrder_67 : decode b_Wo_levelOrder 67 = .ok (.istore 6, 2) := by decide +kernel
theorem d_Wo_levelOrder_69 : decode b_Wo_levelOrder 69 = .ok (.iload 6, 2) := by decide +kernel
theorem d_Wo_levelOrder_71 : decode b_Wo_levelOrder 71 = .ok (.ifCond .eq 6, 3) := by decide +kernel
theorem d_Wo_levelOrder_74 : decode b_Wo_levelOrder 74 = .ok (.iload 6, 2) := by decide +kernel
theorem d_Wo_levelOrder_76 : decode b_Wo_levelOrder 76 = .ok (.ireturn, 1) := by decide +kernel
theorem d_Wo_levelOrder_77 : decode b_Wo_levelOrder 77 = .ok (.aload_n 0, 1) := by decide +kernel
theorem d_Wo_levelOrder_78 : decode b_Wo_levelOrder 78 = .ok (.iload_n 3, 1) := by decide +kernel
theorem d_Wo_levelOrder_79 : decode b_Wo_levelOrder 79 = .ok (.iconst 1, 1) := by decide +kernel
theorem d_Wo_levelOrder_80 : decode b_Wo_levelOrder 80 = .ok (.iadd, 1) := by decide +kernel
theorem d_Wo_levelOrder_81 : decode b_Wo_levelOrder 81 = .ok (.iload_n 2, 1) := by decide +kernel
theorem d_Wo_levelOrder_82 : decode b_Wo_levelOrder 82 = .ok (.invokevirtual 132, 3) := by decide +kernel
theorem d_Wo_levelOrder_85 : decode b_Wo_levelOrder 85 = .ok (.istore_n 3, 1) := by decide +kernel
theorem d_Wo_levelOrder_86 : decode b_Wo_levelOrder 86 = .ok (.aload_n 1, 1) := by decide +kernel
theorem d_Wo_levelOrder_87 : decode b_Wo_levelOrder 87 = .ok (.iload 4, 2) := by decide +kernel
theorem d_Wo_levelOrder_89 : decode b_Wo_levelOrder 89 = .ok (.iconst 1, 1) := by decide +kernel
theorem d_Wo_levelOrder_90 : decode b_Wo_levelOrder 90 = .ok (.iadd, 1) := by decide +kernel
theorem d_Wo_levelOrder_91 : decode b_Wo_levelOrder 91 = .ok (.iload_n 2, 1) := by decide +kernel
theorem d_Wo_levelOrder_92 : decode b_Wo_levelOrder 92 = .ok (.invokevirtual 132, 3) := by decide +kernel
theorem d_Wo_levelOrder_95 : decode b_Wo_levelOrder 95 = .ok (.istore 4, 2) := by decide +kernel
theorem d_Wo_levelOrder_97 : decode b_Wo_levelOrder 97 = .ok (.iinc 5 1, 3) := by decide +kernel
theorem d_Wo_levelOrder_100 : decode b_Wo_levelOrder 100 = .ok (.goto (-82), 3) := by decide +kernel
theorem d_Wo_levelOrder_103 : decode b_Wo_levelOrder 103 = .ok (.iload_n 3, 1) := by decide +kernel
theorem d_Wo_levelOrder_104 : decode b_Wo_levelOrder 104 = .ok (.aload_n 0, 1) := by decide +kernel
theorem d_Wo_levelOrder_105 : decode b_Wo_levelOrder 105 = .ok (.getfield 115, 3) := by decide +kernel
theorem d_Wo_levelOrder_108 : decode b_Wo_levelOrder 108 = .ok (.if_icmp .ge 5, 3) := by decide +kernel
theorem d_Wo_levelOrder_111 : decode b_Wo_levelOrder 111 = .ok (.iconst 1, 1) := by decide +kernel
theorem d_Wo_levelOrder_112 : decode b_Wo_levelOrder 112 = .ok (.ireturn, 1) := by decide +kernel
theorem d_Wo_levelOrder_113 : decode b_Wo_levelOrder 113 = .ok (.iload 4, 2) := by decide +kernel
theorem d_Wo_levelOrder_115 : decode b_Wo_levelOrder 115 = .ok (.aload_n 1, 1) := by decide +kernel
theorem d_Wo_levelOrder_116 : decode b_Wo_levelOrder 116 = .ok (.getfield 115, 3) := by decide +kernel
theorem d_Wo_levelOrder_119 : decode b_Wo_levelOrder 119 = .ok (.if_icmp .ge 7, 3) := by decide +kernel
theorem d_Wo_levelOrder_122 : decode b_Wo_levelOrder 122 = .ok (.iconst (-1), 1) := by decide +kernel
theorem d_Wo_levelOrder_123 : decode b_Wo_levelOrder 123 = .ok (.goto 4, 3) := by decide +kernel
theorem d_Wo_levelOrder_126 : decode b_Wo_levelOrder 126 = .ok (.iconst 0, 1) := by decide +kernel
theorem d_Wo_levelOrder_127 : decode b_Wo_levelOrder 127 = .ok (.ireturn, 1) := by decide +kernel
theorem d_El_nextWithWeight_0 : decode b_El_nextWithWeight 0 = .ok (.iload_n 1, 1) := by decide +kernel
theorem d_El_nextWithWeight_1 : decode b_El_nextWithWeight 1 = .ok (.istore_n 3, 1) := by decide +kernel
theorem d_El_nextWithWeight_2 : decode b_El_nextWithWeight 2 = .ok (.iload_n 3, 1) := by decide +kernel
theorem d_El_nextWithWeight_3 : decode b_El_nextWithWeight 3 = .ok (.aload_n 0, 1) := by decide +kernel
theorem d_El_nextWithWeight_4 : decode b_El_nextWithWeight 4 = .ok (.getfield 15, 3) := by decide +kernel
theorem d_El_nextWithWeight_7 : decode b_El_nextWithWeight 7 = .ok (.if_icmp .ge 22, 3) := by decide +kernel
theorem d_El_nextWithWeight_10 : decode b_El_nextWithWeight 10 = .ok (.aload_n 0, 1) := by decide +kernel
theorem d_El_nextWithWeight_11 : decode b_El_nextWithWeight 11 = .ok (.getfield 9, 3) := by decide +kernel
theorem d_El_nextWithWeight_14 : decode b_El_nextWithWeight 14 = .ok (.iload_n 3, 1) := by decide +kernel
theorem d_El_nextWithWeight_15 : decode b_El_nextWithWeight 15 = .ok (.laload, 1) := by decide +kernel
theorem d_El_nextWithWeight_16 : decode b_El_nextWithWeight 16 = .ok (.iload_n 2, 1) := by decide +kernel
theorem d_El_nextWithWeight_17 : decode b_El_nextWithWeight 17 = .ok (.invokestatic 48, 3) := by decide +kernel
theorem d_El_nextWithWeight_20 : decode b_El_nextWithWeight 20 = .ok (.ifCond .ne 9, 3) := by decide +kernel
theorem d_El_nextWithWeight_23 : decode b_El_nextWithWeight 23 = .ok (.iinc 3 1, 3) := by decide +kernel
theorem d_El_nextWithWeight_26 : decode b_El_nextWithWeight 26 = .ok (.goto (-24), 3) := by decide +kernel
theorem d_El_nextWithWeight_29 : decode b_El_nextWithWeight 29 = .ok (.iload_n 3, 1) := by decide +kernel
theorem d_El_nextWithWeight_30 : decode b_El_nextWithWeight 30 = .ok (.ireturn, 1) := by decide +kernel
theorem d_In_compare_0 : decode b_In_compare 0 = .ok (.iload_n 0, 1) := by decide +kernel
theorem d_In_compare_1 : decode b_In_compare 1 = .ok (.iload_n 1, 1) := by decide +kernel
theorem d_In_compare_2 : decode b_In_compare 2 = .ok (.if_icmp .ge 7, 3) := by decide +kernel
theorem d_In_compare_5 : decode b_In_compare 5 = .ok (.iconst (-1), 1) := by decide +kernel
theorem d_In_compare_6 : decode b_In_compare 6 = .ok (.goto 13, 3) := by decide +kernel
theorem d_In_compare_9 : decode b_In_compare 9 = .ok (.iload_n 0, 1) := by decide +kernel
theorem d_In_compare_10 : decode b_In_compare 10 = .ok (.iload_n 1, 1) := by decide +kernel
theorem d_In_compare_11 : decode b_In_compare 11 = .ok (.if_icmp .ne 7, 3) := by decide +kernel
theorem d_In_compare_14 : decode b_In_compare 14 = .ok (.iconst 0, 1) := by decide +kernel
theorem d_In_compare_15 : decode b_In_compare 15 = .ok (.goto 4, 3) := by decide +kernel
theorem d_In_compare_18 : decode b_In_compare 18 = .ok (.iconst 1, 1) := by decide +kernel
theorem d_In_compare_19 : decode b_In_compare 19 = .ok (.ireturn, 1) := by decide +kernel
end
section
/-! each instruction, decoded -/
theorem d_Mo_init_0 : decode b_Mo_init 0 = .ok (.aload_n 0, 1) := by decide +kernel
theorem d_Mo_init_1 : decode b_Mo_init 1 = .ok (.invokespecial 1, 3) := by decide +kernel
theorem d_Mo_init_4 : decode b_Mo_init 4 = .ok (.aload_n 0, 1) := by decide +kernel
theorem d_Mo_init_5 : decode b_Mo_init 5 = .ok (.sipush 5000, 3) := by decide +kernel
theorem d_Mo_init_8 : decode b_Mo_init 8 = .ok (.newarray .int, 2) := by decide +kernel
theorem d_Mo_init_10 : decode b_Mo_init 10 = .ok (.putfield 7, 3) := by decide +kernel
theorem d_Mo_init_13 : decode b_Mo_init 13 = .ok (.aload_n 0, 1) := by decide +kernel
theorem d_Mo_init_14 : decode b_Mo_init 14 = .ok (.sipush 5000, 3) := by decide +kernel
theorem d_Mo_init_17 : decode b_Mo_init 17 = .ok (.newarray .int, 2) := by decide +kernel
theorem d_Mo_init_19 : decode b_Mo_init 19 = .ok (.putfield 13, 3) := by decide +kernel
theorem d_Mo_init_22 : decode b_Mo_init 22 = .ok (.aload_n 0, 1) := by decide +kernel
theorem d_Mo_init_23 : decode b_Mo_init 23 = .ok (.sipush 500, 3) := by decide +kernel
theorem d_Mo_init_26 : decode b_Mo_init 26 = .ok (.newarray .int, 2) := by decide +kernel
theorem d_Mo_init_28 : decode b_Mo_init 28 = .ok (.putfield 16, 3) := by decide +kernel
theorem d_Mo_init_31 : decode b_Mo_init 31 = .ok (.aload_n 0, 1) := by decide +kernel
theorem d_Mo_init_32 : decode b_Mo_init 32 = .ok (.sipush 1500, 3) := by decide +kernel
theorem d_Mo_init_35 : decode b_Mo_init 35 = .ok (.newarray .int, 2) := by decide +kernel
theorem d_Mo_init_37 : decode b_Mo_init 37 = .ok (.putfield 19, 3) := by decide +kernel
theorem d_Mo_init_40 : decode b_Mo_init 40 = .ok (.aload_n 0, 1) := by decide +kernel
theorem d_Mo_init_41 : decode b_Mo_init 41 = .ok (.sipush 500, 3) := by decide +kernel
theorem d_Mo_init_44 : decode b_Mo_init 44 = .ok (.newarray .int, 2) := by decide +kernel
theorem d_Mo_init_46 : decode b_Mo_init 46 = .ok (.putfield 22, 3) := by decide +kernel
theorem d_Mo_init_49 : decode b_Mo_init 49 = .ok (.aload_n 0, 1) := by decide +kernel
theorem d_Mo_init_50 : decode b_Mo_init 50 = .ok (.sipush 16000, 3) := by decide +kernel
theorem d_Mo_init_53 : decode b_Mo_init 53 = .ok (.newarray .int, 2) := by decide +kernel
theorem d_Mo_init_55 : decode b_Mo_init 55 = .ok (.putfield 25, 3) := by decide +kernel
theorem d_Mo_init_58 : decode b_Mo_init 58 = .ok (.aload_n 0, 1) := by decide +kernel
theorem d_Mo_init_59 : decode b_Mo_init 59 = .ok (.iconst (-1), 1) := by decide +kernel
theorem d_Mo_init_60 : decode b_Mo_init 60 = .ok (.putfield 28, 3) := by decide +kernel
theorem d_Mo_init_63 : decode b_Mo_init 63 = .ok (.aload_n 0, 1) := by decide +kernel
theorem d_Mo_init_64 : decode b_Mo_init 64 = .ok (.iconst 4, 1) := by decide +kernel
theorem d_Mo_init_65 : decode b_Mo_init 65 = .ok (.sipush 200, 3) := by decide +kernel
theorem d_Mo_init_68 : decode b_Mo_init 68 = .ok (.multianewarray 32 2, 4) := by decide +kernel
theorem d_Mo_init_72 : decode b_Mo_init 72 = .ok (.putfield 34, 3) := by decide +kernel
theorem d_Mo_init_75 : decode b_Mo_init 75 = .ok (.aload_n 0, 1) := by decide +kernel
theorem d_Mo_init_76 : decode b_Mo_init 76 = .ok (.iconst 4, 1) := by decide +kernel
theorem d_Mo_init_77 : decode b_Mo_init 77 = .ok (.newarray .int, 2) := by decide +kernel
theorem d_Mo_init_79 : decode b_Mo_init 79 = .ok (.putfield 37, 3) := by decide +kernel
theorem d_Mo_init_82 : decode b_Mo_init 82 = .ok (.aload_n 0, 1) := by decide +kernel
theorem d_Mo_init_83 : decode b_Mo_init 83 = .ok (.sipush 200, 3) := by decide +kernel
theorem d_Mo_init_86 : decode b_Mo_init 86 = .ok (.newarray .int, 2) := by decide +kernel
theorem d_Mo_init_88 : decode b_Mo_init 88 = .ok (.putfield 40, 3) := by decide +kernel
theorem d_Mo_init_91 : decode b_Mo_init 91 = .ok (.aload_n 0, 1) := by decide +kernel
theorem d_Mo_init_92 : decode b_Mo_init 92 = .ok (.sipush 6400, 3) := by decide +kernel
theorem d_Mo_init_95 : decode b_Mo_init 95 = .ok (.newarray .int, 2) := by decide +kernel
theorem d_Mo_init_97 : decode b_Mo_init 97 = .ok (.putfield 43, 3) := by decide +kernel
theorem d_Mo_init_100 : decode b_Mo_init 100 = .ok (.aload_n 0, 1) := by decide +kernel
theorem d_Mo_init_101 : decode b_Mo_init 101 = .ok (.sipush 6400, 3) := by decide +kernel
theorem d_Mo_init_104 : decode b_Mo_init 104 = .ok (.newarray .int, 2) := by decide +kernel
theorem d_Mo_init_106 : decode b_Mo_init 106 = .ok (.putfield 46, 3) := by decide +kernel
theorem d_Mo_init_109 : decode b_Mo_init 109 = .ok (.return_, 1) := by decide +kernel
theorem d_Mo_thrown_0 : decode b_Mo_thrown 0 = .ok (.aload_n 0, 1) := by decide +kernel
theorem d_Mo_thrown_1 : decode b_Mo_thrown 1 = .ok (.getfield 49, 3) := by decide +kernel
theorem d_Mo_thrown_4 : decode b_Mo_thrown 4 = .ok (.ireturn, 1) := by decide +kernel
theorem d_Mo_order_0 : decode b_Mo_order 0 = .ok (.aload_n 0, 1) := by decide +kernel
theorem d_Mo_order_1 : decode b_Mo_order 1 = .ok (.iconst 0, 1) := by decide +kernel
theorem d_Mo_order_2 : decode b_Mo_order 2 = .ok (.putfield 49, 3) := by decide +kernel
theorem d_Mo_order_5 : decode b_Mo_order 5 = .ok (.aload_n 0, 1) := by decide +kernel
theorem d_Mo_order_6 : decode b_Mo_order 6 = .ok (.iload_n 1, 1) := by decide +kernel
theorem d_Mo_order_7 : decode b_Mo_order 7 = .ok (.invokevirtual 53, 3) := by decide +kernel
theorem d_Mo_order_10 : decode b_Mo_order 10 = .ok (.ifCond .ne 14, 3) := by decide +kernel
theorem d_Mo_order_13 : decode b_Mo_order 13 = .ok (.iload_n 2, 1) := by decide +kernel
theorem d_Mo_order_14 : decode b_Mo_order 14 = .ok (.ifCond .lt 10, 3) := by decide +kernel
theorem d_Mo_order_17 : decode b_Mo_order 17 = .ok (.iload_n 2, 1) := by decide +kernel
theorem d_Mo_order_18 : decode b_Mo_order 18 = .ok (.sipush 254, 3) := by decide +kernel
theorem d_Mo_order_21 : decode b_Mo_order 21 = .ok (.if_icmp .le 11, 3) := by decide +kernel
theorem d_Mo_order_24 : decode b_Mo_order 24 = .ok (.aload_n 0, 1) := by decide +kernel
theorem d_Mo_order_25 : decode b_Mo_order 25 = .ok (.iconst 1, 1) := by decide +kernel
theorem d_Mo_order_26 : decode b_Mo_order 26 = .ok (.putfield 49, 3) := by decide +kernel
theorem d_Mo_order_29 : decode b_Mo_order 29 = .ok (.goto 61, 3) := by decide +kernel
theorem d_Mo_order_32 : decode b_Mo_order 32 = .ok (.iconst 0, 1) := by decide +kernel
theorem d_Mo_order_33 : decode b_Mo_order 33 = .ok (.istore_n 3, 1) := by decide +kernel
theorem d_Mo_order_34 : decode b_Mo_order 34 = .ok (.iload_n 3, 1) := by decide +kernel
theorem d_Mo_order_35 : decode b_Mo_order 35 = .ok (.aload_n 0, 1) := by decide +kernel
theorem d_Mo_order_36 : decode b_Mo_order 36 = .ok (.getfield 57, 3) := by decide +kernel
theorem d_Mo_order_39 : decode b_Mo_order 39 = .ok (.if_icmp .ge 19, 3) := by decide +kernel
theorem d_Mo_order_42 : decode b_Mo_order 42 = .ok (.aload_n 0, 1) := by decide +kernel
theorem d_Mo_order_43 : decode b_Mo_order 43 = .ok (.getfield 7, 3) := by decide +kernel
theorem d_Mo_order_46 : decode b_Mo_order 46 = .ok (.iload_n 3, 1) := by decide +kernel
theorem d_Mo_order_47 : decode b_Mo_order 47 = .ok (.iaload, 1) := by decide +kernel
theorem d_Mo_order_48 : decode b_Mo_order 48 = .ok (.iload_n 1, 1) := by decide +kernel
theorem d_Mo_order_49 : decode b_Mo_order 49 = .ok (.if_icmp .eq 9, 3) := by decide +kernel
theorem d_Mo_order_52 : decode b_Mo_order 52 = .ok (.iinc 3 1, 3) := by decide +kernel
theorem d_Mo_order_55 : decode b_Mo_order 55 = .ok (.goto (-21), 3) := by decide +kernel
theorem d_Mo_order_58 : decode b_Mo_order 58 = .ok (.aload_n 0, 1) := by decide +kernel
theorem d_Mo_order_59 : decode b_Mo_order 59 = .ok (.getfield 7, 3) := by decide +kernel
theorem d_Mo_order_62 : decode b_Mo_order 62 = .ok (.iload_n 3, 1) := by decide +kernel
theorem d_Mo_order_63 : decode b_Mo_order 63 = .ok (.iload_n 1, 1) := by decide +kernel
theorem d_Mo_order_64 : decode b_Mo_order 64 = .ok (.iastore, 1) := by decide +kernel
theorem d_Mo_order_65 : decode b_Mo_order 65 = .ok (.aload_n 0, 1) := by decide +kernel
theorem d_Mo_order_66 : decode b_Mo_order 66 = .ok (.getfield 13, 3) := by decide +kernel
theorem d_Mo_order_69 : decode b_Mo_order 69 = .ok (.iload_n 3, 1) := by decide +kernel
theorem d_Mo_order_70 : decode b_Mo_order 70 = .ok (.iload_n 2, 1) := by decide +kernel
theorem d_Mo_order_71 : decode b_Mo_order 71 = .ok (.iastore, 1) := by decide +kernel
theorem d_Mo_order_72 : decode b_Mo_order 72 = .ok (.iload_n 3, 1) := by decide +kernel
theorem d_Mo_order_73 : decode b_Mo_order 73 = .ok (.aload_n 0, 1) := by decide +kernel
theorem d_Mo_order_74 : decode b_Mo_order 74 = .ok (.getfield 57, 3) := by decide +kernel
theorem d_Mo_order_77 : decode b_Mo_order 77 = .ok (.if_icmp .ne 13, 3) := by decide +kernel
theorem d_Mo_order_80 : decode b_Mo_order 80 = .ok (.aload_n 0, 1) := by decide +kernel
theorem d_Mo_order_81 : decode b_Mo_order 81 = .ok (.dup, 1) := by decide +kernel
theorem d_Mo_order_82 : decode b_Mo_order 82 = .ok (.getfield 57, 3) := by decide +kernel
theorem d_Mo_order_85 : decode b_Mo_order 85 = .ok (.iconst 1, 1) := by decide +kernel
theorem d_Mo_order_86 : decode b_Mo_order 86 = .ok (.iadd, 1) := by decide +kernel
theorem d_Mo_order_87 : decode b_Mo_order 87 = .ok (.putfield 57, 3) := by decide +kernel
theorem d_Mo_order_90 : decode b_Mo_order 90 = .ok (.return_, 1) := by decide +kernel
theorem d_Mo_out_0 : decode b_Mo_out 0 = .ok (.iload_n 1, 1) := by decide +kernel
theorem d_Mo_out_1 : decode b_Mo_out 1 = .ok (.ifCond .lt 9, 3) := by decide +kernel
theorem d_Mo_out_4 : decode b_Mo_out 4 = .ok (.iload_n 1, 1) := by decide +kernel
theorem d_Mo_out_5 : decode b_Mo_out 5 = .ok (.ldc 52, 2) := by decide +kernel
theorem d_Mo_out_7 : decode b_Mo_out 7 = .ok (.if_icmp .le 7, 3) := by decide +kernel
theorem d_Mo_out_10 : decode b_Mo_out 10 = .ok (.iconst 1, 1) := by decide +kernel
theorem d_Mo_out_11 : decode b_Mo_out 11 = .ok (.goto 4, 3) := by decide +kernel
theorem d_Mo_out_14 : decode b_Mo_out 14 = .ok (.iconst 0, 1) := by decide +kernel
theorem d_Mo_out_15 : decode b_Mo_out 15 = .ok (.ireturn, 1) := by decide +kernel
theorem d_Mo_line_0 : decode b_Mo_line 0 = .ok (.aload_n 0, 1) := by decide +kernel
theorem d_Mo_line_1 : decode b_Mo_line 1 = .ok (.iconst 0, 1) := by decide +kernel
theorem d_Mo_line_2 : decode b_Mo_line 2 = .ok (.putfield 49, 3) := by decide +kernel
theorem d_Mo_line_5 : decode b_Mo_line 5 = .ok (.iload_n 1, 1) := by decide +kernel
theorem d_Mo_line_6 : decode b_Mo_line 6 = .ok (.iconst 1, 1) := by decide +kernel
theorem d_Mo_line_7 : decode b_Mo_line 7 = .ok (.if_icmp .lt 33, 3) := by decide +kernel
theorem d_Mo_line_10 : decode b_Mo_line 10 = .ok (.iload_n 1, 1) := by decide +kernel
theorem d_Mo_line_11 : decode b_Mo_line 11 = .ok (.iconst 3, 1) := by decide +kernel
theorem d_Mo_line_12 : decode b_Mo_line 12 = .ok (.if_icmp .gt 28, 3) := by decide +kernel
theorem d_Mo_line_15 : decode b_Mo_line 15 = .ok (.aload_n 0, 1) := by decide +kernel
theorem d_Mo_line_16 : decode b_Mo_line 16 = .ok (.iload_n 2, 1) := by decide +kernel
theorem d_Mo_line_17 : decode b_Mo_line 17 = .ok (.invokevirtual 53, 3) := by decide +kernel
theorem d_Mo_line_20 : decode b_Mo_line 20 = .ok (.ifCond .ne 20, 3) := by decide +kernel
theorem d_Mo_line_23 : decode b_Mo_line 23 = .ok (.aload_n 0, 1) := by decide +kernel
theorem d_Mo_line_24 : decode b_Mo_line 24 = .ok (.iload_n 3, 1) := by decide +kernel
theorem d_Mo_line_25 : decode b_Mo_line 25 = .ok (.invokevirtual 53, 3) := by decide +kernel
theorem d_Mo_line_28 : decode b_Mo_line 28 = .ok (.ifCond .ne 12, 3) := by decide +kernel
theorem d_Mo_line_31 : decode b_Mo_line 31 = .ok (.aload_n 0, 1) := by decide +kernel
theorem d_Mo_line_32 : decode b_Mo_line 32 = .ok (.iload 4, 2) := by decide +kernel
theorem d_Mo_line_34 : decode b_Mo_line 34 = .ok (.invokevirtual 53, 3) := by decide +kernel
theorem d_Mo_line_37 : decode b_Mo_line 37 = .ok (.ifCond .eq 9, 3) := by decide +kernel
theorem d_Mo_line_40 : decode b_Mo_line 40 = .ok (.aload_n 0, 1) := by decide +kernel
theorem d_Mo_line_41 : decode b_Mo_line 41 = .ok (.iconst 1, 1) := by decide +kernel
theorem d_Mo_line_42 : decode b_Mo_line 42 = .ok (.invokevirtual 63, 3) := by decide +kernel
theorem d_Mo_line_45 : decode b_Mo_line 45 = .ok (.ireturn, 1) := by decide +kernel
theorem d_Mo_line_46 : decode b_Mo_line 46 = .ok (.aload_n 0, 1) := by decide +kernel
theorem d_Mo_line_47 : decode b_Mo_line 47 = .ok (.iload_n 1, 1) := by decide +kernel
theorem d_Mo_line_48 : decode b_Mo_line 48 = .ok (.iload_n 2, 1) := by decide +kernel
theorem d_Mo_line_49 : decode b_Mo_line 49 = .ok (.iload_n 3, 1) := by decide +kernel
theorem d_Mo_line_50 : decode b_Mo_line 50 = .ok (.iload 4, 2) := by decide +kernel
theorem d_Mo_line_52 : decode b_Mo_line 52 = .ok (.invokevirtual 67, 3) := by decide +kernel
theorem d_Mo_line_55 : decode b_Mo_line 55 = .ok (.istore 5, 2) := by decide +kernel
theorem d_Mo_line_57 : decode b_Mo_line 57 = .ok (.iload 5, 2) := by decide +kernel
theorem d_Mo_line_59 : decode b_Mo_line 59 = .ok (.ifCond .ge 19, 3) := by decide +kernel
theorem d_Mo_line_62 : decode b_Mo_line 62 = .ok (.aload_n 0, 1) := by decide +kernel
theorem d_Mo_line_63 : decode b_Mo_line 63 = .ok (.getfield 60, 3) := by decide +kernel
theorem d_Mo_line_66 : decode b_Mo_line 66 = .ok (.sipush 500, 3) := by decide +kernel
theorem d_Mo_line_69 : decode b_Mo_line 69 = .ok (.if_icmp .ne 9, 3) := by decide +kernel
theorem d_Mo_line_72 : decode b_Mo_line 72 = .ok (.aload_n 0, 1) := by decide +kernel
theorem d_Mo_line_73 : decode b_Mo_line 73 = .ok (.iconst 2, 1) := by decide +kernel
theorem d_Mo_line_74 : decode b_Mo_line 74 = .ok (.invokevirtual 63, 3) := by decide +kernel
theorem d_Mo_line_77 : decode b_Mo_line 77 = .ok (.ireturn, 1) := by decide +kernel
theorem d_Mo_line_78 : decode b_Mo_line 78 = .ok (.iload 5, 2) := by decide +kernel
theorem d_Mo_line_80 : decode b_Mo_line 80 = .ok (.ifCond .ge 19, 3) := by decide +kernel
theorem d_Mo_line_83 : decode b_Mo_line 83 = .ok (.aload_n 0, 1) := by decide +kernel
theorem d_Mo_line_84 : decode b_Mo_line 84 = .ok (.getfield 60, 3) := by decide +kernel
theorem d_Mo_line_87 : decode b_Mo_line 87 = .ok (.istore 5, 2) := by decide +kernel
theorem d_Mo_line_89 : decode b_Mo_line 89 = .ok (.aload_n 0, 1) := by decide +kernel
theorem d_Mo_line_90 : decode b_Mo_line 90 = .ok (.dup, 1) := by decide +kernel
theorem d_Mo_line_91 : decode b_Mo_line 91 = .ok (.getfield 60, 3) := by decide +kernel
theorem d_Mo_line_94 : decode b_Mo_line 94 = .ok (.iconst 1, 1) := by decide +kernel
theorem d_Mo_line_95 : decode b_Mo_line 95 = .ok (.iadd, 1) := by decide +kernel
theorem d_Mo_line_96 : decode b_Mo_line 96 = .ok (.putfield 60, 3) := by decide +kernel
theorem d_Mo_line_99 : decode b_Mo_line 99 = .ok (.aload_n 0, 1) := by decide +kernel
theorem d_Mo_line_100 : decode b_Mo_line 100 = .ok (.getfield 16, 3) := by decide +kernel
theorem d_Mo_line_103 : decode b_Mo_line 103 = .ok (.iload 5, 2) := by decide +kernel
theorem d_Mo_line_105 : decode b_Mo_line 105 = .ok (.iload_n 1, 1) := by decide +kernel
theorem d_Mo_line_106 : decode b_Mo_line 106 = .ok (.iastore, 1) := by decide +kernel
theorem d_Mo_line_107 : decode b_Mo_line 107 = .ok (.aload_n 0, 1) := by decide +kernel
theorem d_Mo_line_108 : decode b_Mo_line 108 = .ok (.getfield 19, 3) := by decide +kernel
theorem d_Mo_line_111 : decode b_Mo_line 111 = .ok (.iconst 3, 1) := by decide +kernel
theorem d_Mo_line_112 : decode b_Mo_line 112 = .ok (.iload 5, 2) := by decide +kernel
theorem d_Mo_line_114 : decode b_Mo_line 114 = .ok (.imul, 1) := by decide +kernel
theorem d_Mo_line_115 : decode b_Mo_line 115 = .ok (.iload_n 2, 1) := by decide +kernel
theorem d_Mo_line_116 : decode b_Mo_line 116 = .ok (.iastore, 1) := by decide +kernel
theorem d_Mo_line_117 : decode b_Mo_line 117 = .ok (.aload_n 0, 1) := by decide +kernel
theorem d_Mo_line_118 : decode b_Mo_line 118 = .ok (.getfield 19, 3) := by decide +kernel
theorem d_Mo_line_121 : decode b_Mo_line 121 = .ok (.iconst 3, 1) := by decide +kernel
theorem d_Mo_line_122 : decode b_Mo_line 122 = .ok (.iload 5, 2) := by decide +kernel
theorem d_Mo_line_124 : decode b_Mo_line 124 = .ok (.imul, 1) := by decide +kernel
theorem d_Mo_line_125 : decode b_Mo_line 125 = .ok (.iconst 1, 1) := by decide +kernel
theorem d_Mo_line_126 : decode b_Mo_line 126 = .ok (.iadd, 1) := by decide +kernel
theorem d_Mo_line_127 : decode b_Mo_line 127 = .ok (.iload_n 3, 1) := by decide +kernel
theorem d_Mo_line_128 : decode b_Mo_line 128 = .ok (.iastore, 1) := by decide +kernel
theorem d_Mo_line_129 : decode b_Mo_line 129 = .ok (.aload_n 0, 1) := by decide +kernel
theorem d_Mo_line_130 : decode b_Mo_line 130 = .ok (.getfield 19, 3) := by decide +kernel
theorem d_Mo_line_133 : decode b_Mo_line 133 = .ok (.iconst 3, 1) := by decide +kernel
theorem d_Mo_line_134 : decode b_Mo_line 134 = .ok (.iload 5, 2) := by decide +kernel
theorem d_Mo_line_136 : decode b_Mo_line 136 = .ok (.imul, 1) := by decide +kernel
theorem d_Mo_line_137 : decode b_Mo_line 137 = .ok (.iconst 2, 1) := by decide +kernel
theorem d_Mo_line_138 : decode b_Mo_line 138 = .ok (.iadd, 1) := by decide +kernel
theorem d_Mo_line_139 : decode b_Mo_line 139 = .ok (.iload 4, 2) := by decide +kernel
theorem d_Mo_line_141 : decode b_Mo_line 141 = .ok (.iastore, 1) := by decide +kernel
theorem d_Mo_line_142 : decode b_Mo_line 142 = .ok (.aload_n 0, 1) := by decide +kernel
theorem d_Mo_line_143 : decode b_Mo_line 143 = .ok (.getfield 22, 3) := by decide +kernel
theorem d_Mo_line_146 : decode b_Mo_line 146 = .ok (.iload 5, 2) := by decide +kernel
theorem d_Mo_line_148 : decode b_Mo_line 148 = .ok (.iconst 0, 1) := by decide +kernel
theorem d_Mo_line_149 : decode b_Mo_line 149 = .ok (.iastore, 1) := by decide +kernel
theorem d_Mo_line_150 : decode b_Mo_line 150 = .ok (.aload_n 0, 1) := by decide +kernel
theorem d_Mo_line_151 : decode b_Mo_line 151 = .ok (.iload 5, 2) := by decide +kernel
theorem d_Mo_line_153 : decode b_Mo_line 153 = .ok (.putfield 28, 3) := by decide +kernel
theorem d_Mo_line_156 : decode b_Mo_line 156 = .ok (.aload_n 0, 1) := by decide +kernel
theorem d_Mo_line_157 : decode b_Mo_line 157 = .ok (.getfield 60, 3) := by decide +kernel
theorem d_Mo_line_160 : decode b_Mo_line 160 = .ok (.ireturn, 1) := by decide +kernel
theorem d_Mo_fail_0 : decode b_Mo_fail 0 = .ok (.aload_n 0, 1) := by decide +kernel
theorem d_Mo_fail_1 : decode b_Mo_fail 1 = .ok (.iload_n 1, 1) := by decide +kernel
theorem d_Mo_fail_2 : decode b_Mo_fail 2 = .ok (.putfield 49, 3) := by decide +kernel
theorem d_Mo_fail_5 : decode b_Mo_fail 5 = .ok (.iconst 0, 1) := by decide +kernel
theorem d_Mo_fail_6 : decode b_Mo_fail 6 = .ok (.ireturn, 1) := by decide +kernel
theorem d_Mo_lineOf_0 : decode b_Mo_lineOf 0 = .ok (.iconst 0, 1) := by decide +kernel
theorem d_Mo_lineOf_1 : decode b_Mo_lineOf 1 = .ok (.istore 5, 2) := by decide +kernel
theorem d_Mo_lineOf_3 : decode b_Mo_lineOf 3 = .ok (.iload 5, 2) := by decide +kernel
theorem d_Mo_lineOf_5 : decode b_Mo_lineOf 5 = .ok (.aload_n 0, 1) := by decide +kernel
theorem d_Mo_lineOf_6 : decode b_Mo_lineOf 6 = .ok (.getfield 60, 3) := by decide +kernel
theorem d_Mo_lineOf_9 : decode b_Mo_lineOf 9 = .ok (.if_icmp .ge 77, 3) := by decide +kernel
theorem d_Mo_lineOf_12 : decode b_Mo_lineOf 12 = .ok (.aload_n 0, 1) := by decide +kernel
theorem d_Mo_lineOf_13 : decode b_Mo_lineOf 13 = .ok (.getfield 16, 3) := by decide +kernel
theorem d_Mo_lineOf_16 : decode b_Mo_lineOf 16 = .ok (.iload 5, 2) := by decide +kernel
theorem d_Mo_lineOf_18 : decode b_Mo_lineOf 18 = .ok (.iaload, 1) := by decide +kernel
theorem d_Mo_lineOf_19 : decode b_Mo_lineOf 19 = .ok (.iload_n 1, 1) := by decide +kernel
theorem d_Mo_lineOf_20 : decode b_Mo_lineOf 20 = .ok (.if_icmp .ne 60, 3) := by decide +kernel
theorem d_Mo_lineOf_23 : decode b_Mo_lineOf 23 = .ok (.aload_n 0, 1) := by decide +kernel
theorem d_Mo_lineOf_24 : decode b_Mo_lineOf 24 = .ok (.getfield 19, 3) := by decide +kernel
theorem d_Mo_lineOf_27 : decode b_Mo_lineOf 27 = .ok (.iconst 3, 1) := by decide +kernel
theorem d_Mo_lineOf_28 : decode b_Mo_lineOf 28 = .ok (.iload 5, 2) := by decide +kernel
theorem d_Mo_lineOf_30 : decode b_Mo_lineOf 30 = .ok (.imul, 1) := by decide +kernel
theorem d_Mo_lineOf_31 : decode b_Mo_lineOf 31 = .ok (.iaload, 1) := by decide +kernel
theorem d_Mo_lineOf_32 : decode b_Mo_lineOf 32 = .ok (.iload_n 2, 1) := by decide +kernel
theorem d_Mo_lineOf_33 : decode b_Mo_lineOf 33 = .ok (.if_icmp .ne 47, 3) := by decide +kernel
theorem d_Mo_lineOf_36 : decode b_Mo_lineOf 36 = .ok (.iload_n 1, 1) := by decide +kernel
theorem d_Mo_lineOf_37 : decode b_Mo_lineOf 37 = .ok (.iconst 2, 1) := by decide +kernel
theorem d_Mo_lineOf_38 : decode b_Mo_lineOf 38 = .ok (.if_icmp .lt 18, 3) := by decide +kernel
theorem d_Mo_lineOf_41 : decode b_Mo_lineOf 41 = .ok (.aload_n 0, 1) := by decide +kernel
theorem d_Mo_lineOf_42 : decode b_Mo_lineOf 42 = .ok (.getfield 19, 3) := by decide +kernel
theorem d_Mo_lineOf_45 : decode b_Mo_lineOf 45 = .ok (.iconst 3, 1) := by decide +kernel
theorem d_Mo_lineOf_46 : decode b_Mo_lineOf 46 = .ok (.iload 5, 2) := by decide +kernel
theorem d_Mo_lineOf_48 : decode b_Mo_lineOf 48 = .ok (.imul, 1) := by decide +kernel
theorem d_Mo_lineOf_49 : decode b_Mo_lineOf 49 = .ok (.iconst 1, 1) := by decide +kernel
theorem d_Mo_lineOf_50 : decode b_Mo_lineOf 50 = .ok (.iadd, 1) := by decide +kernel
theorem d_Mo_lineOf_51 : decode b_Mo_lineOf 51 = .ok (.iaload, 1) := by decide +kernel
theorem d_Mo_lineOf_52 : decode b_Mo_lineOf 52 = .ok (.iload_n 3, 1) := by decide +kernel
theorem d_Mo_lineOf_53 : decode b_Mo_lineOf 53 = .ok (.if_icmp .ne 27, 3) := by decide +kernel
theorem d_Mo_lineOf_56 : decode b_Mo_lineOf 56 = .ok (.iload_n 1, 1) := by decide +kernel
theorem d_Mo_lineOf_57 : decode b_Mo_lineOf 57 = .ok (.iconst 3, 1) := by decide +kernel
theorem d_Mo_lineOf_58 : decode b_Mo_lineOf 58 = .ok (.if_icmp .lt 19, 3) := by decide +kernel
theorem d_Mo_lineOf_61 : decode b_Mo_lineOf 61 = .ok (.aload_n 0, 1) := by decide +kernel
theorem d_Mo_lineOf_62 : decode b_Mo_lineOf 62 = .ok (.getfield 19, 3) := by decide +kernel
theorem d_Mo_lineOf_65 : decode b_Mo_lineOf 65 = .ok (.iconst 3, 1) := by decide +kernel
theorem d_Mo_lineOf_66 : decode b_Mo_lineOf 66 = .ok (.iload 5, 2) := by decide +kernel
theorem d_Mo_lineOf_68 : decode b_Mo_lineOf 68 = .ok (.imul, 1) := by decide +kernel
theorem d_Mo_lineOf_69 : decode b_Mo_lineOf 69 = .ok (.iconst 2, 1) := by decide +kernel
theorem d_Mo_lineOf_70 : decode b_Mo_lineOf 70 = .ok (.iadd, 1) := by decide +kernel
theorem d_Mo_lineOf_71 : decode b_Mo_lineOf 71 = .ok (.iaload, 1) := by decide +kernel
theorem d_Mo_lineOf_72 : decode b_Mo_lineOf 72 = .ok (.iload 4, 2) := by decide +kernel
theorem d_Mo_lineOf_74 : decode b_Mo_lineOf 74 = .ok (.if_icmp .ne 6, 3) := by decide +kernel
theorem d_Mo_lineOf_77 : decode b_Mo_lineOf 77 = .ok (.iload 5, 2) := by decide +kernel
theorem d_Mo_lineOf_79 : decode b_Mo_lineOf 79 = .ok (.ireturn, 1) := by decide +kernel
theorem d_Mo_lineOf_80 : decode b_Mo_lineOf 80 = .ok (.iinc 5 1, 3) := by decide +kernel
theorem d_Mo_lineOf_83 : decode b_Mo_lineOf 83 = .ok (.goto (-80), 3) := by decide +kernel
theorem d_Mo_lineOf_86 : decode b_Mo_lineOf 86 = .ok (.iconst (-1), 1) := by decide +kernel
theorem d_Mo_lineOf_87 : decode b_Mo_lineOf 87 = .ok (.ireturn, 1) := by decide +kernel
theorem d_Mo_element_0 : decode b_Mo_element 0 = .ok (.aload_n 0, 1) := by decide +kernel
theorem d_Mo_element_1 : decode b_Mo_element 1 = .ok (.iconst 0, 1) := by decide +kernel
theorem d_Mo_element_2 : decode b_Mo_element 2 = .ok (.putfield 49, 3) := by decide +kernel
theorem d_Mo_element_5 : decode b_Mo_element 5 = .ok (.aload_n 0, 1) := by decide +kernel
theorem d_Mo_element_6 : decode b_Mo_element 6 = .ok (.getfield 28, 3) := by decide +kernel
theorem d_Mo_element_9 : decode b_Mo_element 9 = .ok (.ifCond .lt 33, 3) := by decide +kernel
theorem d_Mo_element_12 : decode b_Mo_element 12 = .ok (.iload_n 1, 1) := by decide +kernel
theorem d_Mo_element_13 : decode b_Mo_element 13 = .ok (.ifCond .lt 29, 3) := by decide +kernel
theorem d_Mo_element_16 : decode b_Mo_element 16 = .ok (.iload_n 1, 1) := by decide +kernel
theorem d_Mo_element_17 : decode b_Mo_element 17 = .ok (.ldc 71, 2) := by decide +kernel
theorem d_Mo_element_19 : decode b_Mo_element 19 = .ok (.if_icmp .gt 23, 3) := by decide +kernel
theorem d_Mo_element_22 : decode b_Mo_element 22 = .ok (.iload_n 2, 1) := by decide +kernel
theorem d_Mo_element_23 : decode b_Mo_element 23 = .ok (.ifCond .lt 19, 3) := by decide +kernel
theorem d_Mo_element_26 : decode b_Mo_element 26 = .ok (.iload_n 2, 1) := by decide +kernel
theorem d_Mo_element_27 : decode b_Mo_element 27 = .ok (.ldc 71, 2) := by decide +kernel
theorem d_Mo_element_29 : decode b_Mo_element 29 = .ok (.if_icmp .gt 13, 3) := by decide +kernel
theorem d_Mo_element_32 : decode b_Mo_element 32 = .ok (.iload_n 3, 1) := by decide +kernel
theorem d_Mo_element_33 : decode b_Mo_element 33 = .ok (.ifCond .lt 9, 3) := by decide +kernel
theorem d_Mo_element_36 : decode b_Mo_element 36 = .ok (.iload_n 3, 1) := by decide +kernel
theorem d_Mo_element_37 : decode b_Mo_element 37 = .ok (.ldc 71, 2) := by decide +kernel
theorem d_Mo_element_39 : decode b_Mo_element 39 = .ok (.if_icmp .le 9, 3) := by decide +kernel
theorem d_Mo_element_42 : decode b_Mo_element 42 = .ok (.aload_n 0, 1) := by decide +kernel
theorem d_Mo_element_43 : decode b_Mo_element 43 = .ok (.iconst 1, 1) := by decide +kernel
theorem d_Mo_element_44 : decode b_Mo_element 44 = .ok (.invokevirtual 63, 3) := by decide +kernel
theorem d_Mo_element_47 : decode b_Mo_element 47 = .ok (.ireturn, 1) := by decide +kernel
theorem d_Mo_element_48 : decode b_Mo_element 48 = .ok (.aload_n 0, 1) := by decide +kernel
theorem d_Mo_element_49 : decode b_Mo_element 49 = .ok (.getfield 22, 3) := by decide +kernel
theorem d_Mo_element_52 : decode b_Mo_element 52 = .ok (.aload_n 0, 1) := by decide +kernel
theorem d_Mo_element_53 : decode b_Mo_element 53 = .ok (.getfield 28, 3) := by decide +kernel
theorem d_Mo_element_56 : decode b_Mo_element 56 = .ok (.iaload, 1) := by decide +kernel
theorem d_Mo_element_57 : decode b_Mo_element 57 = .ok (.bipush 8, 2) := by decide +kernel
theorem d_Mo_element_59 : decode b_Mo_element 59 = .ok (.if_icmp .ne 9, 3) := by decide +kernel
theorem d_Mo_element_62 : decode b_Mo_element 62 = .ok (.aload_n 0, 1) := by decide +kernel
theorem d_Mo_element_63 : decode b_Mo_element 63 = .ok (.iconst 2, 1) := by decide +kernel
theorem d_Mo_element_64 : decode b_Mo_element 64 = .ok (.invokevirtual 63, 3) := by decide +kernel
theorem d_Mo_element_67 : decode b_Mo_element 67 = .ok (.ireturn, 1) := by decide +kernel
theorem d_Mo_element_68 : decode b_Mo_element 68 = .ok (.iconst 4, 1) := by decide +kernel
theorem d_Mo_element_69 : decode b_Mo_element 69 = .ok (.bipush 8, 2) := by decide +kernel
theorem d_Mo_element_71 : decode b_Mo_element 71 = .ok (.aload_n 0, 1) := by decide +kernel
theorem d_Mo_element_72 : decode b_Mo_element 72 = .ok (.getfield 28, 3) := by decide +kernel
theorem d_Mo_element_75 : decode b_Mo_element 75 = .ok (.imul, 1) := by decide +kernel
theorem d_Mo_element_76 : decode b_Mo_element 76 = .ok (.aload_n 0, 1) := by decide +kernel
theorem d_Mo_element_77 : decode b_Mo_element 77 = .ok (.getfield 22, 3) := by decide +kernel
theorem d_Mo_element_80 : decode b_Mo_element 80 = .ok (.aload_n 0, 1) := by decide +kernel
theorem d_Mo_element_81 : decode b_Mo_element 81 = .ok (.getfield 28, 3) := by decide +kernel
theorem d_Mo_element_84 : decode b_Mo_element 84 = .ok (.iaload, 1) := by decide +kernel
theorem d_Mo_element_85 : decode b_Mo_element 85 = .ok (.iadd, 1) := by decide +kernel
theorem d_Mo_element_86 : decode b_Mo_element 86 = .ok (.imul, 1) := by decide +kernel
theorem d_Mo_element_87 : decode b_Mo_element 87 = .ok (.istore 5, 2) := by decide +kernel
theorem d_Mo_element_89 : decode b_Mo_element 89 = .ok (.aload_n 0, 1) := by decide +kernel
theorem d_Mo_element_90 : decode b_Mo_element 90 = .ok (.getfield 25, 3) := by decide +kernel
theorem d_Mo_element_93 : decode b_Mo_element 93 = .ok (.iload 5, 2) := by decide +kernel
theorem d_Mo_element_95 : decode b_Mo_element 95 = .ok (.iload_n 1, 1) := by decide +kernel
theorem d_Mo_element_96 : decode b_Mo_element 96 = .ok (.iastore, 1) := by decide +kernel
theorem d_Mo_element_97 : decode b_Mo_element 97 = .ok (.aload_n 0, 1) := by decide +kernel
theorem d_Mo_element_98 : decode b_Mo_element 98 = .ok (.getfield 25, 3) := by decide +kernel
theorem d_Mo_element_101 : decode b_Mo_element 101 = .ok (.iload 5, 2) := by decide +kernel
theorem d_Mo_element_103 : decode b_Mo_element 103 = .ok (.iconst 1, 1) := by decide +kernel
theorem d_Mo_element_104 : decode b_Mo_element 104 = .ok (.iadd, 1) := by decide +kernel
theorem d_Mo_element_105 : decode b_Mo_element 105 = .ok (.iload_n 2, 1) := by decide +kernel
theorem d_Mo_element_106 : decode b_Mo_element 106 = .ok (.iastore, 1) := by decide +kernel
theorem d_Mo_element_107 : decode b_Mo_element 107 = .ok (.aload_n 0, 1) := by decide +kernel
theorem d_Mo_element_108 : decode b_Mo_element 108 = .ok (.getfield 25, 3) := by decide +kernel
theorem d_Mo_element_111 : decode b_Mo_element 111 = .ok (.iload 5, 2) := by decide +kernel
theorem d_Mo_element_113 : decode b_Mo_element 113 = .ok (.iconst 2, 1) := by decide +kernel
theorem d_Mo_element_114 : decode b_Mo_element 114 = .ok (.iadd, 1) := by decide +kernel
theorem d_Mo_element_115 : decode b_Mo_element 115 = .ok (.iload_n 3, 1) := by decide +kernel
theorem d_Mo_element_116 : decode b_Mo_element 116 = .ok (.iastore, 1) := by decide +kernel
theorem d_Mo_element_117 : decode b_Mo_element 117 = .ok (.aload_n 0, 1) := by decide +kernel
theorem d_Mo_element_118 : decode b_Mo_element 118 = .ok (.getfield 25, 3) := by decide +kernel
theorem d_Mo_element_121 : decode b_Mo_element 121 = .ok (.iload 5, 2) := by decide +kernel
theorem d_Mo_element_123 : decode b_Mo_element 123 = .ok (.iconst 3, 1) := by decide +kernel
theorem d_Mo_element_124 : decode b_Mo_element 124 = .ok (.iadd, 1) := by decide +kernel
theorem d_Mo_element_125 : decode b_Mo_element 125 = .ok (.iload 4, 2) := by decide +kernel
theorem d_Mo_element_127 : decode b_Mo_element 127 = .ok (.ifCond .eq 7, 3) := by decide +kernel
theorem d_Mo_element_130 : decode b_Mo_element 130 = .ok (.iconst 1, 1) := by decide +kernel
theorem d_Mo_element_131 : decode b_Mo_element 131 = .ok (.goto 4, 3) := by decide +kernel
theorem d_Mo_element_134 : decode b_Mo_element 134 = .ok (.iconst 0, 1) := by decide +kernel
theorem d_Mo_element_135 : decode b_Mo_element 135 = .ok (.iastore, 1) := by decide +kernel
theorem d_Mo_element_136 : decode b_Mo_element 136 = .ok (.aload_n 0, 1) := by decide +kernel
theorem d_Mo_element_137 : decode b_Mo_element 137 = .ok (.getfield 22, 3) := by decide +kernel
theorem d_Mo_element_140 : decode b_Mo_element 140 = .ok (.aload_n 0, 1) := by decide +kernel
theorem d_Mo_element_141 : decode b_Mo_element 141 = .ok (.getfield 28, 3) := by decide +kernel
theorem d_Mo_element_144 : decode b_Mo_element 144 = .ok (.dup2, 1) := by decide +kernel
theorem d_Mo_element_145 : decode b_Mo_element 145 = .ok (.iaload, 1) := by decide +kernel
theorem d_Mo_element_146 : decode b_Mo_element 146 = .ok (.iconst 1, 1) := by decide +kernel
theorem d_Mo_element_147 : decode b_Mo_element 147 = .ok (.iadd, 1) := by decide +kernel
theorem d_Mo_element_148 : decode b_Mo_element 148 = .ok (.iastore, 1) := by decide +kernel
theorem d_Mo_element_149 : decode b_Mo_element 149 = .ok (.aload_n 0, 1) := by decide +kernel
theorem d_Mo_element_150 : decode b_Mo_element 150 = .ok (.getfield 22, 3) := by decide +kernel
theorem d_Mo_element_153 : decode b_Mo_element 153 = .ok (.aload_n 0, 1) := by decide +kernel
theorem d_Mo_element_154 : decode b_Mo_element 154 = .ok (.getfield 28, 3) := by decide +kernel
theorem d_Mo_element_157 : decode b_Mo_element 157 = .ok (.iaload, 1) := by decide +kernel
theorem d_Mo_element_158 : decode b_Mo_element 158 = .ok (.ireturn, 1) := by decide +kernel
theorem d_Mo_add_0 : decode b_Mo_add 0 = .ok (.aload_n 0, 1) := by decide +kernel
theorem d_Mo_add_1 : decode b_Mo_add 1 = .ok (.iconst 0, 1) := by decide +kernel
theorem d_Mo_add_2 : decode b_Mo_add 2 = .ok (.putfield 49, 3) := by decide +kernel
theorem d_Mo_add_5 : decode b_Mo_add 5 = .ok (.iload_n 1, 1) := by decide +kernel
theorem d_Mo_add_6 : decode b_Mo_add 6 = .ok (.ifCond .lt 16, 3) := by decide +kernel
theorem d_Mo_add_9 : decode b_Mo_add 9 = .ok (.iload_n 1, 1) := by decide +kernel
theorem d_Mo_add_10 : decode b_Mo_add 10 = .ok (.iconst 3, 1) := by decide +kernel
theorem d_Mo_add_11 : decode b_Mo_add 11 = .ok (.if_icmp .gt 11, 3) := by decide +kernel
theorem d_Mo_add_14 : decode b_Mo_add 14 = .ok (.aload_n 0, 1) := by decide +kernel
theorem d_Mo_add_15 : decode b_Mo_add 15 = .ok (.iload_n 2, 1) := by decide +kernel
theorem d_Mo_add_16 : decode b_Mo_add 16 = .ok (.invokevirtual 53, 3) := by decide +kernel
theorem d_Mo_add_19 : decode b_Mo_add 19 = .ok (.ifCond .eq 9, 3) := by decide +kernel
theorem d_Mo_add_22 : decode b_Mo_add 22 = .ok (.aload_n 0, 1) := by decide +kernel
theorem d_Mo_add_23 : decode b_Mo_add 23 = .ok (.iconst 1, 1) := by decide +kernel
theorem d_Mo_add_24 : decode b_Mo_add 24 = .ok (.invokevirtual 63, 3) := by decide +kernel
theorem d_Mo_add_27 : decode b_Mo_add 27 = .ok (.ireturn, 1) := by decide +kernel
theorem d_Mo_add_28 : decode b_Mo_add 28 = .ok (.aload_n 0, 1) := by decide +kernel
theorem d_Mo_add_29 : decode b_Mo_add 29 = .ok (.getfield 37, 3) := by decide +kernel
theorem d_Mo_add_32 : decode b_Mo_add 32 = .ok (.iload_n 1, 1) := by decide +kernel
theorem d_Mo_add_33 : decode b_Mo_add 33 = .ok (.iaload, 1) := by decide +kernel
theorem d_Mo_add_34 : decode b_Mo_add 34 = .ok (.sipush 200, 3) := by decide +kernel
theorem d_Mo_add_37 : decode b_Mo_add 37 = .ok (.if_icmp .ne 9, 3) := by decide +kernel
theorem d_Mo_add_40 : decode b_Mo_add 40 = .ok (.aload_n 0, 1) := by decide +kernel
theorem d_Mo_add_41 : decode b_Mo_add 41 = .ok (.iconst 2, 1) := by decide +kernel
theorem d_Mo_add_42 : decode b_Mo_add 42 = .ok (.invokevirtual 63, 3) := by decide +kernel
theorem d_Mo_add_45 : decode b_Mo_add 45 = .ok (.ireturn, 1) := by decide +kernel
theorem d_Mo_add_46 : decode b_Mo_add 46 = .ok (.aload_n 0, 1) := by decide +kernel
theorem d_Mo_add_47 : decode b_Mo_add 47 = .ok (.getfield 34, 3) := by decide +kernel
theorem d_Mo_add_50 : decode b_Mo_add 50 = .ok (.iload_n 1, 1) := by decide +kernel
theorem d_Mo_add_51 : decode b_Mo_add 51 = .ok (.aaload, 1) := by decide +kernel
theorem d_Mo_add_52 : decode b_Mo_add 52 = .ok (.aload_n 0, 1) := by decide +kernel
theorem d_Mo_add_53 : decode b_Mo_add 53 = .ok (.getfield 37, 3) := by decide +kernel
theorem d_Mo_add_56 : decode b_Mo_add 56 = .ok (.iload_n 1, 1) := by decide +kernel
theorem d_Mo_add_57 : decode b_Mo_add 57 = .ok (.iaload, 1) := by decide +kernel
theorem d_Mo_add_58 : decode b_Mo_add 58 = .ok (.iload_n 2, 1) := by decide +kernel
theorem d_Mo_add_59 : decode b_Mo_add 59 = .ok (.iastore, 1) := by decide +kernel
theorem d_Mo_add_60 : decode b_Mo_add 60 = .ok (.aload_n 0, 1) := by decide +kernel
theorem d_Mo_add_61 : decode b_Mo_add 61 = .ok (.getfield 37, 3) := by decide +kernel
theorem d_Mo_add_64 : decode b_Mo_add 64 = .ok (.iload_n 1, 1) := by decide +kernel
theorem d_Mo_add_65 : decode b_Mo_add 65 = .ok (.dup2, 1) := by decide +kernel
theorem d_Mo_add_66 : decode b_Mo_add 66 = .ok (.iaload, 1) := by decide +kernel
theorem d_Mo_add_67 : decode b_Mo_add 67 = .ok (.iconst 1, 1) := by decide +kernel
theorem d_Mo_add_68 : decode b_Mo_add 68 = .ok (.iadd, 1) := by decide +kernel
theorem d_Mo_add_69 : decode b_Mo_add 69 = .ok (.iastore, 1) := by decide +kernel
theorem d_Mo_add_70 : decode b_Mo_add 70 = .ok (.aload_n 0, 1) := by decide +kernel
theorem d_Mo_add_71 : decode b_Mo_add 71 = .ok (.getfield 37, 3) := by decide +kernel
theorem d_Mo_add_74 : decode b_Mo_add 74 = .ok (.iload_n 1, 1) := by decide +kernel
theorem d_Mo_add_75 : decode b_Mo_add 75 = .ok (.iaload, 1) := by decide +kernel
theorem d_Mo_add_76 : decode b_Mo_add 76 = .ok (.ireturn, 1) := by decide +kernel
theorem d_Mo_clear_0 : decode b_Mo_clear 0 = .ok (.aload_n 0, 1) := by decide +kernel
theorem d_Mo_clear_1 : decode b_Mo_clear 1 = .ok (.iconst 0, 1) := by decide +kernel
theorem d_Mo_clear_2 : decode b_Mo_clear 2 = .ok (.putfield 49, 3) := by decide +kernel
theorem d_Mo_clear_5 : decode b_Mo_clear 5 = .ok (.iload_n 1, 1) := by decide +kernel
theorem d_Mo_clear_6 : decode b_Mo_clear 6 = .ok (.ifCond .lt 8, 3) := by decide +kernel
theorem d_Mo_clear_9 : decode b_Mo_clear 9 = .ok (.iload_n 1, 1) := by decide +kernel
theorem d_Mo_clear_10 : decode b_Mo_clear 10 = .ok (.iconst 3, 1) := by decide +kernel
theorem d_Mo_clear_11 : decode b_Mo_clear 11 = .ok (.if_icmp .le 9, 3) := by decide +kernel
theorem d_Mo_clear_14 : decode b_Mo_clear 14 = .ok (.aload_n 0, 1) := by decide +kernel
theorem d_Mo_clear_15 : decode b_Mo_clear 15 = .ok (.iconst 1, 1) := by decide +kernel
theorem d_Mo_clear_16 : decode b_Mo_clear 16 = .ok (.invokevirtual 63, 3) := by decide +kernel
theorem d_Mo_clear_19 : decode b_Mo_clear 19 = .ok (.ireturn, 1) := by decide +kernel
theorem d_Mo_clear_20 : decode b_Mo_clear 20 = .ok (.aload_n 0, 1) := by decide +kernel
theorem d_Mo_clear_21 : decode b_Mo_clear 21 = .ok (.getfield 37, 3) := by decide +kernel
theorem d_Mo_clear_24 : decode b_Mo_clear 24 = .ok (.iload_n 1, 1) := by decide +kernel
theorem d_Mo_clear_25 : decode b_Mo_clear 25 = .ok (.iaload, 1) := by decide +kernel
theorem d_Mo_clear_26 : decode b_Mo_clear 26 = .ok (.istore_n 2, 1) := by decide +kernel
theorem d_Mo_clear_27 : decode b_Mo_clear 27 = .ok (.aload_n 0, 1) := by decide +kernel
theorem d_Mo_clear_28 : decode b_Mo_clear 28 = .ok (.getfield 37, 3) := by decide +kernel
theorem d_Mo_clear_31 : decode b_Mo_clear 31 = .ok (.iload_n 1, 1) := by decide +kernel
theorem d_Mo_clear_32 : decode b_Mo_clear 32 = .ok (.iconst 0, 1) := by decide +kernel
theorem d_Mo_clear_33 : decode b_Mo_clear 33 = .ok (.iastore, 1) := by decide +kernel
theorem d_Mo_clear_34 : decode b_Mo_clear 34 = .ok (.iload_n 2, 1) := by decide +kernel
theorem d_Mo_clear_35 : decode b_Mo_clear 35 = .ok (.ireturn, 1) := by decide +kernel
theorem d_Mo_count_0 : decode b_Mo_count 0 = .ok (.aload_n 0, 1) := by decide +kernel
theorem d_Mo_count_1 : decode b_Mo_count 1 = .ok (.iconst 0, 1) := by decide +kernel
theorem d_Mo_count_2 : decode b_Mo_count 2 = .ok (.putfield 49, 3) := by decide +kernel
theorem d_Mo_count_5 : decode b_Mo_count 5 = .ok (.iload_n 1, 1) := by decide +kernel
theorem d_Mo_count_6 : decode b_Mo_count 6 = .ok (.ifCond .lt 8, 3) := by decide +kernel
theorem d_Mo_count_9 : decode b_Mo_count 9 = .ok (.iload_n 1, 1) := by decide +kernel
theorem d_Mo_count_10 : decode b_Mo_count 10 = .ok (.iconst 3, 1) := by decide +kernel
theorem d_Mo_count_11 : decode b_Mo_count 11 = .ok (.if_icmp .le 9, 3) := by decide +kernel
theorem d_Mo_count_14 : decode b_Mo_count 14 = .ok (.aload_n 0, 1) := by decide +kernel
theorem d_Mo_count_15 : decode b_Mo_count 15 = .ok (.iconst 1, 1) := by decide +kernel
theorem d_Mo_count_16 : decode b_Mo_count 16 = .ok (.invokevirtual 63, 3) := by decide +kernel
theorem d_Mo_count_19 : decode b_Mo_count 19 = .ok (.ireturn, 1) := by decide +kernel
theorem d_Mo_count_20 : decode b_Mo_count 20 = .ok (.aload_n 0, 1) := by decide +kernel
theorem d_Mo_count_21 : decode b_Mo_count 21 = .ok (.iload_n 1, 1) := by decide +kernel
theorem d_Mo_count_22 : decode b_Mo_count 22 = .ok (.iload_n 2, 1) := by decide +kernel
theorem d_Mo_count_23 : decode b_Mo_count 23 = .ok (.invokevirtual 97, 3) := by decide +kernel
theorem d_Mo_count_26 : decode b_Mo_count 26 = .ok (.aload_n 0, 1) := by decide +kernel
theorem d_Mo_count_27 : decode b_Mo_count 27 = .ok (.getfield 75, 3) := by decide +kernel
theorem d_Mo_count_30 : decode b_Mo_count 30 = .ok (.ireturn, 1) := by decide +kernel
theorem d_Mo_take_0 : decode b_Mo_take 0 = .ok (.aload_n 0, 1) := by decide +kernel
theorem d_Mo_take_1 : decode b_Mo_take 1 = .ok (.aload_n 0, 1) := by decide +kernel
theorem d_Mo_take_2 : decode b_Mo_take 2 = .ok (.getfield 37, 3) := by decide +kernel
theorem d_Mo_take_5 : decode b_Mo_take 5 = .ok (.iload_n 1, 1) := by decide +kernel
theorem d_Mo_take_6 : decode b_Mo_take 6 = .ok (.iaload, 1) := by decide +kernel
theorem d_Mo_take_7 : decode b_Mo_take 7 = .ok (.putfield 72, 3) := by decide +kernel
theorem d_Mo_take_10 : decode b_Mo_take 10 = .ok (.iconst 0, 1) := by decide +kernel
theorem d_Mo_take_11 : decode b_Mo_take 11 = .ok (.istore_n 3, 1) := by decide +kernel
theorem d_Mo_take_12 : decode b_Mo_take 12 = .ok (.iload_n 3, 1) := by decide +kernel
theorem d_Mo_take_13 : decode b_Mo_take 13 = .ok (.aload_n 0, 1) := by decide +kernel
theorem d_Mo_take_14 : decode b_Mo_take 14 = .ok (.getfield 72, 3) := by decide +kernel
theorem d_Mo_take_17 : decode b_Mo_take 17 = .ok (.if_icmp .ge 23, 3) := by decide +kernel
theorem d_Mo_take_20 : decode b_Mo_take 20 = .ok (.aload_n 0, 1) := by decide +kernel
theorem d_Mo_take_21 : decode b_Mo_take 21 = .ok (.getfield 40, 3) := by decide +kernel
theorem d_Mo_take_24 : decode b_Mo_take 24 = .ok (.iload_n 3, 1) := by decide +kernel
theorem d_Mo_take_25 : decode b_Mo_take 25 = .ok (.aload_n 0, 1) := by decide +kernel
theorem d_Mo_take_26 : decode b_Mo_take 26 = .ok (.getfield 34, 3) := by decide +kernel
theorem d_Mo_take_29 : decode b_Mo_take 29 = .ok (.iload_n 1, 1) := by decide +kernel
theorem d_Mo_take_30 : decode b_Mo_take 30 = .ok (.aaload, 1) := by decide +kernel
theorem d_Mo_take_31 : decode b_Mo_take 31 = .ok (.iload_n 3, 1) := by decide +kernel
theorem d_Mo_take_32 : decode b_Mo_take 32 = .ok (.iaload, 1) := by decide +kernel
theorem d_Mo_take_33 : decode b_Mo_take 33 = .ok (.iastore, 1) := by decide +kernel
theorem d_Mo_take_34 : decode b_Mo_take 34 = .ok (.iinc 3 1, 3) := by decide +kernel
theorem d_Mo_take_37 : decode b_Mo_take 37 = .ok (.goto (-25), 3) := by decide +kernel
theorem d_Mo_take_40 : decode b_Mo_take 40 = .ok (.aload_n 0, 1) := by decide +kernel
theorem d_Mo_take_41 : decode b_Mo_take 41 = .ok (.iconst 0, 1) := by decide +kernel
theorem d_Mo_take_42 : decode b_Mo_take 42 = .ok (.putfield 75, 3) := by decide +kernel
theorem d_Mo_take_45 : decode b_Mo_take 45 = .ok (.aload_n 0, 1) := by decide +kernel
theorem d_Mo_take_46 : decode b_Mo_take 46 = .ok (.getfield 72, 3) := by decide +kernel
theorem d_Mo_take_49 : decode b_Mo_take 49 = .ok (.ifCond .le 395, 3) := by decide +kernel
theorem d_Mo_take_52 : decode b_Mo_take 52 = .ok (.iconst 0, 1) := by decide +kernel
theorem d_Mo_take_53 : decode b_Mo_take 53 = .ok (.istore_n 3, 1) := by decide +kernel
theorem d_Mo_take_54 : decode b_Mo_take 54 = .ok (.iconst (-1), 1) := by decide +kernel
theorem d_Mo_take_55 : decode b_Mo_take 55 = .ok (.istore 4, 2) := by decide +kernel
theorem d_Mo_take_57 : decode b_Mo_take 57 = .ok (.iconst 1, 1) := by decide +kernel
theorem d_Mo_take_58 : decode b_Mo_take 58 = .ok (.istore 5, 2) := by decide +kernel
theorem d_Mo_take_60 : decode b_Mo_take 60 = .ok (.iload 5, 2) := by decide +kernel
theorem d_Mo_take_62 : decode b_Mo_take 62 = .ok (.iconst 3, 1) := by decide +kernel
theorem d_Mo_take_63 : decode b_Mo_take 63 = .ok (.if_icmp .gt 79, 3) := by decide +kernel
theorem d_Mo_take_66 : decode b_Mo_take 66 = .ok (.iload 5, 2) := by decide +kernel
theorem d_Mo_take_68 : decode b_Mo_take 68 = .ok (.aload_n 0, 1) := by decide +kernel
theorem d_Mo_take_69 : decode b_Mo_take 69 = .ok (.getfield 72, 3) := by decide +kernel
theorem d_Mo_take_72 : decode b_Mo_take 72 = .ok (.if_icmp .gt 70, 3) := by decide +kernel
theorem d_Mo_take_75 : decode b_Mo_take 75 = .ok (.aload_n 0, 1) := by decide +kernel
theorem d_Mo_take_76 : decode b_Mo_take 76 = .ok (.iload 5, 2) := by decide +kernel
theorem d_Mo_take_78 : decode b_Mo_take 78 = .ok (.aload_n 0, 1) := by decide +kernel
theorem d_Mo_take_79 : decode b_Mo_take 79 = .ok (.getfield 40, 3) := by decide +kernel
theorem d_Mo_take_82 : decode b_Mo_take 82 = .ok (.iconst 0, 1) := by decide +kernel
theorem d_Mo_take_83 : decode b_Mo_take 83 = .ok (.iaload, 1) := by decide +kernel
theorem d_Mo_take_84 : decode b_Mo_take 84 = .ok (.iload 5, 2) := by decide +kernel
theorem d_Mo_take_86 : decode b_Mo_take 86 = .ok (.iconst 1, 1) := by decide +kernel
theorem d_Mo_take_87 : decode b_Mo_take 87 = .ok (.if_icmp .le 12, 3) := by decide +kernel
theorem d_Mo_take_90 : decode b_Mo_take 90 = .ok (.aload_n 0, 1) := by decide +kernel
theorem d_Mo_take_91 : decode b_Mo_take 91 = .ok (.getfield 40, 3) := by decide +kernel
theorem d_Mo_take_94 : decode b_Mo_take 94 = .ok (.iconst 1, 1) := by decide +kernel
theorem d_Mo_take_95 : decode b_Mo_take 95 = .ok (.iaload, 1) := by decide +kernel
theorem d_Mo_take_96 : decode b_Mo_take 96 = .ok (.goto 4, 3) := by decide +kernel
theorem d_Mo_take_99 : decode b_Mo_take 99 = .ok (.iconst 0, 1) := by decide +kernel
theorem d_Mo_take_100 : decode b_Mo_take 100 = .ok (.iload 5, 2) := by decide +kernel
theorem d_Mo_take_102 : decode b_Mo_take 102 = .ok (.iconst 2, 1) := by decide +kernel
theorem d_Mo_take_103 : decode b_Mo_take 103 = .ok (.if_icmp .le 12, 3) := by decide +kernel
theorem d_Mo_take_106 : decode b_Mo_take 106 = .ok (.aload_n 0, 1) := by decide +kernel
theorem d_Mo_take_107 : decode b_Mo_take 107 = .ok (.getfield 40, 3) := by decide +kernel
theorem d_Mo_take_110 : decode b_Mo_take 110 = .ok (.iconst 2, 1) := by decide +kernel
theorem d_Mo_take_111 : decode b_Mo_take 111 = .ok (.iaload, 1) := by decide +kernel
theorem d_Mo_take_112 : decode b_Mo_take 112 = .ok (.goto 4, 3) := by decide +kernel
theorem d_Mo_take_115 : decode b_Mo_take 115 = .ok (.iconst 0, 1) := by decide +kernel
theorem d_Mo_take_116 : decode b_Mo_take 116 = .ok (.invokevirtual 67, 3) := by decide +kernel
theorem d_Mo_take_119 : decode b_Mo_take 119 = .ok (.istore 6, 2) := by decide +kernel
theorem d_Mo_take_121 : decode b_Mo_take 121 = .ok (.iload 6, 2) := by decide +kernel
theorem d_Mo_take_123 : decode b_Mo_take 123 = .ok (.ifCond .ge 6, 3) := by decide +kernel
theorem d_Mo_take_126 : decode b_Mo_take 126 = .ok (.goto 10, 3) := by decide +kernel
theorem d_Mo_take_129 : decode b_Mo_take 129 = .ok (.iload 6, 2) := by decide +kernel
theorem d_Mo_take_131 : decode b_Mo_take 131 = .ok (.istore 4, 2) := by decide +kernel
theorem d_Mo_take_133 : decode b_Mo_take 133 = .ok (.iload 5, 2) := by decide +kernel
theorem d_Mo_take_135 : decode b_Mo_take 135 = .ok (.istore_n 3, 1) := by decide +kernel
theorem d_Mo_take_136 : decode b_Mo_take 136 = .ok (.iinc 5 1, 3) := by decide +kernel
theorem d_Mo_take_139 : decode b_Mo_take 139 = .ok (.goto (-79), 3) := by decide +kernel
theorem d_Mo_take_142 : decode b_Mo_take 142 = .ok (.iload 4, 2) := by decide +kernel
theorem d_Mo_take_144 : decode b_Mo_take 144 = .ok (.ifCond .ge 51, 3) := by decide +kernel
theorem d_Mo_take_147 : decode b_Mo_take 147 = .ok (.aload_n 0, 1) := by decide +kernel
theorem d_Mo_take_148 : decode b_Mo_take 148 = .ok (.ldc 78, 2) := by decide +kernel
theorem d_Mo_take_150 : decode b_Mo_take 150 = .ok (.aload_n 0, 1) := by decide +kernel
theorem d_Mo_take_151 : decode b_Mo_take 151 = .ok (.getfield 40, 3) := by decide +kernel
theorem d_Mo_take_154 : decode b_Mo_take 154 = .ok (.iconst 0, 1) := by decide +kernel
theorem d_Mo_take_155 : decode b_Mo_take 155 = .ok (.iaload, 1) := by decide +kernel
theorem d_Mo_take_156 : decode b_Mo_take 156 = .ok (.ldc 79, 2) := by decide +kernel
theorem d_Mo_take_158 : decode b_Mo_take 158 = .ok (.idiv, 1) := by decide +kernel
theorem d_Mo_take_159 : decode b_Mo_take 159 = .ok (.iadd, 1) := by decide +kernel
theorem d_Mo_take_160 : decode b_Mo_take 160 = .ok (.bipush 32, 2) := by decide +kernel
theorem d_Mo_take_162 : decode b_Mo_take 162 = .ok (.iconst 2, 1) := by decide +kernel
theorem d_Mo_take_163 : decode b_Mo_take 163 = .ok (.iconst 0, 1) := by decide +kernel
theorem d_Mo_take_164 : decode b_Mo_take 164 = .ok (.invokevirtual 80, 3) := by decide +kernel
theorem d_Mo_take_167 : decode b_Mo_take 167 = .ok (.aload_n 0, 1) := by decide +kernel
theorem d_Mo_take_168 : decode b_Mo_take 168 = .ok (.aload_n 0, 1) := by decide +kernel
theorem d_Mo_take_169 : decode b_Mo_take 169 = .ok (.getfield 40, 3) := by decide +kernel
theorem d_Mo_take_172 : decode b_Mo_take 172 = .ok (.iconst 0, 1) := by decide +kernel
theorem d_Mo_take_173 : decode b_Mo_take 173 = .ok (.iaload, 1) := by decide +kernel
theorem d_Mo_take_174 : decode b_Mo_take 174 = .ok (.ldc 79, 2) := by decide +kernel
theorem d_Mo_take_176 : decode b_Mo_take 176 = .ok (.irem, 1) := by decide +kernel
theorem d_Mo_take_177 : decode b_Mo_take 177 = .ok (.ldc 79, 2) := by decide +kernel
theorem d_Mo_take_179 : decode b_Mo_take 179 = .ok (.iadd, 1) := by decide +kernel
theorem d_Mo_take_180 : decode b_Mo_take 180 = .ok (.iconst 0, 1) := by decide +kernel
theorem d_Mo_take_181 : decode b_Mo_take 181 = .ok (.iconst 0, 1) := by decide +kernel
theorem d_Mo_take_182 : decode b_Mo_take 182 = .ok (.iconst 0, 1) := by decide +kernel
theorem d_Mo_take_183 : decode b_Mo_take 183 = .ok (.invokevirtual 80, 3) := by decide +kernel
theorem d_Mo_take_186 : decode b_Mo_take 186 = .ok (.aload_n 0, 1) := by decide +kernel
theorem d_Mo_take_187 : decode b_Mo_take 187 = .ok (.iconst 0, 1) := by decide +kernel
theorem d_Mo_take_188 : decode b_Mo_take 188 = .ok (.iconst 1, 1) := by decide +kernel
theorem d_Mo_take_189 : decode b_Mo_take 189 = .ok (.invokevirtual 84, 3) := by decide +kernel
theorem d_Mo_take_192 : decode b_Mo_take 192 = .ok (.goto (-147), 3) := by decide +kernel
theorem d_Mo_take_195 : decode b_Mo_take 195 = .ok (.aload_n 0, 1) := by decide +kernel
theorem d_Mo_take_196 : decode b_Mo_take 196 = .ok (.getfield 40, 3) := by decide +kernel
theorem d_Mo_take_199 : decode b_Mo_take 199 = .ok (.iconst 0, 1) := by decide +kernel
theorem d_Mo_take_200 : decode b_Mo_take 200 = .ok (.iaload, 1) := by decide +kernel
theorem d_Mo_take_201 : decode b_Mo_take 201 = .ok (.istore 5, 2) := by decide +kernel
theorem d_Mo_take_203 : decode b_Mo_take 203 = .ok (.iload_n 3, 1) := by decide +kernel
theorem d_Mo_take_204 : decode b_Mo_take 204 = .ok (.iconst 1, 1) := by decide +kernel
theorem d_Mo_take_205 : decode b_Mo_take 205 = .ok (.if_icmp .le 12, 3) := by decide +kernel
theorem d_Mo_take_208 : decode b_Mo_take 208 = .ok (.aload_n 0, 1) := by decide +kernel
theorem d_Mo_take_209 : decode b_Mo_take 209 = .ok (.getfield 40, 3) := by decide +kernel
theorem d_Mo_take_212 : decode b_Mo_take 212 = .ok (.iconst 1, 1) := by decide +kernel
theorem d_Mo_take_213 : decode b_Mo_take 213 = .ok (.iaload, 1) := by decide +kernel
theorem d_Mo_take_214 : decode b_Mo_take 214 = .ok (.goto 4, 3) := by decide +kernel
theorem d_Mo_take_217 : decode b_Mo_take 217 = .ok (.iconst 0, 1) := by decide +kernel
theorem d_Mo_take_218 : decode b_Mo_take 218 = .ok (.istore 6, 2) := by decide +kernel
theorem d_Mo_take_220 : decode b_Mo_take 220 = .ok (.aload_n 0, 1) := by decide +kernel
theorem d_Mo_take_221 : decode b_Mo_take 221 = .ok (.iconst 0, 1) := by decide +kernel
theorem d_Mo_take_222 : decode b_Mo_take 222 = .ok (.iload_n 3, 1) := by decide +kernel
theorem d_Mo_take_223 : decode b_Mo_take 223 = .ok (.invokevirtual 84, 3) := by decide +kernel
theorem d_Mo_take_226 : decode b_Mo_take 226 = .ok (.iconst 0, 1) := by decide +kernel
theorem d_Mo_take_227 : decode b_Mo_take 227 = .ok (.istore 7, 2) := by decide +kernel
theorem d_Mo_take_229 : decode b_Mo_take 229 = .ok (.iconst 0, 1) := by decide +kernel
theorem d_Mo_take_230 : decode b_Mo_take 230 = .ok (.istore 8, 2) := by decide +kernel
theorem d_Mo_take_232 : decode b_Mo_take 232 = .ok (.iload 8, 2) := by decide +kernel
theorem d_Mo_take_234 : decode b_Mo_take 234 = .ok (.aload_n 0, 1) := by decide +kernel
theorem d_Mo_take_235 : decode b_Mo_take 235 = .ok (.getfield 72, 3) := by decide +kernel
theorem d_Mo_take_238 : decode b_Mo_take 238 = .ok (.if_icmp .ge 132, 3) := by decide +kernel
theorem d_Mo_take_241 : decode b_Mo_take 241 = .ok (.aload_n 0, 1) := by decide +kernel
theorem d_Mo_take_242 : decode b_Mo_take 242 = .ok (.aload_n 0, 1) := by decide +kernel
theorem d_Mo_take_243 : decode b_Mo_take 243 = .ok (.getfield 40, 3) := by decide +kernel
theorem d_Mo_take_246 : decode b_Mo_take 246 = .ok (.iload 8, 2) := by decide +kernel
theorem d_Mo_take_248 : decode b_Mo_take 248 = .ok (.iaload, 1) := by decide +kernel
theorem d_Mo_take_249 : decode b_Mo_take 249 = .ok (.invokevirtual 88, 3) := by decide +kernel
theorem d_Mo_take_252 : decode b_Mo_take 252 = .ok (.ifCond .le 118, 3) := by decide +kernel
theorem d_Mo_take_255 : decode b_Mo_take 255 = .ok (.aload_n 0, 1) := by decide +kernel
theorem d_Mo_take_256 : decode b_Mo_take 256 = .ok (.aload_n 0, 1) := by decide +kernel
theorem d_Mo_take_257 : decode b_Mo_take 257 = .ok (.getfield 40, 3) := by decide +kernel
theorem d_Mo_take_260 : decode b_Mo_take 260 = .ok (.iload 8, 2) := by decide +kernel
theorem d_Mo_take_262 : decode b_Mo_take 262 = .ok (.iaload, 1) := by decide +kernel
theorem d_Mo_take_263 : decode b_Mo_take 263 = .ok (.invokevirtual 88, 3) := by decide +kernel
theorem d_Mo_take_266 : decode b_Mo_take 266 = .ok (.istore 9, 2) := by decide +kernel
theorem d_Mo_take_268 : decode b_Mo_take 268 = .ok (.iload 9, 2) := by decide +kernel
theorem d_Mo_take_270 : decode b_Mo_take 270 = .ok (.iload 7, 2) := by decide +kernel
theorem d_Mo_take_272 : decode b_Mo_take 272 = .ok (.if_icmp .le 44, 3) := by decide +kernel
theorem d_Mo_take_275 : decode b_Mo_take 275 = .ok (.iload_n 3, 1) := by decide +kernel
theorem d_Mo_take_276 : decode b_Mo_take 276 = .ok (.iconst 3, 1) := by decide +kernel
theorem d_Mo_take_277 : decode b_Mo_take 277 = .ok (.if_icmp .ge 39, 3) := by decide +kernel
theorem d_Mo_take_280 : decode b_Mo_take 280 = .ok (.aload_n 0, 1) := by decide +kernel
theorem d_Mo_take_281 : decode b_Mo_take 281 = .ok (.iload_n 3, 1) := by decide +kernel
theorem d_Mo_take_282 : decode b_Mo_take 282 = .ok (.iconst 1, 1) := by decide +kernel
theorem d_Mo_take_283 : decode b_Mo_take 283 = .ok (.iadd, 1) := by decide +kernel
theorem d_Mo_take_284 : decode b_Mo_take 284 = .ok (.iload 5, 2) := by decide +kernel
theorem d_Mo_take_286 : decode b_Mo_take 286 = .ok (.iload_n 3, 1) := by decide +kernel
theorem d_Mo_take_287 : decode b_Mo_take 287 = .ok (.iconst 1, 1) := by decide +kernel
theorem d_Mo_take_288 : decode b_Mo_take 288 = .ok (.if_icmp .ne 13, 3) := by decide +kernel
theorem d_Mo_take_291 : decode b_Mo_take 291 = .ok (.aload_n 0, 1) := by decide +kernel
theorem d_Mo_take_292 : decode b_Mo_take 292 = .ok (.getfield 40, 3) := by decide +kernel
theorem d_Mo_take_295 : decode b_Mo_take 295 = .ok (.iload 8, 2) := by decide +kernel
theorem d_Mo_take_297 : decode b_Mo_take 297 = .ok (.iaload, 1) := by decide +kernel
theorem d_Mo_take_298 : decode b_Mo_take 298 = .ok (.goto 5, 3) := by decide +kernel
theorem d_Mo_take_301 : decode b_Mo_take 301 = .ok (.iload 6, 2) := by decide +kernel
theorem d_Mo_take_303 : decode b_Mo_take 303 = .ok (.aload_n 0, 1) := by decide +kernel
theorem d_Mo_take_304 : decode b_Mo_take 304 = .ok (.getfield 40, 3) := by decide +kernel
theorem d_Mo_take_307 : decode b_Mo_take 307 = .ok (.iload 8, 2) := by decide +kernel
theorem d_Mo_take_309 : decode b_Mo_take 309 = .ok (.iaload, 1) := by decide +kernel
theorem d_Mo_take_310 : decode b_Mo_take 310 = .ok (.invokevirtual 67, 3) := by decide +kernel
theorem d_Mo_take_313 : decode b_Mo_take 313 = .ok (.goto 4, 3) := by decide +kernel
theorem d_Mo_take_316 : decode b_Mo_take 316 = .ok (.iconst (-1), 1) := by decide +kernel
theorem d_Mo_take_317 : decode b_Mo_take 317 = .ok (.istore 10, 2) := by decide +kernel
theorem d_Mo_take_319 : decode b_Mo_take 319 = .ok (.iload 10, 2) := by decide +kernel
theorem d_Mo_take_321 : decode b_Mo_take 321 = .ok (.ifCond .ge 18, 3) := by decide +kernel
theorem d_Mo_take_324 : decode b_Mo_take 324 = .ok (.iload 7, 2) := by decide +kernel
theorem d_Mo_take_326 : decode b_Mo_take 326 = .ok (.iload 9, 2) := by decide +kernel
theorem d_Mo_take_328 : decode b_Mo_take 328 = .ok (.invokestatic 91, 3) := by decide +kernel
theorem d_Mo_take_331 : decode b_Mo_take 331 = .ok (.istore 7, 2) := by decide +kernel
theorem d_Mo_take_333 : decode b_Mo_take 333 = .ok (.iinc 8 1, 3) := by decide +kernel
theorem d_Mo_take_336 : decode b_Mo_take 336 = .ok (.goto (-104), 3) := by decide +kernel
theorem d_Mo_take_339 : decode b_Mo_take 339 = .ok (.iload 10, 2) := by decide +kernel
theorem d_Mo_take_341 : decode b_Mo_take 341 = .ok (.istore 4, 2) := by decide +kernel
theorem d_Mo_take_343 : decode b_Mo_take 343 = .ok (.iload_n 3, 1) := by decide +kernel
theorem d_Mo_take_344 : decode b_Mo_take 344 = .ok (.iconst 1, 1) := by decide +kernel
theorem d_Mo_take_345 : decode b_Mo_take 345 = .ok (.if_icmp .ne 12, 3) := by decide +kernel
theorem d_Mo_take_348 : decode b_Mo_take 348 = .ok (.aload_n 0, 1) := by decide +kernel
theorem d_Mo_take_349 : decode b_Mo_take 349 = .ok (.getfield 40, 3) := by decide +kernel
theorem d_Mo_take_352 : decode b_Mo_take 352 = .ok (.iload 8, 2) := by decide +kernel
theorem d_Mo_take_354 : decode b_Mo_take 354 = .ok (.iaload, 1) := by decide +kernel
theorem d_Mo_take_355 : decode b_Mo_take 355 = .ok (.istore 6, 2) := by decide +kernel
theorem d_Mo_take_357 : decode b_Mo_take 357 = .ok (.iinc 3 1, 3) := by decide +kernel
theorem d_Mo_take_360 : decode b_Mo_take 360 = .ok (.aload_n 0, 1) := by decide +kernel
theorem d_Mo_take_361 : decode b_Mo_take 361 = .ok (.iload 8, 2) := by decide +kernel
theorem d_Mo_take_363 : decode b_Mo_take 363 = .ok (.iconst 1, 1) := by decide +kernel
theorem d_Mo_take_364 : decode b_Mo_take 364 = .ok (.invokevirtual 84, 3) := by decide +kernel
theorem d_Mo_take_367 : decode b_Mo_take 367 = .ok (.goto (-135), 3) := by decide +kernel
theorem d_Mo_take_370 : decode b_Mo_take 370 = .ok (.iconst 0, 1) := by decide +kernel
theorem d_Mo_take_371 : decode b_Mo_take 371 = .ok (.istore 9, 2) := by decide +kernel
theorem d_Mo_take_373 : decode b_Mo_take 373 = .ok (.iload 9, 2) := by decide +kernel
theorem d_Mo_take_375 : decode b_Mo_take 375 = .ok (.aload_n 0, 1) := by decide +kernel
theorem d_Mo_take_376 : decode b_Mo_take 376 = .ok (.getfield 22, 3) := by decide +kernel
theorem d_Mo_take_379 : decode b_Mo_take 379 = .ok (.iload 4, 2) := by decide +kernel
theorem d_Mo_take_381 : decode b_Mo_take 381 = .ok (.iaload, 1) := by decide +kernel
theorem d_Mo_take_382 : decode b_Mo_take 382 = .ok (.if_icmp .ge 59, 3) := by decide +kernel
theorem d_Mo_take_385 : decode b_Mo_take 385 = .ok (.iconst 4, 1) := by decide +kernel
theorem d_Mo_take_386 : decode b_Mo_take 386 = .ok (.bipush 8, 2) := by decide +kernel
theorem d_Mo_take_388 : decode b_Mo_take 388 = .ok (.iload 4, 2) := by decide +kernel
theorem d_Mo_take_390 : decode b_Mo_take 390 = .ok (.imul, 1) := by decide +kernel
theorem d_Mo_take_391 : decode b_Mo_take 391 = .ok (.iload 9, 2) := by decide +kernel
theorem d_Mo_take_393 : decode b_Mo_take 393 = .ok (.iadd, 1) := by decide +kernel
theorem d_Mo_take_394 : decode b_Mo_take 394 = .ok (.imul, 1) := by decide +kernel
theorem d_Mo_take_395 : decode b_Mo_take 395 = .ok (.istore 10, 2) := by decide +kernel
theorem d_Mo_take_397 : decode b_Mo_take 397 = .ok (.aload_n 0, 1) := by decide +kernel
theorem d_Mo_take_398 : decode b_Mo_take 398 = .ok (.aload_n 0, 1) := by decide +kernel
theorem d_Mo_take_399 : decode b_Mo_take 399 = .ok (.getfield 25, 3) := by decide +kernel
theorem d_Mo_take_402 : decode b_Mo_take 402 = .ok (.iload 10, 2) := by decide +kernel
theorem d_Mo_take_404 : decode b_Mo_take 404 = .ok (.iaload, 1) := by decide +kernel
theorem d_Mo_take_405 : decode b_Mo_take 405 = .ok (.aload_n 0, 1) := by decide +kernel
theorem d_Mo_take_406 : decode b_Mo_take 406 = .ok (.getfield 25, 3) := by decide +kernel
theorem d_Mo_take_409 : decode b_Mo_take 409 = .ok (.iload 10, 2) := by decide +kernel
theorem d_Mo_take_411 : decode b_Mo_take 411 = .ok (.iconst 1, 1) := by decide +kernel
theorem d_Mo_take_412 : decode b_Mo_take 412 = .ok (.iadd, 1) := by decide +kernel
theorem d_Mo_take_413 : decode b_Mo_take 413 = .ok (.iaload, 1) := by decide +kernel
theorem d_Mo_take_414 : decode b_Mo_take 414 = .ok (.aload_n 0, 1) := by decide +kernel
theorem d_Mo_take_415 : decode b_Mo_take 415 = .ok (.getfield 25, 3) := by decide +kernel
theorem d_Mo_take_418 : decode b_Mo_take 418 = .ok (.iload 10, 2) := by decide +kernel
theorem d_Mo_take_420 : decode b_Mo_take 420 = .ok (.iconst 2, 1) := by decide +kernel
theorem d_Mo_take_421 : decode b_Mo_take 421 = .ok (.iadd, 1) := by decide +kernel
theorem d_Mo_take_422 : decode b_Mo_take 422 = .ok (.iaload, 1) := by decide +kernel
theorem d_Mo_take_423 : decode b_Mo_take 423 = .ok (.aload_n 0, 1) := by decide +kernel
theorem d_Mo_take_424 : decode b_Mo_take 424 = .ok (.getfield 25, 3) := by decide +kernel
theorem d_Mo_take_427 : decode b_Mo_take 427 = .ok (.iload 10, 2) := by decide +kernel
theorem d_Mo_take_429 : decode b_Mo_take 429 = .ok (.iconst 3, 1) := by decide +kernel
theorem d_Mo_take_430 : decode b_Mo_take 430 = .ok (.iadd, 1) := by decide +kernel
theorem d_Mo_take_431 : decode b_Mo_take 431 = .ok (.iaload, 1) := by decide +kernel
theorem d_Mo_take_432 : decode b_Mo_take 432 = .ok (.invokevirtual 80, 3) := by decide +kernel
theorem d_Mo_take_435 : decode b_Mo_take 435 = .ok (.iinc 9 1, 3) := by decide +kernel
theorem d_Mo_take_438 : decode b_Mo_take 438 = .ok (.goto (-65), 3) := by decide +kernel
theorem d_Mo_take_441 : decode b_Mo_take 441 = .ok (.goto (-396), 3) := by decide +kernel
theorem d_Mo_take_444 : decode b_Mo_take 444 = .ok (.iconst 0, 1) := by decide +kernel
theorem d_Mo_take_445 : decode b_Mo_take 445 = .ok (.istore_n 3, 1) := by decide +kernel
theorem d_Mo_take_446 : decode b_Mo_take 446 = .ok (.iconst 0, 1) := by decide +kernel
theorem d_Mo_take_447 : decode b_Mo_take 447 = .ok (.istore 4, 2) := by decide +kernel
theorem d_Mo_take_449 : decode b_Mo_take 449 = .ok (.iload 4, 2) := by decide +kernel
theorem d_Mo_take_451 : decode b_Mo_take 451 = .ok (.aload_n 0, 1) := by decide +kernel
theorem d_Mo_take_452 : decode b_Mo_take 452 = .ok (.getfield 75, 3) := by decide +kernel
theorem d_Mo_take_455 : decode b_Mo_take 455 = .ok (.if_icmp .ge 170, 3) := by decide +kernel
theorem d_Mo_take_458 : decode b_Mo_take 458 = .ok (.aload_n 0, 1) := by decide +kernel
theorem d_Mo_take_459 : decode b_Mo_take 459 = .ok (.getfield 43, 3) := by decide +kernel
theorem d_Mo_take_462 : decode b_Mo_take 462 = .ok (.iconst 4, 1) := by decide +kernel
theorem d_Mo_take_463 : decode b_Mo_take 463 = .ok (.iload 4, 2) := by decide +kernel
theorem d_Mo_take_465 : decode b_Mo_take 465 = .ok (.imul, 1) := by decide +kernel
theorem d_Mo_take_466 : decode b_Mo_take 466 = .ok (.iaload, 1) := by decide +kernel
theorem d_Mo_take_467 : decode b_Mo_take 467 = .ok (.istore 5, 2) := by decide +kernel
theorem d_Mo_take_469 : decode b_Mo_take 469 = .ok (.iload 5, 2) := by decide +kernel
theorem d_Mo_take_471 : decode b_Mo_take 471 = .ok (.ifCond .le 24, 3) := by decide +kernel
theorem d_Mo_take_474 : decode b_Mo_take 474 = .ok (.aload_n 0, 1) := by decide +kernel
theorem d_Mo_take_475 : decode b_Mo_take 475 = .ok (.getfield 43, 3) := by decide +kernel
theorem d_Mo_take_478 : decode b_Mo_take 478 = .ok (.iconst 4, 1) := by decide +kernel
theorem d_Mo_take_479 : decode b_Mo_take 479 = .ok (.iload 4, 2) := by decide +kernel
theorem d_Mo_take_481 : decode b_Mo_take 481 = .ok (.imul, 1) := by decide +kernel
theorem d_Mo_take_482 : decode b_Mo_take 482 = .ok (.iconst 3, 1) := by decide +kernel
theorem d_Mo_take_483 : decode b_Mo_take 483 = .ok (.iadd, 1) := by decide +kernel
theorem d_Mo_take_484 : decode b_Mo_take 484 = .ok (.iaload, 1) := by decide +kernel
theorem d_Mo_take_485 : decode b_Mo_take 485 = .ok (.iconst 1, 1) := by decide +kernel
theorem d_Mo_take_486 : decode b_Mo_take 486 = .ok (.if_icmp .ne 7, 3) := by decide +kernel
theorem d_Mo_take_489 : decode b_Mo_take 489 = .ok (.iconst 1, 1) := by decide +kernel
theorem d_Mo_take_490 : decode b_Mo_take 490 = .ok (.goto 4, 3) := by decide +kernel
theorem d_Mo_take_493 : decode b_Mo_take 493 = .ok (.iconst 0, 1) := by decide +kernel
theorem d_Mo_take_494 : decode b_Mo_take 494 = .ok (.istore_n 3, 1) := by decide +kernel
theorem d_Mo_take_495 : decode b_Mo_take 495 = .ok (.iload 5, 2) := by decide +kernel
theorem d_Mo_take_497 : decode b_Mo_take 497 = .ok (.ifCond .ne 35, 3) := by decide +kernel
theorem d_Mo_take_500 : decode b_Mo_take 500 = .ok (.aload_n 0, 1) := by decide +kernel
theorem d_Mo_take_501 : decode b_Mo_take 501 = .ok (.getfield 43, 3) := by decide +kernel
theorem d_Mo_take_504 : decode b_Mo_take 504 = .ok (.iconst 4, 1) := by decide +kernel
theorem d_Mo_take_505 : decode b_Mo_take 505 = .ok (.iload 4, 2) := by decide +kernel
theorem d_Mo_take_507 : decode b_Mo_take 507 = .ok (.imul, 1) := by decide +kernel
theorem d_Mo_take_508 : decode b_Mo_take 508 = .ok (.iconst 1, 1) := by decide +kernel
theorem d_Mo_take_509 : decode b_Mo_take 509 = .ok (.iadd, 1) := by decide +kernel
theorem d_Mo_take_510 : decode b_Mo_take 510 = .ok (.iaload, 1) := by decide +kernel
theorem d_Mo_take_511 : decode b_Mo_take 511 = .ok (.ifCond .ne 21, 3) := by decide +kernel
theorem d_Mo_take_514 : decode b_Mo_take 514 = .ok (.aload_n 0, 1) := by decide +kernel
theorem d_Mo_take_515 : decode b_Mo_take 515 = .ok (.getfield 43, 3) := by decide +kernel
theorem d_Mo_take_518 : decode b_Mo_take 518 = .ok (.iconst 4, 1) := by decide +kernel
theorem d_Mo_take_519 : decode b_Mo_take 519 = .ok (.iload 4, 2) := by decide +kernel
theorem d_Mo_take_521 : decode b_Mo_take 521 = .ok (.imul, 1) := by decide +kernel
theorem d_Mo_take_522 : decode b_Mo_take 522 = .ok (.iconst 2, 1) := by decide +kernel
theorem d_Mo_take_523 : decode b_Mo_take 523 = .ok (.iadd, 1) := by decide +kernel
theorem d_Mo_take_524 : decode b_Mo_take 524 = .ok (.iaload, 1) := by decide +kernel
theorem d_Mo_take_525 : decode b_Mo_take 525 = .ok (.ifCond .ne 7, 3) := by decide +kernel
theorem d_Mo_take_528 : decode b_Mo_take 528 = .ok (.iconst 1, 1) := by decide +kernel
theorem d_Mo_take_529 : decode b_Mo_take 529 = .ok (.goto 4, 3) := by decide +kernel
theorem d_Mo_take_532 : decode b_Mo_take 532 = .ok (.iconst 0, 1) := by decide +kernel
theorem d_Mo_take_533 : decode b_Mo_take 533 = .ok (.istore 6, 2) := by decide +kernel
theorem d_Mo_take_535 : decode b_Mo_take 535 = .ok (.aload_n 0, 1) := by decide +kernel
theorem d_Mo_take_536 : decode b_Mo_take 536 = .ok (.getfield 43, 3) := by decide +kernel
theorem d_Mo_take_539 : decode b_Mo_take 539 = .ok (.iconst 4, 1) := by decide +kernel
theorem d_Mo_take_540 : decode b_Mo_take 540 = .ok (.iload 4, 2) := by decide +kernel
theorem d_Mo_take_542 : decode b_Mo_take 542 = .ok (.imul, 1) := by decide +kernel
theorem d_Mo_take_543 : decode b_Mo_take 543 = .ok (.iconst 3, 1) := by decide +kernel
theorem d_Mo_take_544 : decode b_Mo_take 544 = .ok (.iadd, 1) := by decide +kernel
theorem d_Mo_take_545 : decode b_Mo_take 545 = .ok (.iload_n 2, 1) := by decide +kernel
theorem d_Mo_take_546 : decode b_Mo_take 546 = .ok (.ifCond .ne 7, 3) := by decide +kernel
theorem d_Mo_take_549 : decode b_Mo_take 549 = .ok (.iconst 0, 1) := by decide +kernel
theorem d_Mo_take_550 : decode b_Mo_take 550 = .ok (.goto 23, 3) := by decide +kernel
theorem d_Mo_take_553 : decode b_Mo_take 553 = .ok (.iload_n 3, 1) := by decide +kernel
theorem d_Mo_take_554 : decode b_Mo_take 554 = .ok (.ifCond .eq 8, 3) := by decide +kernel
theorem d_Mo_take_557 : decode b_Mo_take 557 = .ok (.iload 5, 2) := by decide +kernel
theorem d_Mo_take_559 : decode b_Mo_take 559 = .ok (.goto 14, 3) := by decide +kernel
theorem d_Mo_take_562 : decode b_Mo_take 562 = .ok (.iload 6, 2) := by decide +kernel
theorem d_Mo_take_564 : decode b_Mo_take 564 = .ok (.ifCond .eq 7, 3) := by decide +kernel
theorem d_Mo_take_567 : decode b_Mo_take 567 = .ok (.iconst 0, 1) := by decide +kernel
theorem d_Mo_take_568 : decode b_Mo_take 568 = .ok (.goto 5, 3) := by decide +kernel
theorem d_Mo_take_571 : decode b_Mo_take 571 = .ok (.ldc 71, 2) := by decide +kernel
theorem d_Mo_take_573 : decode b_Mo_take 573 = .ok (.iastore, 1) := by decide +kernel
theorem d_Mo_take_574 : decode b_Mo_take 574 = .ok (.iload_n 2, 1) := by decide +kernel
theorem d_Mo_take_575 : decode b_Mo_take 575 = .ok (.ifCond .eq 44, 3) := by decide +kernel
theorem d_Mo_take_578 : decode b_Mo_take 578 = .ok (.iload_n 3, 1) := by decide +kernel
theorem d_Mo_take_579 : decode b_Mo_take 579 = .ok (.ifCond .ne 6, 3) := by decide +kernel
theorem d_Mo_take_582 : decode b_Mo_take 582 = .ok (.goto 37, 3) := by decide +kernel
theorem d_Mo_take_585 : decode b_Mo_take 585 = .ok (.aload_n 0, 1) := by decide +kernel
theorem d_Mo_take_586 : decode b_Mo_take 586 = .ok (.getfield 43, 3) := by decide +kernel
theorem d_Mo_take_589 : decode b_Mo_take 589 = .ok (.iconst 4, 1) := by decide +kernel
theorem d_Mo_take_590 : decode b_Mo_take 590 = .ok (.iload 4, 2) := by decide +kernel
theorem d_Mo_take_592 : decode b_Mo_take 592 = .ok (.imul, 1) := by decide +kernel
theorem d_Mo_take_593 : decode b_Mo_take 593 = .ok (.iconst 0, 1) := by decide +kernel
theorem d_Mo_take_594 : decode b_Mo_take 594 = .ok (.iastore, 1) := by decide +kernel
theorem d_Mo_take_595 : decode b_Mo_take 595 = .ok (.aload_n 0, 1) := by decide +kernel
theorem d_Mo_take_596 : decode b_Mo_take 596 = .ok (.getfield 43, 3) := by decide +kernel
theorem d_Mo_take_599 : decode b_Mo_take 599 = .ok (.iconst 4, 1) := by decide +kernel
theorem d_Mo_take_600 : decode b_Mo_take 600 = .ok (.iload 4, 2) := by decide +kernel
theorem d_Mo_take_602 : decode b_Mo_take 602 = .ok (.imul, 1) := by decide +kernel
theorem d_Mo_take_603 : decode b_Mo_take 603 = .ok (.iconst 1, 1) := by decide +kernel
theorem d_Mo_take_604 : decode b_Mo_take 604 = .ok (.iadd, 1) := by decide +kernel
theorem d_Mo_take_605 : decode b_Mo_take 605 = .ok (.iconst 0, 1) := by decide +kernel
theorem d_Mo_take_606 : decode b_Mo_take 606 = .ok (.iastore, 1) := by decide +kernel
theorem d_Mo_take_607 : decode b_Mo_take 607 = .ok (.aload_n 0, 1) := by decide +kernel
theorem d_Mo_take_608 : decode b_Mo_take 608 = .ok (.getfield 43, 3) := by decide +kernel
theorem d_Mo_take_611 : decode b_Mo_take 611 = .ok (.iconst 4, 1) := by decide +kernel
theorem d_Mo_take_612 : decode b_Mo_take 612 = .ok (.iload 4, 2) := by decide +kernel
theorem d_Mo_take_614 : decode b_Mo_take 614 = .ok (.imul, 1) := by decide +kernel
theorem d_Mo_take_615 : decode b_Mo_take 615 = .ok (.iconst 2, 1) := by decide +kernel
theorem d_Mo_take_616 : decode b_Mo_take 616 = .ok (.iadd, 1) := by decide +kernel
theorem d_Mo_take_617 : decode b_Mo_take 617 = .ok (.iconst 0, 1) := by decide +kernel
theorem d_Mo_take_618 : decode b_Mo_take 618 = .ok (.iastore, 1) := by decide +kernel
theorem d_Mo_take_619 : decode b_Mo_take 619 = .ok (.iinc 4 1, 3) := by decide +kernel
theorem d_Mo_take_622 : decode b_Mo_take 622 = .ok (.goto (-173), 3) := by decide +kernel
theorem d_Mo_take_625 : decode b_Mo_take 625 = .ok (.return_, 1) := by decide +kernel
theorem d_Mo_give_0 : decode b_Mo_give 0 = .ok (.aload_n 0, 1) := by decide +kernel
theorem d_Mo_give_1 : decode b_Mo_give 1 = .ok (.getfield 43, 3) := by decide +kernel
theorem d_Mo_give_4 : decode b_Mo_give 4 = .ok (.iconst 4, 1) := by decide +kernel
theorem d_Mo_give_5 : decode b_Mo_give 5 = .ok (.aload_n 0, 1) := by decide +kernel
theorem d_Mo_give_6 : decode b_Mo_give 6 = .ok (.getfield 75, 3) := by decide +kernel
theorem d_Mo_give_9 : decode b_Mo_give 9 = .ok (.imul, 1) := by decide +kernel
theorem d_Mo_give_10 : decode b_Mo_give 10 = .ok (.iload_n 1, 1) := by decide +kernel
theorem d_Mo_give_11 : decode b_Mo_give 11 = .ok (.iastore, 1) := by decide +kernel
theorem d_Mo_give_12 : decode b_Mo_give 12 = .ok (.aload_n 0, 1) := by decide +kernel
theorem d_Mo_give_13 : decode b_Mo_give 13 = .ok (.getfield 43, 3) := by decide +kernel
theorem d_Mo_give_16 : decode b_Mo_give 16 = .ok (.iconst 4, 1) := by decide +kernel
theorem d_Mo_give_17 : decode b_Mo_give 17 = .ok (.aload_n 0, 1) := by decide +kernel
theorem d_Mo_give_18 : decode b_Mo_give 18 = .ok (.getfield 75, 3) := by decide +kernel
theorem d_Mo_give_21 : decode b_Mo_give 21 = .ok (.imul, 1) := by decide +kernel
theorem d_Mo_give_22 : decode b_Mo_give 22 = .ok (.iconst 1, 1) := by decide +kernel
theorem d_Mo_give_23 : decode b_Mo_give 23 = .ok (.iadd, 1) := by decide +kernel
theorem d_Mo_give_24 : decode b_Mo_give 24 = .ok (.iload_n 2, 1) := by decide +kernel
theorem d_Mo_give_25 : decode b_Mo_give 25 = .ok (.iastore, 1) := by decide +kernel
theorem d_Mo_give_26 : decode b_Mo_give 26 = .ok (.aload_n 0, 1) := by decide +kernel
theorem d_Mo_give_27 : decode b_Mo_give 27 = .ok (.getfield 43, 3) := by decide +kernel
theorem d_Mo_give_30 : decode b_Mo_give 30 = .ok (.iconst 4, 1) := by decide +kernel
theorem d_Mo_give_31 : decode b_Mo_give 31 = .ok (.aload_n 0, 1) := by decide +kernel
theorem d_Mo_give_32 : decode b_Mo_give 32 = .ok (.getfield 75, 3) := by decide +kernel
theorem d_Mo_give_35 : decode b_Mo_give 35 = .ok (.imul, 1) := by decide +kernel
theorem d_Mo_give_36 : decode b_Mo_give 36 = .ok (.iconst 2, 1) := by decide +kernel
theorem d_Mo_give_37 : decode b_Mo_give 37 = .ok (.iadd, 1) := by decide +kernel
theorem d_Mo_give_38 : decode b_Mo_give 38 = .ok (.iload_n 3, 1) := by decide +kernel
theorem d_Mo_give_39 : decode b_Mo_give 39 = .ok (.iastore, 1) := by decide +kernel
theorem d_Mo_give_40 : decode b_Mo_give 40 = .ok (.aload_n 0, 1) := by decide +kernel
theorem d_Mo_give_41 : decode b_Mo_give 41 = .ok (.getfield 43, 3) := by decide +kernel
theorem d_Mo_give_44 : decode b_Mo_give 44 = .ok (.iconst 4, 1) := by decide +kernel
theorem d_Mo_give_45 : decode b_Mo_give 45 = .ok (.aload_n 0, 1) := by decide +kernel
theorem d_Mo_give_46 : decode b_Mo_give 46 = .ok (.getfield 75, 3) := by decide +kernel
theorem d_Mo_give_49 : decode b_Mo_give 49 = .ok (.imul, 1) := by decide +kernel
theorem d_Mo_give_50 : decode b_Mo_give 50 = .ok (.iconst 3, 1) := by decide +kernel
theorem d_Mo_give_51 : decode b_Mo_give 51 = .ok (.iadd, 1) := by decide +kernel
theorem d_Mo_give_52 : decode b_Mo_give 52 = .ok (.iload 4, 2) := by decide +kernel
theorem d_Mo_give_54 : decode b_Mo_give 54 = .ok (.iastore, 1) := by decide +kernel
theorem d_Mo_give_55 : decode b_Mo_give 55 = .ok (.aload_n 0, 1) := by decide +kernel
theorem d_Mo_give_56 : decode b_Mo_give 56 = .ok (.dup, 1) := by decide +kernel
theorem d_Mo_give_57 : decode b_Mo_give 57 = .ok (.getfield 75, 3) := by decide +kernel
theorem d_Mo_give_60 : decode b_Mo_give 60 = .ok (.iconst 1, 1) := by decide +kernel
theorem d_Mo_give_61 : decode b_Mo_give 61 = .ok (.iadd, 1) := by decide +kernel
theorem d_Mo_give_62 : decode b_Mo_give 62 = .ok (.putfield 75, 3) := by decide +kernel
theorem d_Mo_give_65 : decode b_Mo_give 65 = .ok (.return_, 1) := by decide +kernel
theorem d_Mo_drop_0 : decode b_Mo_drop 0 = .ok (.aload_n 0, 1) := by decide +kernel
theorem d_Mo_drop_1 : decode b_Mo_drop 1 = .ok (.dup, 1) := by decide +kernel
theorem d_Mo_drop_2 : decode b_Mo_drop 2 = .ok (.getfield 72, 3) := by decide +kernel
theorem d_Mo_drop_5 : decode b_Mo_drop 5 = .ok (.iload_n 2, 1) := by decide +kernel
theorem d_Mo_drop_6 : decode b_Mo_drop 6 = .ok (.isub, 1) := by decide +kernel
theorem d_Mo_drop_7 : decode b_Mo_drop 7 = .ok (.putfield 72, 3) := by decide +kernel
theorem d_Mo_drop_10 : decode b_Mo_drop 10 = .ok (.iload_n 1, 1) := by decide +kernel
theorem d_Mo_drop_11 : decode b_Mo_drop 11 = .ok (.istore_n 3, 1) := by decide +kernel
theorem d_Mo_drop_12 : decode b_Mo_drop 12 = .ok (.iload_n 3, 1) := by decide +kernel
theorem d_Mo_drop_13 : decode b_Mo_drop 13 = .ok (.aload_n 0, 1) := by decide +kernel
theorem d_Mo_drop_14 : decode b_Mo_drop 14 = .ok (.getfield 72, 3) := by decide +kernel
theorem d_Mo_drop_17 : decode b_Mo_drop 17 = .ok (.if_icmp .ge 23, 3) := by decide +kernel
theorem d_Mo_drop_20 : decode b_Mo_drop 20 = .ok (.aload_n 0, 1) := by decide +kernel
theorem d_Mo_drop_21 : decode b_Mo_drop 21 = .ok (.getfield 40, 3) := by decide +kernel
theorem d_Mo_drop_24 : decode b_Mo_drop 24 = .ok (.iload_n 3, 1) := by decide +kernel
theorem d_Mo_drop_25 : decode b_Mo_drop 25 = .ok (.aload_n 0, 1) := by decide +kernel
theorem d_Mo_drop_26 : decode b_Mo_drop 26 = .ok (.getfield 40, 3) := by decide +kernel
theorem d_Mo_drop_29 : decode b_Mo_drop 29 = .ok (.iload_n 3, 1) := by decide +kernel
theorem d_Mo_drop_30 : decode b_Mo_drop 30 = .ok (.iload_n 2, 1) := by decide +kernel
theorem d_Mo_drop_31 : decode b_Mo_drop 31 = .ok (.iadd, 1) := by decide +kernel
theorem d_Mo_drop_32 : decode b_Mo_drop 32 = .ok (.iaload, 1) := by decide +kernel
theorem d_Mo_drop_33 : decode b_Mo_drop 33 = .ok (.iastore, 1) := by decide +kernel
theorem d_Mo_drop_34 : decode b_Mo_drop 34 = .ok (.iinc 3 1, 3) := by decide +kernel
theorem d_Mo_drop_37 : decode b_Mo_drop 37 = .ok (.goto (-25), 3) := by decide +kernel
theorem d_Mo_drop_40 : decode b_Mo_drop 40 = .ok (.return_, 1) := by decide +kernel
theorem d_Mo_classOf_0 : decode b_Mo_classOf 0 = .ok (.iconst 0, 1) := by decide +kernel
theorem d_Mo_classOf_1 : decode b_Mo_classOf 1 = .ok (.istore_n 2, 1) := by decide +kernel
theorem d_Mo_classOf_2 : decode b_Mo_classOf 2 = .ok (.iload_n 2, 1) := by decide +kernel
theorem d_Mo_classOf_3 : decode b_Mo_classOf 3 = .ok (.aload_n 0, 1) := by decide +kernel
theorem d_Mo_classOf_4 : decode b_Mo_classOf 4 = .ok (.getfield 57, 3) := by decide +kernel
theorem d_Mo_classOf_7 : decode b_Mo_classOf 7 = .ok (.if_icmp .ge 26, 3) := by decide +kernel
theorem d_Mo_classOf_10 : decode b_Mo_classOf 10 = .ok (.aload_n 0, 1) := by decide +kernel
theorem d_Mo_classOf_11 : decode b_Mo_classOf 11 = .ok (.getfield 7, 3) := by decide +kernel
theorem d_Mo_classOf_14 : decode b_Mo_classOf 14 = .ok (.iload_n 2, 1) := by decide +kernel
theorem d_Mo_classOf_15 : decode b_Mo_classOf 15 = .ok (.iaload, 1) := by decide +kernel
theorem d_Mo_classOf_16 : decode b_Mo_classOf 16 = .ok (.iload_n 1, 1) := by decide +kernel
theorem d_Mo_classOf_17 : decode b_Mo_classOf 17 = .ok (.if_icmp .ne 10, 3) := by decide +kernel
theorem d_Mo_classOf_20 : decode b_Mo_classOf 20 = .ok (.aload_n 0, 1) := by decide +kernel
theorem d_Mo_classOf_21 : decode b_Mo_classOf 21 = .ok (.getfield 13, 3) := by decide +kernel
theorem d_Mo_classOf_24 : decode b_Mo_classOf 24 = .ok (.iload_n 2, 1) := by decide +kernel
theorem d_Mo_classOf_25 : decode b_Mo_classOf 25 = .ok (.iaload, 1) := by decide +kernel
theorem d_Mo_classOf_26 : decode b_Mo_classOf 26 = .ok (.ireturn, 1) := by decide +kernel
theorem d_Mo_classOf_27 : decode b_Mo_classOf 27 = .ok (.iinc 2 1, 3) := by decide +kernel
theorem d_Mo_classOf_30 : decode b_Mo_classOf 30 = .ok (.goto (-28), 3) := by decide +kernel
theorem d_Mo_classOf_33 : decode b_Mo_classOf 33 = .ok (.iconst 0, 1) := by decide +kernel
theorem d_Mo_classOf_34 : decode b_Mo_classOf 34 = .ok (.ireturn, 1) := by decide +kernel
theorem d_Mo_weight_0 : decode b_Mo_weight 0 = .ok (.aload_n 0, 1) := by decide +kernel
theorem d_Mo_weight_1 : decode b_Mo_weight 1 = .ok (.iconst 0, 1) := by decide +kernel
theorem d_Mo_weight_2 : decode b_Mo_weight 2 = .ok (.putfield 49, 3) := by decide +kernel
theorem d_Mo_weight_5 : decode b_Mo_weight 5 = .ok (.iload_n 1, 1) := by decide +kernel
theorem d_Mo_weight_6 : decode b_Mo_weight 6 = .ok (.ifCond .lt 19, 3) := by decide +kernel
theorem d_Mo_weight_9 : decode b_Mo_weight 9 = .ok (.iload_n 1, 1) := by decide +kernel
theorem d_Mo_weight_10 : decode b_Mo_weight 10 = .ok (.iconst 3, 1) := by decide +kernel
theorem d_Mo_weight_11 : decode b_Mo_weight 11 = .ok (.if_icmp .gt 14, 3) := by decide +kernel
theorem d_Mo_weight_14 : decode b_Mo_weight 14 = .ok (.iload 4, 2) := by decide +kernel
theorem d_Mo_weight_16 : decode b_Mo_weight 16 = .ok (.ifCond .lt 9, 3) := by decide +kernel
theorem d_Mo_weight_19 : decode b_Mo_weight 19 = .ok (.iload 4, 2) := by decide +kernel
theorem d_Mo_weight_21 : decode b_Mo_weight 21 = .ok (.iconst 3, 1) := by decide +kernel
theorem d_Mo_weight_22 : decode b_Mo_weight 22 = .ok (.if_icmp .le 9, 3) := by decide +kernel
theorem d_Mo_weight_25 : decode b_Mo_weight 25 = .ok (.aload_n 0, 1) := by decide +kernel
theorem d_Mo_weight_26 : decode b_Mo_weight 26 = .ok (.iconst 1, 1) := by decide +kernel
theorem d_Mo_weight_27 : decode b_Mo_weight 27 = .ok (.invokevirtual 63, 3) := by decide +kernel
theorem d_Mo_weight_30 : decode b_Mo_weight 30 = .ok (.ireturn, 1) := by decide +kernel
theorem d_Mo_weight_31 : decode b_Mo_weight 31 = .ok (.aload_n 0, 1) := by decide +kernel
theorem d_Mo_weight_32 : decode b_Mo_weight 32 = .ok (.iload_n 1, 1) := by decide +kernel
theorem d_Mo_weight_33 : decode b_Mo_weight 33 = .ok (.iload_n 2, 1) := by decide +kernel
theorem d_Mo_weight_34 : decode b_Mo_weight 34 = .ok (.invokevirtual 97, 3) := by decide +kernel
theorem d_Mo_weight_37 : decode b_Mo_weight 37 = .ok (.iload_n 3, 1) := by decide +kernel
theorem d_Mo_weight_38 : decode b_Mo_weight 38 = .ok (.ifCond .lt 11, 3) := by decide +kernel
theorem d_Mo_weight_41 : decode b_Mo_weight 41 = .ok (.iload_n 3, 1) := by decide +kernel
theorem d_Mo_weight_42 : decode b_Mo_weight 42 = .ok (.aload_n 0, 1) := by decide +kernel
theorem d_Mo_weight_43 : decode b_Mo_weight 43 = .ok (.getfield 75, 3) := by decide +kernel
theorem d_Mo_weight_46 : decode b_Mo_weight 46 = .ok (.if_icmp .lt 11, 3) := by decide +kernel
theorem d_Mo_weight_49 : decode b_Mo_weight 49 = .ok (.aload_n 0, 1) := by decide +kernel
theorem d_Mo_weight_50 : decode b_Mo_weight 50 = .ok (.iconst 1, 1) := by decide +kernel
theorem d_Mo_weight_51 : decode b_Mo_weight 51 = .ok (.invokevirtual 63, 3) := by decide +kernel
theorem d_Mo_weight_54 : decode b_Mo_weight 54 = .ok (.goto 14, 3) := by decide +kernel
theorem d_Mo_weight_57 : decode b_Mo_weight 57 = .ok (.aload_n 0, 1) := by decide +kernel
theorem d_Mo_weight_58 : decode b_Mo_weight 58 = .ok (.getfield 43, 3) := by decide +kernel
theorem d_Mo_weight_61 : decode b_Mo_weight 61 = .ok (.iconst 4, 1) := by decide +kernel
theorem d_Mo_weight_62 : decode b_Mo_weight 62 = .ok (.iload_n 3, 1) := by decide +kernel
theorem d_Mo_weight_63 : decode b_Mo_weight 63 = .ok (.imul, 1) := by decide +kernel
theorem d_Mo_weight_64 : decode b_Mo_weight 64 = .ok (.iload 4, 2) := by decide +kernel
theorem d_Mo_weight_66 : decode b_Mo_weight 66 = .ok (.iadd, 1) := by decide +kernel
theorem d_Mo_weight_67 : decode b_Mo_weight 67 = .ok (.iaload, 1) := by decide +kernel
theorem d_Mo_weight_68 : decode b_Mo_weight 68 = .ok (.ireturn, 1) := by decide +kernel
theorem d_Mo_compare_0 : decode b_Mo_compare 0 = .ok (.aload_n 0, 1) := by decide +kernel
theorem d_Mo_compare_1 : decode b_Mo_compare 1 = .ok (.iconst 0, 1) := by decide +kernel
theorem d_Mo_compare_2 : decode b_Mo_compare 2 = .ok (.putfield 49, 3) := by decide +kernel
theorem d_Mo_compare_5 : decode b_Mo_compare 5 = .ok (.iload_n 1, 1) := by decide +kernel
theorem d_Mo_compare_6 : decode b_Mo_compare 6 = .ok (.ifCond .lt 27, 3) := by decide +kernel
theorem d_Mo_compare_9 : decode b_Mo_compare 9 = .ok (.iload_n 1, 1) := by decide +kernel
theorem d_Mo_compare_10 : decode b_Mo_compare 10 = .ok (.iconst 3, 1) := by decide +kernel
theorem d_Mo_compare_11 : decode b_Mo_compare 11 = .ok (.if_icmp .gt 22, 3) := by decide +kernel
theorem d_Mo_compare_14 : decode b_Mo_compare 14 = .ok (.iload_n 2, 1) := by decide +kernel
theorem d_Mo_compare_15 : decode b_Mo_compare 15 = .ok (.ifCond .lt 18, 3) := by decide +kernel
theorem d_Mo_compare_18 : decode b_Mo_compare 18 = .ok (.iload_n 2, 1) := by decide +kernel
theorem d_Mo_compare_19 : decode b_Mo_compare 19 = .ok (.iconst 3, 1) := by decide +kernel
theorem d_Mo_compare_20 : decode b_Mo_compare 20 = .ok (.if_icmp .gt 13, 3) := by decide +kernel
theorem d_Mo_compare_23 : decode b_Mo_compare 23 = .ok (.iload_n 3, 1) := by decide +kernel
theorem d_Mo_compare_24 : decode b_Mo_compare 24 = .ok (.iconst 1, 1) := by decide +kernel
theorem d_Mo_compare_25 : decode b_Mo_compare 25 = .ok (.if_icmp .lt 8, 3) := by decide +kernel
theorem d_Mo_compare_28 : decode b_Mo_compare 28 = .ok (.iload_n 3, 1) := by decide +kernel
theorem d_Mo_compare_29 : decode b_Mo_compare 29 = .ok (.iconst 4, 1) := by decide +kernel
theorem d_Mo_compare_30 : decode b_Mo_compare 30 = .ok (.if_icmp .le 9, 3) := by decide +kernel
theorem d_Mo_compare_33 : decode b_Mo_compare 33 = .ok (.aload_n 0, 1) := by decide +kernel
theorem d_Mo_compare_34 : decode b_Mo_compare 34 = .ok (.iconst 1, 1) := by decide +kernel
theorem d_Mo_compare_35 : decode b_Mo_compare 35 = .ok (.invokevirtual 63, 3) := by decide +kernel
theorem d_Mo_compare_38 : decode b_Mo_compare 38 = .ok (.ireturn, 1) := by decide +kernel
theorem d_Mo_compare_39 : decode b_Mo_compare 39 = .ok (.aload_n 0, 1) := by decide +kernel
theorem d_Mo_compare_40 : decode b_Mo_compare 40 = .ok (.iload_n 1, 1) := by decide +kernel
theorem d_Mo_compare_41 : decode b_Mo_compare 41 = .ok (.iload 4, 2) := by decide +kernel
theorem d_Mo_compare_43 : decode b_Mo_compare 43 = .ok (.invokevirtual 97, 3) := by decide +kernel
theorem d_Mo_compare_46 : decode b_Mo_compare 46 = .ok (.aload_n 0, 1) := by decide +kernel
theorem d_Mo_compare_47 : decode b_Mo_compare 47 = .ok (.getfield 75, 3) := by decide +kernel
theorem d_Mo_compare_50 : decode b_Mo_compare 50 = .ok (.istore 5, 2) := by decide +kernel
theorem d_Mo_compare_52 : decode b_Mo_compare 52 = .ok (.iconst 0, 1) := by decide +kernel
theorem d_Mo_compare_53 : decode b_Mo_compare 53 = .ok (.istore 6, 2) := by decide +kernel
theorem d_Mo_compare_55 : decode b_Mo_compare 55 = .ok (.iload 6, 2) := by decide +kernel
theorem d_Mo_compare_57 : decode b_Mo_compare 57 = .ok (.iconst 4, 1) := by decide +kernel
theorem d_Mo_compare_58 : decode b_Mo_compare 58 = .ok (.iload 5, 2) := by decide +kernel
theorem d_Mo_compare_60 : decode b_Mo_compare 60 = .ok (.imul, 1) := by decide +kernel
theorem d_Mo_compare_61 : decode b_Mo_compare 61 = .ok (.if_icmp .ge 23, 3) := by decide +kernel
theorem d_Mo_compare_64 : decode b_Mo_compare 64 = .ok (.aload_n 0, 1) := by decide +kernel
theorem d_Mo_compare_65 : decode b_Mo_compare 65 = .ok (.getfield 46, 3) := by decide +kernel
theorem d_Mo_compare_68 : decode b_Mo_compare 68 = .ok (.iload 6, 2) := by decide +kernel
theorem d_Mo_compare_70 : decode b_Mo_compare 70 = .ok (.aload_n 0, 1) := by decide +kernel
theorem d_Mo_compare_71 : decode b_Mo_compare 71 = .ok (.getfield 43, 3) := by decide +kernel
theorem d_Mo_compare_74 : decode b_Mo_compare 74 = .ok (.iload 6, 2) := by decide +kernel
theorem d_Mo_compare_76 : decode b_Mo_compare 76 = .ok (.iaload, 1) := by decide +kernel
theorem d_Mo_compare_77 : decode b_Mo_compare 77 = .ok (.iastore, 1) := by decide +kernel
theorem d_Mo_compare_78 : decode b_Mo_compare 78 = .ok (.iinc 6 1, 3) := by decide +kernel
theorem d_Mo_compare_81 : decode b_Mo_compare 81 = .ok (.goto (-26), 3) := by decide +kernel
theorem d_Mo_compare_84 : decode b_Mo_compare 84 = .ok (.aload_n 0, 1) := by decide +kernel
theorem d_Mo_compare_85 : decode b_Mo_compare 85 = .ok (.iload_n 2, 1) := by decide +kernel
theorem d_Mo_compare_86 : decode b_Mo_compare 86 = .ok (.iload 4, 2) := by decide +kernel
theorem d_Mo_compare_88 : decode b_Mo_compare 88 = .ok (.invokevirtual 97, 3) := by decide +kernel
theorem d_Mo_compare_91 : decode b_Mo_compare 91 = .ok (.iconst 0, 1) := by decide +kernel
theorem d_Mo_compare_92 : decode b_Mo_compare 92 = .ok (.istore 6, 2) := by decide +kernel
theorem d_Mo_compare_94 : decode b_Mo_compare 94 = .ok (.iload 6, 2) := by decide +kernel
theorem d_Mo_compare_96 : decode b_Mo_compare 96 = .ok (.iload_n 3, 1) := by decide +kernel
theorem d_Mo_compare_97 : decode b_Mo_compare 97 = .ok (.if_icmp .ge 201, 3) := by decide +kernel
theorem d_Mo_compare_100 : decode b_Mo_compare 100 = .ok (.iload 6, 2) := by decide +kernel
theorem d_Mo_compare_102 : decode b_Mo_compare 102 = .ok (.iconst 3, 1) := by decide +kernel
theorem d_Mo_compare_103 : decode b_Mo_compare 103 = .ok (.if_icmp .lt 8, 3) := by decide +kernel
theorem d_Mo_compare_106 : decode b_Mo_compare 106 = .ok (.iload 4, 2) := by decide +kernel
theorem d_Mo_compare_108 : decode b_Mo_compare 108 = .ok (.ifCond .eq 190, 3) := by decide +kernel
theorem d_Mo_compare_111 : decode b_Mo_compare 111 = .ok (.iconst 0, 1) := by decide +kernel
theorem d_Mo_compare_112 : decode b_Mo_compare 112 = .ok (.istore 7, 2) := by decide +kernel
theorem d_Mo_compare_114 : decode b_Mo_compare 114 = .ok (.iconst 0, 1) := by decide +kernel
theorem d_Mo_compare_115 : decode b_Mo_compare 115 = .ok (.istore 8, 2) := by decide +kernel
theorem d_Mo_compare_117 : decode b_Mo_compare 117 = .ok (.iload 7, 2) := by decide +kernel
theorem d_Mo_compare_119 : decode b_Mo_compare 119 = .ok (.iload 5, 2) := by decide +kernel
theorem d_Mo_compare_121 : decode b_Mo_compare 121 = .ok (.if_icmp .ge 24, 3) := by decide +kernel
theorem d_Mo_compare_124 : decode b_Mo_compare 124 = .ok (.aload_n 0, 1) := by decide +kernel
theorem d_Mo_compare_125 : decode b_Mo_compare 125 = .ok (.getfield 46, 3) := by decide +kernel
theorem d_Mo_compare_128 : decode b_Mo_compare 128 = .ok (.iconst 4, 1) := by decide +kernel
theorem d_Mo_compare_129 : decode b_Mo_compare 129 = .ok (.iload 7, 2) := by decide +kernel
theorem d_Mo_compare_131 : decode b_Mo_compare 131 = .ok (.imul, 1) := by decide +kernel
theorem d_Mo_compare_132 : decode b_Mo_compare 132 = .ok (.iload 6, 2) := by decide +kernel
theorem d_Mo_compare_134 : decode b_Mo_compare 134 = .ok (.iadd, 1) := by decide +kernel
theorem d_Mo_compare_135 : decode b_Mo_compare 135 = .ok (.iaload, 1) := by decide +kernel
theorem d_Mo_compare_136 : decode b_Mo_compare 136 = .ok (.ifCond .ne 9, 3) := by decide +kernel
theorem d_Mo_compare_139 : decode b_Mo_compare 139 = .ok (.iinc 7 1, 3) := by decide +kernel
theorem d_Mo_compare_142 : decode b_Mo_compare 142 = .ok (.goto (-25), 3) := by decide +kernel
theorem d_Mo_compare_145 : decode b_Mo_compare 145 = .ok (.iload 8, 2) := by decide +kernel
theorem d_Mo_compare_147 : decode b_Mo_compare 147 = .ok (.aload_n 0, 1) := by decide +kernel
theorem d_Mo_compare_148 : decode b_Mo_compare 148 = .ok (.getfield 75, 3) := by decide +kernel
theorem d_Mo_compare_151 : decode b_Mo_compare 151 = .ok (.if_icmp .ge 24, 3) := by decide +kernel
theorem d_Mo_compare_154 : decode b_Mo_compare 154 = .ok (.aload_n 0, 1) := by decide +kernel
theorem d_Mo_compare_155 : decode b_Mo_compare 155 = .ok (.getfield 43, 3) := by decide +kernel
theorem d_Mo_compare_158 : decode b_Mo_compare 158 = .ok (.iconst 4, 1) := by decide +kernel
theorem d_Mo_compare_159 : decode b_Mo_compare 159 = .ok (.iload 8, 2) := by decide +kernel
theorem d_Mo_compare_161 : decode b_Mo_compare 161 = .ok (.imul, 1) := by decide +kernel
theorem d_Mo_compare_162 : decode b_Mo_compare 162 = .ok (.iload 6, 2) := by decide +kernel
theorem d_Mo_compare_164 : decode b_Mo_compare 164 = .ok (.iadd, 1) := by decide +kernel
theorem d_Mo_compare_165 : decode b_Mo_compare 165 = .ok (.iaload, 1) := by decide +kernel
theorem d_Mo_compare_166 : decode b_Mo_compare 166 = .ok (.ifCond .ne 9, 3) := by decide +kernel
theorem d_Mo_compare_169 : decode b_Mo_compare 169 = .ok (.iinc 8 1, 3) := by decide +kernel
theorem d_Mo_compare_172 : decode b_Mo_compare 172 = .ok (.goto (-27), 3) := by decide +kernel
theorem d_Mo_compare_175 : decode b_Mo_compare 175 = .ok (.iload 7, 2) := by decide +kernel
theorem d_Mo_compare_177 : decode b_Mo_compare 177 = .ok (.iload 5, 2) := by decide +kernel
theorem d_Mo_compare_179 : decode b_Mo_compare 179 = .ok (.if_icmp .eq 84, 3) := by decide +kernel
theorem d_Mo_compare_182 : decode b_Mo_compare 182 = .ok (.iload 8, 2) := by decide +kernel
theorem d_Mo_compare_184 : decode b_Mo_compare 184 = .ok (.aload_n 0, 1) := by decide +kernel
theorem d_Mo_compare_185 : decode b_Mo_compare 185 = .ok (.getfield 75, 3) := by decide +kernel
theorem d_Mo_compare_188 : decode b_Mo_compare 188 = .ok (.if_icmp .ne 6, 3) := by decide +kernel
theorem d_Mo_compare_191 : decode b_Mo_compare 191 = .ok (.goto 72, 3) := by decide +kernel
theorem d_Mo_compare_194 : decode b_Mo_compare 194 = .ok (.aload_n 0, 1) := by decide +kernel
theorem d_Mo_compare_195 : decode b_Mo_compare 195 = .ok (.getfield 46, 3) := by decide +kernel
theorem d_Mo_compare_198 : decode b_Mo_compare 198 = .ok (.iconst 4, 1) := by decide +kernel
theorem d_Mo_compare_199 : decode b_Mo_compare 199 = .ok (.iload 7, 2) := by decide +kernel
theorem d_Mo_compare_201 : decode b_Mo_compare 201 = .ok (.imul, 1) := by decide +kernel
theorem d_Mo_compare_202 : decode b_Mo_compare 202 = .ok (.iload 6, 2) := by decide +kernel
theorem d_Mo_compare_204 : decode b_Mo_compare 204 = .ok (.iadd, 1) := by decide +kernel
theorem d_Mo_compare_205 : decode b_Mo_compare 205 = .ok (.iaload, 1) := by decide +kernel
theorem d_Mo_compare_206 : decode b_Mo_compare 206 = .ok (.aload_n 0, 1) := by decide +kernel
theorem d_Mo_compare_207 : decode b_Mo_compare 207 = .ok (.getfield 43, 3) := by decide +kernel
theorem d_Mo_compare_210 : decode b_Mo_compare 210 = .ok (.iconst 4, 1) := by decide +kernel
theorem d_Mo_compare_211 : decode b_Mo_compare 211 = .ok (.iload 8, 2) := by decide +kernel
theorem d_Mo_compare_213 : decode b_Mo_compare 213 = .ok (.imul, 1) := by decide +kernel
theorem d_Mo_compare_214 : decode b_Mo_compare 214 = .ok (.iload 6, 2) := by decide +kernel
theorem d_Mo_compare_216 : decode b_Mo_compare 216 = .ok (.iadd, 1) := by decide +kernel
theorem d_Mo_compare_217 : decode b_Mo_compare 217 = .ok (.iaload, 1) := by decide +kernel
theorem d_Mo_compare_218 : decode b_Mo_compare 218 = .ok (.if_icmp .eq 36, 3) := by decide +kernel
theorem d_Mo_compare_221 : decode b_Mo_compare 221 = .ok (.aload_n 0, 1) := by decide +kernel
theorem d_Mo_compare_222 : decode b_Mo_compare 222 = .ok (.getfield 46, 3) := by decide +kernel
theorem d_Mo_compare_225 : decode b_Mo_compare 225 = .ok (.iconst 4, 1) := by decide +kernel
theorem d_Mo_compare_226 : decode b_Mo_compare 226 = .ok (.iload 7, 2) := by decide +kernel
theorem d_Mo_compare_228 : decode b_Mo_compare 228 = .ok (.imul, 1) := by decide +kernel
theorem d_Mo_compare_229 : decode b_Mo_compare 229 = .ok (.iload 6, 2) := by decide +kernel
theorem d_Mo_compare_231 : decode b_Mo_compare 231 = .ok (.iadd, 1) := by decide +kernel
theorem d_Mo_compare_232 : decode b_Mo_compare 232 = .ok (.iaload, 1) := by decide +kernel
theorem d_Mo_compare_233 : decode b_Mo_compare 233 = .ok (.aload_n 0, 1) := by decide +kernel
theorem d_Mo_compare_234 : decode b_Mo_compare 234 = .ok (.getfield 43, 3) := by decide +kernel
theorem d_Mo_compare_237 : decode b_Mo_compare 237 = .ok (.iconst 4, 1) := by decide +kernel
theorem d_Mo_compare_238 : decode b_Mo_compare 238 = .ok (.iload 8, 2) := by decide +kernel
theorem d_Mo_compare_240 : decode b_Mo_compare 240 = .ok (.imul, 1) := by decide +kernel
theorem d_Mo_compare_241 : decode b_Mo_compare 241 = .ok (.iload 6, 2) := by decide +kernel
theorem d_Mo_compare_243 : decode b_Mo_compare 243 = .ok (.iadd, 1) := by decide +kernel
theorem d_Mo_compare_244 : decode b_Mo_compare 244 = .ok (.iaload, 1) := by decide +kernel
theorem d_Mo_compare_245 : decode b_Mo_compare 245 = .ok (.if_icmp .ge 7, 3) := by decide +kernel
theorem d_Mo_compare_248 : decode b_Mo_compare 248 = .ok (.iconst (-1), 1) := by decide +kernel
theorem d_Mo_compare_249 : decode b_Mo_compare 249 = .ok (.goto 4, 3) := by decide +kernel
theorem d_Mo_compare_252 : decode b_Mo_compare 252 = .ok (.iconst 1, 1) := by decide +kernel
theorem d_Mo_compare_253 : decode b_Mo_compare 253 = .ok (.ireturn, 1) := by decide +kernel
theorem d_Mo_compare_254 : decode b_Mo_compare 254 = .ok (.iinc 7 1, 3) := by decide +kernel
theorem d_Mo_compare_257 : decode b_Mo_compare 257 = .ok (.iinc 8 1, 3) := by decide +kernel
theorem d_Mo_compare_260 : decode b_Mo_compare 260 = .ok (.goto (-143), 3) := by decide +kernel
theorem d_Mo_compare_263 : decode b_Mo_compare 263 = .ok (.iload 7, 2) := by decide +kernel
theorem d_Mo_compare_265 : decode b_Mo_compare 265 = .ok (.iload 5, 2) := by decide +kernel
theorem d_Mo_compare_267 : decode b_Mo_compare 267 = .ok (.if_icmp .lt 12, 3) := by decide +kernel
theorem d_Mo_compare_270 : decode b_Mo_compare 270 = .ok (.iload 8, 2) := by decide +kernel
theorem d_Mo_compare_272 : decode b_Mo_compare 272 = .ok (.aload_n 0, 1) := by decide +kernel
theorem d_Mo_compare_273 : decode b_Mo_compare 273 = .ok (.getfield 75, 3) := by decide +kernel
theorem d_Mo_compare_276 : decode b_Mo_compare 276 = .ok (.if_icmp .ge 16, 3) := by decide +kernel
theorem d_Mo_compare_279 : decode b_Mo_compare 279 = .ok (.iload 7, 2) := by decide +kernel
theorem d_Mo_compare_281 : decode b_Mo_compare 281 = .ok (.iload 5, 2) := by decide +kernel
theorem d_Mo_compare_283 : decode b_Mo_compare 283 = .ok (.if_icmp .ge 7, 3) := by decide +kernel
theorem d_Mo_compare_286 : decode b_Mo_compare 286 = .ok (.iconst 1, 1) := by decide +kernel
theorem d_Mo_compare_287 : decode b_Mo_compare 287 = .ok (.goto 4, 3) := by decide +kernel
theorem d_Mo_compare_290 : decode b_Mo_compare 290 = .ok (.iconst (-1), 1) := by decide +kernel
theorem d_Mo_compare_291 : decode b_Mo_compare 291 = .ok (.ireturn, 1) := by decide +kernel
theorem d_Mo_compare_292 : decode b_Mo_compare 292 = .ok (.iinc 6 1, 3) := by decide +kernel
theorem d_Mo_compare_295 : decode b_Mo_compare 295 = .ok (.goto (-201), 3) := by decide +kernel
theorem d_Mo_compare_298 : decode b_Mo_compare 298 = .ok (.iconst 0, 1) := by decide +kernel
theorem d_Mo_compare_299 : decode b_Mo_compare 299 = .ok (.ireturn, 1) := by decide +kernel
end
section
/-! each instruction, decoded -/
theorem d_La_order_0 : decode b_La_order 0 = .ok (.aload_n 0, 1) := by decide +kernel
theorem d_La_order_1 : decode b_La_order 1 = .ok (.iload_n 1, 1) := by decide +kernel
theorem d_La_order_2 : decode b_La_order 2 = .ok (.iload_n 2, 1) := by decide +kernel
theorem d_La_order_3 : decode b_La_order 3 = .ok (.invokevirtual 7, 3) := by decide +kernel
theorem d_La_order_6 : decode b_La_order 6 = .ok (.goto 6, 3) := by decide +kernel
theorem d_La_order_9 : decode b_La_order 9 = .ok (.astore_n 3, 1) := by decide +kernel
theorem d_La_order_10 : decode b_La_order 10 = .ok (.iconst 1, 1) := by decide +kernel
theorem d_La_order_11 : decode b_La_order 11 = .ok (.ireturn, 1) := by decide +kernel
theorem d_La_order_12 : decode b_La_order 12 = .ok (.iconst 0, 1) := by decide +kernel
theorem d_La_order_13 : decode b_La_order 13 = .ok (.ireturn, 1) := by decide +kernel
theorem d_La_line_0 : decode b_La_line 0 = .ok (.aload 5, 2) := by decide +kernel
theorem d_La_line_2 : decode b_La_line 2 = .ok (.iconst 0, 1) := by decide +kernel
theorem d_La_line_3 : decode b_La_line 3 = .ok (.aload_n 0, 1) := by decide +kernel
theorem d_La_line_4 : decode b_La_line 4 = .ok (.iload_n 1, 1) := by decide +kernel
theorem d_La_line_5 : decode b_La_line 5 = .ok (.iload_n 2, 1) := by decide +kernel
theorem d_La_line_6 : decode b_La_line 6 = .ok (.iload_n 3, 1) := by decide +kernel
theorem d_La_line_7 : decode b_La_line 7 = .ok (.iload 4, 2) := by decide +kernel
theorem d_La_line_9 : decode b_La_line 9 = .ok (.invokevirtual 15, 3) := by decide +kernel
theorem d_La_line_12 : decode b_La_line 12 = .ok (.i2l, 1) := by decide +kernel
theorem d_La_line_13 : decode b_La_line 13 = .ok (.lastore, 1) := by decide +kernel
theorem d_La_line_14 : decode b_La_line 14 = .ok (.goto 11, 3) := by decide +kernel
theorem d_La_line_17 : decode b_La_line 17 = .ok (.astore 6, 2) := by decide +kernel
theorem d_La_line_19 : decode b_La_line 19 = .ok (.iconst 1, 1) := by decide +kernel
theorem d_La_line_20 : decode b_La_line 20 = .ok (.ireturn, 1) := by decide +kernel
theorem d_La_line_21 : decode b_La_line 21 = .ok (.astore 6, 2) := by decide +kernel
theorem d_La_line_23 : decode b_La_line 23 = .ok (.iconst 2, 1) := by decide +kernel
theorem d_La_line_24 : decode b_La_line 24 = .ok (.ireturn, 1) := by decide +kernel
theorem d_La_line_25 : decode b_La_line 25 = .ok (.iconst 0, 1) := by decide +kernel
theorem d_La_line_26 : decode b_La_line 26 = .ok (.ireturn, 1) := by decide +kernel
theorem d_La_element_0 : decode b_La_element 0 = .ok (.aload 5, 2) := by decide +kernel
theorem d_La_element_2 : decode b_La_element 2 = .ok (.iconst 0, 1) := by decide +kernel
theorem d_La_element_3 : decode b_La_element 3 = .ok (.aload_n 0, 1) := by decide +kernel
theorem d_La_element_4 : decode b_La_element 4 = .ok (.iload_n 1, 1) := by decide +kernel
theorem d_La_element_5 : decode b_La_element 5 = .ok (.iload_n 2, 1) := by decide +kernel
theorem d_La_element_6 : decode b_La_element 6 = .ok (.iload_n 3, 1) := by decide +kernel
theorem d_La_element_7 : decode b_La_element 7 = .ok (.iload 4, 2) := by decide +kernel
theorem d_La_element_9 : decode b_La_element 9 = .ok (.invokevirtual 21, 3) := by decide +kernel
theorem d_La_element_12 : decode b_La_element 12 = .ok (.i2l, 1) := by decide +kernel
theorem d_La_element_13 : decode b_La_element 13 = .ok (.lastore, 1) := by decide +kernel
theorem d_La_element_14 : decode b_La_element 14 = .ok (.goto 11, 3) := by decide +kernel
theorem d_La_element_17 : decode b_La_element 17 = .ok (.astore 6, 2) := by decide +kernel
theorem d_La_element_19 : decode b_La_element 19 = .ok (.iconst 1, 1) := by decide +kernel
theorem d_La_element_20 : decode b_La_element 20 = .ok (.ireturn, 1) := by decide +kernel
theorem d_La_element_21 : decode b_La_element 21 = .ok (.astore 6, 2) := by decide +kernel
theorem d_La_element_23 : decode b_La_element 23 = .ok (.iconst 2, 1) := by decide +kernel
theorem d_La_element_24 : decode b_La_element 24 = .ok (.ireturn, 1) := by decide +kernel
theorem d_La_element_25 : decode b_La_element 25 = .ok (.iconst 0, 1) := by decide +kernel
theorem d_La_element_26 : decode b_La_element 26 = .ok (.ireturn, 1) := by decide +kernel
theorem d_La_add_0 : decode b_La_add 0 = .ok (.aload_n 3, 1) := by decide +kernel
theorem d_La_add_1 : decode b_La_add 1 = .ok (.iconst 0, 1) := by decide +kernel
theorem d_La_add_2 : decode b_La_add 2 = .ok (.aload_n 0, 1) := by decide +kernel
theorem d_La_add_3 : decode b_La_add 3 = .ok (.iload_n 1, 1) := by decide +kernel
theorem d_La_add_4 : decode b_La_add 4 = .ok (.iload_n 2, 1) := by decide +kernel
theorem d_La_add_5 : decode b_La_add 5 = .ok (.invokevirtual 25, 3) := by decide +kernel
theorem d_La_add_8 : decode b_La_add 8 = .ok (.i2l, 1) := by decide +kernel
theorem d_La_add_9 : decode b_La_add 9 = .ok (.lastore, 1) := by decide +kernel
theorem d_La_add_10 : decode b_La_add 10 = .ok (.goto 11, 3) := by decide +kernel
theorem d_La_add_13 : decode b_La_add 13 = .ok (.astore 4, 2) := by decide +kernel
theorem d_La_add_15 : decode b_La_add 15 = .ok (.iconst 1, 1) := by decide +kernel
theorem d_La_add_16 : decode b_La_add 16 = .ok (.ireturn, 1) := by decide +kernel
theorem d_La_add_17 : decode b_La_add 17 = .ok (.astore 4, 2) := by decide +kernel
theorem d_La_add_19 : decode b_La_add 19 = .ok (.iconst 2, 1) := by decide +kernel
theorem d_La_add_20 : decode b_La_add 20 = .ok (.ireturn, 1) := by decide +kernel
theorem d_La_add_21 : decode b_La_add 21 = .ok (.iconst 0, 1) := by decide +kernel
theorem d_La_add_22 : decode b_La_add 22 = .ok (.ireturn, 1) := by decide +kernel
theorem d_La_clear_0 : decode b_La_clear 0 = .ok (.aload_n 2, 1) := by decide +kernel
theorem d_La_clear_1 : decode b_La_clear 1 = .ok (.iconst 0, 1) := by decide +kernel
theorem d_La_clear_2 : decode b_La_clear 2 = .ok (.aload_n 0, 1) := by decide +kernel
theorem d_La_clear_3 : decode b_La_clear 3 = .ok (.iload_n 1, 1) := by decide +kernel
theorem d_La_clear_4 : decode b_La_clear 4 = .ok (.invokevirtual 29, 3) := by decide +kernel
theorem d_La_clear_7 : decode b_La_clear 7 = .ok (.i2l, 1) := by decide +kernel
theorem d_La_clear_8 : decode b_La_clear 8 = .ok (.lastore, 1) := by decide +kernel
theorem d_La_clear_9 : decode b_La_clear 9 = .ok (.goto 6, 3) := by decide +kernel
theorem d_La_clear_12 : decode b_La_clear 12 = .ok (.astore_n 3, 1) := by decide +kernel
theorem d_La_clear_13 : decode b_La_clear 13 = .ok (.iconst 1, 1) := by decide +kernel
theorem d_La_clear_14 : decode b_La_clear 14 = .ok (.ireturn, 1) := by decide +kernel
theorem d_La_clear_15 : decode b_La_clear 15 = .ok (.iconst 0, 1) := by decide +kernel
theorem d_La_clear_16 : decode b_La_clear 16 = .ok (.ireturn, 1) := by decide +kernel
theorem d_La_count_0 : decode b_La_count 0 = .ok (.aload_n 3, 1) := by decide +kernel
theorem d_La_count_1 : decode b_La_count 1 = .ok (.iconst 0, 1) := by decide +kernel
theorem d_La_count_2 : decode b_La_count 2 = .ok (.aload_n 0, 1) := by decide +kernel
theorem d_La_count_3 : decode b_La_count 3 = .ok (.iload_n 1, 1) := by decide +kernel
theorem d_La_count_4 : decode b_La_count 4 = .ok (.iload_n 2, 1) := by decide +kernel
theorem d_La_count_5 : decode b_La_count 5 = .ok (.invokevirtual 33, 3) := by decide +kernel
theorem d_La_count_8 : decode b_La_count 8 = .ok (.i2l, 1) := by decide +kernel
theorem d_La_count_9 : decode b_La_count 9 = .ok (.lastore, 1) := by decide +kernel
theorem d_La_count_10 : decode b_La_count 10 = .ok (.goto 7, 3) := by decide +kernel
theorem d_La_count_13 : decode b_La_count 13 = .ok (.astore 4, 2) := by decide +kernel
theorem d_La_count_15 : decode b_La_count 15 = .ok (.iconst 1, 1) := by decide +kernel
theorem d_La_count_16 : decode b_La_count 16 = .ok (.ireturn, 1) := by decide +kernel
theorem d_La_count_17 : decode b_La_count 17 = .ok (.iconst 0, 1) := by decide +kernel
theorem d_La_count_18 : decode b_La_count 18 = .ok (.ireturn, 1) := by decide +kernel
theorem d_La_weight_0 : decode b_La_weight 0 = .ok (.aload 5, 2) := by decide +kernel
theorem d_La_weight_2 : decode b_La_weight 2 = .ok (.iconst 0, 1) := by decide +kernel
theorem d_La_weight_3 : decode b_La_weight 3 = .ok (.aload_n 0, 1) := by decide +kernel
theorem d_La_weight_4 : decode b_La_weight 4 = .ok (.iload_n 1, 1) := by decide +kernel
theorem d_La_weight_5 : decode b_La_weight 5 = .ok (.iload_n 2, 1) := by decide +kernel
theorem d_La_weight_6 : decode b_La_weight 6 = .ok (.iload_n 3, 1) := by decide +kernel
theorem d_La_weight_7 : decode b_La_weight 7 = .ok (.iload 4, 2) := by decide +kernel
theorem d_La_weight_9 : decode b_La_weight 9 = .ok (.invokevirtual 37, 3) := by decide +kernel
theorem d_La_weight_12 : decode b_La_weight 12 = .ok (.i2l, 1) := by decide +kernel
theorem d_La_weight_13 : decode b_La_weight 13 = .ok (.lastore, 1) := by decide +kernel
theorem d_La_weight_14 : decode b_La_weight 14 = .ok (.goto 7, 3) := by decide +kernel
theorem d_La_weight_17 : decode b_La_weight 17 = .ok (.astore 6, 2) := by decide +kernel
theorem d_La_weight_19 : decode b_La_weight 19 = .ok (.iconst 1, 1) := by decide +kernel
theorem d_La_weight_20 : decode b_La_weight 20 = .ok (.ireturn, 1) := by decide +kernel
theorem d_La_weight_21 : decode b_La_weight 21 = .ok (.iconst 0, 1) := by decide +kernel
theorem d_La_weight_22 : decode b_La_weight 22 = .ok (.ireturn, 1) := by decide +kernel
theorem d_La_compare_0 : decode b_La_compare 0 = .ok (.aload 5, 2) := by decide +kernel
theorem d_La_compare_2 : decode b_La_compare 2 = .ok (.iconst 0, 1) := by decide +kernel
theorem d_La_compare_3 : decode b_La_compare 3 = .ok (.aload_n 0, 1) := by decide +kernel
theorem d_La_compare_4 : decode b_La_compare 4 = .ok (.iload_n 1, 1) := by decide +kernel
theorem d_La_compare_5 : decode b_La_compare 5 = .ok (.iload_n 2, 1) := by decide +kernel
theorem d_La_compare_6 : decode b_La_compare 6 = .ok (.iload_n 3, 1) := by decide +kernel
theorem d_La_compare_7 : decode b_La_compare 7 = .ok (.iload 4, 2) := by decide +kernel
theorem d_La_compare_9 : decode b_La_compare 9 = .ok (.invokevirtual 41, 3) := by decide +kernel
theorem d_La_compare_12 : decode b_La_compare 12 = .ok (.i2l, 1) := by decide +kernel
theorem d_La_compare_13 : decode b_La_compare 13 = .ok (.lastore, 1) := by decide +kernel
theorem d_La_compare_14 : decode b_La_compare 14 = .ok (.goto 7, 3) := by decide +kernel
theorem d_La_compare_17 : decode b_La_compare 17 = .ok (.astore 6, 2) := by decide +kernel
theorem d_La_compare_19 : decode b_La_compare 19 = .ok (.iconst 1, 1) := by decide +kernel
theorem d_La_compare_20 : decode b_La_compare 20 = .ok (.ireturn, 1) := by decide +kernel
theorem d_La_compare_21 : decode b_La_compare 21 = .ok (.iconst 0, 1) := by decide +kernel
theorem d_La_compare_22 : decode b_La_compare 22 = .ok (.ireturn, 1) := by decide +kernel
theorem d_La_law_0 : decode code 0 = .ok (.new 8, 3) := by decide +kernel
theorem d_La_law_3 : decode code 3 = .ok (.dup, 1) := by decide +kernel
theorem d_La_law_4 : decode code 4 = .ok (.invokespecial 44, 3) := by decide +kernel
theorem d_La_law_7 : decode code 7 = .ok (.astore_n 1, 1) := by decide +kernel
theorem d_La_law_8 : decode code 8 = .ok (.new 45, 3) := by decide +kernel
theorem d_La_law_11 : decode code 11 = .ok (.dup, 1) := by decide +kernel
theorem d_La_law_12 : decode code 12 = .ok (.invokespecial 47, 3) := by decide +kernel
theorem d_La_law_15 : decode code 15 = .ok (.astore_n 2, 1) := by decide +kernel
theorem d_La_law_16 : decode code 16 = .ok (.iconst 1, 1) := by decide +kernel
theorem d_La_law_17 : decode code 17 = .ok (.newarray .long, 2) := by decide +kernel
theorem d_La_law_19 : decode code 19 = .ok (.astore_n 3, 1) := by decide +kernel
theorem d_La_law_20 : decode code 20 = .ok (.iconst 0, 1) := by decide +kernel
theorem d_La_law_21 : decode code 21 = .ok (.istore 4, 2) := by decide +kernel
theorem d_La_law_23 : decode code 23 = .ok (.iload 4, 2) := by decide +kernel
theorem d_La_law_25 : decode code 25 = .ok (.aload_n 0, 1) := by decide +kernel
theorem d_La_law_26 : decode code 26 = .ok (.arraylength, 1) := by decide +kernel
theorem d_La_law_27 : decode code 27 = .ok (.iconst 5, 1) := by decide +kernel
theorem d_La_law_28 : decode code 28 = .ok (.isub, 1) := by decide +kernel
theorem d_La_law_29 : decode code 29 = .ok (.if_icmp .gt 733, 3) := by decide +kernel
theorem d_La_law_32 : decode code 32 = .ok (.aload_n 0, 1) := by decide +kernel
theorem d_La_law_33 : decode code 33 = .ok (.iload 4, 2) := by decide +kernel
theorem d_La_law_35 : decode code 35 = .ok (.iaload, 1) := by decide +kernel
theorem d_La_law_36 : decode code 36 = .ok (.bipush 7, 2) := by decide +kernel
theorem d_La_law_38 : decode code 38 = .ok (.iand, 1) := by decide +kernel
theorem d_La_law_39 : decode code 39 = .ok (.tableswitch 717 0 7 #[45, 93, 185, 293, 361, 417, 501, 609], 45) := by decide +kernel
theorem d_La_law_84 : decode code 84 = .ok (.aload_n 1, 1) := by decide +kernel
theorem d_La_law_85 : decode code 85 = .ok (.aload_n 0, 1) := by decide +kernel
theorem d_La_law_86 : decode code 86 = .ok (.iload 4, 2) := by decide +kernel
theorem d_La_law_88 : decode code 88 = .ok (.iconst 1, 1) := by decide +kernel
theorem d_La_law_89 : decode code 89 = .ok (.iadd, 1) := by decide +kernel
theorem d_La_law_90 : decode code 90 = .ok (.iaload, 1) := by decide +kernel
theorem d_La_law_91 : decode code 91 = .ok (.aload_n 0, 1) := by decide +kernel
theorem d_La_law_92 : decode code 92 = .ok (.iload 4, 2) := by decide +kernel
theorem d_La_law_94 : decode code 94 = .ok (.iconst 2, 1) := by decide +kernel
theorem d_La_law_95 : decode code 95 = .ok (.iadd, 1) := by decide +kernel
theorem d_La_law_96 : decode code 96 = .ok (.iaload, 1) := by decide +kernel
theorem d_La_law_97 : decode code 97 = .ok (.invokestatic 48, 3) := by decide +kernel
theorem d_La_law_100 : decode code 100 = .ok (.istore 5, 2) := by decide +kernel
theorem d_La_law_102 : decode code 102 = .ok (.aload_n 2, 1) := by decide +kernel
theorem d_La_law_103 : decode code 103 = .ok (.aload_n 0, 1) := by decide +kernel
theorem d_La_law_104 : decode code 104 = .ok (.iload 4, 2) := by decide +kernel
theorem d_La_law_106 : decode code 106 = .ok (.iconst 1, 1) := by decide +kernel
theorem d_La_law_107 : decode code 107 = .ok (.iadd, 1) := by decide +kernel
theorem d_La_law_108 : decode code 108 = .ok (.iaload, 1) := by decide +kernel
theorem d_La_law_109 : decode code 109 = .ok (.aload_n 0, 1) := by decide +kernel
theorem d_La_law_110 : decode code 110 = .ok (.iload 4, 2) := by decide +kernel
theorem d_La_law_112 : decode code 112 = .ok (.iconst 2, 1) := by decide +kernel
theorem d_La_law_113 : decode code 113 = .ok (.iadd, 1) := by decide +kernel
theorem d_La_law_114 : decode code 114 = .ok (.iaload, 1) := by decide +kernel
theorem d_La_law_115 : decode code 115 = .ok (.invokevirtual 53, 3) := by decide +kernel
theorem d_La_law_118 : decode code 118 = .ok (.aload_n 2, 1) := by decide +kernel
theorem d_La_law_119 : decode code 119 = .ok (.invokevirtual 54, 3) := by decide +kernel
theorem d_La_law_122 : decode code 122 = .ok (.iload 5, 2) := by decide +kernel
theorem d_La_law_124 : decode code 124 = .ok (.if_icmp .eq 5, 3) := by decide +kernel
theorem d_La_law_127 : decode code 127 = .ok (.iconst 0, 1) := by decide +kernel
theorem d_La_law_128 : decode code 128 = .ok (.ireturn, 1) := by decide +kernel
theorem d_La_law_129 : decode code 129 = .ok (.goto 627, 3) := by decide +kernel
theorem d_La_law_132 : decode code 132 = .ok (.aload_n 1, 1) := by decide +kernel
theorem d_La_law_133 : decode code 133 = .ok (.aload_n 0, 1) := by decide +kernel
theorem d_La_law_134 : decode code 134 = .ok (.iload 4, 2) := by decide +kernel
theorem d_La_law_136 : decode code 136 = .ok (.iconst 1, 1) := by decide +kernel
theorem d_La_law_137 : decode code 137 = .ok (.iadd, 1) := by decide +kernel
theorem d_La_law_138 : decode code 138 = .ok (.iaload, 1) := by decide +kernel
theorem d_La_law_139 : decode code 139 = .ok (.aload_n 0, 1) := by decide +kernel
theorem d_La_law_140 : decode code 140 = .ok (.iload 4, 2) := by decide +kernel
theorem d_La_law_142 : decode code 142 = .ok (.iconst 2, 1) := by decide +kernel
theorem d_La_law_143 : decode code 143 = .ok (.iadd, 1) := by decide +kernel
theorem d_La_law_144 : decode code 144 = .ok (.iaload, 1) := by decide +kernel
theorem d_La_law_145 : decode code 145 = .ok (.aload_n 0, 1) := by decide +kernel
theorem d_La_law_146 : decode code 146 = .ok (.iload 4, 2) := by decide +kernel
theorem d_La_law_148 : decode code 148 = .ok (.iconst 3, 1) := by decide +kernel
theorem d_La_law_149 : decode code 149 = .ok (.iadd, 1) := by decide +kernel
theorem d_La_law_150 : decode code 150 = .ok (.iaload, 1) := by decide +kernel
theorem d_La_law_151 : decode code 151 = .ok (.aload_n 0, 1) := by decide +kernel
theorem d_La_law_152 : decode code 152 = .ok (.iload 4, 2) := by decide +kernel
theorem d_La_law_154 : decode code 154 = .ok (.iconst 4, 1) := by decide +kernel
theorem d_La_law_155 : decode code 155 = .ok (.iadd, 1) := by decide +kernel
theorem d_La_law_156 : decode code 156 = .ok (.iaload, 1) := by decide +kernel
theorem d_La_law_157 : decode code 157 = .ok (.aload_n 3, 1) := by decide +kernel
theorem d_La_law_158 : decode code 158 = .ok (.invokestatic 58, 3) := by decide +kernel
theorem d_La_law_161 : decode code 161 = .ok (.istore 5, 2) := by decide +kernel
theorem d_La_law_163 : decode code 163 = .ok (.aload_n 2, 1) := by decide +kernel
theorem d_La_law_164 : decode code 164 = .ok (.aload_n 0, 1) := by decide +kernel
theorem d_La_law_165 : decode code 165 = .ok (.iload 4, 2) := by decide +kernel
theorem d_La_law_167 : decode code 167 = .ok (.iconst 1, 1) := by decide +kernel
theorem d_La_law_168 : decode code 168 = .ok (.iadd, 1) := by decide +kernel
theorem d_La_law_169 : decode code 169 = .ok (.iaload, 1) := by decide +kernel
theorem d_La_law_170 : decode code 170 = .ok (.aload_n 0, 1) := by decide +kernel
theorem d_La_law_171 : decode code 171 = .ok (.iload 4, 2) := by decide +kernel
theorem d_La_law_173 : decode code 173 = .ok (.iconst 2, 1) := by decide +kernel
theorem d_La_law_174 : decode code 174 = .ok (.iadd, 1) := by decide +kernel
theorem d_La_law_175 : decode code 175 = .ok (.iaload, 1) := by decide +kernel
theorem d_La_law_176 : decode code 176 = .ok (.aload_n 0, 1) := by decide +kernel
theorem d_La_law_177 : decode code 177 = .ok (.iload 4, 2) := by decide +kernel
theorem d_La_law_179 : decode code 179 = .ok (.iconst 3, 1) := by decide +kernel
theorem d_La_law_180 : decode code 180 = .ok (.iadd, 1) := by decide +kernel
theorem d_La_law_181 : decode code 181 = .ok (.iaload, 1) := by decide +kernel
theorem d_La_law_182 : decode code 182 = .ok (.aload_n 0, 1) := by decide +kernel
theorem d_La_law_183 : decode code 183 = .ok (.iload 4, 2) := by decide +kernel
theorem d_La_law_185 : decode code 185 = .ok (.iconst 4, 1) := by decide +kernel
theorem d_La_law_186 : decode code 186 = .ok (.iadd, 1) := by decide +kernel
theorem d_La_law_187 : decode code 187 = .ok (.iaload, 1) := by decide +kernel
theorem d_La_law_188 : decode code 188 = .ok (.invokevirtual 61, 3) := by decide +kernel
theorem d_La_law_191 : decode code 191 = .ok (.istore 6, 2) := by decide +kernel
theorem d_La_law_193 : decode code 193 = .ok (.aload_n 2, 1) := by decide +kernel
theorem d_La_law_194 : decode code 194 = .ok (.invokevirtual 54, 3) := by decide +kernel
theorem d_La_law_197 : decode code 197 = .ok (.iload 5, 2) := by decide +kernel
theorem d_La_law_199 : decode code 199 = .ok (.if_icmp .eq 5, 3) := by decide +kernel
theorem d_La_law_202 : decode code 202 = .ok (.iconst 0, 1) := by decide +kernel
theorem d_La_law_203 : decode code 203 = .ok (.ireturn, 1) := by decide +kernel
theorem d_La_law_204 : decode code 204 = .ok (.iload 5, 2) := by decide +kernel
theorem d_La_law_206 : decode code 206 = .ok (.ifCond .ne 15, 3) := by decide +kernel
theorem d_La_law_209 : decode code 209 = .ok (.aload_n 3, 1) := by decide +kernel
theorem d_La_law_210 : decode code 210 = .ok (.iconst 0, 1) := by decide +kernel
theorem d_La_law_211 : decode code 211 = .ok (.laload, 1) := by decide +kernel
theorem d_La_law_212 : decode code 212 = .ok (.iload 6, 2) := by decide +kernel
theorem d_La_law_214 : decode code 214 = .ok (.i2l, 1) := by decide +kernel
theorem d_La_law_215 : decode code 215 = .ok (.lcmp, 1) := by decide +kernel
theorem d_La_law_216 : decode code 216 = .ok (.ifCond .eq 5, 3) := by decide +kernel
theorem d_La_law_219 : decode code 219 = .ok (.iconst 0, 1) := by decide +kernel
theorem d_La_law_220 : decode code 220 = .ok (.ireturn, 1) := by decide +kernel
theorem d_La_law_221 : decode code 221 = .ok (.goto 535, 3) := by decide +kernel
theorem d_La_law_224 : decode code 224 = .ok (.aload_n 1, 1) := by decide +kernel
theorem d_La_law_225 : decode code 225 = .ok (.aload_n 0, 1) := by decide +kernel
theorem d_La_law_226 : decode code 226 = .ok (.iload 4, 2) := by decide +kernel
theorem d_La_law_228 : decode code 228 = .ok (.iconst 1, 1) := by decide +kernel
theorem d_La_law_229 : decode code 229 = .ok (.iadd, 1) := by decide +kernel
theorem d_La_law_230 : decode code 230 = .ok (.iaload, 1) := by decide +kernel
theorem d_La_law_231 : decode code 231 = .ok (.aload_n 0, 1) := by decide +kernel
theorem d_La_law_232 : decode code 232 = .ok (.iload 4, 2) := by decide +kernel
theorem d_La_law_234 : decode code 234 = .ok (.iconst 2, 1) := by decide +kernel
theorem d_La_law_235 : decode code 235 = .ok (.iadd, 1) := by decide +kernel
theorem d_La_law_236 : decode code 236 = .ok (.iaload, 1) := by decide +kernel
theorem d_La_law_237 : decode code 237 = .ok (.aload_n 0, 1) := by decide +kernel
theorem d_La_law_238 : decode code 238 = .ok (.iload 4, 2) := by decide +kernel
theorem d_La_law_240 : decode code 240 = .ok (.iconst 3, 1) := by decide +kernel
theorem d_La_law_241 : decode code 241 = .ok (.iadd, 1) := by decide +kernel
theorem d_La_law_242 : decode code 242 = .ok (.iaload, 1) := by decide +kernel
theorem d_La_law_243 : decode code 243 = .ok (.aload_n 0, 1) := by decide +kernel
theorem d_La_law_244 : decode code 244 = .ok (.iload 4, 2) := by decide +kernel
theorem d_La_law_246 : decode code 246 = .ok (.iconst 4, 1) := by decide +kernel
theorem d_La_law_247 : decode code 247 = .ok (.iadd, 1) := by decide +kernel
theorem d_La_law_248 : decode code 248 = .ok (.iaload, 1) := by decide +kernel
theorem d_La_law_249 : decode code 249 = .ok (.ifCond .eq 7, 3) := by decide +kernel
theorem d_La_law_252 : decode code 252 = .ok (.iconst 1, 1) := by decide +kernel
theorem d_La_law_253 : decode code 253 = .ok (.goto 4, 3) := by decide +kernel
theorem d_La_law_256 : decode code 256 = .ok (.iconst 0, 1) := by decide +kernel
theorem d_La_law_257 : decode code 257 = .ok (.aload_n 3, 1) := by decide +kernel
theorem d_La_law_258 : decode code 258 = .ok (.invokestatic 62, 3) := by decide +kernel
theorem d_La_law_261 : decode code 261 = .ok (.istore 5, 2) := by decide +kernel
theorem d_La_law_263 : decode code 263 = .ok (.aload_n 2, 1) := by decide +kernel
theorem d_La_law_264 : decode code 264 = .ok (.aload_n 0, 1) := by decide +kernel
theorem d_La_law_265 : decode code 265 = .ok (.iload 4, 2) := by decide +kernel
theorem d_La_law_267 : decode code 267 = .ok (.iconst 1, 1) := by decide +kernel
theorem d_La_law_268 : decode code 268 = .ok (.iadd, 1) := by decide +kernel
theorem d_La_law_269 : decode code 269 = .ok (.iaload, 1) := by decide +kernel
theorem d_La_law_270 : decode code 270 = .ok (.aload_n 0, 1) := by decide +kernel
theorem d_La_law_271 : decode code 271 = .ok (.iload 4, 2) := by decide +kernel
theorem d_La_law_273 : decode code 273 = .ok (.iconst 2, 1) := by decide +kernel
theorem d_La_law_274 : decode code 274 = .ok (.iadd, 1) := by decide +kernel
theorem d_La_law_275 : decode code 275 = .ok (.iaload, 1) := by decide +kernel
theorem d_La_law_276 : decode code 276 = .ok (.aload_n 0, 1) := by decide +kernel
theorem d_La_law_277 : decode code 277 = .ok (.iload 4, 2) := by decide +kernel
theorem d_La_law_279 : decode code 279 = .ok (.iconst 3, 1) := by decide +kernel
theorem d_La_law_280 : decode code 280 = .ok (.iadd, 1) := by decide +kernel
theorem d_La_law_281 : decode code 281 = .ok (.iaload, 1) := by decide +kernel
theorem d_La_law_282 : decode code 282 = .ok (.aload_n 0, 1) := by decide +kernel
theorem d_La_law_283 : decode code 283 = .ok (.iload 4, 2) := by decide +kernel
theorem d_La_law_285 : decode code 285 = .ok (.iconst 4, 1) := by decide +kernel
theorem d_La_law_286 : decode code 286 = .ok (.iadd, 1) := by decide +kernel
theorem d_La_law_287 : decode code 287 = .ok (.iaload, 1) := by decide +kernel
theorem d_La_law_288 : decode code 288 = .ok (.ifCond .eq 7, 3) := by decide +kernel
theorem d_La_law_291 : decode code 291 = .ok (.iconst 1, 1) := by decide +kernel
theorem d_La_law_292 : decode code 292 = .ok (.goto 4, 3) := by decide +kernel
theorem d_La_law_295 : decode code 295 = .ok (.iconst 0, 1) := by decide +kernel
theorem d_La_law_296 : decode code 296 = .ok (.invokevirtual 65, 3) := by decide +kernel
theorem d_La_law_299 : decode code 299 = .ok (.istore 6, 2) := by decide +kernel
theorem d_La_law_301 : decode code 301 = .ok (.aload_n 2, 1) := by decide +kernel
theorem d_La_law_302 : decode code 302 = .ok (.invokevirtual 54, 3) := by decide +kernel
theorem d_La_law_305 : decode code 305 = .ok (.iload 5, 2) := by decide +kernel
theorem d_La_law_307 : decode code 307 = .ok (.if_icmp .eq 5, 3) := by decide +kernel
theorem d_La_law_310 : decode code 310 = .ok (.iconst 0, 1) := by decide +kernel
theorem d_La_law_311 : decode code 311 = .ok (.ireturn, 1) := by decide +kernel
theorem d_La_law_312 : decode code 312 = .ok (.iload 5, 2) := by decide +kernel
theorem d_La_law_314 : decode code 314 = .ok (.ifCond .ne 15, 3) := by decide +kernel
theorem d_La_law_317 : decode code 317 = .ok (.aload_n 3, 1) := by decide +kernel
theorem d_La_law_318 : decode code 318 = .ok (.iconst 0, 1) := by decide +kernel
theorem d_La_law_319 : decode code 319 = .ok (.laload, 1) := by decide +kernel
theorem d_La_law_320 : decode code 320 = .ok (.iload 6, 2) := by decide +kernel
theorem d_La_law_322 : decode code 322 = .ok (.i2l, 1) := by decide +kernel
theorem d_La_law_323 : decode code 323 = .ok (.lcmp, 1) := by decide +kernel
theorem d_La_law_324 : decode code 324 = .ok (.ifCond .eq 5, 3) := by decide +kernel
theorem d_La_law_327 : decode code 327 = .ok (.iconst 0, 1) := by decide +kernel
theorem d_La_law_328 : decode code 328 = .ok (.ireturn, 1) := by decide +kernel
theorem d_La_law_329 : decode code 329 = .ok (.goto 427, 3) := by decide +kernel
theorem d_La_law_332 : decode code 332 = .ok (.aload_n 1, 1) := by decide +kernel
theorem d_La_law_333 : decode code 333 = .ok (.aload_n 0, 1) := by decide +kernel
theorem d_La_law_334 : decode code 334 = .ok (.iload 4, 2) := by decide +kernel
theorem d_La_law_336 : decode code 336 = .ok (.iconst 1, 1) := by decide +kernel
theorem d_La_law_337 : decode code 337 = .ok (.iadd, 1) := by decide +kernel
theorem d_La_law_338 : decode code 338 = .ok (.iaload, 1) := by decide +kernel
theorem d_La_law_339 : decode code 339 = .ok (.aload_n 0, 1) := by decide +kernel
theorem d_La_law_340 : decode code 340 = .ok (.iload 4, 2) := by decide +kernel
theorem d_La_law_342 : decode code 342 = .ok (.iconst 2, 1) := by decide +kernel
theorem d_La_law_343 : decode code 343 = .ok (.iadd, 1) := by decide +kernel
theorem d_La_law_344 : decode code 344 = .ok (.iaload, 1) := by decide +kernel
theorem d_La_law_345 : decode code 345 = .ok (.aload_n 3, 1) := by decide +kernel
theorem d_La_law_346 : decode code 346 = .ok (.invokestatic 66, 3) := by decide +kernel
theorem d_La_law_349 : decode code 349 = .ok (.istore 5, 2) := by decide +kernel
theorem d_La_law_351 : decode code 351 = .ok (.aload_n 2, 1) := by decide +kernel
theorem d_La_law_352 : decode code 352 = .ok (.aload_n 0, 1) := by decide +kernel
theorem d_La_law_353 : decode code 353 = .ok (.iload 4, 2) := by decide +kernel
theorem d_La_law_355 : decode code 355 = .ok (.iconst 1, 1) := by decide +kernel
theorem d_La_law_356 : decode code 356 = .ok (.iadd, 1) := by decide +kernel
theorem d_La_law_357 : decode code 357 = .ok (.iaload, 1) := by decide +kernel
theorem d_La_law_358 : decode code 358 = .ok (.aload_n 0, 1) := by decide +kernel
theorem d_La_law_359 : decode code 359 = .ok (.iload 4, 2) := by decide +kernel
theorem d_La_law_361 : decode code 361 = .ok (.iconst 2, 1) := by decide +kernel
theorem d_La_law_362 : decode code 362 = .ok (.iadd, 1) := by decide +kernel
theorem d_La_law_363 : decode code 363 = .ok (.iaload, 1) := by decide +kernel
theorem d_La_law_364 : decode code 364 = .ok (.invokevirtual 69, 3) := by decide +kernel
theorem d_La_law_367 : decode code 367 = .ok (.istore 6, 2) := by decide +kernel
theorem d_La_law_369 : decode code 369 = .ok (.aload_n 2, 1) := by decide +kernel
theorem d_La_law_370 : decode code 370 = .ok (.invokevirtual 54, 3) := by decide +kernel
theorem d_La_law_373 : decode code 373 = .ok (.iload 5, 2) := by decide +kernel
theorem d_La_law_375 : decode code 375 = .ok (.if_icmp .eq 5, 3) := by decide +kernel
theorem d_La_law_378 : decode code 378 = .ok (.iconst 0, 1) := by decide +kernel
theorem d_La_law_379 : decode code 379 = .ok (.ireturn, 1) := by decide +kernel
theorem d_La_law_380 : decode code 380 = .ok (.iload 5, 2) := by decide +kernel
theorem d_La_law_382 : decode code 382 = .ok (.ifCond .ne 15, 3) := by decide +kernel
theorem d_La_law_385 : decode code 385 = .ok (.aload_n 3, 1) := by decide +kernel
theorem d_La_law_386 : decode code 386 = .ok (.iconst 0, 1) := by decide +kernel
theorem d_La_law_387 : decode code 387 = .ok (.laload, 1) := by decide +kernel
theorem d_La_law_388 : decode code 388 = .ok (.iload 6, 2) := by decide +kernel
theorem d_La_law_390 : decode code 390 = .ok (.i2l, 1) := by decide +kernel
theorem d_La_law_391 : decode code 391 = .ok (.lcmp, 1) := by decide +kernel
theorem d_La_law_392 : decode code 392 = .ok (.ifCond .eq 5, 3) := by decide +kernel
theorem d_La_law_395 : decode code 395 = .ok (.iconst 0, 1) := by decide +kernel
theorem d_La_law_396 : decode code 396 = .ok (.ireturn, 1) := by decide +kernel
theorem d_La_law_397 : decode code 397 = .ok (.goto 359, 3) := by decide +kernel
theorem d_La_law_400 : decode code 400 = .ok (.aload_n 1, 1) := by decide +kernel
theorem d_La_law_401 : decode code 401 = .ok (.aload_n 0, 1) := by decide +kernel
theorem d_La_law_402 : decode code 402 = .ok (.iload 4, 2) := by decide +kernel
theorem d_La_law_404 : decode code 404 = .ok (.iconst 1, 1) := by decide +kernel
theorem d_La_law_405 : decode code 405 = .ok (.iadd, 1) := by decide +kernel
theorem d_La_law_406 : decode code 406 = .ok (.iaload, 1) := by decide +kernel
theorem d_La_law_407 : decode code 407 = .ok (.aload_n 3, 1) := by decide +kernel
theorem d_La_law_408 : decode code 408 = .ok (.invokestatic 70, 3) := by decide +kernel
theorem d_La_law_411 : decode code 411 = .ok (.istore 5, 2) := by decide +kernel
theorem d_La_law_413 : decode code 413 = .ok (.aload_n 2, 1) := by decide +kernel
theorem d_La_law_414 : decode code 414 = .ok (.aload_n 0, 1) := by decide +kernel
theorem d_La_law_415 : decode code 415 = .ok (.iload 4, 2) := by decide +kernel
theorem d_La_law_417 : decode code 417 = .ok (.iconst 1, 1) := by decide +kernel
theorem d_La_law_418 : decode code 418 = .ok (.iadd, 1) := by decide +kernel
theorem d_La_law_419 : decode code 419 = .ok (.iaload, 1) := by decide +kernel
theorem d_La_law_420 : decode code 420 = .ok (.invokevirtual 73, 3) := by decide +kernel
theorem d_La_law_423 : decode code 423 = .ok (.istore 6, 2) := by decide +kernel
theorem d_La_law_425 : decode code 425 = .ok (.aload_n 2, 1) := by decide +kernel
theorem d_La_law_426 : decode code 426 = .ok (.invokevirtual 54, 3) := by decide +kernel
theorem d_La_law_429 : decode code 429 = .ok (.iload 5, 2) := by decide +kernel
theorem d_La_law_431 : decode code 431 = .ok (.if_icmp .eq 5, 3) := by decide +kernel
theorem d_La_law_434 : decode code 434 = .ok (.iconst 0, 1) := by decide +kernel
theorem d_La_law_435 : decode code 435 = .ok (.ireturn, 1) := by decide +kernel
theorem d_La_law_436 : decode code 436 = .ok (.iload 5, 2) := by decide +kernel
theorem d_La_law_438 : decode code 438 = .ok (.ifCond .ne 15, 3) := by decide +kernel
theorem d_La_law_441 : decode code 441 = .ok (.aload_n 3, 1) := by decide +kernel
theorem d_La_law_442 : decode code 442 = .ok (.iconst 0, 1) := by decide +kernel
theorem d_La_law_443 : decode code 443 = .ok (.laload, 1) := by decide +kernel
theorem d_La_law_444 : decode code 444 = .ok (.iload 6, 2) := by decide +kernel
theorem d_La_law_446 : decode code 446 = .ok (.i2l, 1) := by decide +kernel
theorem d_La_law_447 : decode code 447 = .ok (.lcmp, 1) := by decide +kernel
theorem d_La_law_448 : decode code 448 = .ok (.ifCond .eq 5, 3) := by decide +kernel
theorem d_La_law_451 : decode code 451 = .ok (.iconst 0, 1) := by decide +kernel
theorem d_La_law_452 : decode code 452 = .ok (.ireturn, 1) := by decide +kernel
theorem d_La_law_453 : decode code 453 = .ok (.goto 303, 3) := by decide +kernel
theorem d_La_law_456 : decode code 456 = .ok (.aload_n 1, 1) := by decide +kernel
theorem d_La_law_457 : decode code 457 = .ok (.aload_n 0, 1) := by decide +kernel
theorem d_La_law_458 : decode code 458 = .ok (.iload 4, 2) := by decide +kernel
theorem d_La_law_460 : decode code 460 = .ok (.iconst 1, 1) := by decide +kernel
theorem d_La_law_461 : decode code 461 = .ok (.iadd, 1) := by decide +kernel
theorem d_La_law_462 : decode code 462 = .ok (.iaload, 1) := by decide +kernel
theorem d_La_law_463 : decode code 463 = .ok (.aload_n 0, 1) := by decide +kernel
theorem d_La_law_464 : decode code 464 = .ok (.iload 4, 2) := by decide +kernel
theorem d_La_law_466 : decode code 466 = .ok (.iconst 2, 1) := by decide +kernel
theorem d_La_law_467 : decode code 467 = .ok (.iadd, 1) := by decide +kernel
theorem d_La_law_468 : decode code 468 = .ok (.iaload, 1) := by decide +kernel
theorem d_La_law_469 : decode code 469 = .ok (.ifCond .eq 7, 3) := by decide +kernel
theorem d_La_law_472 : decode code 472 = .ok (.iconst 1, 1) := by decide +kernel
theorem d_La_law_473 : decode code 473 = .ok (.goto 4, 3) := by decide +kernel
theorem d_La_law_476 : decode code 476 = .ok (.iconst 0, 1) := by decide +kernel
theorem d_La_law_477 : decode code 477 = .ok (.aload_n 3, 1) := by decide +kernel
theorem d_La_law_478 : decode code 478 = .ok (.invokestatic 74, 3) := by decide +kernel
theorem d_La_law_481 : decode code 481 = .ok (.istore 5, 2) := by decide +kernel
theorem d_La_law_483 : decode code 483 = .ok (.aload_n 2, 1) := by decide +kernel
theorem d_La_law_484 : decode code 484 = .ok (.aload_n 0, 1) := by decide +kernel
theorem d_La_law_485 : decode code 485 = .ok (.iload 4, 2) := by decide +kernel
theorem d_La_law_487 : decode code 487 = .ok (.iconst 1, 1) := by decide +kernel
theorem d_La_law_488 : decode code 488 = .ok (.iadd, 1) := by decide +kernel
theorem d_La_law_489 : decode code 489 = .ok (.iaload, 1) := by decide +kernel
theorem d_La_law_490 : decode code 490 = .ok (.aload_n 0, 1) := by decide +kernel
theorem d_La_law_491 : decode code 491 = .ok (.iload 4, 2) := by decide +kernel
theorem d_La_law_493 : decode code 493 = .ok (.iconst 2, 1) := by decide +kernel
theorem d_La_law_494 : decode code 494 = .ok (.iadd, 1) := by decide +kernel
theorem d_La_law_495 : decode code 495 = .ok (.iaload, 1) := by decide +kernel
theorem d_La_law_496 : decode code 496 = .ok (.ifCond .eq 7, 3) := by decide +kernel
theorem d_La_law_499 : decode code 499 = .ok (.iconst 1, 1) := by decide +kernel
theorem d_La_law_500 : decode code 500 = .ok (.goto 4, 3) := by decide +kernel
theorem d_La_law_503 : decode code 503 = .ok (.iconst 0, 1) := by decide +kernel
theorem d_La_law_504 : decode code 504 = .ok (.invokevirtual 77, 3) := by decide +kernel
theorem d_La_law_507 : decode code 507 = .ok (.istore 6, 2) := by decide +kernel
theorem d_La_law_509 : decode code 509 = .ok (.aload_n 2, 1) := by decide +kernel
theorem d_La_law_510 : decode code 510 = .ok (.invokevirtual 54, 3) := by decide +kernel
theorem d_La_law_513 : decode code 513 = .ok (.iload 5, 2) := by decide +kernel
theorem d_La_law_515 : decode code 515 = .ok (.if_icmp .eq 5, 3) := by decide +kernel
theorem d_La_law_518 : decode code 518 = .ok (.iconst 0, 1) := by decide +kernel
theorem d_La_law_519 : decode code 519 = .ok (.ireturn, 1) := by decide +kernel
theorem d_La_law_520 : decode code 520 = .ok (.iload 5, 2) := by decide +kernel
theorem d_La_law_522 : decode code 522 = .ok (.ifCond .ne 15, 3) := by decide +kernel
theorem d_La_law_525 : decode code 525 = .ok (.aload_n 3, 1) := by decide +kernel
theorem d_La_law_526 : decode code 526 = .ok (.iconst 0, 1) := by decide +kernel
theorem d_La_law_527 : decode code 527 = .ok (.laload, 1) := by decide +kernel
theorem d_La_law_528 : decode code 528 = .ok (.iload 6, 2) := by decide +kernel
theorem d_La_law_530 : decode code 530 = .ok (.i2l, 1) := by decide +kernel
theorem d_La_law_531 : decode code 531 = .ok (.lcmp, 1) := by decide +kernel
theorem d_La_law_532 : decode code 532 = .ok (.ifCond .eq 5, 3) := by decide +kernel
theorem d_La_law_535 : decode code 535 = .ok (.iconst 0, 1) := by decide +kernel
theorem d_La_law_536 : decode code 536 = .ok (.ireturn, 1) := by decide +kernel
theorem d_La_law_537 : decode code 537 = .ok (.goto 219, 3) := by decide +kernel
theorem d_La_law_540 : decode code 540 = .ok (.aload_n 1, 1) := by decide +kernel
theorem d_La_law_541 : decode code 541 = .ok (.aload_n 0, 1) := by decide +kernel
theorem d_La_law_542 : decode code 542 = .ok (.iload 4, 2) := by decide +kernel
theorem d_La_law_544 : decode code 544 = .ok (.iconst 1, 1) := by decide +kernel
theorem d_La_law_545 : decode code 545 = .ok (.iadd, 1) := by decide +kernel
theorem d_La_law_546 : decode code 546 = .ok (.iaload, 1) := by decide +kernel
theorem d_La_law_547 : decode code 547 = .ok (.aload_n 0, 1) := by decide +kernel
theorem d_La_law_548 : decode code 548 = .ok (.iload 4, 2) := by decide +kernel
theorem d_La_law_550 : decode code 550 = .ok (.iconst 2, 1) := by decide +kernel
theorem d_La_law_551 : decode code 551 = .ok (.iadd, 1) := by decide +kernel
theorem d_La_law_552 : decode code 552 = .ok (.iaload, 1) := by decide +kernel
theorem d_La_law_553 : decode code 553 = .ok (.ifCond .eq 7, 3) := by decide +kernel
theorem d_La_law_556 : decode code 556 = .ok (.iconst 1, 1) := by decide +kernel
theorem d_La_law_557 : decode code 557 = .ok (.goto 4, 3) := by decide +kernel
theorem d_La_law_560 : decode code 560 = .ok (.iconst 0, 1) := by decide +kernel
theorem d_La_law_561 : decode code 561 = .ok (.aload_n 0, 1) := by decide +kernel
theorem d_La_law_562 : decode code 562 = .ok (.iload 4, 2) := by decide +kernel
theorem d_La_law_564 : decode code 564 = .ok (.iconst 3, 1) := by decide +kernel
theorem d_La_law_565 : decode code 565 = .ok (.iadd, 1) := by decide +kernel
theorem d_La_law_566 : decode code 566 = .ok (.iaload, 1) := by decide +kernel
theorem d_La_law_567 : decode code 567 = .ok (.aload_n 0, 1) := by decide +kernel
theorem d_La_law_568 : decode code 568 = .ok (.iload 4, 2) := by decide +kernel
theorem d_La_law_570 : decode code 570 = .ok (.iconst 4, 1) := by decide +kernel
theorem d_La_law_571 : decode code 571 = .ok (.iadd, 1) := by decide +kernel
theorem d_La_law_572 : decode code 572 = .ok (.iaload, 1) := by decide +kernel
theorem d_La_law_573 : decode code 573 = .ok (.aload_n 3, 1) := by decide +kernel
theorem d_La_law_574 : decode code 574 = .ok (.invokestatic 78, 3) := by decide +kernel
theorem d_La_law_577 : decode code 577 = .ok (.istore 5, 2) := by decide +kernel
theorem d_La_law_579 : decode code 579 = .ok (.aload_n 2, 1) := by decide +kernel
theorem d_La_law_580 : decode code 580 = .ok (.aload_n 0, 1) := by decide +kernel
theorem d_La_law_581 : decode code 581 = .ok (.iload 4, 2) := by decide +kernel
theorem d_La_law_583 : decode code 583 = .ok (.iconst 1, 1) := by decide +kernel
theorem d_La_law_584 : decode code 584 = .ok (.iadd, 1) := by decide +kernel
theorem d_La_law_585 : decode code 585 = .ok (.iaload, 1) := by decide +kernel
theorem d_La_law_586 : decode code 586 = .ok (.aload_n 0, 1) := by decide +kernel
theorem d_La_law_587 : decode code 587 = .ok (.iload 4, 2) := by decide +kernel
theorem d_La_law_589 : decode code 589 = .ok (.iconst 2, 1) := by decide +kernel
theorem d_La_law_590 : decode code 590 = .ok (.iadd, 1) := by decide +kernel
theorem d_La_law_591 : decode code 591 = .ok (.iaload, 1) := by decide +kernel
theorem d_La_law_592 : decode code 592 = .ok (.ifCond .eq 7, 3) := by decide +kernel
theorem d_La_law_595 : decode code 595 = .ok (.iconst 1, 1) := by decide +kernel
theorem d_La_law_596 : decode code 596 = .ok (.goto 4, 3) := by decide +kernel
theorem d_La_law_599 : decode code 599 = .ok (.iconst 0, 1) := by decide +kernel
theorem d_La_law_600 : decode code 600 = .ok (.aload_n 0, 1) := by decide +kernel
theorem d_La_law_601 : decode code 601 = .ok (.iload 4, 2) := by decide +kernel
theorem d_La_law_603 : decode code 603 = .ok (.iconst 3, 1) := by decide +kernel
theorem d_La_law_604 : decode code 604 = .ok (.iadd, 1) := by decide +kernel
theorem d_La_law_605 : decode code 605 = .ok (.iaload, 1) := by decide +kernel
theorem d_La_law_606 : decode code 606 = .ok (.aload_n 0, 1) := by decide +kernel
theorem d_La_law_607 : decode code 607 = .ok (.iload 4, 2) := by decide +kernel
theorem d_La_law_609 : decode code 609 = .ok (.iconst 4, 1) := by decide +kernel
theorem d_La_law_610 : decode code 610 = .ok (.iadd, 1) := by decide +kernel
theorem d_La_law_611 : decode code 611 = .ok (.iaload, 1) := by decide +kernel
theorem d_La_law_612 : decode code 612 = .ok (.invokevirtual 81, 3) := by decide +kernel
theorem d_La_law_615 : decode code 615 = .ok (.istore 6, 2) := by decide +kernel
theorem d_La_law_617 : decode code 617 = .ok (.aload_n 2, 1) := by decide +kernel
theorem d_La_law_618 : decode code 618 = .ok (.invokevirtual 54, 3) := by decide +kernel
theorem d_La_law_621 : decode code 621 = .ok (.iload 5, 2) := by decide +kernel
theorem d_La_law_623 : decode code 623 = .ok (.if_icmp .eq 5, 3) := by decide +kernel
theorem d_La_law_626 : decode code 626 = .ok (.iconst 0, 1) := by decide +kernel
theorem d_La_law_627 : decode code 627 = .ok (.ireturn, 1) := by decide +kernel
theorem d_La_law_628 : decode code 628 = .ok (.iload 5, 2) := by decide +kernel
theorem d_La_law_630 : decode code 630 = .ok (.ifCond .ne 15, 3) := by decide +kernel
theorem d_La_law_633 : decode code 633 = .ok (.aload_n 3, 1) := by decide +kernel
theorem d_La_law_634 : decode code 634 = .ok (.iconst 0, 1) := by decide +kernel
theorem d_La_law_635 : decode code 635 = .ok (.laload, 1) := by decide +kernel
theorem d_La_law_636 : decode code 636 = .ok (.iload 6, 2) := by decide +kernel
theorem d_La_law_638 : decode code 638 = .ok (.i2l, 1) := by decide +kernel
theorem d_La_law_639 : decode code 639 = .ok (.lcmp, 1) := by decide +kernel
theorem d_La_law_640 : decode code 640 = .ok (.ifCond .eq 5, 3) := by decide +kernel
theorem d_La_law_643 : decode code 643 = .ok (.iconst 0, 1) := by decide +kernel
theorem d_La_law_644 : decode code 644 = .ok (.ireturn, 1) := by decide +kernel
theorem d_La_law_645 : decode code 645 = .ok (.goto 111, 3) := by decide +kernel
theorem d_La_law_648 : decode code 648 = .ok (.aload_n 1, 1) := by decide +kernel
theorem d_La_law_649 : decode code 649 = .ok (.aload_n 0, 1) := by decide +kernel
theorem d_La_law_650 : decode code 650 = .ok (.iload 4, 2) := by decide +kernel
theorem d_La_law_652 : decode code 652 = .ok (.iconst 1, 1) := by decide +kernel
theorem d_La_law_653 : decode code 653 = .ok (.iadd, 1) := by decide +kernel
theorem d_La_law_654 : decode code 654 = .ok (.iaload, 1) := by decide +kernel
theorem d_La_law_655 : decode code 655 = .ok (.aload_n 0, 1) := by decide +kernel
theorem d_La_law_656 : decode code 656 = .ok (.iload 4, 2) := by decide +kernel
theorem d_La_law_658 : decode code 658 = .ok (.iconst 2, 1) := by decide +kernel
theorem d_La_law_659 : decode code 659 = .ok (.iadd, 1) := by decide +kernel
theorem d_La_law_660 : decode code 660 = .ok (.iaload, 1) := by decide +kernel
theorem d_La_law_661 : decode code 661 = .ok (.aload_n 0, 1) := by decide +kernel
theorem d_La_law_662 : decode code 662 = .ok (.iload 4, 2) := by decide +kernel
theorem d_La_law_664 : decode code 664 = .ok (.iconst 3, 1) := by decide +kernel
theorem d_La_law_665 : decode code 665 = .ok (.iadd, 1) := by decide +kernel
theorem d_La_law_666 : decode code 666 = .ok (.iaload, 1) := by decide +kernel
theorem d_La_law_667 : decode code 667 = .ok (.aload_n 0, 1) := by decide +kernel
theorem d_La_law_668 : decode code 668 = .ok (.iload 4, 2) := by decide +kernel
theorem d_La_law_670 : decode code 670 = .ok (.iconst 4, 1) := by decide +kernel
theorem d_La_law_671 : decode code 671 = .ok (.iadd, 1) := by decide +kernel
theorem d_La_law_672 : decode code 672 = .ok (.iaload, 1) := by decide +kernel
theorem d_La_law_673 : decode code 673 = .ok (.ifCond .eq 7, 3) := by decide +kernel
theorem d_La_law_676 : decode code 676 = .ok (.iconst 1, 1) := by decide +kernel
theorem d_La_law_677 : decode code 677 = .ok (.goto 4, 3) := by decide +kernel
theorem d_La_law_680 : decode code 680 = .ok (.iconst 0, 1) := by decide +kernel
theorem d_La_law_681 : decode code 681 = .ok (.aload_n 3, 1) := by decide +kernel
theorem d_La_law_682 : decode code 682 = .ok (.invokestatic 82, 3) := by decide +kernel
theorem d_La_law_685 : decode code 685 = .ok (.istore 5, 2) := by decide +kernel
theorem d_La_law_687 : decode code 687 = .ok (.aload_n 2, 1) := by decide +kernel
theorem d_La_law_688 : decode code 688 = .ok (.aload_n 0, 1) := by decide +kernel
theorem d_La_law_689 : decode code 689 = .ok (.iload 4, 2) := by decide +kernel
theorem d_La_law_691 : decode code 691 = .ok (.iconst 1, 1) := by decide +kernel
theorem d_La_law_692 : decode code 692 = .ok (.iadd, 1) := by decide +kernel
theorem d_La_law_693 : decode code 693 = .ok (.iaload, 1) := by decide +kernel
theorem d_La_law_694 : decode code 694 = .ok (.aload_n 0, 1) := by decide +kernel
theorem d_La_law_695 : decode code 695 = .ok (.iload 4, 2) := by decide +kernel
theorem d_La_law_697 : decode code 697 = .ok (.iconst 2, 1) := by decide +kernel
theorem d_La_law_698 : decode code 698 = .ok (.iadd, 1) := by decide +kernel
theorem d_La_law_699 : decode code 699 = .ok (.iaload, 1) := by decide +kernel
theorem d_La_law_700 : decode code 700 = .ok (.aload_n 0, 1) := by decide +kernel
theorem d_La_law_701 : decode code 701 = .ok (.iload 4, 2) := by decide +kernel
theorem d_La_law_703 : decode code 703 = .ok (.iconst 3, 1) := by decide +kernel
theorem d_La_law_704 : decode code 704 = .ok (.iadd, 1) := by decide +kernel
theorem d_La_law_705 : decode code 705 = .ok (.iaload, 1) := by decide +kernel
theorem d_La_law_706 : decode code 706 = .ok (.aload_n 0, 1) := by decide +kernel
theorem d_La_law_707 : decode code 707 = .ok (.iload 4, 2) := by decide +kernel
theorem d_La_law_709 : decode code 709 = .ok (.iconst 4, 1) := by decide +kernel
theorem d_La_law_710 : decode code 710 = .ok (.iadd, 1) := by decide +kernel
theorem d_La_law_711 : decode code 711 = .ok (.iaload, 1) := by decide +kernel
theorem d_La_law_712 : decode code 712 = .ok (.ifCond .eq 7, 3) := by decide +kernel
theorem d_La_law_715 : decode code 715 = .ok (.iconst 1, 1) := by decide +kernel
theorem d_La_law_716 : decode code 716 = .ok (.goto 4, 3) := by decide +kernel
theorem d_La_law_719 : decode code 719 = .ok (.iconst 0, 1) := by decide +kernel
theorem d_La_law_720 : decode code 720 = .ok (.invokevirtual 84, 3) := by decide +kernel
theorem d_La_law_723 : decode code 723 = .ok (.istore 6, 2) := by decide +kernel
theorem d_La_law_725 : decode code 725 = .ok (.aload_n 2, 1) := by decide +kernel
theorem d_La_law_726 : decode code 726 = .ok (.invokevirtual 54, 3) := by decide +kernel
theorem d_La_law_729 : decode code 729 = .ok (.iload 5, 2) := by decide +kernel
theorem d_La_law_731 : decode code 731 = .ok (.if_icmp .eq 5, 3) := by decide +kernel
theorem d_La_law_734 : decode code 734 = .ok (.iconst 0, 1) := by decide +kernel
theorem d_La_law_735 : decode code 735 = .ok (.ireturn, 1) := by decide +kernel
theorem d_La_law_736 : decode code 736 = .ok (.iload 5, 2) := by decide +kernel
theorem d_La_law_738 : decode code 738 = .ok (.ifCond .ne 15, 3) := by decide +kernel
theorem d_La_law_741 : decode code 741 = .ok (.aload_n 3, 1) := by decide +kernel
theorem d_La_law_742 : decode code 742 = .ok (.iconst 0, 1) := by decide +kernel
theorem d_La_law_743 : decode code 743 = .ok (.laload, 1) := by decide +kernel
theorem d_La_law_744 : decode code 744 = .ok (.iload 6, 2) := by decide +kernel
theorem d_La_law_746 : decode code 746 = .ok (.i2l, 1) := by decide +kernel
theorem d_La_law_747 : decode code 747 = .ok (.lcmp, 1) := by decide +kernel
theorem d_La_law_748 : decode code 748 = .ok (.ifCond .eq 5, 3) := by decide +kernel
theorem d_La_law_751 : decode code 751 = .ok (.iconst 0, 1) := by decide +kernel
theorem d_La_law_752 : decode code 752 = .ok (.ireturn, 1) := by decide +kernel
theorem d_La_law_753 : decode code 753 = .ok (.goto 3, 3) := by decide +kernel
theorem d_La_law_756 : decode code 756 = .ok (.iinc 4 5, 3) := by decide +kernel
theorem d_La_law_759 : decode code 759 = .ok (.goto (-736), 3) := by decide +kernel
theorem d_La_law_762 : decode code 762 = .ok (.iconst 1, 1) := by decide +kernel
theorem d_La_law_763 : decode code 763 = .ok (.ireturn, 1) := by decide +kernel
end
section
/-! The V rows: a state of a method is its world w (cells), its place pc, what its locals hold (lv), its stack (st); heap, locations and slots are hidden. -/
section VL
/-- what the tables number: kinds of objects, of arrays of int, long, boolean, Line, Row, int rows -/
abbrev Gx : Type := va_G × ClassId × ClassId × ClassId × ClassId × ClassId × ClassId
abbrev tys (G : Gx) : List (ClassId × FieldType) := [(G.2.1, .int), (G.2.2.1, .long), (G.2.2.2.1, .boolean), (G.2.2.2.2.1, .object "WeightOrder$Line"), (G.2.2.2.2.2.1, .object "WeightOrder$Row"), (G.2.2.2.2.2.2, .array .int)]
abbrev aI (G : Gx) (n : Nat) (f : Nat → Int32) : va_E := .inl (G.2.1, n, .inl f)
abbrev aJ (G : Gx) (n : Nat) (f : Nat → Int64) : va_E := .inl (G.2.2.1, n, .inr (.inl f))
abbrev aZ (G : Gx) (n : Nat) (f : Nat → Int32) : va_E := .inl (G.2.2.2.1, n, .inl f)
abbrev aL (G : Gx) (n : Nat) (f : Nat → Option Nat) : va_E := .inl (G.2.2.2.2.1, n, .inr (.inr (.inr (.inr f))))
abbrev aR (G : Gx) (n : Nat) (f : Nat → Option Nat) : va_E := .inl (G.2.2.2.2.2.1, n, .inr (.inr (.inr (.inr f))))
abbrev aII (G : Gx) (n : Nat) (f : Nat → Option Nat) : va_E := .inl (G.2.2.2.2.2.2, n, .inr (.inr (.inr (.inr f))))
abbrev ob (i : Nat) (fs : List Value) : va_E := .inr (i, fs)
abbrev Kx : Type := Program × Launch × Env × State × MethodId × Array Value × List Frame × Method × Code × (State → Prop) × (Nat → Prop)
/-- the state of a walk -/
def vv (K : Kx) (R : Room) (G : Gx) (nL cells slots : Nat) (w : va_W) (pc : Nat) (lv : List (Nat × Value)) (st : List Value) : Prop :=
  match K with
  | (p, l, e, s, m, args, below, meth, c, Q, A) => ∀ (H : Heap) (locs : List Loc) (ls : Array Slot), va_P G.1 cls w H → va_D A w → va_S A s.heap H locs → lv_has ls nL lv → W p l e R s m args below meth c H locs cells slots Q (F0 m pc ls st)
/-- what stands fast in a walk -/
def CX (K : Kx) (G : Gx) (nL : Nat) (cc : ByteArray) (own : String) : Prop :=
  match K with
  | (p, _, _, s, m, args, _, _, c, _, A) => p.tables.exec = Jvm.exec ∧ c.code = cc ∧ c.maxLocals = nL ∧ s.vm.findClass own = some m.cls ∧ (∀ w ∈ gwords, w.before args s = true) ∧ (∀ w ∈ nwords, va_Nw w s) ∧ va_K G.1 cls (tys G) s ∧ (∀ q, s.heap.size ≤ q → A q)
abbrev Kl (K : Kx) : Launch := K.2.1
/-- a contract's end: the answer r and the world w' hold post; the rest stays -/
def qc (G : Gx) (w : va_W) (sz : Nat) (post : Option Value → va_W → Prop) : Array Value → State → Outcome → State → Prop := fun _ st oc t =>
  (∃ (r : Option Value) (w' : va_W), oc = .returned r ∧ post r w' ∧ va_P G.1 cls w' t.heap ∧ va_D (va_A w sz) w') ∧ va_F (va_A w sz) st t
/-- a contract's start -/
def pcn (G : Gx) (w : va_W) (sz : Nat) (U : State) : Prop := U.heap.size = sz ∧ va_P G.1 cls w U.heap ∧ va_K G.1 cls (tys G) U ∧ va_D (fun _ => True) w ∧ ∀ x ∈ nwords, va_Nw x U
/-- the contract of a method that returns -/
def CT (l : Launch) (G : Gx) (y : MethodName) (cc : ByteArray) (maxL : Nat) (ret : Option FieldType) (rm : Room) (w : va_W) (av : List Value) (post : Option Value → va_W → Prop) : Prop :=
  ∀ sz : Nat, Met l y (Cond.code y cc maxL ret :: gwords) rm (va_Pc av (pcn G w sz)) (qc G w sz post) rm.cells rm.slots (va_A w sz)
/-- how a walk may end -/
def RX (K : Kx) (R : Room) (G : Gx) (ret : Option FieldType) (w0 : va_W) (post : Option Value → va_W → Prop) : Prop :=
  match K with
  | (p, l, e, s, m, args, below, meth, c, Q, A) => meth.sig.returnType = ret ∧ meth.locks = false ∧ A = va_A w0 s.heap.size ∧
    ∀ (H : Heap) (locs : List Loc) (cells slots : Nat) (g : JFrame), W p l e R s m args below meth c H locs cells slots (MQ below (qc G w0 s.heap.size post) args s R.cells R.slots (va_A w0 s.heap.size)) g → W p l e R s m args below meth c H locs cells slots Q g
theorem nw_kept {s U : State} (hW : s.WarmedH U.vm) (h : ∀ x ∈ nwords, va_Nw x s) : ∀ x ∈ nwords, va_Nw x U := by
  intro x hx
  have hg : nestWord x = true := (List.mem_filter.mp hx).2
  have h1 := h x hx
  cases x <;> first | exact va_Nw.warmF hW h1 | exact va_Nw.warmM hW h1 | exact va_Nw.warmC hW h1 | exact va_Nw.warmD hW h1 | (exact absurd hg Bool.false_ne_true) | skip
  rename_i ty
  cases ty <;> first | exact (va_AO.moved hW.alike (va_AO.of h1)).use | exact absurd hg Bool.false_ne_true
theorem nw_same {u U : State} (h : u.vm = U.vm) (hN : ∀ x ∈ nwords, va_Nw x u) : ∀ x ∈ nwords, va_Nw x U := by
  intro x hx
  have hg : nestWord x = true := (List.mem_filter.mp hx).2
  cases x <;> first | exact va_Nw.same rfl h (hN _ hx) | (exact absurd hg Bool.false_ne_true) | skip
  rename_i ty
  cases ty <;> first | exact (va_AO.moved (h ▸ Vm.Alike.refl u.vm) (va_AO.of (hN _ hx))).use | exact absurd hg Bool.false_ne_true
variable {K : Kx} {R : Room} {G : Gx} {nL cells slots : Nat} {w : va_W} {pc : Nat} {lv : List (Nat × Value)} {st : List Value} {cc : ByteArray} {own : String}

theorem v_iconst (C : CX K G nL cc own) {n : Int} (v : Int32) (hd : decode cc pc = .ok (.iconst n, 1)) (hv : Int32.ofInt n = v) (kk : vv K R G nL cells slots w (pc + 1) lv (.int v :: st)) : vv K R G nL cells slots w pc lv st := by
  obtain ⟨p, l, e, s, m, args, below, meth, c, Q, A⟩ := K
  intro H locs ls hP hD hS hl
  exact lv_iconst C.1 C.2.1 hd hv (kk H locs ls hP hD hS hl)
theorem v_bipush (C : CX K G nL cc own) {n : Int} (v : Int32) (hd : decode cc pc = .ok (.bipush n, 2)) (hv : (Int8.ofInt n).toInt32 = v) (kk : vv K R G nL cells slots w (pc + 2) lv (.int v :: st)) : vv K R G nL cells slots w pc lv st := by
  obtain ⟨p, l, e, s, m, args, below, meth, c, Q, A⟩ := K
  intro H locs ls hP hD hS hl
  exact lv_bipush C.1 C.2.1 hd hv (kk H locs ls hP hD hS hl)
theorem v_sipush (C : CX K G nL cc own) {n : Int} (v : Int32) (hd : decode cc pc = .ok (.sipush n, 3)) (hv : (Int16.ofInt n).toInt32 = v) (kk : vv K R G nL cells slots w (pc + 3) lv (.int v :: st)) : vv K R G nL cells slots w pc lv st := by
  obtain ⟨p, l, e, s, m, args, below, meth, c, Q, A⟩ := K
  intro H locs ls hP hD hS hl
  exact lv_sipush C.1 C.2.1 hd hv (kk H locs ls hP hD hS hl)
theorem v_lconst (C : CX K G nL cc own) {n : Fin 2} (v : Int64) (hd : decode cc pc = .ok (.lconst n, 1)) (hv : Int64.ofNat (n : Nat) = v) (kk : vv K R G nL cells slots w (pc + 1) lv (.long v :: st)) : vv K R G nL cells slots w pc lv st := by
  obtain ⟨p, l, e, s, m, args, below, meth, c, Q, A⟩ := K
  intro H locs ls hP hD hS hl
  exact lv_lconst C.1 C.2.1 hd hv (kk H locs ls hP hD hS hl)
theorem v_ldc (C : CX K G nL cc own) {ix : Nat} (v : Int32) (hw : Cond.constant own ix v ∈ gwords) (hd : decode cc pc = .ok (.ldc ix, 2)) (kk : vv K R G nL cells slots w (pc + 2) lv (.int v :: st)) : vv K R G nL cells slots w pc lv st := by
  obtain ⟨p, l, e, s, m, args, below, meth, c, Q, A⟩ := K
  intro H locs ls hP hD hS hl
  exact lv_ldc C.1 C.2.1 C.2.2.2.1 (C.2.2.2.2.1 _ hw) hd (kk H locs ls hP hD hS hl)
theorem v_ldc2 (C : CX K G nL cc own) {ix : Nat} (v : Int64) (hw : Cond.constantLong own ix v ∈ gwords) (hd : decode cc pc = .ok (.ldc2_w ix, 3)) (kk : vv K R G nL cells slots w (pc + 3) lv (.long v :: st)) : vv K R G nL cells slots w pc lv st := by
  obtain ⟨p, l, e, s, m, args, below, meth, c, Q, A⟩ := K
  intro H locs ls hP hD hS hl
  exact lv_ldc2 C.1 C.2.1 C.2.2.2.1 (C.2.2.2.2.1 _ hw) hd (kk H locs ls hP hD hS hl)
theorem v_null (C : CX K G nL cc own) (hd : decode cc pc = .ok (.aconst_null, 1)) (kk : vv K R G nL cells slots w (pc + 1) lv (.null :: st)) : vv K R G nL cells slots w pc lv st := by
  obtain ⟨p, l, e, s, m, args, below, meth, c, Q, A⟩ := K
  intro H locs ls hP hD hS hl
  exact lv_null C.1 C.2.1 hd (kk H locs ls hP hD hS hl)
theorem v_iload_n (C : CX K G nL cc own) (k : Nat) {n : Fin 4} {i : Nat} {x : Int32} (hd : decode cc pc = .ok (.iload_n n, 1)) (hi : (n : Nat) = i) (hk : lv[k]? = some (i, .int x)) (kk : vv K R G nL cells slots w (pc + 1) lv (.int x :: st)) : vv K R G nL cells slots w pc lv st := by
  obtain ⟨p, l, e, s, m, args, below, meth, c, Q, A⟩ := K
  intro H locs ls hP hD hS hl
  exact lv_iload_n C.1 C.2.1 hd hi (lv_at hl k hk) (kk H locs ls hP hD hS hl)
theorem v_iload (C : CX K G nL cc own) (k : Nat) {i : Nat} {x : Int32} (hd : decode cc pc = .ok (.iload i, 2)) (hk : lv[k]? = some (i, .int x)) (kk : vv K R G nL cells slots w (pc + 2) lv (.int x :: st)) : vv K R G nL cells slots w pc lv st := by
  obtain ⟨p, l, e, s, m, args, below, meth, c, Q, A⟩ := K
  intro H locs ls hP hD hS hl
  exact lv_iload C.1 C.2.1 hd (lv_at hl k hk) (kk H locs ls hP hD hS hl)
theorem v_istore_n (C : CX K G nL cc own) (lv' : List (Nat × Value)) {n : Fin 4} {i : Nat} {x : Int32} (hd : decode cc pc = .ok (.istore_n n, 1)) (hi : (n : Nat) = i) (hn : i < nL) (hl' : (i, Value.int x) :: lv.filter (fun q => !(q.1 == i) && !(q.1 + 1 == i && q.2.category == 2)) = lv') (kk : vv K R G nL cells slots w (pc + 1) lv' st) : vv K R G nL cells slots w pc lv (.int x :: st) := by
  obtain ⟨p, l, e, s, m, args, below, meth, c, Q, A⟩ := K
  intro H locs ls hP hD hS hl
  exact lv_istore_n C.1 C.2.1 hd hi hl hn hl' (fun ls' h' => kk H locs ls' hP hD hS h')
theorem v_istore (C : CX K G nL cc own) (lv' : List (Nat × Value)) {i : Nat} {x : Int32} (hd : decode cc pc = .ok (.istore i, 2)) (hn : i < nL) (hl' : (i, Value.int x) :: lv.filter (fun q => !(q.1 == i) && !(q.1 + 1 == i && q.2.category == 2)) = lv') (kk : vv K R G nL cells slots w (pc + 2) lv' st) : vv K R G nL cells slots w pc lv (.int x :: st) := by
  obtain ⟨p, l, e, s, m, args, below, meth, c, Q, A⟩ := K
  intro H locs ls hP hD hS hl
  exact lv_istore C.1 C.2.1 hd hl hn hl' (fun ls' h' => kk H locs ls' hP hD hS h')
theorem v_lload_n (C : CX K G nL cc own) (k : Nat) {n : Fin 4} {i : Nat} {x : Int64} (hd : decode cc pc = .ok (.lload_n n, 1)) (hi : (n : Nat) = i) (hk : lv[k]? = some (i, .long x)) (kk : vv K R G nL cells slots w (pc + 1) lv (.long x :: st)) : vv K R G nL cells slots w pc lv st := by
  obtain ⟨p, l, e, s, m, args, below, meth, c, Q, A⟩ := K
  intro H locs ls hP hD hS hl
  exact lv_lload_n C.1 C.2.1 hd hi (lv_at hl k hk) (kk H locs ls hP hD hS hl)
theorem v_lload (C : CX K G nL cc own) (k : Nat) {i : Nat} {x : Int64} (hd : decode cc pc = .ok (.lload i, 2)) (hk : lv[k]? = some (i, .long x)) (kk : vv K R G nL cells slots w (pc + 2) lv (.long x :: st)) : vv K R G nL cells slots w pc lv st := by
  obtain ⟨p, l, e, s, m, args, below, meth, c, Q, A⟩ := K
  intro H locs ls hP hD hS hl
  exact lv_lload C.1 C.2.1 hd (lv_at hl k hk) (kk H locs ls hP hD hS hl)
theorem v_lstore_n (C : CX K G nL cc own) (lv' : List (Nat × Value)) {n : Fin 4} {i : Nat} {x : Int64} (hd : decode cc pc = .ok (.lstore_n n, 1)) (hi : (n : Nat) = i) (hn : i + 1 < nL) (hl' : (i, Value.long x) :: lv.filter (fun q => !(q.1 == i) && (!(q.1 == i + 1) && !(q.1 + 1 == i && q.2.category == 2))) = lv') (kk : vv K R G nL cells slots w (pc + 1) lv' st) : vv K R G nL cells slots w pc lv (.long x :: st) := by
  obtain ⟨p, l, e, s, m, args, below, meth, c, Q, A⟩ := K
  intro H locs ls hP hD hS hl
  exact lv_lstore_n C.1 C.2.1 hd hi hl hn hl' (fun ls' h' => kk H locs ls' hP hD hS h')
theorem v_lstore (C : CX K G nL cc own) (lv' : List (Nat × Value)) {i : Nat} {x : Int64} (hd : decode cc pc = .ok (.lstore i, 2)) (hn : i + 1 < nL) (hl' : (i, Value.long x) :: lv.filter (fun q => !(q.1 == i) && (!(q.1 == i + 1) && !(q.1 + 1 == i && q.2.category == 2))) = lv') (kk : vv K R G nL cells slots w (pc + 2) lv' st) : vv K R G nL cells slots w pc lv (.long x :: st) := by
  obtain ⟨p, l, e, s, m, args, below, meth, c, Q, A⟩ := K
  intro H locs ls hP hD hS hl
  exact lv_lstore C.1 C.2.1 hd hl hn hl' (fun ls' h' => kk H locs ls' hP hD hS h')
theorem v_aload_n (C : CX K G nL cc own) (k : Nat) {n : Fin 4} {i : Nat} {x : Nat} (hd : decode cc pc = .ok (.aload_n n, 1)) (hi : (n : Nat) = i) (hk : lv[k]? = some (i, .ref x)) (kk : vv K R G nL cells slots w (pc + 1) lv (.ref x :: st)) : vv K R G nL cells slots w pc lv st := by
  obtain ⟨p, l, e, s, m, args, below, meth, c, Q, A⟩ := K
  intro H locs ls hP hD hS hl
  exact lv_aload_n C.1 C.2.1 hd hi (lv_at hl k hk) (kk H locs ls hP hD hS hl)
theorem v_aload (C : CX K G nL cc own) (k : Nat) {i : Nat} {x : Nat} (hd : decode cc pc = .ok (.aload i, 2)) (hk : lv[k]? = some (i, .ref x)) (kk : vv K R G nL cells slots w (pc + 2) lv (.ref x :: st)) : vv K R G nL cells slots w pc lv st := by
  obtain ⟨p, l, e, s, m, args, below, meth, c, Q, A⟩ := K
  intro H locs ls hP hD hS hl
  exact lv_aload C.1 C.2.1 hd (lv_at hl k hk) (kk H locs ls hP hD hS hl)
theorem v_astore_n (C : CX K G nL cc own) (lv' : List (Nat × Value)) {n : Fin 4} {i : Nat} {x : Nat} (hd : decode cc pc = .ok (.astore_n n, 1)) (hi : (n : Nat) = i) (hn : i < nL) (hl' : (i, Value.ref x) :: lv.filter (fun q => !(q.1 == i) && !(q.1 + 1 == i && q.2.category == 2)) = lv') (kk : vv K R G nL cells slots w (pc + 1) lv' st) : vv K R G nL cells slots w pc lv (.ref x :: st) := by
  obtain ⟨p, l, e, s, m, args, below, meth, c, Q, A⟩ := K
  intro H locs ls hP hD hS hl
  exact lv_astore_n C.1 C.2.1 hd hi hl hn hl' (fun ls' h' => kk H locs ls' hP hD hS h')
theorem v_astore (C : CX K G nL cc own) (lv' : List (Nat × Value)) {i : Nat} {x : Nat} (hd : decode cc pc = .ok (.astore i, 2)) (hn : i < nL) (hl' : (i, Value.ref x) :: lv.filter (fun q => !(q.1 == i) && !(q.1 + 1 == i && q.2.category == 2)) = lv') (kk : vv K R G nL cells slots w (pc + 2) lv' st) : vv K R G nL cells slots w pc lv (.ref x :: st) := by
  obtain ⟨p, l, e, s, m, args, below, meth, c, Q, A⟩ := K
  intro H locs ls hP hD hS hl
  exact lv_astore C.1 C.2.1 hd hl hn hl' (fun ls' h' => kk H locs ls' hP hD hS h')
theorem v_aload_nN (C : CX K G nL cc own) (k : Nat) {n : Fin 4} {i : Nat} (hd : decode cc pc = .ok (.aload_n n, 1)) (hi : (n : Nat) = i) (hk : lv[k]? = some (i, .null)) (kk : vv K R G nL cells slots w (pc + 1) lv (.null :: st)) : vv K R G nL cells slots w pc lv st := by
  obtain ⟨p, l, e, s, m, args, below, meth, c, Q, A⟩ := K
  intro H locs ls hP hD hS hl
  exact lv_aload_nN C.1 C.2.1 hd hi (lv_at hl k hk) (kk H locs ls hP hD hS hl)
theorem v_astore_nN (C : CX K G nL cc own) (lv' : List (Nat × Value)) {n : Fin 4} {i : Nat} (hd : decode cc pc = .ok (.astore_n n, 1)) (hi : (n : Nat) = i) (hn : i < nL) (hl' : (i, Value.null) :: lv.filter (fun q => !(q.1 == i) && !(q.1 + 1 == i && q.2.category == 2)) = lv') (kk : vv K R G nL cells slots w (pc + 1) lv' st) : vv K R G nL cells slots w pc lv (.null :: st) := by
  obtain ⟨p, l, e, s, m, args, below, meth, c, Q, A⟩ := K
  intro H locs ls hP hD hS hl
  exact lv_astore_nN C.1 C.2.1 hd hi hl hn hl' (fun ls' h' => kk H locs ls' hP hD hS h')
theorem v_iinc (C : CX K G nL cc own) (lv' : List (Nat × Value)) (k : Nat) {i : Nat} {n : Int} {x : Int32} (v : Int32) (hd : decode cc pc = .ok (.iinc i n, 3)) (hk : lv[k]? = some (i, .int x)) (hv : x + Int32.ofInt n = v) (hn : i < nL) (hl' : (i, Value.int v) :: lv.filter (fun q => !(q.1 == i) && !(q.1 + 1 == i && q.2.category == 2)) = lv') (kk : vv K R G nL cells slots w (pc + 3) lv' st) : vv K R G nL cells slots w pc lv st := by
  obtain ⟨p, l, e, s, m, args, below, meth, c, Q, A⟩ := K
  intro H locs ls hP hD hS hl
  exact lv_iinc C.1 C.2.1 hd hl hk hv hn hl' (fun ls' h' => kk H locs ls' hP hD hS h')
theorem v_iadd (C : CX K G nL cc own) (v : Int32) {x y : Int32} (hd : decode cc pc = .ok (.iadd, 1)) (hv : x + y = v) (kk : vv K R G nL cells slots w (pc + 1) lv (.int v :: st)) : vv K R G nL cells slots w pc lv (.int y :: .int x :: st) := by
  obtain ⟨p, l, e, s, m, args, below, meth, c, Q, A⟩ := K
  intro H locs ls hP hD hS hl
  exact lv_iadd C.1 C.2.1 hd (by rw [hv]; exact kk H locs ls hP hD hS hl)
theorem v_isub (C : CX K G nL cc own) (v : Int32) {x y : Int32} (hd : decode cc pc = .ok (.isub, 1)) (hv : x - y = v) (kk : vv K R G nL cells slots w (pc + 1) lv (.int v :: st)) : vv K R G nL cells slots w pc lv (.int y :: .int x :: st) := by
  obtain ⟨p, l, e, s, m, args, below, meth, c, Q, A⟩ := K
  intro H locs ls hP hD hS hl
  exact lv_isub C.1 C.2.1 hd (by rw [hv]; exact kk H locs ls hP hD hS hl)
theorem v_imul (C : CX K G nL cc own) (v : Int32) {x y : Int32} (hd : decode cc pc = .ok (.imul, 1)) (hv : x * y = v) (kk : vv K R G nL cells slots w (pc + 1) lv (.int v :: st)) : vv K R G nL cells slots w pc lv (.int y :: .int x :: st) := by
  obtain ⟨p, l, e, s, m, args, below, meth, c, Q, A⟩ := K
  intro H locs ls hP hD hS hl
  exact lv_imul C.1 C.2.1 hd (by rw [hv]; exact kk H locs ls hP hD hS hl)
theorem v_iand (C : CX K G nL cc own) (v : Int32) {x y : Int32} (hd : decode cc pc = .ok (.iand, 1)) (hv : x &&& y = v) (kk : vv K R G nL cells slots w (pc + 1) lv (.int v :: st)) : vv K R G nL cells slots w pc lv (.int y :: .int x :: st) := by
  obtain ⟨p, l, e, s, m, args, below, meth, c, Q, A⟩ := K
  intro H locs ls hP hD hS hl
  exact lv_iand C.1 C.2.1 hd (by rw [hv]; exact kk H locs ls hP hD hS hl)
theorem v_lor (C : CX K G nL cc own) (v : Int64) {x y : Int64} (hd : decode cc pc = .ok (.lor, 1)) (hv : x ||| y = v) (kk : vv K R G nL cells slots w (pc + 1) lv (.long v :: st)) : vv K R G nL cells slots w pc lv (.long y :: .long x :: st) := by
  obtain ⟨p, l, e, s, m, args, below, meth, c, Q, A⟩ := K
  intro H locs ls hP hD hS hl
  exact lv_lor C.1 C.2.1 hd (by rw [hv]; exact kk H locs ls hP hD hS hl)
theorem v_idiv (C : CX K G nL cc own) (v : Int32) {x y : Int32} (hd : decode cc pc = .ok (.idiv, 1)) (hne : ¬ y = 0) (hv : x / y = v) (kk : vv K R G nL cells slots w (pc + 1) lv (.int v :: st)) : vv K R G nL cells slots w pc lv (.int y :: .int x :: st) := by
  obtain ⟨p, l, e, s, m, args, below, meth, c, Q, A⟩ := K
  intro H locs ls hP hD hS hl
  exact lv_idiv C.1 C.2.1 hd hne (by rw [hv]; exact kk H locs ls hP hD hS hl)
theorem v_irem (C : CX K G nL cc own) (v : Int32) {x y : Int32} (hd : decode cc pc = .ok (.irem, 1)) (hne : ¬ y = 0) (hv : x - x / y * y = v) (kk : vv K R G nL cells slots w (pc + 1) lv (.int v :: st)) : vv K R G nL cells slots w pc lv (.int y :: .int x :: st) := by
  obtain ⟨p, l, e, s, m, args, below, meth, c, Q, A⟩ := K
  intro H locs ls hP hD hS hl
  exact lv_irem C.1 C.2.1 hd hne (by rw [hv]; exact kk H locs ls hP hD hS hl)
theorem v_iushr (C : CX K G nL cc own) (v : Int32) {x y : Int32} (hd : decode cc pc = .ok (.iushr, 1)) (hv : (x.toUInt32 >>> (y.toUInt32 &&& Int32.toUInt32 31)).toInt32 = v) (kk : vv K R G nL cells slots w (pc + 1) lv (.int v :: st)) : vv K R G nL cells slots w pc lv (.int y :: .int x :: st) := by
  obtain ⟨p, l, e, s, m, args, below, meth, c, Q, A⟩ := K
  intro H locs ls hP hD hS hl
  exact lv_iushr C.1 C.2.1 hd hv (kk H locs ls hP hD hS hl)
theorem v_lushr (C : CX K G nL cc own) (v : Int64) {x : Int64} {y : Int32} (hd : decode cc pc = .ok (.lushr, 1)) (hv : (x.toUInt64 >>> (y.toInt64.toUInt64 &&& Int64.toUInt64 63)).toInt64 = v) (kk : vv K R G nL cells slots w (pc + 1) lv (.long v :: st)) : vv K R G nL cells slots w pc lv (.int y :: .long x :: st) := by
  obtain ⟨p, l, e, s, m, args, below, meth, c, Q, A⟩ := K
  intro H locs ls hP hD hS hl
  exact lv_lushr C.1 C.2.1 hd hv (kk H locs ls hP hD hS hl)
theorem v_lshl (C : CX K G nL cc own) (v : Int64) {x : Int64} {y : Int32} (hd : decode cc pc = .ok (.lshl, 1)) (hv : x <<< (y.toInt64 &&& 63) = v) (kk : vv K R G nL cells slots w (pc + 1) lv (.long v :: st)) : vv K R G nL cells slots w pc lv (.int y :: .long x :: st) := by
  obtain ⟨p, l, e, s, m, args, below, meth, c, Q, A⟩ := K
  intro H locs ls hP hD hS hl
  exact lv_lshl C.1 C.2.1 hd hv (kk H locs ls hP hD hS hl)
theorem v_i2l (C : CX K G nL cc own) (v : Int64) {x : Int32} (hd : decode cc pc = .ok (.i2l, 1)) (hv : x.toInt64 = v) (kk : vv K R G nL cells slots w (pc + 1) lv (.long v :: st)) : vv K R G nL cells slots w pc lv (.int x :: st) := by
  obtain ⟨p, l, e, s, m, args, below, meth, c, Q, A⟩ := K
  intro H locs ls hP hD hS hl
  exact lv_i2l C.1 C.2.1 hd hv (kk H locs ls hP hD hS hl)
theorem v_l2i (C : CX K G nL cc own) (v : Int32) {x : Int64} (hd : decode cc pc = .ok (.l2i, 1)) (hv : x.toInt32 = v) (kk : vv K R G nL cells slots w (pc + 1) lv (.int v :: st)) : vv K R G nL cells slots w pc lv (.long x :: st) := by
  obtain ⟨p, l, e, s, m, args, below, meth, c, Q, A⟩ := K
  intro H locs ls hP hD hS hl
  exact lv_l2i C.1 C.2.1 hd hv (kk H locs ls hP hD hS hl)
theorem v_lcmp (C : CX K G nL cc own) {x y : Int64} (hd : decode cc pc = .ok (.lcmp, 1)) (kk : vv K R G nL cells slots w (pc + 1) lv (.int (lg_cmp x y) :: st)) : vv K R G nL cells slots w pc lv (.long y :: .long x :: st) := by
  obtain ⟨p, l, e, s, m, args, below, meth, c, Q, A⟩ := K
  intro H locs ls hP hD hS hl
  exact W.lcmp C.1 C.2.1 hd (kk H locs ls hP hD hS hl)
theorem v_dup (C : CX K G nL cc own) {va : Value} (hd : decode cc pc = .ok (.dup, 1)) (hva : va.category = 1) (kk : vv K R G nL cells slots w (pc + 1) lv (va :: va :: st)) : vv K R G nL cells slots w pc lv (va :: st) := by
  obtain ⟨p, l, e, s, m, args, below, meth, c, Q, A⟩ := K
  intro H locs ls hP hD hS hl
  exact lv_dup C.1 C.2.1 hd hva (kk H locs ls hP hD hS hl)
theorem v_pop (C : CX K G nL cc own) {va : Value} (hd : decode cc pc = .ok (.pop, 1)) (hva : va.category = 1) (kk : vv K R G nL cells slots w (pc + 1) lv st) : vv K R G nL cells slots w pc lv (va :: st) := by
  obtain ⟨p, l, e, s, m, args, below, meth, c, Q, A⟩ := K
  intro H locs ls hP hD hS hl
  exact lv_pop C.1 C.2.1 hd hva (kk H locs ls hP hD hS hl)
theorem v_dup2 (C : CX K G nL cc own) {va vb : Value} (hd : decode cc pc = .ok (.dup2, 1)) (hva : va.category = 1) (hvb : vb.category = 1) (kk : vv K R G nL cells slots w (pc + 1) lv (va :: vb :: va :: vb :: st)) : vv K R G nL cells slots w pc lv (va :: vb :: st) := by
  obtain ⟨p, l, e, s, m, args, below, meth, c, Q, A⟩ := K
  intro H locs ls hP hD hS hl
  exact lv_dup2_11 C.1 C.2.1 hd hva hvb (kk H locs ls hP hD hS hl)
theorem v_if_eq (C : CX K G nL cc own) (tgt : Nat) {x : Int32} {off : Int} (hd : decode cc pc = .ok (.ifCond .eq off, 3)) (ht : (pc : Int) + off = (tgt : Int)) (kt : x = 0 → vv K R G nL cells slots w tgt lv st) (kf : ¬ x = 0 → vv K R G nL cells slots w (pc + 3) lv st) : vv K R G nL cells slots w pc lv (.int x :: st) := by
  obtain ⟨p, l, e, s, m, args, below, meth, c, Q, A⟩ := K
  intro H locs ls hP hD hS hl
  exact lv_if_eq C.1 C.2.1 hd ht (fun q => kt q H locs ls hP hD hS hl) (fun q => kf q H locs ls hP hD hS hl)
theorem v_icmp_eq (C : CX K G nL cc own) (tgt : Nat) {x y : Int32} {off : Int} (hd : decode cc pc = .ok (.if_icmp .eq off, 3)) (ht : (pc : Int) + off = (tgt : Int)) (kt : x = y → vv K R G nL cells slots w tgt lv st) (kf : ¬ x = y → vv K R G nL cells slots w (pc + 3) lv st) : vv K R G nL cells slots w pc lv (.int y :: .int x :: st) := by
  obtain ⟨p, l, e, s, m, args, below, meth, c, Q, A⟩ := K
  intro H locs ls hP hD hS hl
  exact lv_icmp_eq C.1 C.2.1 hd ht (fun q => kt q H locs ls hP hD hS hl) (fun q => kf q H locs ls hP hD hS hl)
theorem v_if_ne (C : CX K G nL cc own) (tgt : Nat) {x : Int32} {off : Int} (hd : decode cc pc = .ok (.ifCond .ne off, 3)) (ht : (pc : Int) + off = (tgt : Int)) (kt : ¬ x = 0 → vv K R G nL cells slots w tgt lv st) (kf : x = 0 → vv K R G nL cells slots w (pc + 3) lv st) : vv K R G nL cells slots w pc lv (.int x :: st) := by
  obtain ⟨p, l, e, s, m, args, below, meth, c, Q, A⟩ := K
  intro H locs ls hP hD hS hl
  exact lv_if_ne C.1 C.2.1 hd ht (fun q => kt q H locs ls hP hD hS hl) (fun q => kf q H locs ls hP hD hS hl)
theorem v_icmp_ne (C : CX K G nL cc own) (tgt : Nat) {x y : Int32} {off : Int} (hd : decode cc pc = .ok (.if_icmp .ne off, 3)) (ht : (pc : Int) + off = (tgt : Int)) (kt : ¬ x = y → vv K R G nL cells slots w tgt lv st) (kf : x = y → vv K R G nL cells slots w (pc + 3) lv st) : vv K R G nL cells slots w pc lv (.int y :: .int x :: st) := by
  obtain ⟨p, l, e, s, m, args, below, meth, c, Q, A⟩ := K
  intro H locs ls hP hD hS hl
  exact lv_icmp_ne C.1 C.2.1 hd ht (fun q => kt q H locs ls hP hD hS hl) (fun q => kf q H locs ls hP hD hS hl)
theorem v_if_lt (C : CX K G nL cc own) (tgt : Nat) {x : Int32} {off : Int} (hd : decode cc pc = .ok (.ifCond .lt off, 3)) (ht : (pc : Int) + off = (tgt : Int)) (kt : x < 0 → vv K R G nL cells slots w tgt lv st) (kf : ¬ x < 0 → vv K R G nL cells slots w (pc + 3) lv st) : vv K R G nL cells slots w pc lv (.int x :: st) := by
  obtain ⟨p, l, e, s, m, args, below, meth, c, Q, A⟩ := K
  intro H locs ls hP hD hS hl
  exact lv_if_lt C.1 C.2.1 hd ht (fun q => kt q H locs ls hP hD hS hl) (fun q => kf q H locs ls hP hD hS hl)
theorem v_icmp_lt (C : CX K G nL cc own) (tgt : Nat) {x y : Int32} {off : Int} (hd : decode cc pc = .ok (.if_icmp .lt off, 3)) (ht : (pc : Int) + off = (tgt : Int)) (kt : x < y → vv K R G nL cells slots w tgt lv st) (kf : ¬ x < y → vv K R G nL cells slots w (pc + 3) lv st) : vv K R G nL cells slots w pc lv (.int y :: .int x :: st) := by
  obtain ⟨p, l, e, s, m, args, below, meth, c, Q, A⟩ := K
  intro H locs ls hP hD hS hl
  exact lv_icmp_lt C.1 C.2.1 hd ht (fun q => kt q H locs ls hP hD hS hl) (fun q => kf q H locs ls hP hD hS hl)
theorem v_if_ge (C : CX K G nL cc own) (tgt : Nat) {x : Int32} {off : Int} (hd : decode cc pc = .ok (.ifCond .ge off, 3)) (ht : (pc : Int) + off = (tgt : Int)) (kt : 0 ≤ x → vv K R G nL cells slots w tgt lv st) (kf : ¬ 0 ≤ x → vv K R G nL cells slots w (pc + 3) lv st) : vv K R G nL cells slots w pc lv (.int x :: st) := by
  obtain ⟨p, l, e, s, m, args, below, meth, c, Q, A⟩ := K
  intro H locs ls hP hD hS hl
  exact lv_if_ge C.1 C.2.1 hd ht (fun q => kt q H locs ls hP hD hS hl) (fun q => kf q H locs ls hP hD hS hl)
theorem v_icmp_ge (C : CX K G nL cc own) (tgt : Nat) {x y : Int32} {off : Int} (hd : decode cc pc = .ok (.if_icmp .ge off, 3)) (ht : (pc : Int) + off = (tgt : Int)) (kt : y ≤ x → vv K R G nL cells slots w tgt lv st) (kf : ¬ y ≤ x → vv K R G nL cells slots w (pc + 3) lv st) : vv K R G nL cells slots w pc lv (.int y :: .int x :: st) := by
  obtain ⟨p, l, e, s, m, args, below, meth, c, Q, A⟩ := K
  intro H locs ls hP hD hS hl
  exact lv_icmp_ge C.1 C.2.1 hd ht (fun q => kt q H locs ls hP hD hS hl) (fun q => kf q H locs ls hP hD hS hl)
theorem v_if_gt (C : CX K G nL cc own) (tgt : Nat) {x : Int32} {off : Int} (hd : decode cc pc = .ok (.ifCond .gt off, 3)) (ht : (pc : Int) + off = (tgt : Int)) (kt : 0 < x → vv K R G nL cells slots w tgt lv st) (kf : ¬ 0 < x → vv K R G nL cells slots w (pc + 3) lv st) : vv K R G nL cells slots w pc lv (.int x :: st) := by
  obtain ⟨p, l, e, s, m, args, below, meth, c, Q, A⟩ := K
  intro H locs ls hP hD hS hl
  exact lv_if_gt C.1 C.2.1 hd ht (fun q => kt q H locs ls hP hD hS hl) (fun q => kf q H locs ls hP hD hS hl)
theorem v_icmp_gt (C : CX K G nL cc own) (tgt : Nat) {x y : Int32} {off : Int} (hd : decode cc pc = .ok (.if_icmp .gt off, 3)) (ht : (pc : Int) + off = (tgt : Int)) (kt : y < x → vv K R G nL cells slots w tgt lv st) (kf : ¬ y < x → vv K R G nL cells slots w (pc + 3) lv st) : vv K R G nL cells slots w pc lv (.int y :: .int x :: st) := by
  obtain ⟨p, l, e, s, m, args, below, meth, c, Q, A⟩ := K
  intro H locs ls hP hD hS hl
  exact lv_icmp_gt C.1 C.2.1 hd ht (fun q => kt q H locs ls hP hD hS hl) (fun q => kf q H locs ls hP hD hS hl)
theorem v_if_le (C : CX K G nL cc own) (tgt : Nat) {x : Int32} {off : Int} (hd : decode cc pc = .ok (.ifCond .le off, 3)) (ht : (pc : Int) + off = (tgt : Int)) (kt : x ≤ 0 → vv K R G nL cells slots w tgt lv st) (kf : ¬ x ≤ 0 → vv K R G nL cells slots w (pc + 3) lv st) : vv K R G nL cells slots w pc lv (.int x :: st) := by
  obtain ⟨p, l, e, s, m, args, below, meth, c, Q, A⟩ := K
  intro H locs ls hP hD hS hl
  exact lv_if_le C.1 C.2.1 hd ht (fun q => kt q H locs ls hP hD hS hl) (fun q => kf q H locs ls hP hD hS hl)
theorem v_icmp_le (C : CX K G nL cc own) (tgt : Nat) {x y : Int32} {off : Int} (hd : decode cc pc = .ok (.if_icmp .le off, 3)) (ht : (pc : Int) + off = (tgt : Int)) (kt : x ≤ y → vv K R G nL cells slots w tgt lv st) (kf : ¬ x ≤ y → vv K R G nL cells slots w (pc + 3) lv st) : vv K R G nL cells slots w pc lv (.int y :: .int x :: st) := by
  obtain ⟨p, l, e, s, m, args, below, meth, c, Q, A⟩ := K
  intro H locs ls hP hD hS hl
  exact lv_icmp_le C.1 C.2.1 hd ht (fun q => kt q H locs ls hP hD hS hl) (fun q => kf q H locs ls hP hD hS hl)
theorem nI_eqN {a b : Nat} (ha : a < 2147483648) (hb : b < 2147483648) : nI a = nI b ↔ a = b := nI_eq ha hb
theorem nI_leN {a b : Nat} (ha : a < 2147483648) (hb : b < 2147483648) : nI a ≤ nI b ↔ a ≤ b := nI_leI ha hb
theorem nI_ltN {a b : Nat} (ha : a < 2147483648) (hb : b < 2147483648) : nI a < nI b ↔ a < b := nI_ltI ha hb
theorem v_icmpN_eq (C : CX K G nL cc own) (tgt a b : Nat) {off : Int} (hd : decode cc pc = .ok (.if_icmp .eq off, 3)) (ht : (pc : Int) + off = (tgt : Int)) (ha : a < 2147483648) (hb : b < 2147483648) (kt : a = b → vv K R G nL cells slots w tgt lv st) (kf : a ≠ b → vv K R G nL cells slots w (pc + 3) lv st) : vv K R G nL cells slots w pc lv (.int (nI b) :: .int (nI a) :: st) :=
  v_icmp_eq C tgt hd ht (fun q => kt ((nI_eqN ha hb).mp q)) (fun q => kf (fun z => q ((nI_eqN ha hb).mpr z)))
theorem v_ifN_eq (C : CX K G nL cc own) (tgt a : Nat) {off : Int} (hd : decode cc pc = .ok (.ifCond .eq off, 3)) (ht : (pc : Int) + off = (tgt : Int)) (ha : a < 2147483648) (kt : a = 0 → vv K R G nL cells slots w tgt lv st) (kf : a ≠ 0 → vv K R G nL cells slots w (pc + 3) lv st) : vv K R G nL cells slots w pc lv (.int (nI a) :: st) := by
  have hz : 0 < 2147483648 := by decide
  refine v_if_eq C tgt hd ht (fun q => kt ?_) (fun q => kf ?_)
  · rw [← nI_0] at q; exact (nI_eqN ha hz).mp q
  · rw [← nI_0] at q; exact fun z => q ((nI_eqN ha hz).mpr z)
theorem v_icmpN_ne (C : CX K G nL cc own) (tgt a b : Nat) {off : Int} (hd : decode cc pc = .ok (.if_icmp .ne off, 3)) (ht : (pc : Int) + off = (tgt : Int)) (ha : a < 2147483648) (hb : b < 2147483648) (kt : a ≠ b → vv K R G nL cells slots w tgt lv st) (kf : a = b → vv K R G nL cells slots w (pc + 3) lv st) : vv K R G nL cells slots w pc lv (.int (nI b) :: .int (nI a) :: st) :=
  v_icmp_ne C tgt hd ht (fun q => kt (fun z => q ((nI_eqN ha hb).mpr z))) (fun q => kf ((nI_eqN ha hb).mp q))
theorem v_ifN_ne (C : CX K G nL cc own) (tgt a : Nat) {off : Int} (hd : decode cc pc = .ok (.ifCond .ne off, 3)) (ht : (pc : Int) + off = (tgt : Int)) (ha : a < 2147483648) (kt : a ≠ 0 → vv K R G nL cells slots w tgt lv st) (kf : a = 0 → vv K R G nL cells slots w (pc + 3) lv st) : vv K R G nL cells slots w pc lv (.int (nI a) :: st) := by
  have hz : 0 < 2147483648 := by decide
  refine v_if_ne C tgt hd ht (fun q => kt ?_) (fun q => kf ?_)
  · rw [← nI_0] at q; exact fun z => q ((nI_eqN ha hz).mpr z)
  · rw [← nI_0] at q; exact (nI_eqN ha hz).mp q
theorem v_icmpN_lt (C : CX K G nL cc own) (tgt a b : Nat) {off : Int} (hd : decode cc pc = .ok (.if_icmp .lt off, 3)) (ht : (pc : Int) + off = (tgt : Int)) (ha : a < 2147483648) (hb : b < 2147483648) (kt : a < b → vv K R G nL cells slots w tgt lv st) (kf : b ≤ a → vv K R G nL cells slots w (pc + 3) lv st) : vv K R G nL cells slots w pc lv (.int (nI b) :: .int (nI a) :: st) :=
  v_icmp_lt C tgt hd ht (fun q => kt ((nI_ltN ha hb).mp q)) (fun q => kf (Nat.le_of_not_lt (fun z => q ((nI_ltN ha hb).mpr z))))
theorem v_ifN_lt (C : CX K G nL cc own) (tgt a : Nat) {off : Int} (hd : decode cc pc = .ok (.ifCond .lt off, 3)) (ht : (pc : Int) + off = (tgt : Int)) (ha : a < 2147483648) (kt : a < 0 → vv K R G nL cells slots w tgt lv st) (kf : 0 ≤ a → vv K R G nL cells slots w (pc + 3) lv st) : vv K R G nL cells slots w pc lv (.int (nI a) :: st) := by
  have hz : 0 < 2147483648 := by decide
  refine v_if_lt C tgt hd ht (fun q => kt ?_) (fun q => kf ?_)
  · rw [← nI_0] at q; exact (nI_ltN ha hz).mp q
  · rw [← nI_0] at q; exact Nat.le_of_not_lt (fun z => q ((nI_ltN ha hz).mpr z))
theorem v_icmpN_ge (C : CX K G nL cc own) (tgt a b : Nat) {off : Int} (hd : decode cc pc = .ok (.if_icmp .ge off, 3)) (ht : (pc : Int) + off = (tgt : Int)) (ha : a < 2147483648) (hb : b < 2147483648) (kt : b ≤ a → vv K R G nL cells slots w tgt lv st) (kf : a < b → vv K R G nL cells slots w (pc + 3) lv st) : vv K R G nL cells slots w pc lv (.int (nI b) :: .int (nI a) :: st) :=
  v_icmp_ge C tgt hd ht (fun q => kt ((nI_leN hb ha).mp q)) (fun q => kf (Nat.lt_of_not_le (fun z => q ((nI_leN hb ha).mpr z))))
theorem v_ifN_ge (C : CX K G nL cc own) (tgt a : Nat) {off : Int} (hd : decode cc pc = .ok (.ifCond .ge off, 3)) (ht : (pc : Int) + off = (tgt : Int)) (ha : a < 2147483648) (kt : 0 ≤ a → vv K R G nL cells slots w tgt lv st) (kf : a < 0 → vv K R G nL cells slots w (pc + 3) lv st) : vv K R G nL cells slots w pc lv (.int (nI a) :: st) := by
  have hz : 0 < 2147483648 := by decide
  refine v_if_ge C tgt hd ht (fun q => kt ?_) (fun q => kf ?_)
  · rw [← nI_0] at q; exact (nI_leN hz ha).mp q
  · rw [← nI_0] at q; exact Nat.lt_of_not_le (fun z => q ((nI_leN hz ha).mpr z))
theorem v_icmpN_gt (C : CX K G nL cc own) (tgt a b : Nat) {off : Int} (hd : decode cc pc = .ok (.if_icmp .gt off, 3)) (ht : (pc : Int) + off = (tgt : Int)) (ha : a < 2147483648) (hb : b < 2147483648) (kt : b < a → vv K R G nL cells slots w tgt lv st) (kf : a ≤ b → vv K R G nL cells slots w (pc + 3) lv st) : vv K R G nL cells slots w pc lv (.int (nI b) :: .int (nI a) :: st) :=
  v_icmp_gt C tgt hd ht (fun q => kt ((nI_ltN hb ha).mp q)) (fun q => kf (Nat.le_of_not_lt (fun z => q ((nI_ltN hb ha).mpr z))))
theorem v_ifN_gt (C : CX K G nL cc own) (tgt a : Nat) {off : Int} (hd : decode cc pc = .ok (.ifCond .gt off, 3)) (ht : (pc : Int) + off = (tgt : Int)) (ha : a < 2147483648) (kt : 0 < a → vv K R G nL cells slots w tgt lv st) (kf : a ≤ 0 → vv K R G nL cells slots w (pc + 3) lv st) : vv K R G nL cells slots w pc lv (.int (nI a) :: st) := by
  have hz : 0 < 2147483648 := by decide
  refine v_if_gt C tgt hd ht (fun q => kt ?_) (fun q => kf ?_)
  · rw [← nI_0] at q; exact (nI_ltN hz ha).mp q
  · rw [← nI_0] at q; exact Nat.le_of_not_lt (fun z => q ((nI_ltN hz ha).mpr z))
theorem v_icmpN_le (C : CX K G nL cc own) (tgt a b : Nat) {off : Int} (hd : decode cc pc = .ok (.if_icmp .le off, 3)) (ht : (pc : Int) + off = (tgt : Int)) (ha : a < 2147483648) (hb : b < 2147483648) (kt : a ≤ b → vv K R G nL cells slots w tgt lv st) (kf : b < a → vv K R G nL cells slots w (pc + 3) lv st) : vv K R G nL cells slots w pc lv (.int (nI b) :: .int (nI a) :: st) :=
  v_icmp_le C tgt hd ht (fun q => kt ((nI_leN ha hb).mp q)) (fun q => kf (Nat.lt_of_not_le (fun z => q ((nI_leN ha hb).mpr z))))
theorem v_ifN_le (C : CX K G nL cc own) (tgt a : Nat) {off : Int} (hd : decode cc pc = .ok (.ifCond .le off, 3)) (ht : (pc : Int) + off = (tgt : Int)) (ha : a < 2147483648) (kt : a ≤ 0 → vv K R G nL cells slots w tgt lv st) (kf : 0 < a → vv K R G nL cells slots w (pc + 3) lv st) : vv K R G nL cells slots w pc lv (.int (nI a) :: st) := by
  have hz : 0 < 2147483648 := by decide
  refine v_if_le C tgt hd ht (fun q => kt ?_) (fun q => kf ?_)
  · rw [← nI_0] at q; exact (nI_leN ha hz).mp q
  · rw [← nI_0] at q; exact Nat.lt_of_not_le (fun z => q ((nI_leN ha hz).mpr z))
theorem v_goto (C : CX K G nL cc own) (tgt : Nat) {off : Int} (hd : decode cc pc = .ok (.goto off, 3)) (ht : (pc : Int) + off = (tgt : Int)) (kk : vv K R G nL cells slots w tgt lv st) : vv K R G nL cells slots w pc lv st := by
  obtain ⟨p, l, e, s, m, args, below, meth, c, Q, A⟩ := K
  intro H locs ls hP hD hS hl
  exact lv_goto C.1 C.2.1 hd ht (kk H locs ls hP hD hS hl)
theorem v_ifnonnull (C : CX K G nL cc own) (tgt : Nat) {x : Nat} {off : Int} (hd : decode cc pc = .ok (.ifnonnull off, 3)) (ht : (pc : Int) + off = (tgt : Int)) (kk : vv K R G nL cells slots w tgt lv st) : vv K R G nL cells slots w pc lv (.ref x :: st) := by
  obtain ⟨p, l, e, s, m, args, below, meth, c, Q, A⟩ := K
  intro H locs ls hP hD hS hl
  exact lv_ifnonnull C.1 C.2.1 hd ht (kk H locs ls hP hD hS hl)
theorem v_ifnullN (C : CX K G nL cc own) (tgt : Nat) {off : Int} (hd : decode cc pc = .ok (.ifnull off, 3)) (ht : (pc : Int) + off = (tgt : Int)) (kk : vv K R G nL cells slots w tgt lv st) : vv K R G nL cells slots w pc lv (.null :: st) := by
  obtain ⟨p, l, e, s, m, args, below, meth, c, Q, A⟩ := K
  intro H locs ls hP hD hS hl
  exact lv_ifnullN C.1 C.2.1 hd ht (kk H locs ls hP hD hS hl)
theorem v_ifnull (C : CX K G nL cc own) {x : Nat} {off : Int} (hd : decode cc pc = .ok (.ifnull off, 3)) (kk : vv K R G nL cells slots w (pc + 3) lv st) : vv K R G nL cells slots w pc lv (.ref x :: st) := by
  obtain ⟨p, l, e, s, m, args, below, meth, c, Q, A⟩ := K
  intro H locs ls hP hD hS hl
  exact lv_ifnull C.1 C.2.1 hd (kk H locs ls hP hD hS hl)
theorem v_ifnonnullN (C : CX K G nL cc own) {off : Int} (hd : decode cc pc = .ok (.ifnonnull off, 3)) (kk : vv K R G nL cells slots w (pc + 3) lv st) : vv K R G nL cells slots w pc lv (.null :: st) := by
  obtain ⟨p, l, e, s, m, args, below, meth, c, Q, A⟩ := K
  intro H locs ls hP hD hS hl
  exact lv_ifnonnullN C.1 C.2.1 hd (kk H locs ls hP hD hS hl)
theorem v_topi {x : Int32} (kk : ∀ y : Int32, y = x → vv K R G nL cells slots w pc lv (.int y :: st)) : vv K R G nL cells slots w pc lv (.int x :: st) := kk x rfl
theorem v_topl {x : Int64} (kk : ∀ y : Int64, y = x → vv K R G nL cells slots w pc lv (.long y :: st)) : vv K R G nL cells slots w pc lv (.long x :: st) := kk x rfl
theorem v_seti {x : Int32} (y : Int32) (h : x = y) (kk : vv K R G nL cells slots w pc lv (.int y :: st)) : vv K R G nL cells slots w pc lv (.int x :: st) := by rw [h]; exact kk
theorem v_setl {x : Int64} (y : Int64) (h : x = y) (kk : vv K R G nL cells slots w pc lv (.long y :: st)) : vv K R G nL cells slots w pc lv (.long x :: st) := by rw [h]; exact kk
theorem v_lsub (ks : List Nat) (lv' : List (Nat × Value)) (h : lv_pick lv ks = lv') (kk : vv K R G nL cells slots w pc lv' st) : vv K R G nL cells slots w pc lv st := by
  obtain ⟨p, l, e, s, m, args, below, meth, c, Q, A⟩ := K
  intro H locs ls hP hD hS hl
  exact kk H locs ls hP hD hS (lv_sub hl ks h)
theorem v_wsub (is : List Nat) (w' : va_W) (hn : va_nd is = true) (h : is.map (fun i => w[i]?) = w'.map some) (kk : vv K R G nL cells slots w' pc lv st) : vv K R G nL cells slots w pc lv st := by
  obtain ⟨p, l, e, s, m, args, below, meth, c, Q, A⟩ := K
  intro H locs ls hP hD hS hl
  refine kk H locs ls ?_ (hD.sub is hn h) hS hl
  intro k q hk
  have h1 : (is.map (fun i => w[i]?))[k]? = some (some q) := by rw [h, List.getElem?_map, hk]; rfl
  rw [List.getElem?_map] at h1
  cases hi : is[k]? with
  | none => rw [hi] at h1; cases h1
  | some i => rw [hi] at h1; exact hP i q (Option.some.inj h1)
theorem v_widen {c1 s1 : Nat} (h1 : cells ≤ c1) (h2 : slots ≤ s1) (kk : vv K R G nL c1 s1 w pc lv st) : vv K R G nL cells slots w pc lv st := by
  obtain ⟨p, l, e, s, m, args, below, meth, c, Q, A⟩ := K
  intro H locs ls hP hD hS hl
  exact W.widen h1 h2 (kk H locs ls hP hD hS hl)
theorem v_weq {w' : va_W} (h : w = w') (kk : vv K R G nL cells slots w' pc lv st) : vv K R G nL cells slots w pc lv st := by rw [h]; exact kk
/-- the addresses of a world lie apart -/
theorem v_apart (i j : Nat) {a b : Nat} {ea eb : va_E} (hi : w[i]? = some (a, ea)) (hj : w[j]? = some (b, eb)) (hij : i ≠ j) (kk : a ≠ b → vv K R G nL cells slots w pc lv st) : vv K R G nL cells slots w pc lv st := by
  obtain ⟨p, l, e, s, m, args, below, meth, c, Q, A⟩ := K
  intro H locs ls hP hD hS hl
  exact kk (fun h => hij (hD.1 i j _ _ hi hj h)) H locs ls hP hD hS hl
theorem v_get (C : CX K G nL cc own) {Cn : String} {T : u_T} {N ci ix : Nat} (q0 k : Nat) {a : Nat} {fs : List Value} {v : Value} (he : w[q0]? = some (a, .inr (ci, fs))) (hc : cls[ci]? = some (Cn, T, N)) (hin : ∀ x ∈ u_ws Cn T N, x ∈ gwords) (hk : k < N) (hs : (T k).1 = Cn) (hw : Cond.fieldLink own ix Cn (T k).2.1 (T k).2.2.1 ∈ gwords) (hv : fs[k]? = some v) (hd : decode cc pc = .ok (.getfield ix, 3)) (kk : vv K R G nL cells slots w (pc + 3) lv (v :: st)) : vv K R G nL cells slots w pc lv (.ref a :: st) := by
  obtain ⟨p, l, e, s, m, args, below, meth, c, Q, A⟩ := K
  intro H locs ls hP hD hS hl
  exact va_get C.1 C.2.1 C.2.2.2.2.1 hin C.2.2.2.1 C.2.2.2.2.2.2.1 hP q0 he hc k hk (C.2.2.2.2.1 _ hw) (fun x h => by rw [hs] at h; exact h) hv hd (kk H locs ls hP hD hS hl)
theorem v_getN (C : CX K G nL cc own) {Cn : String} {T : u_T} {N ci ix : Nat} (q0 k : Nat) {a : Nat} {fs : List Value} {v : Value} (he : w[q0]? = some (a, .inr (ci, fs))) (hc : cls[ci]? = some (Cn, T, N)) (hin : ∀ x ∈ u_ws Cn T N, x ∈ gwords) (hk : k < N) (hs : (T k).1 = Cn) {host : String} (hw : Cond.fieldLinkNest own ix Cn (T k).2.1 (T k).2.2.1 host ∈ nwords) (hv : fs[k]? = some v) (hd : decode cc pc = .ok (.getfield ix, 3)) (kk : vv K R G nL cells slots w (pc + 3) lv (v :: st)) : vv K R G nL cells slots w pc lv (.ref a :: st) := by
  obtain ⟨p, l, e, s, m, args, below, meth, c, Q, A⟩ := K
  intro H locs ls hP hD hS hl
  exact va_getN C.1 C.2.1 C.2.2.2.2.1 hin C.2.2.2.1 C.2.2.2.2.2.2.1 hP q0 he hc k hk ((C.2.2.2.2.2.1 _ hw).use rfl) (fun x h => by rw [hs] at h; exact h) hv hd (kk H locs ls hP hD hS hl)
theorem v_put (C : CX K G nL cc own) {Cn : String} {T : u_T} {N ci ix : Nat} (q0 k : Nat) {a : Nat} {fs : List Value} {v : Value} (he : w[q0]? = some (a, .inr (ci, fs))) (hc : cls[ci]? = some (Cn, T, N)) (hin : ∀ x ∈ u_ws Cn T N, x ∈ gwords) (hk : k < N) (hs : (T k).1 = Cn) (w' : va_W) (ty0 : Nat → FieldType) (hty : ∀ k, k < N → parseFieldDescriptor (T k).2.2.1 = some (ty0 k)) (hnm : ∀ a, a < N → ∀ b, b < N → a ≠ b → (T a).2.1 ≠ (T b).2.1) (ty : FieldType) (hte : ty0 k = ty) (hn : narrow ty v = v) (hft : fits ty v = true) (hlf : k < fs.length) (hw' : w.set q0 (a, .inr (ci, fs.set k v)) = w') (hfin : (T k).2.2.2 = false) (hw : Cond.fieldLink own ix Cn (T k).2.1 (T k).2.2.1 ∈ gwords) (hd : decode cc pc = .ok (.putfield ix, 3)) (kk : vv K R G nL cells slots w' (pc + 3) lv st) : vv K R G nL cells slots w pc lv (v :: .ref a :: st) := by
  obtain ⟨p, l, e, s, m, args, below, meth, c, Q, A⟩ := K
  intro H locs ls hP hD hS hl
  subst hw'; subst hte
  exact va_put C.1 C.2.1 C.2.2.2.2.1 hin ty0 hty hnm C.2.2.2.1 C.2.2.2.2.2.2.1 hP hD hS q0 he hc k hk (C.2.2.2.2.1 _ hw) (fun x h => by rw [hs] at h; exact h) hfin (hty k hk) hn hft hlf hd (fun H1 locs1 hP1 hD1 hS1 => kk H1 locs1 ls hP1 hD1 hS1 hl)
theorem v_putN (C : CX K G nL cc own) {Cn : String} {T : u_T} {N ci ix : Nat} (q0 k : Nat) {a : Nat} {fs : List Value} {v : Value} (he : w[q0]? = some (a, .inr (ci, fs))) (hc : cls[ci]? = some (Cn, T, N)) (hin : ∀ x ∈ u_ws Cn T N, x ∈ gwords) (hk : k < N) (hs : (T k).1 = Cn) (w' : va_W) (ty0 : Nat → FieldType) (hty : ∀ k, k < N → parseFieldDescriptor (T k).2.2.1 = some (ty0 k)) (hnm : ∀ a, a < N → ∀ b, b < N → a ≠ b → (T a).2.1 ≠ (T b).2.1) (ty : FieldType) (hte : ty0 k = ty) (hn : narrow ty v = v) (hft : fits ty v = true) (hlf : k < fs.length) (hw' : w.set q0 (a, .inr (ci, fs.set k v)) = w') (hfin : (T k).2.2.2 = false) {host : String} (hw : Cond.fieldLinkNest own ix Cn (T k).2.1 (T k).2.2.1 host ∈ nwords) (hd : decode cc pc = .ok (.putfield ix, 3)) (kk : vv K R G nL cells slots w' (pc + 3) lv st) : vv K R G nL cells slots w pc lv (v :: .ref a :: st) := by
  obtain ⟨p, l, e, s, m, args, below, meth, c, Q, A⟩ := K
  intro H locs ls hP hD hS hl
  subst hw'; subst hte
  exact va_putN C.1 C.2.1 C.2.2.2.2.1 hin ty0 hty hnm C.2.2.2.1 C.2.2.2.2.2.2.1 hP hD hS q0 he hc k hk ((C.2.2.2.2.2.1 _ hw).use rfl) (fun x h => by rw [hs] at h; exact h) hfin (hty k hk) hn hft hlf hd (fun H1 locs1 hP1 hD1 hS1 => kk H1 locs1 ls hP1 hD1 hS1 hl)
/-- the walk is that of a constructor -/
def NX (K : Kx) : Prop := K.2.2.2.2.2.2.2.1.name = "<init>"
theorem v_putF (C : CX K G nL cc own) (hinit : NX K) {Cn : String} {T : u_T} {N ci ix : Nat} (q0 k : Nat) {a : Nat} {fs : List Value} {v : Value} (he : w[q0]? = some (a, .inr (ci, fs))) (hc : cls[ci]? = some (Cn, T, N)) (hin : ∀ x ∈ u_ws Cn T N, x ∈ gwords) (hk : k < N) (hs : (T k).1 = Cn) (w' : va_W) (ty0 : Nat → FieldType) (hty : ∀ k, k < N → parseFieldDescriptor (T k).2.2.1 = some (ty0 k)) (hnm : ∀ a, a < N → ∀ b, b < N → a ≠ b → (T a).2.1 ≠ (T b).2.1) (ty : FieldType) (hte : ty0 k = ty) (hn : narrow ty v = v) (hft : fits ty v = true) (hlf : k < fs.length) (hw' : w.set q0 (a, .inr (ci, fs.set k v)) = w') (hfin : (T k).2.2.2 = true) (hown : own = Cn) (hw : Cond.fieldLink own ix Cn (T k).2.1 (T k).2.2.1 ∈ gwords) (hd : decode cc pc = .ok (.putfield ix, 3)) (kk : vv K R G nL cells slots w' (pc + 3) lv st) : vv K R G nL cells slots w pc lv (v :: .ref a :: st) := by
  obtain ⟨p, l, e, s, m, args, below, meth, c, Q, A⟩ := K
  intro H locs ls hP hD hS hl
  subst hw'; subst hte
  exact va_putF C.1 C.2.1 C.2.2.2.2.1 hin ty0 hty hnm C.2.2.2.1 C.2.2.2.2.2.2.1 hP hD hS q0 he hc k hk (C.2.2.2.2.1 _ hw) (fun x h => by rw [hs] at h; exact h) hfin hinit (hs.trans hown.symm) (hty k hk) hn hft hlf hd (fun H1 locs1 hP1 hD1 hS1 => kk H1 locs1 ls hP1 hD1 hS1 hl)
theorem v_iald (C : CX K G nL cc own) (q0 : Nat) {a n : Nat} {f : Nat → Int32} (ha : w[q0]? = some (a, aI G n f)) (j : Nat) {i : Int32} (hi : i = nI j) (hj : j < n) (hb : n < 2147483648) (hd : decode cc pc = .ok (.iaload, 1)) (kk : vv K R G nL cells slots w (pc + 1) lv (.int (f j) :: st)) : vv K R G nL cells slots w pc lv (.int i :: .ref a :: st) := by
  obtain ⟨p, l, e, s, m, args, below, meth, c, Q, A⟩ := K
  intro H locs ls hP hD hS hl
  subst hi
  have hc : (nI j).toNatClampNeg = j := nI_clamp (Nat.lt_trans hj hb)
  have kk := kk H locs ls hP hD hS hl
  refine va_iald C.1 C.2.1 C.2.2.2.2.2.2.1 hP q0 0 ha rfl (vp_in_nI hj hb) hd ?_
  rw [hc]; exact kk
theorem v_lald (C : CX K G nL cc own) (q0 : Nat) {a n : Nat} {f : Nat → Int64} (ha : w[q0]? = some (a, aJ G n f)) (j : Nat) {i : Int32} (hi : i = nI j) (hj : j < n) (hb : n < 2147483648) (hd : decode cc pc = .ok (.laload, 1)) (kk : vv K R G nL cells slots w (pc + 1) lv (.long (f j) :: st)) : vv K R G nL cells slots w pc lv (.int i :: .ref a :: st) := by
  obtain ⟨p, l, e, s, m, args, below, meth, c, Q, A⟩ := K
  intro H locs ls hP hD hS hl
  subst hi
  have hc : (nI j).toNatClampNeg = j := nI_clamp (Nat.lt_trans hj hb)
  have kk := kk H locs ls hP hD hS hl
  refine va_lald C.1 C.2.1 C.2.2.2.2.2.2.1 hP q0 1 ha rfl (vp_in_nI hj hb) hd ?_
  rw [hc]; exact kk
theorem v_zald (C : CX K G nL cc own) (q0 : Nat) {a n : Nat} {f : Nat → Int32} (ha : w[q0]? = some (a, aZ G n f)) (j : Nat) {i : Int32} (hi : i = nI j) (hj : j < n) (hb : n < 2147483648) (hd : decode cc pc = .ok (.baload, 1)) (kk : vv K R G nL cells slots w (pc + 1) lv (.int (f j) :: st)) : vv K R G nL cells slots w pc lv (.int i :: .ref a :: st) := by
  obtain ⟨p, l, e, s, m, args, below, meth, c, Q, A⟩ := K
  intro H locs ls hP hD hS hl
  subst hi
  have hc : (nI j).toNatClampNeg = j := nI_clamp (Nat.lt_trans hj hb)
  have kk := kk H locs ls hP hD hS hl
  refine va_zald C.1 C.2.1 C.2.2.2.2.2.2.1 hP q0 2 ha rfl (vp_in_nI hj hb) hd ?_
  rw [hc]; exact kk
theorem v_aaldL (C : CX K G nL cc own) (q0 : Nat) {a n : Nat} {f : Nat → Option Nat} (ha : w[q0]? = some (a, aL G n f)) (j : Nat) {i : Int32} (hi : i = nI j) (hj : j < n) (hb : n < 2147483648) (hd : decode cc pc = .ok (.aaload, 1)) (kk : vv K R G nL cells slots w (pc + 1) lv (va_rf (f j) :: st)) : vv K R G nL cells slots w pc lv (.int i :: .ref a :: st) := by
  obtain ⟨p, l, e, s, m, args, below, meth, c, Q, A⟩ := K
  intro H locs ls hP hD hS hl
  subst hi
  have hc : (nI j).toNatClampNeg = j := nI_clamp (Nat.lt_trans hj hb)
  have kk := kk H locs ls hP hD hS hl
  refine va_aldq C.1 C.2.1 C.2.2.2.2.2.2.1 hP q0 3 ha rfl (vp_in_nI hj hb) hd ?_
  rw [hc]; exact kk
theorem v_aaldR (C : CX K G nL cc own) (q0 : Nat) {a n : Nat} {f : Nat → Option Nat} (ha : w[q0]? = some (a, aR G n f)) (j : Nat) {i : Int32} (hi : i = nI j) (hj : j < n) (hb : n < 2147483648) (hd : decode cc pc = .ok (.aaload, 1)) (kk : vv K R G nL cells slots w (pc + 1) lv (va_rf (f j) :: st)) : vv K R G nL cells slots w pc lv (.int i :: .ref a :: st) := by
  obtain ⟨p, l, e, s, m, args, below, meth, c, Q, A⟩ := K
  intro H locs ls hP hD hS hl
  subst hi
  have hc : (nI j).toNatClampNeg = j := nI_clamp (Nat.lt_trans hj hb)
  have kk := kk H locs ls hP hD hS hl
  refine va_aldq C.1 C.2.1 C.2.2.2.2.2.2.1 hP q0 4 ha rfl (vp_in_nI hj hb) hd ?_
  rw [hc]; exact kk
theorem v_iast (C : CX K G nL cc own) (q0 : Nat) (w' : va_W) {a n : Nat} {f : Nat → Int32} {x : Int32} (ha : w[q0]? = some (a, aI G n f)) (j : Nat) {i : Int32} (hi : i = nI j) (hj : j < n) (hb : n < 2147483648) (hw' : w.set q0 (a, aI G n (upd f j x)) = w') (hd : decode cc pc = .ok (.iastore, 1)) (kk : vv K R G nL cells slots w' (pc + 1) lv st) : vv K R G nL cells slots w pc lv (.int x :: .int i :: .ref a :: st) := by
  obtain ⟨p, l, e, s, m, args, below, meth, c, Q, A⟩ := K
  intro H locs ls hP hD hS hl
  subst hi; subst hw'
  have hc : (nI j).toNatClampNeg = j := nI_clamp (Nat.lt_trans hj hb)
  refine va_iast C.1 C.2.1 C.2.2.2.2.2.2.1 hP hD hS q0 0 ha rfl (vp_in_nI hj hb) hd (fun H1 locs1 hP1 hD1 hS1 => ?_)
  rw [hc] at hP1 hD1
  exact kk H1 locs1 ls hP1 hD1 hS1 hl
theorem v_last (C : CX K G nL cc own) (q0 : Nat) (w' : va_W) {a n : Nat} {f : Nat → Int64} {x : Int64} (ha : w[q0]? = some (a, aJ G n f)) (j : Nat) {i : Int32} (hi : i = nI j) (hj : j < n) (hb : n < 2147483648) (hw' : w.set q0 (a, aJ G n (vp_updL f j x)) = w') (hd : decode cc pc = .ok (.lastore, 1)) (kk : vv K R G nL cells slots w' (pc + 1) lv st) : vv K R G nL cells slots w pc lv (.long x :: .int i :: .ref a :: st) := by
  obtain ⟨p, l, e, s, m, args, below, meth, c, Q, A⟩ := K
  intro H locs ls hP hD hS hl
  subst hi; subst hw'
  have hc : (nI j).toNatClampNeg = j := nI_clamp (Nat.lt_trans hj hb)
  refine va_last C.1 C.2.1 C.2.2.2.2.2.2.1 hP hD hS q0 1 ha rfl (vp_in_nI hj hb) hd (fun H1 locs1 hP1 hD1 hS1 => ?_)
  rw [hc] at hP1 hD1
  exact kk H1 locs1 ls hP1 hD1 hS1 hl
theorem v_zast (C : CX K G nL cc own) (q0 : Nat) (w' : va_W) {a n : Nat} {f : Nat → Int32} {x : Int32} (ha : w[q0]? = some (a, aZ G n f)) (j : Nat) {i : Int32} (hi : i = nI j) (hj : j < n) (hb : n < 2147483648) (hw' : w.set q0 (a, aZ G n (upd f j (vp_nar .boolean x))) = w') (hd : decode cc pc = .ok (.bastore, 1)) (kk : vv K R G nL cells slots w' (pc + 1) lv st) : vv K R G nL cells slots w pc lv (.int x :: .int i :: .ref a :: st) := by
  obtain ⟨p, l, e, s, m, args, below, meth, c, Q, A⟩ := K
  intro H locs ls hP hD hS hl
  subst hi; subst hw'
  have hc : (nI j).toNatClampNeg = j := nI_clamp (Nat.lt_trans hj hb)
  refine va_zast C.1 C.2.1 C.2.2.2.2.2.2.1 hP hD hS q0 2 ha rfl (vp_in_nI hj hb) hd (fun H1 locs1 hP1 hD1 hS1 => ?_)
  rw [hc] at hP1 hD1
  exact kk H1 locs1 ls hP1 hD1 hS1 hl
theorem v_aastL (C : CX K G nL cc own) (q0 qk : Nat) (w' : va_W) {a n v ci : Nat} {r : vw_C} {vs : List Value} {f : Nat → Option Nat} (ha : w[q0]? = some (a, aL G n f)) (hv : w[qk]? = some (v, .inr (ci, vs))) (hc : cls[ci]? = some r) (hr : (tys G)[3]? = some ((tys G)[3].1, .object r.1)) (j : Nat) {i : Int32} (hi : i = nI j) (hj : j < n) (hb : n < 2147483648) (hw' : w.set q0 (a, aL G n (va_up f j (some v))) = w') (hd : decode cc pc = .ok (.aastore, 1)) (kk : vv K R G nL cells slots w' (pc + 1) lv st) : vv K R G nL cells slots w pc lv (.ref v :: .int i :: .ref a :: st) := by
  obtain ⟨p, l, e, s, m, args, below, meth, c, Q, A⟩ := K
  intro H locs ls hP hD hS hl
  subst hi; subst hw'
  have hcl : (nI j).toNatClampNeg = j := nI_clamp (Nat.lt_trans hj hb)
  refine va_astq C.1 C.2.1 C.2.2.2.2.2.2.1 hP hD hS q0 3 qk ci ha hr hv hc (vp_in_nI hj hb) hd (fun H1 locs1 hP1 hD1 hS1 => ?_)
  rw [hcl] at hP1 hD1
  exact kk H1 locs1 ls hP1 hD1 hS1 hl
theorem v_aastR (C : CX K G nL cc own) (q0 qk : Nat) (w' : va_W) {a n v ci : Nat} {r : vw_C} {vs : List Value} {f : Nat → Option Nat} (ha : w[q0]? = some (a, aR G n f)) (hv : w[qk]? = some (v, .inr (ci, vs))) (hc : cls[ci]? = some r) (hr : (tys G)[4]? = some ((tys G)[4].1, .object r.1)) (j : Nat) {i : Int32} (hi : i = nI j) (hj : j < n) (hb : n < 2147483648) (hw' : w.set q0 (a, aR G n (va_up f j (some v))) = w') (hd : decode cc pc = .ok (.aastore, 1)) (kk : vv K R G nL cells slots w' (pc + 1) lv st) : vv K R G nL cells slots w pc lv (.ref v :: .int i :: .ref a :: st) := by
  obtain ⟨p, l, e, s, m, args, below, meth, c, Q, A⟩ := K
  intro H locs ls hP hD hS hl
  subst hi; subst hw'
  have hcl : (nI j).toNatClampNeg = j := nI_clamp (Nat.lt_trans hj hb)
  refine va_astq C.1 C.2.1 C.2.2.2.2.2.2.1 hP hD hS q0 4 qk ci ha hr hv hc (vp_in_nI hj hb) hd (fun H1 locs1 hP1 hD1 hS1 => ?_)
  rw [hcl] at hP1 hD1
  exact kk H1 locs1 ls hP1 hD1 hS1 hl
theorem v_alenI (C : CX K G nL cc own) (q0 : Nat) {a n : Nat} {f : Nat → Int32} (ha : w[q0]? = some (a, aI G n f)) (hd : decode cc pc = .ok (.arraylength, 1)) (kk : vv K R G nL cells slots w (pc + 1) lv (.int (nI n) :: st)) : vv K R G nL cells slots w pc lv (.ref a :: st) := by
  obtain ⟨p, l, e, s, m, args, below, meth, c, Q, A⟩ := K
  intro H locs ls hP hD hS hl
  exact va_alen C.1 C.2.1 C.2.2.2.2.2.2.1 hP q0 0 ha rfl rfl hd (kk H locs ls hP hD hS hl)
theorem v_alenJ (C : CX K G nL cc own) (q0 : Nat) {a n : Nat} {f : Nat → Int64} (ha : w[q0]? = some (a, aJ G n f)) (hd : decode cc pc = .ok (.arraylength, 1)) (kk : vv K R G nL cells slots w (pc + 1) lv (.int (nI n) :: st)) : vv K R G nL cells slots w pc lv (.ref a :: st) := by
  obtain ⟨p, l, e, s, m, args, below, meth, c, Q, A⟩ := K
  intro H locs ls hP hD hS hl
  exact va_alen C.1 C.2.1 C.2.2.2.2.2.2.1 hP q0 1 ha rfl rfl hd (kk H locs ls hP hD hS hl)
theorem v_alenZ (C : CX K G nL cc own) (q0 : Nat) {a n : Nat} {f : Nat → Int32} (ha : w[q0]? = some (a, aZ G n f)) (hd : decode cc pc = .ok (.arraylength, 1)) (kk : vv K R G nL cells slots w (pc + 1) lv (.int (nI n) :: st)) : vv K R G nL cells slots w pc lv (.ref a :: st) := by
  obtain ⟨p, l, e, s, m, args, below, meth, c, Q, A⟩ := K
  intro H locs ls hP hD hS hl
  exact va_alen C.1 C.2.1 C.2.2.2.2.2.2.1 hP q0 2 ha rfl rfl hd (kk H locs ls hP hD hS hl)
theorem v_alenL (C : CX K G nL cc own) (q0 : Nat) {a n : Nat} {f : Nat → Option Nat} (ha : w[q0]? = some (a, aL G n f)) (hd : decode cc pc = .ok (.arraylength, 1)) (kk : vv K R G nL cells slots w (pc + 1) lv (.int (nI n) :: st)) : vv K R G nL cells slots w pc lv (.ref a :: st) := by
  obtain ⟨p, l, e, s, m, args, below, meth, c, Q, A⟩ := K
  intro H locs ls hP hD hS hl
  exact va_alen C.1 C.2.1 C.2.2.2.2.2.2.1 hP q0 3 ha rfl rfl hd (kk H locs ls hP hD hS hl)
theorem v_copyI (C : CX K G nL cc own) (q0 q1 : Nat) (w' : va_W) {a0 a n0 n1 : Nat} {f g : Nat → Int32} {ix : Nat} (ha0 : w[q0]? = some (a0, aI G n0 f)) (ha1 : w[q1]? = some (a, aI G n1 g)) (sp dp n : Nat) (h4 : sp + n ≤ n0) (h5 : dp + n ≤ n1) (hb0 : n0 < 2147483648) (hb1 : n1 < 2147483648) (hw : Cond.methodLink own ix arraycopyName ∈ gwords) (hw' : w.set q1 (a, aI G n1 (va_cpy f g sp dp n)) = w') (hfr : 1 ≤ R.frames) (hlo : (st.map fun v => v.category).sum + (nativeFrameWords "java/lang/System" "arraycopy" 5 + 11) ≤ R.locals) (hd : decode cc pc = .ok (.invokestatic ix, 3)) (kk : vv K R G nL cells slots w' (pc + 3) lv st) : vv K R G nL cells slots w pc lv (.int (nI n) :: .int (nI dp) :: .ref a :: .int (nI sp) :: .ref a0 :: st) := by
  obtain ⟨p, l, e, s, m, args, below, meth, c, Q, A⟩ := K
  intro H locs ls hP hD hS hl
  subst hw'
  have e1 : (nI sp).toNatClampNeg = sp := nI_clamp (by omega)
  have e2 : (nI dp).toNatClampNeg = dp := nI_clamp (by omega)
  have e3 : (nI n).toNatClampNeg = n := nI_clamp (by omega)
  refine va_copyi C.1 C.2.1 (C.2.2.1.trans hl.1.symm) C.2.2.2.1 (C.2.2.2.2.1 _ hw) (C.2.2.2.2.1 _ k_247) (C.2.2.2.2.1 _ k_246) (C.2.2.2.2.1 _ k_12) C.2.2.2.2.2.2.1 hP hD hS q0 q1 0 0 ha0 ha1 rfl rfl rfl (nI_pos (by omega)) (nI_pos (by omega)) (nI_pos (by omega)) (by rw [e1, e3]; exact h4) (by rw [e2, e3]; exact h5) (fun _ _ => rfl) hfr hlo hd (fun H1 locs1 hP1 hD1 hS1 => ?_)
  rw [e1, e2, e3] at hP1 hD1
  exact kk H1 locs1 ls hP1 hD1 hS1 hl
theorem v_copyJ (C : CX K G nL cc own) (q0 q1 : Nat) (w' : va_W) {a0 a n0 n1 : Nat} {f g : Nat → Int64} {ix : Nat} (ha0 : w[q0]? = some (a0, aJ G n0 f)) (ha1 : w[q1]? = some (a, aJ G n1 g)) (sp dp n : Nat) (h4 : sp + n ≤ n0) (h5 : dp + n ≤ n1) (hb0 : n0 < 2147483648) (hb1 : n1 < 2147483648) (hw : Cond.methodLink own ix arraycopyName ∈ gwords) (hw' : w.set q1 (a, aJ G n1 (va_cpy f g sp dp n)) = w') (hfr : 1 ≤ R.frames) (hlo : (st.map fun v => v.category).sum + (nativeFrameWords "java/lang/System" "arraycopy" 5 + 11) ≤ R.locals) (hd : decode cc pc = .ok (.invokestatic ix, 3)) (kk : vv K R G nL cells slots w' (pc + 3) lv st) : vv K R G nL cells slots w pc lv (.int (nI n) :: .int (nI dp) :: .ref a :: .int (nI sp) :: .ref a0 :: st) := by
  obtain ⟨p, l, e, s, m, args, below, meth, c, Q, A⟩ := K
  intro H locs ls hP hD hS hl
  subst hw'
  have e1 : (nI sp).toNatClampNeg = sp := nI_clamp (by omega)
  have e2 : (nI dp).toNatClampNeg = dp := nI_clamp (by omega)
  have e3 : (nI n).toNatClampNeg = n := nI_clamp (by omega)
  refine va_copyl C.1 C.2.1 (C.2.2.1.trans hl.1.symm) C.2.2.2.1 (C.2.2.2.2.1 _ hw) (C.2.2.2.2.1 _ k_247) (C.2.2.2.2.1 _ k_246) (C.2.2.2.2.1 _ k_12) C.2.2.2.2.2.2.1 hP hD hS q0 q1 1 1 ha0 ha1 rfl rfl rfl (nI_pos (by omega)) (nI_pos (by omega)) (nI_pos (by omega)) (by rw [e1, e3]; exact h4) (by rw [e2, e3]; exact h5) (fun _ _ => rfl) hfr hlo hd (fun H1 locs1 hP1 hD1 hS1 => ?_)
  rw [e1, e2, e3] at hP1 hD1
  exact kk H1 locs1 ls hP1 hD1 hS1 hl
theorem v_new (C : CX K G nL cc own) {Cn : String} {T : u_T} {N ci ix : Nat} (fs : List Value) (ty : Nat → FieldType) (hty : ∀ k, k < N → parseFieldDescriptor (T k).2.2.1 = some (ty k)) (hin : ∀ x ∈ u_ws Cn T N, x ∈ gwords) (hc : cls[ci]? = some (Cn, T, N)) (hw : Cond.classLink own ix Cn ∈ gwords) (hi : Cond.instantiable Cn N ∈ gwords) (hz : Cond.initialized Cn ∈ gwords) (hfs : ∀ j, j < N → defaultValue (ty j) = vp_V fs j) (h1 : cells + 1 ≤ R.cells) (h2 : slots + N ≤ R.slots) (hd : decode cc pc = .ok (.new ix, 3)) (kk : ∀ q : Nat, vv K R G nL (cells + 1) (slots + N) (w ++ [(q, .inr (ci, fs))]) (pc + 3) lv (.ref q :: st)) : vv K R G nL cells slots w pc lv st := by
  obtain ⟨p, l, e, s, m, args, below, meth, c, Q, A⟩ := K
  intro H locs ls hP hD hS hl
  exact va_new C.1 C.2.1 C.2.2.2.2.1 hin ty hty C.2.2.2.1 (C.2.2.2.2.1 _ hw) (C.2.2.2.2.1 _ hi) (C.2.2.2.2.1 _ hz) C.2.2.2.2.2.2.1 hP hD hS C.2.2.2.2.2.2.2 hc hfs h1 h2 hd (fun q H1 hP1 hD1 hS1 => kk q H1 locs ls hP1 hD1 hS1 hl)
theorem v_newaI (C : CX K G nL cc own) (n : Nat) (hb : n < 67108864) (h1 : cells + 1 ≤ R.cells) (h2 : slots + n ≤ R.slots) (hd : decode cc pc = .ok (.newarray .int, 2)) (kk : ∀ q : Nat, vv K R G nL (cells + 1) (slots + n) (w ++ [(q, aI G n (fun _ => 0))]) (pc + 2) lv (.ref q :: st)) : vv K R G nL cells slots w pc lv (.int (nI n) :: st) := by
  obtain ⟨p, l, e, s, m, args, below, meth, c, Q, A⟩ := K
  intro H locs ls hP hD hS hl
  refine va_newa (atype := .int) (ty := .int) (N' := n) (a0 := (aI G n (fun _ => 0)).elim (fun z => z.2) (fun _ => (0, .inl fun _ => 0))) C.1 C.2.1 (C.2.2.2.2.1 _ k_42) rfl C.2.2.2.2.2.2.1 hP hD hS C.2.2.2.2.2.2.2 (fun _ => rfl) (nI_pos (by omega)) (nI_clamp (by omega)) ?_ h1 h2 hd (fun q cA H1 hK1 hP1 hD1 hS1 => ?_)
  · show n * _ ≤ 536870912
    simp only [componentBytes]; omega
  · have hA : cA = (tys G)[0].1 := by
      have r1 := (hK1.2 0 _ rfl).2
      have r2 := (hK1.2 6 _ rfl).2
      exact Option.some.inj (r2.symm.trans r1)
    subst hA
    exact kk q H1 locs ls hP1 hD1 hS1 hl
theorem v_newaJ (C : CX K G nL cc own) (n : Nat) (hb : n < 67108864) (h1 : cells + 1 ≤ R.cells) (h2 : slots + n ≤ R.slots) (hd : decode cc pc = .ok (.newarray .long, 2)) (kk : ∀ q : Nat, vv K R G nL (cells + 1) (slots + n) (w ++ [(q, aJ G n (fun _ => 0))]) (pc + 2) lv (.ref q :: st)) : vv K R G nL cells slots w pc lv (.int (nI n) :: st) := by
  obtain ⟨p, l, e, s, m, args, below, meth, c, Q, A⟩ := K
  intro H locs ls hP hD hS hl
  refine va_newa (atype := .long) (ty := .long) (N' := n) (a0 := (aJ G n (fun _ => 0)).elim (fun z => z.2) (fun _ => (0, .inl fun _ => 0))) C.1 C.2.1 (C.2.2.2.2.1 _ k_41) rfl C.2.2.2.2.2.2.1 hP hD hS C.2.2.2.2.2.2.2 (fun _ => rfl) (nI_pos (by omega)) (nI_clamp (by omega)) ?_ h1 h2 hd (fun q cA H1 hK1 hP1 hD1 hS1 => ?_)
  · show n * _ ≤ 536870912
    simp only [componentBytes]; omega
  · have hA : cA = (tys G)[1].1 := by
      have r1 := (hK1.2 1 _ rfl).2
      have r2 := (hK1.2 6 _ rfl).2
      exact Option.some.inj (r2.symm.trans r1)
    subst hA
    exact kk q H1 locs ls hP1 hD1 hS1 hl
theorem v_newaZ (C : CX K G nL cc own) (n : Nat) (hb : n < 67108864) (h1 : cells + 1 ≤ R.cells) (h2 : slots + n ≤ R.slots) (hd : decode cc pc = .ok (.newarray .boolean, 2)) (kk : ∀ q : Nat, vv K R G nL (cells + 1) (slots + n) (w ++ [(q, aZ G n (fun _ => 0))]) (pc + 2) lv (.ref q :: st)) : vv K R G nL cells slots w pc lv (.int (nI n) :: st) := by
  obtain ⟨p, l, e, s, m, args, below, meth, c, Q, A⟩ := K
  intro H locs ls hP hD hS hl
  refine va_newa (atype := .boolean) (ty := .boolean) (N' := n) (a0 := (aZ G n (fun _ => 0)).elim (fun z => z.2) (fun _ => (0, .inl fun _ => 0))) C.1 C.2.1 (C.2.2.2.2.1 _ k_317) rfl C.2.2.2.2.2.2.1 hP hD hS C.2.2.2.2.2.2.2 (fun _ => rfl) (nI_pos (by omega)) (nI_clamp (by omega)) ?_ h1 h2 hd (fun q cA H1 hK1 hP1 hD1 hS1 => ?_)
  · show n * _ ≤ 536870912
    simp only [componentBytes]; omega
  · have hA : cA = (tys G)[2].1 := by
      have r1 := (hK1.2 2 _ rfl).2
      have r2 := (hK1.2 6 _ rfl).2
      exact Option.some.inj (r2.symm.trans r1)
    subst hA
    exact kk q H1 locs ls hP1 hD1 hS1 hl
theorem v_newqL (C : CX K G nL cc own) (n : Nat) {ix : Nat} (hw : Cond.classLink own ix "WeightOrder$Line" ∈ gwords) (hb : n < 67108864) (h1 : cells + 1 ≤ R.cells) (h2 : slots + n ≤ R.slots) (hd : decode cc pc = .ok (.anewarray ix, 3)) (kk : ∀ q : Nat, vv K R G nL (cells + 1) (slots + n) (w ++ [(q, aL G n (fun _ => none))]) (pc + 3) lv (.ref q :: st)) : vv K R G nL cells slots w pc lv (.int (nI n) :: st) := by
  obtain ⟨p, l, e, s, m, args, below, meth, c, Q, A⟩ := K
  intro H locs ls hP hD hS hl
  refine va_newq (N' := n) C.1 C.2.1 C.2.2.2.1 (C.2.2.2.2.1 _ hw) (va_AO.of (C.2.2.2.2.2.1 _ k_52)) C.2.2.2.2.2.2.1 hP hD hS C.2.2.2.2.2.2.2 (nI_pos (by omega)) (nI_clamp (by omega)) (by omega) h1 h2 hd (fun q cA H1 hK1 hP1 hD1 hS1 => ?_)
  have hA : cA = (tys G)[3].1 := by
    obtain ⟨_, _, _, _, _, r1⟩ := (hK1.2 3 _ rfl).2
    obtain ⟨_, _, _, _, _, r2⟩ := (hK1.2 6 _ rfl).2
    exact Option.some.inj (r2.symm.trans r1)
  subst hA
  exact kk q H1 locs ls hP1 hD1 hS1 hl
theorem v_newqR (C : CX K G nL cc own) (n : Nat) {ix : Nat} (hw : Cond.classLink own ix "WeightOrder$Row" ∈ gwords) (hb : n < 67108864) (h1 : cells + 1 ≤ R.cells) (h2 : slots + n ≤ R.slots) (hd : decode cc pc = .ok (.anewarray ix, 3)) (kk : ∀ q : Nat, vv K R G nL (cells + 1) (slots + n) (w ++ [(q, aR G n (fun _ => none))]) (pc + 3) lv (.ref q :: st)) : vv K R G nL cells slots w pc lv (.int (nI n) :: st) := by
  obtain ⟨p, l, e, s, m, args, below, meth, c, Q, A⟩ := K
  intro H locs ls hP hD hS hl
  refine va_newq (N' := n) C.1 C.2.1 C.2.2.2.1 (C.2.2.2.2.1 _ hw) (va_AO.of (C.2.2.2.2.2.1 _ k_69)) C.2.2.2.2.2.2.1 hP hD hS C.2.2.2.2.2.2.2 (nI_pos (by omega)) (nI_clamp (by omega)) (by omega) h1 h2 hd (fun q cA H1 hK1 hP1 hD1 hS1 => ?_)
  have hA : cA = (tys G)[4].1 := by
    obtain ⟨_, _, _, _, _, r1⟩ := (hK1.2 4 _ rfl).2
    obtain ⟨_, _, _, _, _, r2⟩ := (hK1.2 6 _ rfl).2
    exact Option.some.inj (r2.symm.trans r1)
  subst hA
  exact kk q H1 locs ls hP1 hD1 hS1 hl
theorem v_objInit (C : CX K G nL cc own) {ix a : Nat} (hw : Cond.methodLink own ix objectInit ∈ gwords) (hfr : 1 ≤ R.frames) (hlo : (st.map fun v => v.category).sum + 12 ≤ R.locals) (hd : decode cc pc = .ok (.invokespecial ix, 3)) (kk : vv K R G nL cells slots w (pc + 3) lv st) : vv K R G nL cells slots w pc lv (.ref a :: st) := by
  obtain ⟨p, l, e, s, m, args, below, meth, c, Q, A⟩ := K
  intro H locs ls hP hD hS hl
  exact W.objInit C.1 C.2.1 C.2.2.2.1 (C.2.2.2.2.1 _ hw) (C.2.2.2.2.1 _ k_23) (C.2.2.2.2.1 _ k_24) rfl (by rw [C.2.2.1]; exact hl.1) rfl hd hfr (by simpa using hlo) (kk H locs ls hP hD hS hl)
section Ret
variable {post : Option Value → va_W → Prop} {w0 : va_W}
theorem v_ret_in {r : Option Value} {t s : State} {H : Heap} {locs : List Loc} (hq : post r w) (hP : va_P G.1 cls w H) (hD : va_D (va_A w0 s.heap.size) w) (hS : va_S (va_A w0 s.heap.size) s.heap H locs) (ht : t.heap = H) (args : Array Value) : qc G w0 s.heap.size post args s (.returned r) t :=
  ⟨⟨r, w, rfl, hq, by rw [ht]; exact hP, hD⟩, hS.F ht⟩
theorem v_iret (C : CX K G nL cc own) (X : RX K R G (some .int) w0 post) {v : Int32} (hd : decode cc pc = .ok (.ireturn, 1)) (hq : post (some (.int v)) w) (h1 : cells ≤ R.cells) (h2 : slots ≤ R.slots) : vv K R G nL cells slots w pc lv [.int v] := by
  obtain ⟨p, l, e, s, m, args, below, meth, c, Q, A⟩ := K
  obtain ⟨hr, hlk, hA, hend⟩ := X
  intro H locs ls hP hD hS hl
  subst hA
  refine hend H locs cells slots _ (W.widen h1 h2 ?_)
  exact W.iret C.1 C.2.1 hr (fun t ht hW => v_ret_in hq hP hD hS ht args) hS.2.2 hd hlk
theorem v_lret (C : CX K G nL cc own) (X : RX K R G (some .long) w0 post) {v : Int64} (hd : decode cc pc = .ok (.lreturn, 1)) (hq : post (some (.long v)) w) (h1 : cells ≤ R.cells) (h2 : slots ≤ R.slots) : vv K R G nL cells slots w pc lv [.long v] := by
  obtain ⟨p, l, e, s, m, args, below, meth, c, Q, A⟩ := K
  obtain ⟨hr, hlk, hA, hend⟩ := X
  intro H locs ls hP hD hS hl
  subst hA
  refine hend H locs cells slots _ (W.widen h1 h2 ?_)
  exact W.lret C.1 C.2.1 hr (fun t ht hW => v_ret_in hq hP hD hS ht args) hS.2.2 hd hlk
theorem v_vret (C : CX K G nL cc own) (X : RX K R G none w0 post) (hd : decode cc pc = .ok (.return_, 1)) (hq : post none w) (h1 : cells ≤ R.cells) (h2 : slots ≤ R.slots) : vv K R G nL cells slots w pc lv [] := by
  obtain ⟨p, l, e, s, m, args, below, meth, c, Q, A⟩ := K
  obtain ⟨hr, hlk, hA, hend⟩ := X
  intro H locs ls hP hD hS hl
  subst hA
  refine hend H locs cells slots _ (W.widen h1 h2 ?_)
  exact W.vret C.1 C.2.1 hr (fun t ht hW => v_ret_in hq hP hD hS ht args) hS.2.2 hd hlk
theorem v_zret (C : CX K G nL cc own) (X : RX K R G (some .boolean) w0 post) {v : Int32} (hz : narrow .boolean (.int v) = .int v) (hd : decode cc pc = .ok (.ireturn, 1)) (hq : post (some (.int v)) w) (h1 : cells ≤ R.cells) (h2 : slots ≤ R.slots) : vv K R G nL cells slots w pc lv [.int v] := by
  obtain ⟨p, l, e, s, m, args, below, meth, c, Q, A⟩ := K
  obtain ⟨hr, hlk, hA, hend⟩ := X
  intro H locs ls hP hD hS hl
  subst hA
  refine hend H locs cells slots _ (W.widen h1 h2 ?_)
  exact W.zret C.1 C.2.1 hr hz (fun t ht hW => v_ret_in hq hP hD hS ht args) hS.2.2 hd hlk
theorem v_aret (C : CX K G nL cc own) {Cn : String} (X : RX K R G (some (.object Cn)) w0 post) {v : Value} (hv : v = .null ∨ ∃ a, v = .ref a) (hd : decode cc pc = .ok (.areturn, 1)) (hq : post (some v) w) (h1 : cells ≤ R.cells) (h2 : slots ≤ R.slots) : vv K R G nL cells slots w pc lv [v] := by
  obtain ⟨p, l, e, s, m, args, below, meth, c, Q, A⟩ := K
  obtain ⟨hr, hlk, hA, hend⟩ := X
  intro H locs ls hP hD hS hl
  subst hA
  refine hend H locs cells slots _ (W.widen h1 h2 ?_)
  exact W.aret C.1 C.2.1 hr (Or.inl ⟨_, rfl⟩) hv (fun t ht hW => v_ret_in hq hP hD hS ht args) hS.2.2 hd hlk
end Ret
end VL
end
section
/-! The V rows of calls, of entries, of throws -/
section VC
/-- w is wr and wc, in some order -/
def Sp (w wr wc : va_W) : Prop := (∀ (D : va_G) (H : Heap), va_P D cls w H → va_P D cls wr H ∧ va_P D cls wc H) ∧ ∀ A : Nat → Prop, va_D A w → va_D A (wr ++ wc)
theorem sp_at {w v : va_W} {is : List Nat} (hs : is.map (fun i => w[i]?) = v.map some) {k : Nat} {q : Nat × va_E} (hq : v[k]? = some q) : ∃ i, is[k]? = some i ∧ w[i]? = some q := by
  have h1 : (is.map (fun i => w[i]?))[k]? = some (some q) := by rw [hs, List.getElem?_map, hq]; rfl
  rw [List.getElem?_map] at h1
  cases hi : is[k]? with
  | none => rw [hi] at h1; cases h1
  | some i => rw [hi] at h1; exact ⟨i, rfl, Option.some.inj h1⟩
theorem sp_pos {w wr wc : va_W} (isR isC : List Nat) (hR : isR.map (fun i => w[i]?) = wr.map some) (hC : isC.map (fun i => w[i]?) = wc.map some) (hn : va_nd (isR ++ isC) = true) : Sp w wr wc := by
  refine ⟨fun D H hP => ⟨fun k q hq => ?_, fun k q hq => ?_⟩, fun A hD => hD.sub (isR ++ isC) hn (by rw [List.map_append, List.map_append, hR, hC])⟩
  · obtain ⟨i, -, h⟩ := sp_at hR hq
    exact hP i q h
  · obtain ⟨i, -, h⟩ := sp_at hC hq
    exact hP i q h
theorem sp_join {D : va_G} {A : Nat → Prop} {wr wc w' : va_W} {H H1 : Heap} (hP : va_P D cls wr H) (hD : va_D A (wr ++ wc)) (hk : ∀ q : Nat, q < H.size → ¬ va_A wc H.size q → H1[q]? = H[q]?) (hF : ∀ q, va_A wc H.size q → A q) (hP1 : va_P D cls w' H1) (hD1 : va_D (va_A wc H.size) w') : va_P D cls (wr ++ w') H1 ∧ va_D A (wr ++ w') := by
  have apart : ∀ (k : Nat) (q : Nat × va_E), wr[k]? = some q → q.1 < H.size ∧ ¬ va_A wc H.size q.1 := by
    intro k q hq
    refine ⟨(hP k q hq).lt, fun h => ?_⟩
    have hlt : k < wr.length := (List.getElem?_eq_some_iff.mp hq).1
    rcases h with ⟨k2, e, h⟩ | h
    · have h1 : (wr ++ wc)[k]? = some q := by rw [List.getElem?_append_left hlt]; exact hq
      have h2 : (wr ++ wc)[wr.length + k2]? = some (q.1, e) := by rw [List.getElem?_append_right (Nat.le_add_right _ _), Nat.add_sub_cancel_left]; exact h
      have := hD.1 _ _ _ _ h1 h2 rfl
      omega
    · have := (hP k q hq).lt
      omega
  have hDr : va_D A wr := by
    refine ⟨fun i j x y hx hy hxy => ?_, fun k q hq => ?_⟩
    · have li := (List.getElem?_eq_some_iff.mp hx).1
      have lj := (List.getElem?_eq_some_iff.mp hy).1
      exact hD.1 i j x y (by rw [List.getElem?_append_left li]; exact hx) (by rw [List.getElem?_append_left lj]; exact hy) hxy
    · have lk := (List.getElem?_eq_some_iff.mp hq).1
      exact hD.2 k q (by rw [List.getElem?_append_left lk]; exact hq)
  refine ⟨va_P.app (fun k q hq => ?_) hP1, va_D.app hDr (hD1.weaken (fun k q _ h => hF q.1 h)) (fun i j x y hx hy hxy => ?_)⟩
  · obtain ⟨g1, g2⟩ := apart k q hq
    exact (hP k q hq).kept (hk q.1 g1 g2)
  · exact (apart i x hx).2 (by rw [hxy]; exact hD1.2 j y hy)
theorem sp_free {A : Nat → Prop} {wr wc : va_W} {H0 H : Heap} {locs : List Loc} (hD : va_D A (wr ++ wc)) (hS : va_S A H0 H locs) (hA : ∀ q, H0.size ≤ q → A q) : ∀ q, va_A wc H.size q → A q := by
  intro q h
  rcases h with ⟨k, e, h⟩ | h
  · exact hD.2 (wr.length + k) (q, e) (by rw [List.getElem?_append_right (Nat.le_add_right _ _), Nat.add_sub_cancel_left]; exact h)
  · exact hA q (Nat.le_trans hS.1 h)
theorem sp_Dc {A : Nat → Prop} {wr wc : va_W} (hD : va_D A (wr ++ wc)) : va_D (fun _ => True) wc := by
  refine ⟨fun i j x y hx hy hxy => ?_, fun _ _ _ => trivial⟩
  have := hD.1 (wr.length + i) (wr.length + j) x y (by rw [List.getElem?_append_right (Nat.le_add_right _ _), Nat.add_sub_cancel_left]; exact hx) (by rw [List.getElem?_append_right (Nat.le_add_right _ _), Nat.add_sub_cancel_left]; exact hy) hxy
  omega
theorem pcn_blind {G : Gx} {w : va_W} {sz : Nat} {av : List Value} : FrameBlind (va_Pc av (pcn G w sz)) := by
  intro a U g mk h
  obtain ⟨h0, h1, h2, h3, h4, h5⟩ := h
  exact ⟨h0, h1, h2, va_K.moved (u := U) (U := U.calling g mk a) (Vm.Alike.refl U.vm) h3, h4, nw_same (u := U) (U := U.calling g mk a) rfl h5⟩
/-- entry of a method that returns -/
theorem ct_of {l : Launch} {G : Gx} {y : MethodName} {cc : ByteArray} {maxL : Nat} {ret : Option FieldType} {rm : Room} {w : va_W} {av : List Value} {post : Option Value → va_W → Prop} (lv0 : List (Nat × Value)) (hy : plainName y.cls = true) (hlen : (lg_sl av).length ≤ maxL) (hlv : lv_args 0 av = lv0)
    (body : ∀ K : Kx, Kl K = l → (y.name = "<init>" → NX K) → CX K G maxL cc y.cls → RX K rm G ret w post → vv K rm G maxL 0 0 w 0 lv0 []) : CT l G y cc maxL ret rm w av post := by
  intro sz
  refine Met.ofW (cc := cc) (maxL := maxL) (ret := ret) hy rfl ?_
  intro p e s m args below meth c s₁ B hml hv
  obtain ⟨rfl, rfl, hP, hK, hD, hN⟩ := hv
  have hts := atoms_spec (ws := Cond.code y cc maxL ret :: gwords) B.pre
  have hown : s.vm.findClass y.cls = some m.cls := findClass_of_methodNamed B.named
  have hnm := (name_of_methodNamed B.named B.method).1
  rw [lg_entry_eq]
  have hl := lv_entry av (n := maxL) hlen
  rw [hlv] at hl
  exact body (p, l, e, s, m, av.toArray, below, meth, c, MQ below (qc G w s.heap.size post) av.toArray s rm.cells rm.slots (va_A w s.heap.size), va_A w s.heap.size) rfl (fun h => hnm.trans h) ⟨B.exec, B.bytes, hml, hown, fun x h => hts x (List.mem_cons_of_mem _ h), hN, hK, fun q h => Or.inr h⟩ ⟨B.returns, B.notSynchronized, rfl, fun H locs cells slots g h => h⟩ s.heap [] _ hP hD.self va_S.rf hl
theorem w_call {p : Program} {l : Launch} {e : Env} {R : Room} {s : State} {m : MethodId} {args a : Array Value} {below : List Frame} {meth : Method} {c : Code} {H : Heap} {locs : List Loc} {cells slots mc ms pc : Nat} {ls : Array Slot} {st0 rest : List Value} {Q : State → Prop} {G : Gx} {wc : va_W} {post : Option Value → va_W → Prop} {A : Nat → Prop}
    (hr : va_Run p l e R s m args below meth c H locs cells slots mc ms (F0 m pc ls st0) rest (qc G wc H.size post a) (va_A wc H.size)) (hS : va_S A s.heap H locs) (hf : ∀ q, va_A wc H.size q → A q)
    (kk : ∀ (r : Option Value) (w' : va_W) (H1 : Heap) (locs1 : List Loc), post r w' → va_P G.1 cls w' H1 → va_D (va_A wc H.size) w' → (∀ q : Nat, q < H.size → ¬ va_A wc H.size q → H1[q]? = H[q]?) → va_S A s.heap H1 locs1 → W p l e R s m args below meth c H1 locs1 (cells + mc) (slots + ms) Q (F0 m (pc + 3) ls (r.toList ++ rest))) : W p l e R s m args below meth c H locs cells slots Q (F0 m pc ls st0) := by
  intro T hT X
  obtain ⟨v, st₀, t, T', L, h0, X', hL, e1, e2, ⟨⟨r, w', hv, hp, hP1, hD1⟩, hz, hk⟩, st⟩ := hr T hT X
  cases hv
  rw [h0] at hz hk
  obtain ⟨t2, a1, b1⟩ := kk _ w' T'.heap (locs ++ L) hp (by rw [e1]; exact hP1) hD1 (fun q h1 h2 => by rw [e1]; exact hk q h1 h2)
    ⟨Nat.le_trans hS.1 (by rw [e1]; exact hz), fun q h1 h2 => by rw [e1, hk q (Nat.lt_of_lt_of_le h1 hS.1) (fun z => h2 (hf q z))]; exact hS.2.1 q h1 h2, fun q hq => by
      rcases List.mem_append.mp hq with h | h
      · exact hS.2.2 q h
      · exact hf _ (hL q h)⟩ T' rfl X'
  exact ⟨t2, st t2 a1, b1⟩
abbrev Hdn (y : MethodName) (n : Nat) : Prop := y.cls ≠ "java/lang/invoke/MethodHandle" ∧ y.cls ≠ "java/lang/invoke/VarHandle" ∧ (parseMethodDescriptor y.desc).map (fun d => d.parameters.length) = some n
abbrev Lnk (own : String) (ix : Nat) (y : MethodName) : Prop := Cond.methodLink own ix y ∈ gwords ∨ ∃ host, Cond.methodLinkNest own ix y host ∈ nwords
def LkV (own : String) (ix : Nat) (y : MethodName) (cc : ByteArray) (maxL : Nat) (ret : Option FieldType) (n : Nat) : Prop := Lnk own ix y ∧ Cond.instanceMethod y ∈ gwords ∧ Cond.selects y.cls y y ∈ gwords ∧ Cond.initialized y.cls ∈ gwords ∧ Cond.code y cc maxL ret ∈ gwords ∧ Hdn y n
def LkS (own : String) (ix : Nat) (y : MethodName) (cc : ByteArray) (maxL : Nat) (ret : Option FieldType) (n : Nat) : Prop := Lnk own ix y ∧ Cond.static y ∈ gwords ∧ Cond.initialized y.cls ∈ gwords ∧ Cond.code y cc maxL ret ∈ gwords ∧ Hdn y n
def LkI (own : String) (ix : Nat) (y : MethodName) (cc : ByteArray) (maxL : Nat) (n : Nat) : Prop := Lnk own ix y ∧ Cond.instanceMethod y ∈ gwords ∧ y.name = "<init>" ∧ Cond.initialized y.cls ∈ gwords ∧ Cond.code y cc maxL none ∈ gwords ∧ Hdn y n
theorem gw_good {x : Cond} (h : x ∈ gwords) : (x.onTables && x.keeps) = true ∨ ∃ ty, x = .arrayClass ty := good_of_word (List.mem_filter.mp h).2
theorem good_code {y : MethodName} {cc : ByteArray} {maxL : Nat} {ret : Option FieldType} (h : Cond.code y cc maxL ret ∈ gwords) : GoodIn gwords (Cond.code y cc maxL ret :: gwords) := by
  intro x hx
  rcases List.mem_cons.mp hx with rfl | hx
  · exact ⟨h, gw_good h⟩
  · exact ⟨hx, gw_good hx⟩
variable {K : Kx} {R : Room} {G : Gx} {nL cells slots : Nat} {w : va_W} {pc : Nat} {lv : List (Nat × Value)} {st : List Value} {cc : ByteArray} {own : String}
variable {y : MethodName} {bc : ByteArray} {mL : Nat} {rt : Option FieldType} {rm : Room} {wc : va_W} {As rest : List Value} {post : Option Value → va_W → Prop} {n ix b : Nat}
theorem v_callV (C : CX K G nL cc own) (hT : CT (Kl K) G y bc mL rt rm wc (.ref b :: As) post) (hL : LkV own ix y bc mL rt n) (wr : va_W) (hsp : Sp w wr wc) (q0 : Nat) {ci : Nat} {fs : List Value} {r : vw_C} (hq : wc[q0]? = some (b, .inr (ci, fs))) (hci : cls[ci]? = some r) (hcl : r.1 = y.cls) (hst : st = As.reverse ++ .ref b :: rest) (hn : As.length = n) (hcat : (rest.map fun v => v.category).sum ≤ 8) (hfr : rm.frames + 1 ≤ R.frames) (hlo : 8 + (mL + 11) + rm.locals ≤ R.locals) (h1 : cells + rm.cells ≤ R.cells) (h2 : slots + rm.slots ≤ R.slots) (hd : decode cc pc = .ok (.invokevirtual ix, 3))
    (kk : ∀ (r : Option Value) (w' : va_W), post r w' → vv K R G nL (cells + rm.cells) (slots + rm.slots) (wr ++ w') (pc + 3) lv (r.toList ++ rest)) : vv K R G nL cells slots w pc lv st := by
  obtain ⟨p, l, e, s, m, args, below, meth, c, Q, A⟩ := K
  intro H locs ls hP hD hS hl
  obtain ⟨hPr, hPc⟩ := hsp.1 _ _ hP
  have hD2 := hsp.2 _ hD
  have hF := sp_free hD2 hS C.2.2.2.2.2.2.2
  have hpre : PreV s H y.cls b (va_Pc (.ref b :: As) (pcn G wc H.size)) As := ⟨pcn_blind, by rw [← hcl]; exact va_recv C.2.2.2.2.2.2.1 hPc hci hq, fun U hU hW => ⟨rfl, by rw [hU], by rw [hU]; exact hPc, va_K.moved hW.alike C.2.2.2.2.2.2.1, sp_Dc hD2, nw_kept hW C.2.2.2.2.2.1⟩⟩
  have hrun : va_Run p l e R s m args below meth c H locs cells slots rm.cells rm.slots (F0 m pc ls st) rest (qc G wc H.size post (Value.ref b :: As).toArray) (va_A wc H.size) := by
    rcases hL.1 with hk | ⟨host, hk⟩
    · exact va_runV (Ts := gwords) ⟨C.1, C.2.1, C.2.2.1, C.2.2.2.1, C.2.2.2.2.1⟩ (hT H.size) ⟨callB_of n C.2.2.2.2.1 (good_code hL.2.2.2.2.1) rfl rfl rfl (C.2.2.2.2.1 _ hL.2.2.2.1) (C.2.2.2.2.1 _ hk) hL.2.2.2.2.2 ⟨hfr, hlo⟩, C.2.2.2.2.1 _ hL.2.1, C.2.2.2.2.1 _ hL.2.2.1⟩ hpre rfl hn hl.1 hst (lv_room hcat) hd ⟨h1, h2⟩
    · exact va_runVN (Ts := gwords) ⟨C.1, C.2.1, C.2.2.1, C.2.2.2.1, C.2.2.2.2.1⟩ (hT H.size) ⟨va_cnB n C.2.2.2.2.1 (good_code hL.2.2.2.2.1) rfl rfl rfl (C.2.2.2.2.2.1 _ hk) (C.2.2.2.2.1 _ hL.2.2.2.1) hL.2.2.2.2.2 ⟨hfr, hlo⟩, C.2.2.2.2.1 _ hL.2.1, C.2.2.2.2.1 _ hL.2.2.1⟩ hpre rfl hn hl.1 hst (lv_room hcat) hd ⟨h1, h2⟩
  refine w_call hrun hS hF (fun r w' H1 locs1 hp hP1 hD1 hk1 hS1 => ?_)
  obtain ⟨hP9, hD9⟩ := sp_join hPr hD2 hk1 hF hP1 hD1
  exact kk r w' hp H1 locs1 ls hP9 hD9 hS1 hl
theorem v_callS (C : CX K G nL cc own) (hT : CT (Kl K) G y bc mL rt rm wc As post) (hL : LkS own ix y bc mL rt n) (wr : va_W) (hsp : Sp w wr wc) (hst : st = As.reverse ++ rest) (hn : As.length = n) (hcat : (rest.map fun v => v.category).sum ≤ 8) (hfr : rm.frames + 1 ≤ R.frames) (hlo : 8 + (mL + 11) + rm.locals ≤ R.locals) (h1 : cells + rm.cells ≤ R.cells) (h2 : slots + rm.slots ≤ R.slots) (hd : decode cc pc = .ok (.invokestatic ix, 3))
    (kk : ∀ (r : Option Value) (w' : va_W), post r w' → vv K R G nL (cells + rm.cells) (slots + rm.slots) (wr ++ w') (pc + 3) lv (r.toList ++ rest)) : vv K R G nL cells slots w pc lv st := by
  obtain ⟨p, l, e, s, m, args, below, meth, c, Q, A⟩ := K
  intro H locs ls hP hD hS hl
  obtain ⟨hPr, hPc⟩ := hsp.1 _ _ hP
  have hD2 := hsp.2 _ hD
  have hF := sp_free hD2 hS C.2.2.2.2.2.2.2
  have hpre : PreS s H (va_Pc As (pcn G wc H.size)) As := ⟨pcn_blind, fun U hU hW => ⟨rfl, by rw [hU], by rw [hU]; exact hPc, va_K.moved hW.alike C.2.2.2.2.2.2.1, sp_Dc hD2, nw_kept hW C.2.2.2.2.2.1⟩⟩
  have hrun : va_Run p l e R s m args below meth c H locs cells slots rm.cells rm.slots (F0 m pc ls st) rest (qc G wc H.size post As.toArray) (va_A wc H.size) := by
    rcases hL.1 with hk | ⟨host, hk⟩
    · exact va_runS (Ts := gwords) ⟨C.1, C.2.1, C.2.2.1, C.2.2.2.1, C.2.2.2.2.1⟩ (hT H.size) ⟨callB_of n C.2.2.2.2.1 (good_code hL.2.2.2.1) rfl rfl rfl (C.2.2.2.2.1 _ hL.2.2.1) (C.2.2.2.2.1 _ hk) hL.2.2.2.2 ⟨hfr, hlo⟩, C.2.2.2.2.1 _ hL.2.1⟩ hpre rfl hn hl.1 hst (lv_room hcat) hd ⟨h1, h2⟩
    · exact va_runSN (Ts := gwords) ⟨C.1, C.2.1, C.2.2.1, C.2.2.2.1, C.2.2.2.2.1⟩ (hT H.size) ⟨va_cnB n C.2.2.2.2.1 (good_code hL.2.2.2.1) rfl rfl rfl (C.2.2.2.2.2.1 _ hk) (C.2.2.2.2.1 _ hL.2.2.1) hL.2.2.2.2 ⟨hfr, hlo⟩, C.2.2.2.2.1 _ hL.2.1, trivial⟩ hpre rfl hn hl.1 hst (lv_room hcat) hd ⟨h1, h2⟩
  refine w_call hrun hS hF (fun r w' H1 locs1 hp hP1 hD1 hk1 hS1 => ?_)
  obtain ⟨hP9, hD9⟩ := sp_join hPr hD2 hk1 hF hP1 hD1
  exact kk r w' hp H1 locs1 ls hP9 hD9 hS1 hl
theorem v_callI (C : CX K G nL cc own) (hT : CT (Kl K) G y bc mL none rm wc (.ref b :: As) post) (hL : LkI own ix y bc mL n) (wr : va_W) (hsp : Sp w wr wc) (hst : st = As.reverse ++ .ref b :: rest) (hn : As.length = n) (hcat : (rest.map fun v => v.category).sum ≤ 8) (hfr : rm.frames + 1 ≤ R.frames) (hlo : 8 + (mL + 11) + rm.locals ≤ R.locals) (h1 : cells + rm.cells ≤ R.cells) (h2 : slots + rm.slots ≤ R.slots) (hd : decode cc pc = .ok (.invokespecial ix, 3))
    (kk : ∀ (r : Option Value) (w' : va_W), post r w' → vv K R G nL (cells + rm.cells) (slots + rm.slots) (wr ++ w') (pc + 3) lv (r.toList ++ rest)) : vv K R G nL cells slots w pc lv st := by
  obtain ⟨p, l, e, s, m, args, below, meth, c, Q, A⟩ := K
  intro H locs ls hP hD hS hl
  obtain ⟨hPr, hPc⟩ := hsp.1 _ _ hP
  have hD2 := hsp.2 _ hD
  have hF := sp_free hD2 hS C.2.2.2.2.2.2.2
  have hpre : PreS s H (va_Pc (.ref b :: As) (pcn G wc H.size)) (.ref b :: As) := ⟨pcn_blind, fun U hU hW => ⟨rfl, by rw [hU], by rw [hU]; exact hPc, va_K.moved hW.alike C.2.2.2.2.2.2.1, sp_Dc hD2, nw_kept hW C.2.2.2.2.2.1⟩⟩
  have hrun : va_Run p l e R s m args below meth c H locs cells slots rm.cells rm.slots (F0 m pc ls st) rest (qc G wc H.size post (Value.ref b :: As).toArray) (va_A wc H.size) := by
    rcases hL.1 with hk | ⟨host, hk⟩
    · exact va_runI (Ts := gwords) ⟨C.1, C.2.1, C.2.2.1, C.2.2.2.1, C.2.2.2.2.1⟩ (hT H.size) ⟨callB_of n C.2.2.2.2.1 (good_code hL.2.2.2.2.1) rfl rfl rfl (C.2.2.2.2.1 _ hL.2.2.2.1) (C.2.2.2.2.1 _ hk) hL.2.2.2.2.2 ⟨hfr, hlo⟩, hL.2.2.1, C.2.2.2.2.1 _ hL.2.1⟩ hpre rfl hn hl.1 hst (lv_room hcat) hd ⟨h1, h2⟩
    · exact va_runIN (Ts := gwords) ⟨C.1, C.2.1, C.2.2.1, C.2.2.2.1, C.2.2.2.2.1⟩ (hT H.size) ⟨va_cnB n C.2.2.2.2.1 (good_code hL.2.2.2.2.1) rfl rfl rfl (C.2.2.2.2.2.1 _ hk) (C.2.2.2.2.1 _ hL.2.2.2.1) hL.2.2.2.2.2 ⟨hfr, hlo⟩, hL.2.2.1, C.2.2.2.2.1 _ hL.2.1⟩ hpre rfl hn hl.1 hst (lv_room hcat) hd ⟨h1, h2⟩
  refine w_call hrun hS hF (fun r w' H1 locs1 hp hP1 hD1 hk1 hS1 => ?_)
  obtain ⟨hP9, hD9⟩ := sp_join hPr hD2 hk1 hF hP1 hD1
  exact kk r w' hp H1 locs1 ls hP9 hD9 hS1 hl
end VC
end
section
/-! fields laid, calls linked -/
theorem hin_Ta : ∀ x ∈ u_ws "WeightOrder$Table" T_Ta 3, x ∈ gwords := (show ∀ x ∈ ([Cond.laysFinal "WeightOrder$Table" "WeightOrder$Table" "keys" "[J", Cond.laysFinal "WeightOrder$Table" "WeightOrder$Table" "values" "[I", Cond.lays "WeightOrder$Table" "WeightOrder$Table" "size" "I"] : List Cond), x ∈ gwords from List.forall_mem_cons.mpr ⟨k_34, List.forall_mem_cons.mpr ⟨k_36, List.forall_mem_cons.mpr ⟨k_38, fun _ h => absurd h List.not_mem_nil⟩⟩⟩)
theorem hin_Li : ∀ x ∈ u_ws "WeightOrder$Line" T_Li 3, x ∈ gwords := (show ∀ x ∈ ([Cond.laysFinal "WeightOrder$Line" "WeightOrder$Line" "packed" "[J", Cond.laysFinal "WeightOrder$Line" "WeightOrder$Line" "variable" "[Z", Cond.lays "WeightOrder$Line" "WeightOrder$Line" "size" "I"] : List Cond), x ∈ gwords from List.forall_mem_cons.mpr ⟨k_310, List.forall_mem_cons.mpr ⟨k_312, List.forall_mem_cons.mpr ⟨k_314, fun _ h => absurd h List.not_mem_nil⟩⟩⟩)
theorem hin_Ls : ∀ x ∈ u_ws "WeightOrder$Lines" T_Ls 4, x ∈ gwords := (show ∀ x ∈ ([Cond.laysFinal "WeightOrder$Lines" "WeightOrder$Lines" "numbers" "LWeightOrder$Table;", Cond.laysFinal "WeightOrder$Lines" "WeightOrder$Lines" "made" "[LWeightOrder$Line;", Cond.lays "WeightOrder$Lines" "WeightOrder$Lines" "size" "I", Cond.lays "WeightOrder$Lines" "WeightOrder$Lines" "toldLast" "LWeightOrder$Line;"] : List Cond), x ∈ gwords from List.forall_mem_cons.mpr ⟨k_59, List.forall_mem_cons.mpr ⟨k_61, List.forall_mem_cons.mpr ⟨k_63, List.forall_mem_cons.mpr ⟨k_65, fun _ h => absurd h List.not_mem_nil⟩⟩⟩⟩)
theorem hin_Ro : ∀ x ∈ u_ws "WeightOrder$Row" T_Ro 2, x ∈ gwords := (show ∀ x ∈ ([Cond.laysFinal "WeightOrder$Row" "WeightOrder$Row" "points" "[I", Cond.lays "WeightOrder$Row" "WeightOrder$Row" "size" "I"] : List Cond), x ∈ gwords from List.forall_mem_cons.mpr ⟨k_80, List.forall_mem_cons.mpr ⟨k_82, fun _ h => absurd h List.not_mem_nil⟩⟩)
theorem hin_El : ∀ x ∈ u_ws "WeightOrder$Elements" T_El 4, x ∈ gwords := (show ∀ x ∈ ([Cond.laysFinal "WeightOrder$Elements" "WeightOrder$Elements" "packed" "[J", Cond.lays "WeightOrder$Elements" "WeightOrder$Elements" "size" "I", Cond.lays "WeightOrder$Elements" "WeightOrder$Elements" "shifted" "Z", Cond.lays "WeightOrder$Elements" "WeightOrder$Elements" "behindVariable" "Z"] : List Cond), x ∈ gwords from List.forall_mem_cons.mpr ⟨k_131, List.forall_mem_cons.mpr ⟨k_133, List.forall_mem_cons.mpr ⟨k_135, List.forall_mem_cons.mpr ⟨k_137, fun _ h => absurd h List.not_mem_nil⟩⟩⟩⟩)
theorem hin_Fi : ∀ x ∈ u_ws "WeightOrder$Finder" T_Fi 9, x ∈ gwords := (show ∀ x ∈ ([Cond.laysFinal "WeightOrder$Finder" "WeightOrder$Finder" "classes" "LWeightOrder$Table;", Cond.laysFinal "WeightOrder$Finder" "WeightOrder$Finder" "lines" "LWeightOrder$Lines;", Cond.laysFinal "WeightOrder$Finder" "WeightOrder$Finder" "points" "[I", Cond.laysFinal "WeightOrder$Finder" "WeightOrder$Finder" "pointClasses" "[I", Cond.lays "WeightOrder$Finder" "WeightOrder$Finder" "start" "I", Cond.lays "WeightOrder$Finder" "WeightOrder$Finder" "end" "I", Cond.lays "WeightOrder$Finder" "WeightOrder$Finder" "key" "J", Cond.lays "WeightOrder$Finder" "WeightOrder$Finder" "length" "I", Cond.lays "WeightOrder$Finder" "WeightOrder$Finder" "line" "LWeightOrder$Line;"] : List Cond), x ∈ gwords from List.forall_mem_cons.mpr ⟨k_100, List.forall_mem_cons.mpr ⟨k_102, List.forall_mem_cons.mpr ⟨k_104, List.forall_mem_cons.mpr ⟨k_106, List.forall_mem_cons.mpr ⟨k_108, List.forall_mem_cons.mpr ⟨k_110, List.forall_mem_cons.mpr ⟨k_112, List.forall_mem_cons.mpr ⟨k_114, List.forall_mem_cons.mpr ⟨k_116, fun _ h => absurd h List.not_mem_nil⟩⟩⟩⟩⟩⟩⟩⟩⟩)
theorem hin_Wo : ∀ x ∈ u_ws "WeightOrder" T_Wo 6, x ∈ gwords := (show ∀ x ∈ ([Cond.laysFinal "WeightOrder" "WeightOrder" "classes" "LWeightOrder$Table;", Cond.laysFinal "WeightOrder" "WeightOrder" "lines" "LWeightOrder$Lines;", Cond.laysFinal "WeightOrder" "WeightOrder" "rows" "[LWeightOrder$Row;", Cond.laysFinal "WeightOrder" "WeightOrder" "finder" "LWeightOrder$Finder;", Cond.laysFinal "WeightOrder" "WeightOrder" "elements" "LWeightOrder$Elements;", Cond.laysFinal "WeightOrder" "WeightOrder" "otherElements" "LWeightOrder$Elements;"] : List Cond), x ∈ gwords from List.forall_mem_cons.mpr ⟨k_146, List.forall_mem_cons.mpr ⟨k_148, List.forall_mem_cons.mpr ⟨k_150, List.forall_mem_cons.mpr ⟨k_152, List.forall_mem_cons.mpr ⟨k_154, List.forall_mem_cons.mpr ⟨k_156, fun _ h => absurd h List.not_mem_nil⟩⟩⟩⟩⟩⟩)
theorem hin_Mo : ∀ x ∈ u_ws "WeightOrderModel" T_Mo 17, x ∈ gwords := (show ∀ x ∈ ([Cond.lays "WeightOrderModel" "WeightOrderModel" "failed" "I", Cond.laysFinal "WeightOrderModel" "WeightOrderModel" "points" "[I", Cond.laysFinal "WeightOrderModel" "WeightOrderModel" "classes" "[I", Cond.lays "WeightOrderModel" "WeightOrderModel" "classed" "I", Cond.laysFinal "WeightOrderModel" "WeightOrderModel" "lengths" "[I", Cond.laysFinal "WeightOrderModel" "WeightOrderModel" "rows" "[I", Cond.laysFinal "WeightOrderModel" "WeightOrderModel" "counts" "[I", Cond.laysFinal "WeightOrderModel" "WeightOrderModel" "elements" "[I", Cond.lays "WeightOrderModel" "WeightOrderModel" "lines" "I", Cond.lays "WeightOrderModel" "WeightOrderModel" "told" "I", Cond.laysFinal "WeightOrderModel" "WeightOrderModel" "texts" "[[I", Cond.laysFinal "WeightOrderModel" "WeightOrderModel" "sizes" "[I", Cond.laysFinal "WeightOrderModel" "WeightOrderModel" "left" "[I", Cond.lays "WeightOrderModel" "WeightOrderModel" "leftSize" "I", Cond.laysFinal "WeightOrderModel" "WeightOrderModel" "found" "[I", Cond.lays "WeightOrderModel" "WeightOrderModel" "foundSize" "I", Cond.laysFinal "WeightOrderModel" "WeightOrderModel" "first" "[I"] : List Cond), x ∈ gwords from List.forall_mem_cons.mpr ⟨k_479, List.forall_mem_cons.mpr ⟨k_481, List.forall_mem_cons.mpr ⟨k_483, List.forall_mem_cons.mpr ⟨k_485, List.forall_mem_cons.mpr ⟨k_487, List.forall_mem_cons.mpr ⟨k_489, List.forall_mem_cons.mpr ⟨k_491, List.forall_mem_cons.mpr ⟨k_493, List.forall_mem_cons.mpr ⟨k_495, List.forall_mem_cons.mpr ⟨k_497, List.forall_mem_cons.mpr ⟨k_499, List.forall_mem_cons.mpr ⟨k_501, List.forall_mem_cons.mpr ⟨k_503, List.forall_mem_cons.mpr ⟨k_505, List.forall_mem_cons.mpr ⟨k_507, List.forall_mem_cons.mpr ⟨k_509, List.forall_mem_cons.mpr ⟨k_511, fun _ h => absurd h List.not_mem_nil⟩⟩⟩⟩⟩⟩⟩⟩⟩⟩⟩⟩⟩⟩⟩⟩⟩)
theorem l_Wo_11 : LkI "WeightOrder" 11 y_Ta_init b_Ta_init 2 1 := ⟨Or.inr ⟨_, k_27⟩, k_28, rfl, k_2, k_29, ⟨by decide, by decide, by decide +kernel⟩⟩
theorem l_Wo_20 : LkI "WeightOrder" 20 y_Ls_init b_Ls_init 1 0 := ⟨Or.inr ⟨_, k_45⟩, k_46, rfl, k_3, k_47, ⟨by decide, by decide, by decide +kernel⟩⟩
theorem l_Wo_27 : LkI "WeightOrder" 27 y_Ro_init b_Ro_init 1 0 := ⟨Or.inr ⟨_, k_71⟩, k_72, rfl, k_4, k_73, ⟨by decide, by decide, by decide +kernel⟩⟩
theorem l_Wo_34 : LkI "WeightOrder" 34 y_Fi_init b_Fi_init 3 2 := ⟨Or.inr ⟨_, k_87⟩, k_88, rfl, k_5, k_89, ⟨by decide, by decide, by decide +kernel⟩⟩
theorem l_Wo_43 : LkI "WeightOrder" 43 y_El_init b_El_init 1 0 := ⟨Or.inr ⟨_, k_121⟩, k_122, rfl, k_6, k_123, ⟨by decide, by decide, by decide +kernel⟩⟩
theorem l_Ls_11 : LkI "WeightOrder$Lines" 11 y_Ta_init b_Ta_init 2 1 := ⟨Or.inr ⟨_, k_50⟩, k_28, rfl, k_2, k_29, ⟨by decide, by decide, by decide +kernel⟩⟩
theorem l_La_7 : LkV "WeightOrderLaw" 7 y_Wo_order b_Wo_order 3 none 2 := ⟨Or.inl k_163, k_164, k_165, k_1, k_166, ⟨by decide, by decide, by decide +kernel⟩⟩
theorem l_Wo_52 : LkS "WeightOrder" 52 y_Wo_isWithin b_Wo_isWithin 2 (some .boolean) 2 := ⟨Or.inl k_168, k_169, k_1, k_170, ⟨by decide, by decide, by decide +kernel⟩⟩
theorem l_Wo_59 : LkV "WeightOrder" 59 y_Ta_put b_Ta_put 5 none 2 := ⟨Or.inr ⟨_, k_233⟩, k_235, ks_1, k_2, k_236, ⟨by decide, by decide, by decide +kernel⟩⟩
theorem l_Ta_17 : LkV "WeightOrder$Table" 17 y_Ta_placeOf b_Ta_placeOf 6 (some .int) 1 := ⟨Or.inl k_237, k_239, ks_2, k_2, k_240, ⟨by decide, by decide, by decide +kernel⟩⟩
theorem l_Ta_25 : LkV "WeightOrder$Table" 25 y_Ta_insert b_Ta_insert 5 none 3 := ⟨Or.inl k_241, k_243, ks_3, k_2, k_244, ⟨by decide, by decide, by decide +kernel⟩⟩
theorem l_La_15 : LkV "WeightOrderLaw" 15 y_Wo_line b_Wo_line 7 (some .int) 4 := ⟨Or.inl k_252, k_253, k_254, k_1, k_255, ⟨by decide, by decide, by decide +kernel⟩⟩
theorem l_Wo_63 : LkS "WeightOrder" 63 y_Wo_arePoints b_Wo_arePoints 3 (some .boolean) 3 := ⟨Or.inl k_256, k_257, k_1, k_258, ⟨by decide, by decide, by decide +kernel⟩⟩
theorem l_Wo_67 : LkS "WeightOrder" 67 y_Wo_keyOf b_Wo_keyOf 6 (some .long) 4 := ⟨Or.inl k_259, k_260, k_1, k_261, ⟨by decide, by decide, by decide +kernel⟩⟩
theorem l_Wo_71 : LkV "WeightOrder" 71 y_Ls_find b_Ls_find 4 (some (.object "WeightOrder$Line")) 1 := ⟨Or.inr ⟨_, k_265⟩, k_267, ks_4, k_3, k_268, ⟨by decide, by decide, by decide +kernel⟩⟩
theorem l_Wo_75 : LkV "WeightOrder" 75 y_Ls_isFull b_Ls_isFull 1 (some .boolean) 0 := ⟨Or.inr ⟨_, k_273⟩, k_275, ks_6, k_3, k_276, ⟨by decide, by decide, by decide +kernel⟩⟩
theorem l_Wo_82 : LkV "WeightOrder" 82 y_Ls_tell b_Ls_tell 4 none 1 := ⟨Or.inr ⟨_, k_292⟩, k_294, ks_7, k_3, k_295, ⟨by decide, by decide, by decide +kernel⟩⟩
theorem l_Wo_128 : LkS "WeightOrder" 128 y_Wo_longerKey b_Wo_longerKey 3 (some .long) 2 := ⟨Or.inl k_262, k_263, k_1, k_264, ⟨by decide, by decide, by decide +kernel⟩⟩
theorem l_Ls_30 : LkV "WeightOrder$Lines" 30 y_Ta_valueOf b_Ta_valueOf 5 (some .int) 2 := ⟨Or.inr ⟨_, k_269⟩, k_271, ks_5, k_2, k_272, ⟨by decide, by decide, by decide +kernel⟩⟩
theorem l_Ls_34 : LkV "WeightOrder$Lines" 34 y_Ls_find b_Ls_find 4 (some (.object "WeightOrder$Line")) 1 := ⟨Or.inl k_296, k_267, ks_4, k_3, k_268, ⟨by decide, by decide, by decide +kernel⟩⟩
theorem l_Ls_38 : LkI "WeightOrder$Lines" 38 y_Li_init b_Li_init 1 0 := ⟨Or.inr ⟨_, k_298⟩, k_299, rfl, k_14, k_300, ⟨by decide, by decide, by decide +kernel⟩⟩
theorem l_Ls_39 : LkV "WeightOrder$Lines" 39 y_Ta_put b_Ta_put 5 none 2 := ⟨Or.inr ⟨_, k_318⟩, k_235, ks_1, k_2, k_236, ⟨by decide, by decide, by decide +kernel⟩⟩
theorem l_La_21 : LkV "WeightOrderLaw" 21 y_Wo_element b_Wo_element 6 (some .int) 4 := ⟨Or.inl k_322, k_323, k_324, k_1, k_325, ⟨by decide, by decide, by decide +kernel⟩⟩
theorem l_Wo_95 : LkV "WeightOrder" 95 y_Li_isFull b_Li_isFull 1 (some .boolean) 0 := ⟨Or.inr ⟨_, k_327⟩, k_329, ks_8, k_14, k_330, ⟨by decide, by decide, by decide +kernel⟩⟩
theorem l_Wo_98 : LkS "WeightOrder" 98 y_Wo_pack b_Wo_pack 3 (some .long) 3 := ⟨Or.inl k_331, k_332, k_1, k_333, ⟨by decide, by decide, by decide +kernel⟩⟩
theorem l_Wo_102 : LkV "WeightOrder" 102 y_Li_append b_Li_append 4 none 2 := ⟨Or.inr ⟨_, k_334⟩, k_336, ks_9, k_14, k_337, ⟨by decide, by decide, by decide +kernel⟩⟩
theorem l_La_25 : LkV "WeightOrderLaw" 25 y_Wo_add b_Wo_add 3 (some .int) 2 := ⟨Or.inl k_341, k_342, k_343, k_1, k_344, ⟨by decide, by decide, by decide +kernel⟩⟩
theorem l_Wo_107 : LkV "WeightOrder" 107 y_Ro_isFull b_Ro_isFull 1 (some .boolean) 0 := ⟨Or.inr ⟨_, k_345⟩, k_347, ks_10, k_4, k_348, ⟨by decide, by decide, by decide +kernel⟩⟩
theorem l_Wo_108 : LkV "WeightOrder" 108 y_Ro_append b_Ro_append 2 none 1 := ⟨Or.inr ⟨_, k_349⟩, k_351, ks_11, k_4, k_352, ⟨by decide, by decide, by decide +kernel⟩⟩
theorem l_La_29 : LkV "WeightOrderLaw" 29 y_Wo_clear b_Wo_clear 3 (some .int) 1 := ⟨Or.inl k_356, k_357, k_358, k_1, k_359, ⟨by decide, by decide, by decide +kernel⟩⟩
theorem l_La_33 : LkV "WeightOrderLaw" 33 y_Wo_count b_Wo_count 3 (some .int) 2 := ⟨Or.inl k_363, k_364, k_365, k_1, k_366, ⟨by decide, by decide, by decide +kernel⟩⟩
theorem l_Wo_111 : LkV "WeightOrder" 111 y_Fi_findElements b_Fi_findElements 5 none 3 := ⟨Or.inr ⟨_, k_367⟩, k_369, ks_12, k_5, k_370, ⟨by decide, by decide, by decide +kernel⟩⟩
theorem l_Fi_26 : LkV "WeightOrder$Finder" 26 y_Fi_load b_Fi_load 3 none 1 := ⟨Or.inl k_371, k_373, ks_13, k_5, k_374, ⟨by decide, by decide, by decide +kernel⟩⟩
theorem l_Fi_30 : LkV "WeightOrder$Finder" 30 y_El_begin b_El_begin 2 none 1 := ⟨Or.inr ⟨_, k_376⟩, k_378, ks_14, k_6, k_379, ⟨by decide, by decide, by decide +kernel⟩⟩
theorem l_Fi_43 : LkV "WeightOrder$Finder" 43 y_Fi_takeNext b_Fi_takeNext 2 none 1 := ⟨Or.inl k_380, k_382, ks_15, k_5, k_383, ⟨by decide, by decide, by decide +kernel⟩⟩
theorem l_Fi_53 : LkV "WeightOrder$Finder" 53 y_Ta_valueOf b_Ta_valueOf 5 (some .int) 2 := ⟨Or.inr ⟨_, k_375⟩, k_271, ks_5, k_2, k_272, ⟨by decide, by decide, by decide +kernel⟩⟩
theorem l_Fi_59 : LkV "WeightOrder$Finder" 59 y_Fi_seekBeginning b_Fi_seekBeginning 5 none 0 := ⟨Or.inl k_384, k_386, ks_16, k_5, k_387, ⟨by decide, by decide, by decide +kernel⟩⟩
theorem l_Fi_66 : LkV "WeightOrder$Finder" 66 y_El_appendImplicit b_El_appendImplicit 2 none 1 := ⟨Or.inr ⟨_, k_394⟩, k_396, ks_18, k_6, k_397, ⟨by decide, by decide, by decide +kernel⟩⟩
theorem l_Fi_73 : LkV "WeightOrder$Finder" 73 y_Fi_seekBehind b_Fi_seekBehind 4 none 0 := ⟨Or.inl k_413, k_415, ks_21, k_5, k_416, ⟨by decide, by decide, by decide +kernel⟩⟩
theorem l_Fi_76 : LkV "WeightOrder$Finder" 76 y_El_appendLine b_El_appendLine 3 none 1 := ⟨Or.inr ⟨_, k_425⟩, k_427, ks_23, k_6, k_428, ⟨by decide, by decide, by decide +kernel⟩⟩
theorem l_Fi_80 : LkS "WeightOrder$Finder" 80 y_Wo_longerKey b_Wo_longerKey 3 (some .long) 2 := ⟨Or.inr ⟨_, k_388⟩, k_263, k_1, k_264, ⟨by decide, by decide, by decide +kernel⟩⟩
theorem l_Fi_84 : LkV "WeightOrder$Finder" 84 y_Ls_find b_Ls_find 4 (some (.object "WeightOrder$Line")) 1 := ⟨Or.inr ⟨_, k_389⟩, k_267, ks_4, k_3, k_268, ⟨by decide, by decide, by decide +kernel⟩⟩
theorem l_Fi_90 : LkV "WeightOrder$Finder" 90 y_Fi_become b_Fi_become 5 none 3 := ⟨Or.inl k_390, k_392, ks_17, k_5, k_393, ⟨by decide, by decide, by decide +kernel⟩⟩
theorem l_El_44 : LkS "WeightOrder$Elements" 44 y_Wo_pack b_Wo_pack 3 (some .long) 3 := ⟨Or.inr ⟨_, k_400⟩, k_332, k_1, k_333, ⟨by decide, by decide, by decide +kernel⟩⟩
theorem l_El_38 : LkV "WeightOrder$Elements" 38 y_El_append b_El_append 4 none 2 := ⟨Or.inl k_401, k_403, ks_19, k_6, k_404, ⟨by decide, by decide, by decide +kernel⟩⟩
theorem l_El_26 : LkV "WeightOrder$Elements" 26 y_El_shift b_El_shift 5 (some .long) 2 := ⟨Or.inl k_405, k_407, ks_20, k_6, k_408, ⟨by decide, by decide, by decide +kernel⟩⟩
theorem l_El_48 : LkS "WeightOrder$Elements" 48 y_Wo_weightOf b_Wo_weightOf 3 (some .int) 2 := ⟨Or.inr ⟨_, k_409⟩, k_410, k_1, k_411, ⟨by decide, by decide, by decide +kernel⟩⟩
theorem l_Fi_98 : LkS "WeightOrder$Finder" 98 y_Ma_max b_Ma_max 2 (some .int) 2 := ⟨Or.inl k_417, k_418, k_15, k_419, ⟨by decide, by decide, by decide +kernel⟩⟩
theorem l_Fi_104 : LkV "WeightOrder$Finder" 104 y_Fi_closeGap b_Fi_closeGap 2 none 1 := ⟨Or.inl k_420, k_422, ks_22, k_5, k_423, ⟨by decide, by decide, by decide +kernel⟩⟩
theorem l_La_37 : LkV "WeightOrderLaw" 37 y_Wo_weight b_Wo_weight 5 (some .int) 4 := ⟨Or.inl k_432, k_433, k_434, k_1, k_435, ⟨by decide, by decide, by decide +kernel⟩⟩
theorem l_Wo_120 : LkS "WeightOrder" 120 y_Wo_weightOf b_Wo_weightOf 3 (some .int) 2 := ⟨Or.inl k_436, k_410, k_1, k_411, ⟨by decide, by decide, by decide +kernel⟩⟩
theorem l_La_41 : LkV "WeightOrderLaw" 41 y_Wo_compare b_Wo_compare 7 (some .int) 4 := ⟨Or.inl k_440, k_441, k_442, k_1, k_443, ⟨by decide, by decide, by decide +kernel⟩⟩
theorem l_Wo_124 : LkS "WeightOrder" 124 y_Wo_levelOrder b_Wo_levelOrder 7 (some .int) 3 := ⟨Or.inl k_444, k_445, k_1, k_446, ⟨by decide, by decide, by decide +kernel⟩⟩
theorem l_Wo_132 : LkV "WeightOrder" 132 y_El_nextWithWeight b_El_nextWithWeight 4 (some .int) 2 := ⟨Or.inr ⟨_, k_447⟩, k_449, ks_24, k_6, k_450, ⟨by decide, by decide, by decide +kernel⟩⟩
theorem l_Wo_136 : LkS "WeightOrder" 136 y_In_compare b_In_compare 2 (some .int) 2 := ⟨Or.inl k_451, k_452, k_16, k_453, ⟨by decide, by decide, by decide +kernel⟩⟩
theorem l_Mo_53 : LkV "WeightOrderModel" 53 y_Mo_out b_Mo_out 2 (some .boolean) 1 := ⟨Or.inl k_522, k_524, ks_25, k_7, k_525, ⟨by decide, by decide, by decide +kernel⟩⟩
theorem l_Mo_63 : LkV "WeightOrderModel" 63 y_Mo_fail b_Mo_fail 2 (some .int) 1 := ⟨Or.inl k_531, k_533, ks_26, k_7, k_534, ⟨by decide, by decide, by decide +kernel⟩⟩
theorem l_Mo_67 : LkV "WeightOrderModel" 67 y_Mo_lineOf b_Mo_lineOf 6 (some .int) 4 := ⟨Or.inl k_535, k_537, ks_27, k_7, k_538, ⟨by decide, by decide, by decide +kernel⟩⟩
theorem l_Mo_97 : LkV "WeightOrderModel" 97 y_Mo_take b_Mo_take 11 none 2 := ⟨Or.inl k_556, k_558, ks_28, k_7, k_559, ⟨by decide, by decide, by decide +kernel⟩⟩
theorem l_Mo_80 : LkV "WeightOrderModel" 80 y_Mo_give b_Mo_give 5 none 4 := ⟨Or.inl k_562, k_564, ks_29, k_7, k_565, ⟨by decide, by decide, by decide +kernel⟩⟩
theorem l_Mo_84 : LkV "WeightOrderModel" 84 y_Mo_drop b_Mo_drop 4 none 2 := ⟨Or.inl k_566, k_568, ks_30, k_7, k_569, ⟨by decide, by decide, by decide +kernel⟩⟩
theorem l_Mo_88 : LkV "WeightOrderModel" 88 y_Mo_classOf b_Mo_classOf 3 (some .int) 1 := ⟨Or.inl k_570, k_572, ks_31, k_7, k_573, ⟨by decide, by decide, by decide +kernel⟩⟩
theorem l_Mo_91 : LkS "WeightOrderModel" 91 y_Ma_max b_Ma_max 2 (some .int) 2 := ⟨Or.inl k_574, k_418, k_15, k_419, ⟨by decide, by decide, by decide +kernel⟩⟩
theorem l_La_44 : LkI "WeightOrderLaw" 44 y_Wo_init b_Wo_init 1 0 := ⟨Or.inl k_19, k_20, rfl, k_1, k_21, ⟨by decide, by decide, by decide +kernel⟩⟩
theorem l_La_47 : LkI "WeightOrderLaw" 47 y_Mo_init b_Mo_init 1 0 := ⟨Or.inl k_456, k_457, rfl, k_7, k_458, ⟨by decide, by decide, by decide +kernel⟩⟩
theorem l_La_53 : LkV "WeightOrderLaw" 53 y_Mo_order b_Mo_order 4 none 2 := ⟨Or.inl k_518, k_519, k_520, k_7, k_521, ⟨by decide, by decide, by decide +kernel⟩⟩
theorem l_La_54 : LkV "WeightOrderLaw" 54 y_Mo_thrown b_Mo_thrown 1 (some .int) 0 := ⟨Or.inl k_514, k_515, k_516, k_7, k_517, ⟨by decide, by decide, by decide +kernel⟩⟩
theorem l_La_61 : LkV "WeightOrderLaw" 61 y_Mo_line b_Mo_line 6 (some .int) 4 := ⟨Or.inl k_527, k_528, k_529, k_7, k_530, ⟨by decide, by decide, by decide +kernel⟩⟩
theorem l_La_65 : LkV "WeightOrderLaw" 65 y_Mo_element b_Mo_element 6 (some .int) 4 := ⟨Or.inl k_539, k_540, k_541, k_7, k_542, ⟨by decide, by decide, by decide +kernel⟩⟩
theorem l_La_69 : LkV "WeightOrderLaw" 69 y_Mo_add b_Mo_add 3 (some .int) 2 := ⟨Or.inl k_544, k_545, k_546, k_7, k_547, ⟨by decide, by decide, by decide +kernel⟩⟩
theorem l_La_73 : LkV "WeightOrderLaw" 73 y_Mo_clear b_Mo_clear 3 (some .int) 1 := ⟨Or.inl k_548, k_549, k_550, k_7, k_551, ⟨by decide, by decide, by decide +kernel⟩⟩
theorem l_La_77 : LkV "WeightOrderLaw" 77 y_Mo_count b_Mo_count 3 (some .int) 2 := ⟨Or.inl k_552, k_553, k_554, k_7, k_555, ⟨by decide, by decide, by decide +kernel⟩⟩
theorem l_La_81 : LkV "WeightOrderLaw" 81 y_Mo_weight b_Mo_weight 5 (some .int) 4 := ⟨Or.inl k_575, k_576, k_577, k_7, k_578, ⟨by decide, by decide, by decide +kernel⟩⟩
theorem l_La_84 : LkV "WeightOrderLaw" 84 y_Mo_compare b_Mo_compare 9 (some .int) 4 := ⟨Or.inl k_579, k_580, k_581, k_7, k_582, ⟨by decide, by decide, by decide +kernel⟩⟩
end
section
/-! small rows of numbers and of worlds with a pool -/
theorem nI_inc1 (a : Nat) : nI a + Int32.ofInt 1 = nI (a + 1) := nI_1 a
theorem rf_nar (r : Option Nat) (C : String) : narrow (.object C) (va_rf r) = va_rf r := by cases r <;> rfl
theorem rf_fit (r : Option Nat) (C : String) : fits (.object C) (va_rf r) = true := by cases r <;> rfl
theorem lgc_ge {x y : Int64} : 0 ≤ lg_cmp x y ↔ ¬ x < y := by
  unfold lg_cmp
  by_cases h1 : y < x
  · have : ¬ x < y := fun h => by rw [Int64.lt_iff_toInt_lt] at h h1; omega
    simp [h1, this]
  · by_cases h2 : x = y
    · subst h2
      have : ¬ x < x := fun h => by rw [Int64.lt_iff_toInt_lt] at h; omega
      simp [this]
    · have : x < y := by
        rw [Int64.lt_iff_toInt_lt]
        rw [Int64.lt_iff_toInt_lt] at h1
        have h3 : x.toInt ≠ y.toInt := fun h => h2 (Int64.toInt_inj.mp h)
        omega
      simp [h1, h2, this]
theorem lgc_eq {x y : Int64} : lg_cmp x y = 0 ↔ x = y := by
  unfold lg_cmp
  by_cases h1 : y < x
  · have : ¬ x = y := fun h => by subst h; rw [Int64.lt_iff_toInt_lt] at h1; omega
    simp [h1, this]
  · by_cases h2 : x = y
    · simp [h2]
    · simp [h1, h2]
theorem lN_inj {a b : Nat} (ha : a < 9223372036854775808) (hb : b < 9223372036854775808) : lN a = lN b ↔ a = b := pk_lEQ ha hb
theorem lN_ltN {a b : Nat} (ha : a < 9223372036854775808) (hb : b < 9223372036854775808) : lN a < lN b ↔ a < b := pk_lLT ha hb
section VP
theorem sp_get {X P : va_W} {i : Nat} {q : Nat × va_E} (h : X[i]? = some q) : (X ++ P)[i]? = some q := by
  rw [List.getElem?_append_left (List.getElem?_eq_some_iff.mp h).1]
  exact h
/-- addresses apart, by members -/
theorem va_D_perm {A : Nat → Prop} {w w' : va_W} (h : w.Perm w') (hD : va_D A w) : va_D A w' := by
  have h1 : w.Pairwise (fun p q => p.1 ≠ q.1) := by
    rw [List.pairwise_iff_getElem]
    intro i j hi hj hij e
    have := hD.1 i j _ _ (List.getElem?_eq_getElem hi) (List.getElem?_eq_getElem hj) e
    omega
  have h2 : w'.Pairwise (fun p q => p.1 ≠ q.1) := (h.pairwise_iff (fun {a b} q => Ne.symm q)).mp h1
  rw [List.pairwise_iff_getElem] at h2
  refine ⟨fun i j p q hp hq hpq => ?_, fun k q hq => ?_⟩
  · obtain ⟨li, ep⟩ := List.getElem?_eq_some_iff.mp hp
    obtain ⟨lj, eq⟩ := List.getElem?_eq_some_iff.mp hq
    rcases Nat.lt_trichotomy i j with c | c | c
    · exact absurd (by rw [ep, eq]; exact hpq) (h2 i j li lj c)
    · exact c
    · exact absurd (by rw [ep, eq]; exact hpq.symm) (h2 j i lj li c)
  · have hm : q ∈ w := h.mem_iff.mpr (List.mem_of_getElem? hq)
    obtain ⟨i, hi⟩ := List.getElem?_of_mem hm
    exact hD.2 i q hi
theorem va_P_perm {D : va_G} {cl : List vw_C} {w w' : va_W} {H : Heap} (h : w.Perm w') (hP : va_P D cl w H) : va_P D cl w' H := by
  intro k q hq
  have hm : q ∈ w := h.mem_iff.mpr (List.mem_of_getElem? hq)
  obtain ⟨i, hi⟩ := List.getElem?_of_mem hm
  exact hP i q hi
theorem sp_perm {w wr wc : va_W} (h : w.Perm (wr ++ wc)) : Sp w wr wc := by
  refine ⟨fun D H hP => ?_, fun A hD => va_D_perm h hD⟩
  have h1 := va_P_perm h hP
  exact ⟨fun k q hq => h1 k q (sp_get hq), fun k q hq => h1 (wr.length + k) q (by rw [List.getElem?_append_right (Nat.le_add_right _ _), Nat.add_sub_cancel_left]; exact hq)⟩
theorem v_perm {K : Kx} {R : Room} {G : Gx} {nL cells slots : Nat} {w : va_W} {pc : Nat} {lv : List (Nat × Value)} {st : List Value} (w' : va_W) (h : w.Perm w') (kk : vv K R G nL cells slots w' pc lv st) : vv K R G nL cells slots w pc lv st := by
  obtain ⟨p, l, e, s, m, args, below, meth, c, Q, A⟩ := K
  intro H locs ls hP hD hS hl
  exact kk H locs ls (va_P_perm h hP) (va_D_perm h hD) hS hl
end VP
end
section
/-! leaves: isWithin, Row, Line, the numbers of keys and weights -/
/-- isWithin's answer -/
def wi (x y : Int32) : Int32 := if x < 0 ∨ y < x then nI 0 else nI 1
theorem wi_0 {x y : Int32} (h : x < 0 ∨ y < x) : wi x y = nI 0 := by unfold wi; rw [if_pos h]
theorem wi_1 {x y : Int32} (h : ¬ x < 0) (h2 : ¬ y < x) : wi x y = nI 1 := by unfold wi; rw [if_neg (fun q => q.elim h h2)]
theorem wi_eq0 {x y : Int32} (h : wi x y = 0) : x < 0 ∨ y < x := by
  by_cases h1 : x < 0 ∨ y < x
  · exact h1
  · unfold wi at h; rw [if_neg h1] at h; exact absurd h (by decide)
theorem wi_ne0 {x y : Int32} (h : ¬ wi x y = 0) : ¬ x < 0 ∧ ¬ y < x := by
  by_cases h1 : x < 0 ∨ y < x
  · exact absurd (by rw [wi_0 h1]; rfl) h
  · exact ⟨fun q => h1 (Or.inl q), fun q => h1 (Or.inr q)⟩

set_option maxHeartbeats 4000000 in
set_option maxRecDepth 100000 in
/-- isWithin -/
theorem c_Wo_isWithin (l : Launch) (G : Gx) (x y : Int32)  : CT l G y_Wo_isWithin b_Wo_isWithin 2 (some .boolean) ({ frames := 0, cells := 0, slots := 0, locals := 0 } : Room) ([]) [.int x, .int y] (fun r w' => w' = [] ∧ r = some (.int (wi x y))) := by
  refine ct_of [(0, .int x), (1, .int y)] (by decide) (Nat.le_of_ble_eq_true rfl) rfl (fun K hKl hNI C X => ?_)
  subst hKl
  refine v_iload_n (pc := 0) C 0 d_Wo_isWithin_0 rfl rfl ?_
  refine v_if_lt (pc := 1) C 13 d_Wo_isWithin_1 (by decide) (fun h1 => ?_) (fun h1 => ?_)
  · refine v_iconst (pc := 13) C (nI 0) d_Wo_isWithin_13 (by decide +kernel) ?_
    exact v_zret (pc := 14) C X rfl d_Wo_isWithin_14 ⟨rfl, by rw [wi_0 (Or.inl h1)]⟩ (by decide) (by decide)
  · refine v_iload_n (pc := 4) C 0 d_Wo_isWithin_4 rfl rfl ?_
    refine v_iload_n (pc := 5) C 1 d_Wo_isWithin_5 rfl rfl ?_
    refine v_icmp_gt (pc := 6) C 13 d_Wo_isWithin_6 (by decide) (fun h6 => ?_) (fun h6 => ?_)
    · refine v_iconst (pc := 13) C (nI 0) d_Wo_isWithin_13 (by decide +kernel) ?_
      exact v_zret (pc := 14) C X rfl d_Wo_isWithin_14 ⟨rfl, by rw [wi_0 (Or.inr h6)]⟩ (by decide) (by decide)
    · refine v_iconst (pc := 9) C (nI 1) d_Wo_isWithin_9 (by decide +kernel) ?_
      refine v_goto (pc := 10) C 14 d_Wo_isWithin_10 (by decide) ?_
      exact v_zret (pc := 14) C X rfl d_Wo_isWithin_14 ⟨rfl, by rw [wi_1 h1 h6]⟩ (by decide) (by decide)

set_option maxHeartbeats 4000000 in
set_option maxRecDepth 100000 in
theorem c_Ro_isFull (l : Launch) (G : Gx) (a p : Nat) (f : Nat → Int32) (n : Nat) (hn : n ≤ 200) : CT l G y_Ro_isFull b_Ro_isFull 1 (some .boolean) ({ frames := 0, cells := 0, slots := 0, locals := 0 } : Room) ([(a, ob 3 [.ref p, .int (nI n)]), (p, aI G 200 f)]) [.ref a] (fun r w' => w' = [(a, ob 3 [.ref p, .int (nI n)]), (p, aI G 200 f)] ∧ r = some (.int (if n = 200 then nI 1 else nI 0))) := by
  refine ct_of [(0, .ref a)] (by decide) (Nat.le_of_ble_eq_true rfl) rfl (fun K hKl hNI C X => ?_)
  subst hKl
  refine v_aload_n (pc := 0) C 0 d_Ro_isFull_0 rfl rfl ?_
  refine v_get (pc := 1) (Cn := "WeightOrder$Row") (T := T_Ro) (N := 2) (ci := 3) (v := .int (nI n)) C 0 1 rfl rfl hin_Ro (by decide) rfl k_77 rfl d_Ro_isFull_1 ?_
  refine v_aload_n (pc := 4) C 0 d_Ro_isFull_4 rfl rfl ?_
  refine v_get (pc := 5) (Cn := "WeightOrder$Row") (T := T_Ro) (N := 2) (ci := 3) (v := .ref p) C 0 0 rfl rfl hin_Ro (by decide) rfl k_75 rfl d_Ro_isFull_5 ?_
  refine v_alenI (pc := 8) C 1 rfl d_Ro_isFull_8 ?_
  refine v_icmpN_ne (pc := 9) C 16 n 200 d_Ro_isFull_9 (by decide) (by omega) (by omega) (fun hc => ?_) (fun hc => ?_)
  · refine v_iconst (pc := 16) C (nI 0) d_Ro_isFull_16 (by decide +kernel) ?_
    exact v_zret (pc := 17) C X rfl d_Ro_isFull_17 ⟨rfl, by rw [if_neg hc]⟩ (by decide) (by decide)
  · refine v_iconst (pc := 12) C (nI 1) d_Ro_isFull_12 (by decide +kernel) ?_
    refine v_goto (pc := 13) C 17 d_Ro_isFull_13 (by decide) ?_
    exact v_zret (pc := 17) C X rfl d_Ro_isFull_17 ⟨rfl, by rw [if_pos hc]⟩ (by decide) (by decide)

set_option maxHeartbeats 4000000 in
set_option maxRecDepth 100000 in
theorem c_Li_isFull (l : Launch) (G : Gx) (a p q : Nat) (f : Nat → Int64) (g : Nat → Int32) (n : Nat) (hn : n ≤ 8) : CT l G y_Li_isFull b_Li_isFull 1 (some .boolean) ({ frames := 0, cells := 0, slots := 0, locals := 0 } : Room) ([(a, ob 1 [.ref p, .ref q, .int (nI n)]), (p, aJ G 8 f), (q, aZ G 8 g)]) [.ref a] (fun r w' => w' = [(a, ob 1 [.ref p, .ref q, .int (nI n)]), (p, aJ G 8 f), (q, aZ G 8 g)] ∧ r = some (.int (if n = 8 then nI 1 else nI 0))) := by
  refine ct_of [(0, .ref a)] (by decide) (Nat.le_of_ble_eq_true rfl) rfl (fun K hKl hNI C X => ?_)
  subst hKl
  refine v_aload_n (pc := 0) C 0 d_Li_isFull_0 rfl rfl ?_
  refine v_get (pc := 1) (Cn := "WeightOrder$Line") (T := T_Li) (N := 3) (ci := 1) (v := .int (nI n)) C 0 2 rfl rfl hin_Li (by decide) rfl k_306 rfl d_Li_isFull_1 ?_
  refine v_aload_n (pc := 4) C 0 d_Li_isFull_4 rfl rfl ?_
  refine v_get (pc := 5) (Cn := "WeightOrder$Line") (T := T_Li) (N := 3) (ci := 1) (v := .ref p) C 0 0 rfl rfl hin_Li (by decide) rfl k_302 rfl d_Li_isFull_5 ?_
  refine v_alenJ (pc := 8) C 1 rfl d_Li_isFull_8 ?_
  refine v_icmpN_ne (pc := 9) C 16 n 8 d_Li_isFull_9 (by decide) (by omega) (by omega) (fun hc => ?_) (fun hc => ?_)
  · refine v_iconst (pc := 16) C (nI 0) d_Li_isFull_16 (by decide +kernel) ?_
    exact v_zret (pc := 17) C X rfl d_Li_isFull_17 ⟨rfl, by rw [if_neg hc]⟩ (by decide) (by decide)
  · refine v_iconst (pc := 12) C (nI 1) d_Li_isFull_12 (by decide +kernel) ?_
    refine v_goto (pc := 13) C 17 d_Li_isFull_13 (by decide) ?_
    exact v_zret (pc := 17) C X rfl d_Li_isFull_17 ⟨rfl, by rw [if_pos hc]⟩ (by decide) (by decide)

set_option maxHeartbeats 4000000 in
set_option maxRecDepth 100000 in
theorem c_Ro_append (l : Launch) (G : Gx) (a p : Nat) (f : Nat → Int32) (n : Nat) (x : Int32) (hn : n < 200) : CT l G y_Ro_append b_Ro_append 2 none ({ frames := 0, cells := 0, slots := 0, locals := 0 } : Room) ([(a, ob 3 [.ref p, .int (nI n)]), (p, aI G 200 f)]) [.ref a, .int x] (fun r w' => w' = [(a, ob 3 [.ref p, .int (nI (n + 1))]), (p, aI G 200 (upd f n x))] ∧ r = none) := by
  refine ct_of [(0, .ref a), (1, .int x)] (by decide) (Nat.le_of_ble_eq_true rfl) rfl (fun K hKl hNI C X => ?_)
  subst hKl
  refine v_aload_n (pc := 0) C 0 d_Ro_append_0 rfl rfl ?_
  refine v_get (pc := 1) (Cn := "WeightOrder$Row") (T := T_Ro) (N := 2) (ci := 3) (v := .ref p) C 0 0 rfl rfl hin_Ro (by decide) rfl k_75 rfl d_Ro_append_1 ?_
  refine v_aload_n (pc := 4) C 0 d_Ro_append_4 rfl rfl ?_
  refine v_get (pc := 5) (Cn := "WeightOrder$Row") (T := T_Ro) (N := 2) (ci := 3) (v := .int (nI n)) C 0 1 rfl rfl hin_Ro (by decide) rfl k_77 rfl d_Ro_append_5 ?_
  refine v_iload_n (pc := 8) C 1 d_Ro_append_8 rfl rfl ?_
  refine v_iast (pc := 9) C 1 ([(a, ob 3 [.ref p, .int (nI n)]), (p, aI G 200 (upd f n x))]) rfl n rfl (by omega) (by decide) rfl d_Ro_append_9 ?_
  refine v_aload_n (pc := 10) C 0 d_Ro_append_10 rfl rfl ?_
  refine v_dup (pc := 11) C d_Ro_append_11 rfl ?_
  refine v_get (pc := 12) (Cn := "WeightOrder$Row") (T := T_Ro) (N := 2) (ci := 3) (v := .int (nI n)) C 0 1 rfl rfl hin_Ro (by decide) rfl k_77 rfl d_Ro_append_12 ?_
  refine v_iconst (pc := 15) C (nI 1) d_Ro_append_15 (by decide +kernel) ?_
  refine v_iadd (pc := 16) C (nI (n + 1)) d_Ro_append_16 (nI_add _ _) ?_
  refine v_put (pc := 17) (Cn := "WeightOrder$Row") (T := T_Ro) (N := 2) (ci := 3) (v := .int (nI (n + 1))) C 0 1 rfl rfl hin_Ro (by decide) rfl ([(a, ob 3 [.ref p, .int (nI (n + 1))]), (p, aI G 200 (upd f n x))]) t_Ro t_Ro_ok n_Ro (.int) rfl rfl rfl (Nat.le_of_ble_eq_true rfl) rfl rfl k_77 d_Ro_append_17 ?_
  exact v_vret (pc := 20) C X d_Ro_append_20 ⟨rfl, rfl⟩ (by decide) (by decide)

set_option maxHeartbeats 4000000 in
set_option maxRecDepth 100000 in
theorem c_Li_append (l : Launch) (G : Gx) (a p q : Nat) (f : Nat → Int64) (g : Nat → Int32) (n : Nat) (x : Int64) (z : Int32) (hn : n < 8) : CT l G y_Li_append b_Li_append 4 none ({ frames := 0, cells := 0, slots := 0, locals := 0 } : Room) ([(a, ob 1 [.ref p, .ref q, .int (nI n)]), (p, aJ G 8 f), (q, aZ G 8 g)]) [.ref a, .long x, .int z] (fun r w' => w' = [(a, ob 1 [.ref p, .ref q, .int (nI (n + 1))]), (p, aJ G 8 (vp_updL f n x)), (q, aZ G 8 (upd g n (vp_nar .boolean z)))] ∧ r = none) := by
  refine ct_of [(0, .ref a), (1, .long x), (3, .int z)] (by decide) (Nat.le_of_ble_eq_true rfl) rfl (fun K hKl hNI C X => ?_)
  subst hKl
  refine v_aload_n (pc := 0) C 0 d_Li_append_0 rfl rfl ?_
  refine v_get (pc := 1) (Cn := "WeightOrder$Line") (T := T_Li) (N := 3) (ci := 1) (v := .ref p) C 0 0 rfl rfl hin_Li (by decide) rfl k_302 rfl d_Li_append_1 ?_
  refine v_aload_n (pc := 4) C 0 d_Li_append_4 rfl rfl ?_
  refine v_get (pc := 5) (Cn := "WeightOrder$Line") (T := T_Li) (N := 3) (ci := 1) (v := .int (nI n)) C 0 2 rfl rfl hin_Li (by decide) rfl k_306 rfl d_Li_append_5 ?_
  refine v_lload_n (pc := 8) C 1 d_Li_append_8 rfl rfl ?_
  refine v_last (pc := 9) C 1 ([(a, ob 1 [.ref p, .ref q, .int (nI n)]), (p, aJ G 8 (vp_updL f n x)), (q, aZ G 8 g)]) rfl n rfl (by omega) (by decide) rfl d_Li_append_9 ?_
  refine v_aload_n (pc := 10) C 0 d_Li_append_10 rfl rfl ?_
  refine v_get (pc := 11) (Cn := "WeightOrder$Line") (T := T_Li) (N := 3) (ci := 1) (v := .ref q) C 0 1 rfl rfl hin_Li (by decide) rfl k_304 rfl d_Li_append_11 ?_
  refine v_aload_n (pc := 14) C 0 d_Li_append_14 rfl rfl ?_
  refine v_get (pc := 15) (Cn := "WeightOrder$Line") (T := T_Li) (N := 3) (ci := 1) (v := .int (nI n)) C 0 2 rfl rfl hin_Li (by decide) rfl k_306 rfl d_Li_append_15 ?_
  refine v_iload_n (pc := 18) C 2 d_Li_append_18 rfl rfl ?_
  refine v_zast (pc := 19) C 2 ([(a, ob 1 [.ref p, .ref q, .int (nI n)]), (p, aJ G 8 (vp_updL f n x)), (q, aZ G 8 (upd g n (vp_nar .boolean z)))]) rfl n rfl (by omega) (by decide) rfl d_Li_append_19 ?_
  refine v_aload_n (pc := 20) C 0 d_Li_append_20 rfl rfl ?_
  refine v_dup (pc := 21) C d_Li_append_21 rfl ?_
  refine v_get (pc := 22) (Cn := "WeightOrder$Line") (T := T_Li) (N := 3) (ci := 1) (v := .int (nI n)) C 0 2 rfl rfl hin_Li (by decide) rfl k_306 rfl d_Li_append_22 ?_
  refine v_iconst (pc := 25) C (nI 1) d_Li_append_25 (by decide +kernel) ?_
  refine v_iadd (pc := 26) C (nI (n + 1)) d_Li_append_26 (nI_add _ _) ?_
  refine v_put (pc := 27) (Cn := "WeightOrder$Line") (T := T_Li) (N := 3) (ci := 1) (v := .int (nI (n + 1))) C 0 2 rfl rfl hin_Li (by decide) rfl ([(a, ob 1 [.ref p, .ref q, .int (nI (n + 1))]), (p, aJ G 8 (vp_updL f n x)), (q, aZ G 8 (upd g n (vp_nar .boolean z)))]) t_Li t_Li_ok n_Li (.int) rfl rfl rfl (Nat.le_of_ble_eq_true rfl) rfl rfl k_306 d_Li_append_27 ?_
  exact v_vret (pc := 30) C X d_Li_append_30 ⟨rfl, rfl⟩ (by decide) (by decide)
end
section
/-! ===== nI under and, xor, >>>, one bit, 65535 ===== -/
theorem nx_and (a b : Nat) : nI a &&& nI b = nI (a &&& b) := by
  apply Int32.toBitVec_inj.1
  show BitVec.ofNat 32 a &&& BitVec.ofNat 32 b = BitVec.ofNat 32 (a &&& b)
  apply BitVec.eq_of_getLsbD_eq
  intro i hi
  simp [hi]
theorem nx_xor (a b : Nat) : nI a ^^^ nI b = nI (a ^^^ b) := by
  apply Int32.toBitVec_inj.1
  show BitVec.ofNat 32 a ^^^ BitVec.ofNat 32 b = BitVec.ofNat 32 (a ^^^ b)
  apply BitVec.eq_of_getLsbD_eq
  intro i hi
  simp [hi]
theorem nx_cnt : ∀ j : Fin 32, (UInt32.ofNat j.val &&& Int32.toUInt32 31).toNat % 32 = j.val := by decide +kernel
theorem nx_ush {k j : Nat} (hk : k < 65536) (hj : j < 32) : ((nI k).toUInt32 >>> ((nI j).toUInt32 &&& Int32.toUInt32 31)).toInt32 = nI (k >>> j) := by
  have hs : k >>> j ≤ k := by
    rw [Nat.shiftRight_eq_div_pow]
    exact Nat.div_le_self _ _
  have e2 : UInt32.ofNat k >>> (UInt32.ofNat j &&& Int32.toUInt32 31) = UInt32.ofNat (k >>> j) := by
    apply UInt32.toNat_inj.1
    have h1 : (UInt32.ofNat k).toNat = k := Nat.mod_eq_of_lt (by omega)
    have h2 : (UInt32.ofNat (k >>> j)).toNat = k >>> j := Nat.mod_eq_of_lt (by omega)
    rw [UInt32.toNat_shiftRight, nx_cnt ⟨j, hj⟩, h1, h2]
  show (UInt32.ofNat k >>> (UInt32.ofNat j &&& Int32.toUInt32 31)).toInt32 = _
  rw [e2]
  rfl
theorem nx_bit {k j : Nat} (hk : k < 65536) (hj : j < 16) : (((nI k).toUInt32 >>> ((nI j).toUInt32 &&& Int32.toUInt32 31)).toInt32 &&& 1) = 0 ↔ k.testBit j = false := by
  rw [nx_ush hk (by omega)]
  show nI (k >>> j) &&& nI 1 = 0 ↔ _
  rw [nx_and, Nat.and_one_is_mod, ← nI_0, nI_eq (by omega) (by omega), Nat.testBit_eq_decide_div_mod_eq, Nat.shiftRight_eq_div_pow, decide_eq_false_iff_not]
  generalize k / 2 ^ j = z
  omega
theorem nx_mod (k : Nat) : nI k &&& 65535 = nI (k % 65536) := by
  show nI k &&& nI 65535 = _
  rw [nx_and, show (65535 : Nat) = 2 ^ 16 - 1 from rfl, Nat.and_two_pow_sub_one_eq_mod]
theorem nx_m16 {k : Nat} (h : k < 65536) : nI k &&& 65535 = nI k := by rw [nx_mod, Nat.mod_eq_of_lt h]
theorem nx_mask (x : Int32) : ∃ k, k < 65536 ∧ x &&& 65535 = nI k := by
  have e : x = nI x.toBitVec.toNat := by
    apply Int32.toBitVec_inj.1
    show x.toBitVec = BitVec.ofNat 32 x.toBitVec.toNat
    simp
  refine ⟨x.toBitVec.toNat % 65536, Nat.mod_lt _ (by omega), ?_⟩
  rw [← nx_mod, ← e]
/-! ===== lN n to 2^64: shifts, and, or, masks, one bit ===== -/
theorem wb_tb (n : Nat) : (lN n).toBitVec = BitVec.ofNat 64 n := rfl
theorem wb_inj {a b : Int64} (h : a.toBitVec = b.toBitVec) : a = b := Int64.toBitVec_inj.mp h
theorem wb_tn {n : Nat} (h : n < 2 ^ 64) : (lN n).toBitVec.toNat = n := by rw [wb_tb, BitVec.toNat_ofNat, Nat.mod_eq_of_lt h]
theorem wb_of (x : Int64) : ∃ n, n < 2 ^ 64 ∧ x = lN n := ⟨x.toBitVec.toNat, x.toBitVec.isLt, wb_inj (by rw [wb_tb]; simp)⟩
theorem wb_of32 (x : Int32) : ∃ n, n < 2 ^ 32 ∧ x = nI n := ⟨x.toBitVec.toNat, x.toBitVec.isLt, Int32.toBitVec_inj.mp (by show _ = BitVec.ofNat 32 _; simp)⟩
theorem wb_c : ∀ k, k < 64 → ((nI k).toInt64 &&& 63) = lN k := by decide +kernel
theorem wb_cu : ∀ k, k < 64 → ((nI k).toInt64.toUInt64 &&& Int64.toUInt64 63) = UInt64.ofNat k := by decide +kernel
theorem wb_sm : ∀ k, k < 64 → (BitVec.ofNat 64 k).smod 64 = BitVec.ofNat 64 k := by decide +kernel
theorem wb_pw {a b : Nat} (h : a ≤ b) : 2 ^ b = 2 ^ a * 2 ^ (b - a) := by rw [← Nat.pow_add]; congr 1; omega
theorem wb_lt2 {a b : Nat} (h : a < b) : 2 ^ a < 2 ^ b := Nat.pow_lt_pow_right (by decide) h
theorem wb_mod (n : Nat) : lN n = lN (n % 2 ^ 64) := wb_inj (by rw [wb_tb, wb_tb]; apply BitVec.eq_of_toNat_eq; rw [BitVec.toNat_ofNat, BitVec.toNat_ofNat, Nat.mod_mod])
theorem wb_shr {n k : Nat} (hn : n < 2 ^ 64) (hk : k < 64) : ((lN n).toUInt64 >>> ((nI k).toInt64.toUInt64 &&& Int64.toUInt64 63)).toInt64 = lN (n / 2 ^ k) := by
  rw [wb_cu k hk]
  apply wb_inj
  apply BitVec.eq_of_toNat_eq
  show ((lN n).toUInt64 >>> UInt64.ofNat k).toNat = (BitVec.ofNat 64 _).toNat
  have h1 : (UInt64.ofNat k).toNat = k := by
    show (BitVec.ofNat 64 k).toNat = k
    rw [BitVec.toNat_ofNat, Nat.mod_eq_of_lt (by omega)]
  have h2 : (lN n).toUInt64.toNat = n := wb_tn hn
  rw [UInt64.toNat_shiftRight, h1, h2, Nat.mod_eq_of_lt hk, Nat.shiftRight_eq_div_pow, BitVec.toNat_ofNat, Nat.mod_eq_of_lt (Nat.lt_of_le_of_lt (Nat.div_le_self _ _) hn)]
theorem wb_shl (n : Nat) {k : Nat} (hk : k < 64) : lN n <<< ((nI k).toInt64 &&& 63) = lN (n * 2 ^ k) := by
  rw [wb_c k hk]
  apply wb_inj
  rw [Int64.toBitVec_shiftLeft, wb_tb, wb_tb, wb_tb, wb_sm k hk]
  apply BitVec.eq_of_toNat_eq
  rw [BitVec.shiftLeft_eq', BitVec.toNat_shiftLeft, BitVec.toNat_ofNat, BitVec.toNat_ofNat, BitVec.toNat_ofNat, Nat.mod_eq_of_lt (show k < 2 ^ 64 by omega), Nat.shiftLeft_eq, Nat.mul_mod, Nat.mod_mod, ← Nat.mul_mod]
theorem wb_and {a b : Nat} (ha : a < 2 ^ 64) (hb : b < 2 ^ 64) : lN a &&& lN b = lN (a &&& b) := by
  apply wb_inj
  rw [Int64.toBitVec_and, wb_tb, wb_tb, wb_tb]
  apply BitVec.eq_of_toNat_eq
  rw [BitVec.toNat_and, BitVec.toNat_ofNat, BitVec.toNat_ofNat, BitVec.toNat_ofNat, Nat.mod_eq_of_lt ha, Nat.mod_eq_of_lt hb, Nat.mod_eq_of_lt (Nat.and_lt_two_pow _ hb)]
theorem wb_or {a b : Nat} (ha : a < 2 ^ 64) (hb : b < 2 ^ 64) : lN a ||| lN b = lN (a ||| b) := by
  apply wb_inj
  rw [Int64.toBitVec_or, wb_tb, wb_tb, wb_tb]
  apply BitVec.eq_of_toNat_eq
  rw [BitVec.toNat_or, BitVec.toNat_ofNat, BitVec.toNat_ofNat, BitVec.toNat_ofNat, Nat.mod_eq_of_lt ha, Nat.mod_eq_of_lt hb, Nat.mod_eq_of_lt (Nat.or_lt_two_pow ha hb)]
theorem wb_mask {n k : Nat} (hn : n < 2 ^ 64) (hk : k < 64) : lN n &&& lN (2 ^ k - 1) = lN (n % 2 ^ k) := by
  rw [wb_and hn (by have := wb_lt2 hk; omega), Nat.and_two_pow_sub_one_eq_mod]
theorem wb_a1 {n : Nat} (hn : n < 2 ^ 64) : lN n &&& 1 = lN (n % 2) := wb_mask (k := 1) hn (by decide)
theorem wb_bit {n k : Nat} (hn : n < 2 ^ 64) (hk : k < 64) : ((lN n).toUInt64 >>> ((nI k).toInt64.toUInt64 &&& Int64.toUInt64 63)).toInt64 &&& 1 = lN (n / 2 ^ k % 2) := by
  rw [wb_shr hn hk, wb_a1 (Nat.lt_of_le_of_lt (Nat.div_le_self _ _) hn)]
theorem wb_xor {q k : Nat} (hk : k < 63) (h : 2 ^ k ≤ q) (h2 : q < 2 ^ (k + 1)) : lN q ^^^ lN (2 ^ k) = lN (q - 2 ^ k) := by
  obtain ⟨r, rfl⟩ : ∃ r, q = 2 ^ k + r := ⟨q - 2 ^ k, by omega⟩
  have hr : r < 2 ^ k := by rw [Nat.pow_succ] at h2; omega
  have hx : (2 ^ k + r) ^^^ 2 ^ k = r := by
    apply Nat.eq_of_testBit_eq
    intro i
    rw [Nat.testBit_xor, Nat.testBit_two_pow]
    rcases Nat.lt_trichotomy i k with h | h | h
    · rw [Nat.testBit_two_pow_add_gt h]
      simp [show ¬ k = i by omega]
    · subst h
      rw [Nat.testBit_two_pow_add_eq]
      simp
    · have a1 : 2 ^ (k + 1) ≤ 2 ^ i := Nat.pow_le_pow_right (by decide) h
      rw [Nat.testBit_lt_two_pow (show 2 ^ k + r < 2 ^ i by omega), Nat.testBit_lt_two_pow (show r < 2 ^ i by omega)]
      simp [show ¬ k = i by omega]
  have b1 := wb_lt2 (show k + 1 < 64 by omega)
  have b2 := wb_lt2 (show k < 64 by omega)
  apply wb_inj
  rw [Int64.toBitVec_xor, wb_tb, wb_tb, wb_tb]
  apply BitVec.eq_of_toNat_eq
  rw [BitVec.toNat_xor, BitVec.toNat_ofNat, BitVec.toNat_ofNat, BitVec.toNat_ofNat, Nat.mod_eq_of_lt (by omega : 2 ^ k + r < 2 ^ 64), Nat.mod_eq_of_lt b2, hx, Nat.add_sub_cancel_left, Nat.mod_eq_of_lt (by omega)]
/-! ===== lN: masks, 'or' of parts that don't overlap is a sum ===== -/
theorem u_tn {n : Nat} (h : n < 2 ^ 64) : (UInt64.ofNat n).toNat = n := Nat.mod_eq_of_lt h
theorem g_and {a b c : Nat} (ha : a < 2 ^ 64) (hb : b < 2 ^ 64) (hc : a &&& b = c) : lN a &&& lN b = lN c := by
  subst hc
  have h : UInt64.ofNat a &&& UInt64.ofNat b = UInt64.ofNat (a &&& b) := UInt64.toNat_inj.mp (by rw [UInt64.toNat_and, u_tn ha, u_tn hb, u_tn (Nat.and_lt_two_pow a hb)])
  have h2 := congrArg UInt64.toInt64 h
  exact h2
theorem g_and1 {a : Nat} (ha : a < 2 ^ 64) : lN a &&& 1 = lN (a % 2) := g_and (b := 1) ha (by decide) (Nat.and_two_pow_sub_one_eq_mod a 1)
theorem g_mask {a s p : Nat} (hp : 2 ^ s = p) (hs : s < 64) (ha : a < 2 ^ 64) : lN a &&& lN (p - 1) = lN (a % p) := by
  subst hp
  have := Nat.pow_lt_pow_right (show 1 < 2 by decide) hs
  exact g_and ha (by omega) (Nat.and_two_pow_sub_one_eq_mod a s)
theorem g_or {k p a b : Nat} (hp : 2 ^ k = p) (ha : a < p) (h : b * p + a < 2 ^ 64) : lN (b * p) ||| lN a = lN (b * p + a) := by
  subst hp
  have h1 : b * 2 ^ k ||| a = b * 2 ^ k + a := by rw [← Nat.shiftLeft_eq, Nat.shiftLeft_add_eq_or_of_lt ha]
  have h3 : UInt64.ofNat (b * 2 ^ k) ||| UInt64.ofNat a = UInt64.ofNat (b * 2 ^ k + a) := UInt64.toNat_inj.mp (by rw [UInt64.toNat_or, u_tn (by omega), u_tn (by omega), u_tn h, h1])
  have h2 := congrArg UInt64.toInt64 h3
  exact h2
theorem g_or' {k p a b : Nat} (hp : 2 ^ k = p) (ha : a < p) (h : a + b * p < 2 ^ 64) : lN a ||| lN (b * p) = lN (a + b * p) := by
  rw [Int64.or_comm, g_or hp ha (by omega), Nat.add_comm]
theorem g_ushr {a k p : Nat} {y : UInt64} (hy : y = UInt64.ofNat k) (hk : k < 64) (hp : 2 ^ k = p) (ha : a < 2 ^ 64) : ((lN a).toUInt64 >>> y).toInt64 = lN (a / p) := by
  subst hy hp
  have h : UInt64.ofNat a >>> UInt64.ofNat k = UInt64.ofNat (a / 2 ^ k) := UInt64.toNat_inj.mp (by rw [UInt64.toNat_shiftRight, u_tn ha, u_tn (by omega), u_tn (Nat.lt_of_le_of_lt (Nat.div_le_self _ _) ha), Nat.mod_eq_of_lt hk, Nat.shiftRight_eq_div_pow])
  have h2 := congrArg UInt64.toInt64 h
  exact h2
theorem g_shl {a k p : Nat} {y : Int64} (hy : y.toBitVec.smod 64 = BitVec.ofNat 64 k) (hk : k < 64) (hp : 2 ^ k = p) (ha : a < 2 ^ 64) : lN a <<< y = lN (a * p) := by
  subst hp
  apply Int64.toBitVec_inj.mp
  rw [Int64.toBitVec_shiftLeft, hy]
  apply BitVec.eq_of_toNat_eq
  have hb : (lN a).toBitVec.toNat = a := Nat.mod_eq_of_lt ha
  have hk' : (BitVec.ofNat 64 k).toNat = k := Nat.mod_eq_of_lt (by omega)
  have h : ((lN a).toBitVec <<< BitVec.ofNat 64 k).toNat = (a * 2 ^ k) % 2 ^ 64 := by simp only [BitVec.shiftLeft_eq', BitVec.toNat_shiftLeft, hb, hk', Nat.shiftLeft_eq]
  exact h
/-! keys and packed weights, as numbers -/
/-- a key with one more point -/
def kx (k p : Nat) : Nat := k * 2097152 + (p + 1)
def keyN (n a b c : Nat) : Nat := if n ≤ 1 then kx 0 a else if n ≤ 2 then kx (kx 0 a) b else kx (kx (kx 0 a) b) c
def pkN (p s t f : Nat) : Nat := p * 281474976710656 + s * 4294967296 + t * 65536 + f
def wtN (n w : Nat) : Nat := n / 2 ^ (48 - 16 * w) % 65536
theorem lk_shl (k : Nat) : lN k <<< ((nI 21).toInt64 &&& 63) = lN (k * 2097152) := wb_shl k (k := 21) (by decide)
theorem lk_or {k p : Nat} (hp : p ≤ 1114111) (hk : k < 4398046511104) : lN (k * 2097152) ||| lN (p + 1) = lN (kx k p) := g_or (k := 21) rfl (by omega) (by have : (2:Nat)^64 = 18446744073709551616 := rfl; omega)
theorem pw64 : (2 : Nat) ^ 64 = 18446744073709551616 := rfl
theorem pk_shl48 (p : Nat) : lN p <<< ((nI 48).toInt64 &&& 63) = lN (p * 281474976710656) := wb_shl p (k := 48) (by decide)
theorem pk_shl32 (p : Nat) : lN p <<< ((nI 32).toInt64 &&& 63) = lN (p * 4294967296) := wb_shl p (k := 32) (by decide)
theorem pk_shl16 (p : Nat) : lN p <<< ((nI 16).toInt64 &&& 63) = lN (p * 65536) := wb_shl p (k := 16) (by decide)
theorem pk_or1 {p s : Nat} (hp : p < 65536) (hs : s < 65536) : lN (p * 281474976710656) ||| lN (s * 4294967296) = lN (p * 281474976710656 + s * 4294967296) :=
  g_or (k := 48) (p := 281474976710656) (b := p) (a := s * 4294967296) rfl (by omega) (by rw [pw64]; omega)
theorem pk_e2 (p s t : Nat) : (p * 65536 + s) * 4294967296 + t * 65536 = pkN p s t 0 := by simp only [pkN, Nat.add_zero, Nat.add_mul, Nat.mul_assoc, Nat.reduceMul]
theorem pk_or2 {p s t : Nat} (hp : p < 65536) (hs : s < 65536) (ht : t < 65536) : lN (p * 281474976710656 + s * 4294967296) ||| lN (t * 65536) = lN (pkN p s t 0) := by
  have e1 : p * 281474976710656 + s * 4294967296 = (p * 65536 + s) * 4294967296 := by omega
  rw [e1, g_or (k := 32) (p := 4294967296) (b := p * 65536 + s) (a := t * 65536) rfl (by omega) (by rw [pw64]; omega), pk_e2]
theorem wt_and (m : Nat) : nI m &&& nI 65535 = nI (m % 65536) := nx_mod m
theorem wt_shr {n w : Nat} (hn : n < 18446744073709551616) (hw : w ≤ 3) : ((lN n).toUInt64 >>> ((nI (48 - 16 * w)).toInt64.toUInt64 &&& Int64.toUInt64 63)).toInt64 = lN (n / 2 ^ (48 - 16 * w)) := wb_shr (by rw [pw64]; exact hn) (by omega)
theorem pkN_lt {p s t f : Nat} (hp : p < 65536) (hs : s < 65536) (ht : t < 65536) (hf : f < 65536) : pkN p s t f < 18446744073709551616 := by unfold pkN; omega
theorem wt_0 {p s t f : Nat} (hp : p < 65536) (hs : s < 65536) (ht : t < 65536) (hf : f < 65536) : wtN (pkN p s t f) 0 = p := by unfold wtN pkN; simp only [Nat.mul_zero, Nat.sub_zero, Nat.reducePow]; omega
theorem wt_1 {p s t f : Nat} (hp : p < 65536) (hs : s < 65536) (ht : t < 65536) (hf : f < 65536) : wtN (pkN p s t f) 1 = s := by unfold wtN pkN; simp only [Nat.reduceMul, Nat.reduceSub, Nat.reducePow]; omega
theorem wt_2 {p s t f : Nat} (hp : p < 65536) (hs : s < 65536) (ht : t < 65536) (hf : f < 65536) : wtN (pkN p s t f) 2 = t := by unfold wtN pkN; simp only [Nat.reduceMul, Nat.reduceSub, Nat.reducePow]; omega
theorem wt_3 {p s t f : Nat} (hp : p < 65536) (hs : s < 65536) (ht : t < 65536) (hf : f < 65536) : wtN (pkN p s t f) 3 = f := by unfold wtN pkN; simp only [Nat.reduceMul, Nat.reduceSub, Nat.reducePow]; omega
theorem wtN_lt (n w : Nat) : wtN n w < 65536 := Nat.mod_lt _ (by decide)
/-- a weight or-ed with 65535 -/
theorem pk_orF {p s t : Nat} (hp : p < 65536) (hs : s < 65536) (ht : t < 65536) : lN (pkN p s t 0) ||| lN 65535 = lN (pkN p s t 65535) := by
  have e1 : pkN p s t 0 = (p * 4294967296 + s * 65536 + t) * 65536 := by unfold pkN; omega
  rw [e1, g_or (k := 16) (p := 65536) (b := p * 4294967296 + s * 65536 + t) (a := 65535) rfl (by omega) (by rw [pw64]; omega)]
  exact congrArg lN (by unfold pkN; omega)
theorem pkN_eq0 {p s t : Nat} : pkN p s t 0 = 0 ↔ p = 0 ∧ s = 0 ∧ t = 0 := by unfold pkN; omega
theorem kx_lt {k p : Nat} (hp : p ≤ 1114111) (hk : k < 4398046511104) : kx k p < 9223372036854775808 := by unfold kx; omega

set_option maxHeartbeats 4000000 in
set_option maxRecDepth 100000 in
theorem c_Wo_longerKey (l : Launch) (G : Gx) (k p : Nat) (hp : p ≤ 1114111) (hk : k < 4398046511104) : CT l G y_Wo_longerKey b_Wo_longerKey 3 (some .long) ({ frames := 0, cells := 0, slots := 0, locals := 0 } : Room) ([]) [.long (lN k), .int (nI p)] (fun r w' => w' = [] ∧ r = some (.long (lN (kx k p)))) := by
  refine ct_of [(0, .long (lN k)), (2, .int (nI p))] (by decide) (Nat.le_of_ble_eq_true rfl) rfl (fun K hKl hNI C X => ?_)
  subst hKl
  refine v_lload_n (pc := 0) C 0 d_Wo_longerKey_0 rfl rfl ?_
  refine v_bipush (pc := 1) C (nI 21) d_Wo_longerKey_1 (by decide +kernel) ?_
  refine v_lshl (pc := 3) C (lN (k * 2097152)) d_Wo_longerKey_3 (lk_shl k) ?_
  refine v_iload_n (pc := 4) C 1 d_Wo_longerKey_4 rfl rfl ?_
  refine v_iconst (pc := 5) C (nI 1) d_Wo_longerKey_5 (by decide +kernel) ?_
  refine v_iadd (pc := 6) C (nI (p + 1)) d_Wo_longerKey_6 (nI_add _ _) ?_
  refine v_i2l (pc := 7) C (lN (p + 1)) d_Wo_longerKey_7 (nI_l (by omega)) ?_
  refine v_lor (pc := 8) C (lN (kx k p)) d_Wo_longerKey_8 (lk_or hp hk) ?_
  exact v_lret (pc := 9) C X d_Wo_longerKey_9 ⟨rfl, rfl⟩ (by decide) (by decide)

set_option maxHeartbeats 4000000 in
set_option maxRecDepth 100000 in
theorem c_Wo_keyOf (l : Launch) (G : Gx) (n a b c : Nat) (hn : n ≤ 3) (ha : a ≤ 1114111) (hb : b ≤ 1114111) (hc : c ≤ 1114111) : CT l G y_Wo_keyOf b_Wo_keyOf 6 (some .long) ({ frames := 1, cells := 0, slots := 0, locals := 22 } : Room) ([]) [.int (nI n), .int (nI a), .int (nI b), .int (nI c)] (fun r w' => w' = [] ∧ r = some (.long (lN (keyN n a b c)))) := by
  refine ct_of [(0, .int (nI n)), (1, .int (nI a)), (2, .int (nI b)), (3, .int (nI c))] (by decide) (Nat.le_of_ble_eq_true rfl) rfl (fun K hKl hNI C X => ?_)
  subst hKl
  refine v_lconst (pc := 0) C (lN 0) d_Wo_keyOf_0 (by decide +kernel) ?_
  refine v_iload_n (pc := 1) C 1 d_Wo_keyOf_1 rfl rfl ?_
  refine v_callS (pc := 2) (As := [.long (lN 0), .int (nI a)]) (rest := []) C (c_Wo_longerKey _ G 0 a ha (by decide)) l_Wo_128 ([]) (sp_pos [] [] rfl rfl rfl) rfl rfl (Nat.le_of_ble_eq_true rfl) (by decide) (by decide) (by decide) (by decide) d_Wo_keyOf_2 (fun r w' hq => ?_)
  obtain ⟨rfl, rfl⟩ := hq
  show vv K ({ frames := 1, cells := 0, slots := 0, locals := 22 } : Room) G 6 0 0 ([]) 5 [(0, .int (nI n)), (1, .int (nI a)), (2, .int (nI b)), (3, .int (nI c))] [.long (lN (kx 0 a))]
  refine v_lstore (pc := 5) C [(4, .long (lN (kx 0 a))), (0, .int (nI n)), (1, .int (nI a)), (2, .int (nI b)), (3, .int (nI c))] d_Wo_keyOf_5 (by decide) rfl ?_
  refine v_iload_n (pc := 7) C 1 d_Wo_keyOf_7 rfl rfl ?_
  refine v_iconst (pc := 8) C (nI 1) d_Wo_keyOf_8 (by decide +kernel) ?_
  refine v_icmpN_le (pc := 9) C 20 n 1 d_Wo_keyOf_9 (by decide) (by omega) (by omega) (fun h1 => ?_) (fun h1 => ?_)
  · refine v_iload_n (pc := 20) C 1 d_Wo_keyOf_20 rfl rfl ?_
    refine v_iconst (pc := 21) C (nI 2) d_Wo_keyOf_21 (by decide +kernel) ?_
    refine v_icmpN_le (pc := 22) C 33 n 2 d_Wo_keyOf_22 (by decide) (by omega) (by omega) (fun h2 => ?_) (fun h2 => ?_)
    · refine v_lload (pc := 33) C 0 d_Wo_keyOf_33 rfl ?_
      exact v_lret (pc := 35) C X d_Wo_keyOf_35 ⟨rfl, by unfold keyN; rw [if_pos h1]⟩ (by decide) (by decide)
    · omega
  · refine v_lload (pc := 12) C 0 d_Wo_keyOf_12 rfl ?_
    refine v_iload_n (pc := 14) C 3 d_Wo_keyOf_14 rfl rfl ?_
    refine v_callS (pc := 15) (As := [.long (lN (kx 0 a)), .int (nI b)]) (rest := []) C (c_Wo_longerKey _ G (kx 0 a) b hb (by unfold kx; omega)) l_Wo_128 ([]) (sp_pos [] [] rfl rfl rfl) rfl rfl (Nat.le_of_ble_eq_true rfl) (by decide) (by decide) (by decide) (by decide) d_Wo_keyOf_15 (fun r w' hq => ?_)
    obtain ⟨rfl, rfl⟩ := hq
    show vv K ({ frames := 1, cells := 0, slots := 0, locals := 22 } : Room) G 6 0 0 ([]) 18 [(4, .long (lN (kx 0 a))), (0, .int (nI n)), (1, .int (nI a)), (2, .int (nI b)), (3, .int (nI c))] [.long (lN (kx (kx 0 a) b))]
    refine v_lstore (pc := 18) C [(4, .long (lN (kx (kx 0 a) b))), (0, .int (nI n)), (1, .int (nI a)), (2, .int (nI b)), (3, .int (nI c))] d_Wo_keyOf_18 (by decide) rfl ?_
    refine v_iload_n (pc := 20) C 1 d_Wo_keyOf_20 rfl rfl ?_
    refine v_iconst (pc := 21) C (nI 2) d_Wo_keyOf_21 (by decide +kernel) ?_
    refine v_icmpN_le (pc := 22) C 33 n 2 d_Wo_keyOf_22 (by decide) (by omega) (by omega) (fun h2 => ?_) (fun h2 => ?_)
    · refine v_lload (pc := 33) C 0 d_Wo_keyOf_33 rfl ?_
      exact v_lret (pc := 35) C X d_Wo_keyOf_35 ⟨rfl, by unfold keyN; rw [if_neg (by omega), if_pos h2]⟩ (by decide) (by decide)
    · refine v_lload (pc := 25) C 0 d_Wo_keyOf_25 rfl ?_
      refine v_iload_n (pc := 27) C 4 d_Wo_keyOf_27 rfl rfl ?_
      refine v_callS (pc := 28) (As := [.long (lN (kx (kx 0 a) b)), .int (nI c)]) (rest := []) C (c_Wo_longerKey _ G (kx (kx 0 a) b) c hc (by unfold kx; omega)) l_Wo_128 ([]) (sp_pos [] [] rfl rfl rfl) rfl rfl (Nat.le_of_ble_eq_true rfl) (by decide) (by decide) (by decide) (by decide) d_Wo_keyOf_28 (fun r w' hq => ?_)
      obtain ⟨rfl, rfl⟩ := hq
      show vv K ({ frames := 1, cells := 0, slots := 0, locals := 22 } : Room) G 6 0 0 ([]) 31 [(4, .long (lN (kx (kx 0 a) b))), (0, .int (nI n)), (1, .int (nI a)), (2, .int (nI b)), (3, .int (nI c))] [.long (lN (kx (kx (kx 0 a) b) c))]
      refine v_lstore (pc := 31) C [(4, .long (lN (kx (kx (kx 0 a) b) c))), (0, .int (nI n)), (1, .int (nI a)), (2, .int (nI b)), (3, .int (nI c))] d_Wo_keyOf_31 (by decide) rfl ?_
      refine v_lload (pc := 33) C 0 d_Wo_keyOf_33 rfl ?_
      exact v_lret (pc := 35) C X d_Wo_keyOf_35 ⟨rfl, by unfold keyN; rw [if_neg (by omega), if_neg (by omega)]⟩ (by decide) (by decide)

set_option maxHeartbeats 4000000 in
set_option maxRecDepth 100000 in
theorem c_Wo_pack (l : Launch) (G : Gx) (p s t : Nat) (hp : p < 65536) (hs : s < 65536) (ht : t < 65536) : CT l G y_Wo_pack b_Wo_pack 3 (some .long) ({ frames := 0, cells := 0, slots := 0, locals := 0 } : Room) ([]) [.int (nI p), .int (nI s), .int (nI t)] (fun r w' => w' = [] ∧ r = some (.long (lN (pkN p s t 0)))) := by
  refine ct_of [(0, .int (nI p)), (1, .int (nI s)), (2, .int (nI t))] (by decide) (Nat.le_of_ble_eq_true rfl) rfl (fun K hKl hNI C X => ?_)
  subst hKl
  refine v_iload_n (pc := 0) C 0 d_Wo_pack_0 rfl rfl ?_
  refine v_i2l (pc := 1) C (lN p) d_Wo_pack_1 (nI_l (by omega)) ?_
  refine v_bipush (pc := 2) C (nI 48) d_Wo_pack_2 (by decide +kernel) ?_
  refine v_lshl (pc := 4) C (lN (p * 281474976710656)) d_Wo_pack_4 (pk_shl48 p) ?_
  refine v_iload_n (pc := 5) C 1 d_Wo_pack_5 rfl rfl ?_
  refine v_i2l (pc := 6) C (lN s) d_Wo_pack_6 (nI_l (by omega)) ?_
  refine v_bipush (pc := 7) C (nI 32) d_Wo_pack_7 (by decide +kernel) ?_
  refine v_lshl (pc := 9) C (lN (s * 4294967296)) d_Wo_pack_9 (pk_shl32 s) ?_
  refine v_lor (pc := 10) C (lN (p * 281474976710656 + s * 4294967296)) d_Wo_pack_10 (pk_or1 hp hs) ?_
  refine v_iload_n (pc := 11) C 2 d_Wo_pack_11 rfl rfl ?_
  refine v_i2l (pc := 12) C (lN t) d_Wo_pack_12 (nI_l (by omega)) ?_
  refine v_bipush (pc := 13) C (nI 16) d_Wo_pack_13 (by decide +kernel) ?_
  refine v_lshl (pc := 15) C (lN (t * 65536)) d_Wo_pack_15 (pk_shl16 t) ?_
  refine v_lor (pc := 16) C (lN (pkN p s t 0)) d_Wo_pack_16 (pk_or2 hp hs ht) ?_
  exact v_lret (pc := 17) C X d_Wo_pack_17 ⟨rfl, rfl⟩ (by decide) (by decide)

set_option maxHeartbeats 4000000 in
set_option maxRecDepth 100000 in
theorem c_Wo_weightOf (l : Launch) (G : Gx) (n w : Nat) (hn : n < 18446744073709551616) (hw : w ≤ 3) : CT l G y_Wo_weightOf b_Wo_weightOf 3 (some .int) ({ frames := 0, cells := 0, slots := 0, locals := 0 } : Room) ([]) [.long (lN n), .int (nI w)] (fun r w' => w' = [] ∧ r = some (.int (nI (wtN n w)))) := by
  refine ct_of [(0, .long (lN n)), (2, .int (nI w))] (by decide) (Nat.le_of_ble_eq_true rfl) rfl (fun K hKl hNI C X => ?_)
  subst hKl
  refine v_lload_n (pc := 0) C 0 d_Wo_weightOf_0 rfl rfl ?_
  refine v_bipush (pc := 1) C (nI 48) d_Wo_weightOf_1 (by decide +kernel) ?_
  refine v_bipush (pc := 3) C (nI 16) d_Wo_weightOf_3 (by decide +kernel) ?_
  refine v_iload_n (pc := 5) C 1 d_Wo_weightOf_5 rfl rfl ?_
  refine v_imul (pc := 6) C (nI (16 * w)) d_Wo_weightOf_6 (pk_mul _ _) ?_
  refine v_isub (pc := 7) C (nI (48 - (16 * w))) d_Wo_weightOf_7 (pk_sub (by omega)) ?_
  refine v_lushr (pc := 8) C (lN (n / 2 ^ (48 - 16 * w))) d_Wo_weightOf_8 (wt_shr hn hw) ?_
  refine v_l2i (pc := 9) C (nI (n / 2 ^ (48 - 16 * w))) d_Wo_weightOf_9 (lN_i _) ?_
  refine v_ldc (pc := 10) C 65535 k_326 d_Wo_weightOf_10 ?_
  refine v_seti (nI 65535) (by decide +kernel) ?_
  refine v_iand (pc := 12) C (nI (n / 2 ^ (48 - 16 * w) % 65536)) d_Wo_weightOf_12 (wt_and _) ?_
  exact v_iret (pc := 13) C X d_Wo_weightOf_13 ⟨rfl, rfl⟩ (by decide) (by decide)

def ap3 (a b c : Int32) : Int32 := if (a < 0 ∨ nI 1114111 < a) ∨ (b < 0 ∨ nI 1114111 < b) ∨ (c < 0 ∨ nI 1114111 < c) then nI 0 else nI 1
set_option maxHeartbeats 4000000 in
set_option maxRecDepth 100000 in
theorem c_Wo_arePoints (l : Launch) (G : Gx) (a b c : Int32)  : CT l G y_Wo_arePoints b_Wo_arePoints 3 (some .boolean) ({ frames := 1, cells := 0, slots := 0, locals := 21 } : Room) ([]) [.int a, .int b, .int c] (fun r w' => w' = [] ∧ r = some (.int (ap3 a b c))) := by
  refine ct_of [(0, .int a), (1, .int b), (2, .int c)] (by decide) (Nat.le_of_ble_eq_true rfl) rfl (fun K hKl hNI C X => ?_)
  subst hKl
  refine v_iload_n (pc := 0) C 0 d_Wo_arePoints_0 rfl rfl ?_
  refine v_ldc (pc := 1) C 1114111 k_167 d_Wo_arePoints_1 ?_
  refine v_seti (nI 1114111) (by decide +kernel) ?_
  refine v_callS (pc := 3) (As := [.int a, .int (nI 1114111)]) (rest := []) C (c_Wo_isWithin _ G a (nI 1114111)) l_Wo_52 ([]) (sp_pos [] [] rfl rfl rfl) rfl rfl (Nat.le_of_ble_eq_true rfl) (by decide) (by decide) (by decide) (by decide) d_Wo_arePoints_3 (fun r w' hq => ?_)
  obtain ⟨rfl, rfl⟩ := hq
  show vv K ({ frames := 1, cells := 0, slots := 0, locals := 21 } : Room) G 3 0 0 ([]) 6 [(0, .int a), (1, .int b), (2, .int c)] [.int (wi a (nI 1114111))]
  refine v_if_eq (pc := 6) C 31 d_Wo_arePoints_6 (by decide) (fun ha => ?_) (fun ha => ?_)
  · refine v_iconst (pc := 31) C (nI 0) d_Wo_arePoints_31 (by decide +kernel) ?_
    exact v_zret (pc := 32) C X rfl d_Wo_arePoints_32 ⟨rfl, by unfold ap3; rw [if_pos (Or.inl (wi_eq0 ha))]⟩ (by decide) (by decide)
  · refine v_iload_n (pc := 9) C 1 d_Wo_arePoints_9 rfl rfl ?_
    refine v_ldc (pc := 10) C 1114111 k_167 d_Wo_arePoints_10 ?_
    refine v_seti (nI 1114111) (by decide +kernel) ?_
    refine v_callS (pc := 12) (As := [.int b, .int (nI 1114111)]) (rest := []) C (c_Wo_isWithin _ G b (nI 1114111)) l_Wo_52 ([]) (sp_pos [] [] rfl rfl rfl) rfl rfl (Nat.le_of_ble_eq_true rfl) (by decide) (by decide) (by decide) (by decide) d_Wo_arePoints_12 (fun r w' hq => ?_)
    obtain ⟨rfl, rfl⟩ := hq
    show vv K ({ frames := 1, cells := 0, slots := 0, locals := 21 } : Room) G 3 0 0 ([]) 15 [(0, .int a), (1, .int b), (2, .int c)] [.int (wi b (nI 1114111))]
    refine v_if_eq (pc := 15) C 31 d_Wo_arePoints_15 (by decide) (fun hb => ?_) (fun hb => ?_)
    · refine v_iconst (pc := 31) C (nI 0) d_Wo_arePoints_31 (by decide +kernel) ?_
      exact v_zret (pc := 32) C X rfl d_Wo_arePoints_32 ⟨rfl, by unfold ap3; rw [if_pos (Or.inr (Or.inl (wi_eq0 hb)))]⟩ (by decide) (by decide)
    · refine v_iload_n (pc := 18) C 2 d_Wo_arePoints_18 rfl rfl ?_
      refine v_ldc (pc := 19) C 1114111 k_167 d_Wo_arePoints_19 ?_
      refine v_seti (nI 1114111) (by decide +kernel) ?_
      refine v_callS (pc := 21) (As := [.int c, .int (nI 1114111)]) (rest := []) C (c_Wo_isWithin _ G c (nI 1114111)) l_Wo_52 ([]) (sp_pos [] [] rfl rfl rfl) rfl rfl (Nat.le_of_ble_eq_true rfl) (by decide) (by decide) (by decide) (by decide) d_Wo_arePoints_21 (fun r w' hq => ?_)
      obtain ⟨rfl, rfl⟩ := hq
      show vv K ({ frames := 1, cells := 0, slots := 0, locals := 21 } : Room) G 3 0 0 ([]) 24 [(0, .int a), (1, .int b), (2, .int c)] [.int (wi c (nI 1114111))]
      refine v_if_eq (pc := 24) C 31 d_Wo_arePoints_24 (by decide) (fun hc => ?_) (fun hc => ?_)
      · refine v_iconst (pc := 31) C (nI 0) d_Wo_arePoints_31 (by decide +kernel) ?_
        exact v_zret (pc := 32) C X rfl d_Wo_arePoints_32 ⟨rfl, by unfold ap3; rw [if_pos (Or.inr (Or.inr (wi_eq0 hc)))]⟩ (by decide) (by decide)
      · refine v_iconst (pc := 27) C (nI 1) d_Wo_arePoints_27 (by decide +kernel) ?_
        refine v_goto (pc := 28) C 32 d_Wo_arePoints_28 (by decide) ?_
        exact v_zret (pc := 32) C X rfl d_Wo_arePoints_32 ⟨rfl, by unfold ap3; rw [if_neg (fun q => q.elim (fun z => z.elim (wi_ne0 ha).1 (wi_ne0 ha).2) (fun q => q.elim (fun z => z.elim (wi_ne0 hb).1 (wi_ne0 hb).2) (fun z => z.elim (wi_ne0 hc).1 (wi_ne0 hc).2)))]⟩ (by decide) (by decide)
end
section
/-! Table: numbers under keys -/
theorem lgc_geN {a b : Nat} (ha : a < 9223372036854775808) (hb : b < 9223372036854775808) : 0 ≤ lg_cmp (lN a) (lN b) ↔ b ≤ a := by
  rw [lgc_ge, lN_ltN ha hb, Nat.not_lt]
theorem lgc_eqN {a b : Nat} (ha : a < 9223372036854775808) (hb : b < 9223372036854775808) : lg_cmp (lN a) (lN b) = 0 ↔ a = b := by
  rw [lgc_eq, lN_inj ha hb]
/-- the arrays hold the keys kn 0 < kn 1 < .. < kn (n-1) -/
def Srt (ks : Nat → Int64) (n : Nat) (kn : Nat → Nat) : Prop := (∀ i, i < n → ks i = lN (kn i) ∧ kn i < 9223372036854775808) ∧ ∀ i j, i < j → j < n → kn i < kn j
/-- the place of k among them -/
def Plc (kn : Nat → Nat) (n k p : Nat) : Prop := p ≤ n ∧ (∀ i, i < p → kn i < k) ∧ ∀ i, p ≤ i → i < n → k ≤ kn i
/-- what the table says -/
def TB (ks : Nat → Int64) (vs : Nat → Int32) (n : Nat) (F : Nat → Option Int32) : Prop :=
  ∃ kn : Nat → Nat, Srt ks n kn ∧ (∀ i, i < n → F (kn i) = some (vs i)) ∧ ∀ k, (∀ i, i < n → kn i ≠ k) → F k = none
theorem plc_none {kn : Nat → Nat} {n k p : Nat} (h : Plc kn n k p) (hs : ∀ i j, i < j → j < n → kn i < kn j) (hp : ¬ (p < n ∧ kn p = k)) : ∀ i, i < n → kn i ≠ k := by
  intro i hi e
  rcases Nat.lt_or_ge i p with c | c
  · have := h.2.1 i c; omega
  · have h1 := h.2.2 i c hi
    rcases Nat.lt_or_ge p i with c2 | c2
    · have h2 := hs p i c2 hi
      have h3 := h.2.2 p (Nat.le_refl _) (by omega)
      omega
    · have : i = p := by omega
      subst this
      exact hp ⟨hi, e⟩
/-- a new key in its place -/
def insN (kn : Nat → Nat) (p k i : Nat) : Nat := if i < p then kn i else if i = p then k else kn (i - 1)
theorem ins_lt {kn : Nat → Nat} {p k i : Nat} (h : i < p) : insN kn p k i = kn i := if_pos h
theorem ins_eq {kn : Nat → Nat} {p k : Nat} : insN kn p k p = k := by unfold insN; rw [if_neg (Nat.lt_irrefl _), if_pos rfl]
theorem ins_gt {kn : Nat → Nat} {p k i : Nat} (h : p < i) : insN kn p k i = kn (i - 1) := by unfold insN; rw [if_neg (by omega), if_neg (by omega)]
theorem tb_ins {ks : Nat → Int64} {vs : Nat → Int32} {n k p : Nat} {v : Int32} {F : Nat → Option Int32} {kn : Nat → Nat} (hS : Srt ks n kn) (h1 : ∀ i, i < n → F (kn i) = some (vs i)) (h2 : ∀ k, (∀ i, i < n → kn i ≠ k) → F k = none) (hk : k < 9223372036854775808) (hp : Plc kn n k p) (hno : ∀ i, i < n → kn i ≠ k) :
    TB (vp_updL (va_cpy ks ks p (p + 1) (n - p)) p (lN k)) (upd (va_cpy vs vs p (p + 1) (n - p)) p v) (n + 1) (fun j => if j = k then some v else F j) := by
  obtain ⟨hpn, hlo, hhi⟩ := hp
  refine ⟨insN kn p k, ⟨fun i hi => ?_, fun i j hij hj => ?_⟩, fun i hi => ?_, fun j hj => ?_⟩
  · rcases Nat.lt_trichotomy i p with c | c | c
    · rw [ins_lt c, pk_uLn (by omega), pk_cpy_out (Or.inl (by omega))]
      exact hS.1 i (by omega)
    · rw [c, ins_eq, pk_uLs]
      exact ⟨rfl, hk⟩
    · have e : p + (i - (p + 1)) = i - 1 := by omega
      rw [ins_gt c, pk_uLn (by omega), pk_cpy_in (by omega) (by omega), e]
      exact hS.1 (i - 1) (by omega)
  · rcases Nat.lt_trichotomy i p with c | c | c
    · rw [ins_lt c]
      rcases Nat.lt_trichotomy j p with d | d | d
      · rw [ins_lt d]; exact hS.2 i j hij (by omega)
      · rw [d, ins_eq]; exact hlo i c
      · rw [ins_gt d]; exact hS.2 i (j - 1) (by omega) (by omega)
    · rw [c, ins_eq, ins_gt (by omega)]
      have a := hhi (j - 1) (by omega) (by omega)
      have b := hno (j - 1) (by omega)
      omega
    · rw [ins_gt c, ins_gt (by omega)]
      exact hS.2 (i - 1) (j - 1) (by omega) (by omega)
  · show (if insN kn p k i = k then some v else F (insN kn p k i)) = _
    rcases Nat.lt_trichotomy i p with c | c | c
    · rw [ins_lt c, if_neg (hno i (by omega)), pk_un (by omega), pk_cpy_out (Or.inl (by omega))]
      exact h1 i (by omega)
    · rw [c, ins_eq, if_pos rfl, pk_us]
    · have e : p + (i - (p + 1)) = i - 1 := by omega
      rw [ins_gt c, if_neg (hno (i - 1) (by omega)), pk_un (by omega), pk_cpy_in (by omega) (by omega), e]
      exact h1 (i - 1) (by omega)
  · have hjk : j ≠ k := by
      have := hj p (by omega)
      rw [ins_eq] at this
      exact fun e => this e.symm
    show (if j = k then some v else F j) = none
    rw [if_neg hjk]
    refine h2 j (fun i hi => ?_)
    rcases Nat.lt_or_ge i p with c | c
    · have := hj i (by omega)
      rw [ins_lt c] at this
      exact this
    · have := hj (i + 1) (by omega)
      rw [ins_gt (by omega)] at this
      exact this
/-- another number under a key that is there -/
theorem tb_set {ks : Nat → Int64} {vs : Nat → Int32} {n k p : Nat} {v : Int32} {F : Nat → Option Int32} {kn : Nat → Nat} (hS : Srt ks n kn) (h1 : ∀ i, i < n → F (kn i) = some (vs i)) (h2 : ∀ k, (∀ i, i < n → kn i ≠ k) → F k = none) (hp : p < n) (hk : kn p = k) :
    TB ks (upd vs p v) n (fun j => if j = k then some v else F j) := by
  refine ⟨kn, hS, fun i hi => ?_, fun j hj => ?_⟩
  · show (if kn i = k then some v else F (kn i)) = _
    by_cases c : i = p
    · rw [c, if_pos hk, pk_us]
    · have : kn i ≠ k := by
        rcases Nat.lt_trichotomy i p with d | d | d
        · have := hS.2 i p d hp; omega
        · exact absurd d c
        · have := hS.2 p i d hi; omega
      rw [if_neg this, pk_un c]
      exact h1 i hi
  · show (if j = k then some v else F j) = none
    rw [if_neg (fun e => hj p hp (by rw [hk, e]))]
    exact h2 j hj

set_option maxHeartbeats 4000000 in
set_option maxRecDepth 100000 in
theorem c_Ta_placeOf (l : Launch) (G : Gx) (t a b cap : Nat) (ks : Nat → Int64) (vs : Nat → Int32) (n : Nat) (kn : Nat → Nat) (k : Nat) (hcap : cap ≤ 512) (hn : n ≤ cap) (hS : Srt ks n kn) (hk : k < 9223372036854775808) : CT l G y_Ta_placeOf b_Ta_placeOf 6 (some .int) ({ frames := 0, cells := 0, slots := 0, locals := 0 } : Room) ([(t, ob 0 [.ref a, .ref b, .int (nI n)]), (a, aJ G cap ks), (b, aI G cap vs)]) [.ref t, .long (lN k)] (fun r w' => w' = [(t, ob 0 [.ref a, .ref b, .int (nI n)]), (a, aJ G cap ks), (b, aI G cap vs)] ∧ ∃ p, r = some (.int (nI p)) ∧ Plc kn n k p) := by
  refine ct_of [(0, .ref t), (1, .long (lN k))] (by decide) (Nat.le_of_ble_eq_true rfl) rfl (fun K hKl hNI C X => ?_)
  subst hKl
  refine v_iconst (pc := 0) C (nI 0) d_Ta_placeOf_0 (by decide +kernel) ?_
  refine v_istore_n (pc := 1) C [(3, .int (nI 0)), (0, .ref t), (1, .long (lN k))] d_Ta_placeOf_1 rfl (by decide) rfl ?_
  refine v_aload_n (pc := 2) C 1 d_Ta_placeOf_2 rfl rfl ?_
  refine v_get (pc := 3) (Cn := "WeightOrder$Table") (T := T_Ta) (N := 3) (ci := 0) (v := .int (nI n)) C 0 2 rfl rfl hin_Ta (by decide) rfl k_33 rfl d_Ta_placeOf_3 ?_
  refine v_istore (pc := 6) C [(4, .int (nI n)), (3, .int (nI 0)), (0, .ref t), (1, .long (lN k))] d_Ta_placeOf_6 (by decide) rfl ?_
  have loop : ∀ (d : Nat) (lo : Nat) (hi : Nat), hi - lo < d → (lo ≤ hi) → (hi ≤ n) → (∀ i, i < lo → kn i < k) → (∀ i, hi ≤ i → i < n → k ≤ kn i) → vv K ({ frames := 0, cells := 0, slots := 0, locals := 0 } : Room) G 6 0 0 ([(t, ob 0 [.ref a, .ref b, .int (nI n)]), (a, aJ G cap ks), (b, aI G cap vs)]) 8 [(4, .int (nI hi)), (3, .int (nI lo)), (0, .ref t), (1, .long (lN k))] [] := by
    intro d
    induction d with
    | zero => intro lo hi hm; exact absurd hm (Nat.not_lt_zero _)
    | succ d ih =>
      intro lo hi hm h1 h2 h3 h4
      refine v_iload_n (pc := 8) C 1 d_Ta_placeOf_8 rfl rfl ?_
      refine v_iload (pc := 9) C 0 d_Ta_placeOf_9 rfl ?_
      refine v_icmpN_ge (pc := 11) C 49 lo hi d_Ta_placeOf_11 (by decide) (by omega) (by omega) (fun hc => ?_) (fun hc => ?_)
      · refine v_iload_n (pc := 49) C 1 d_Ta_placeOf_49 rfl rfl ?_
        exact v_iret (pc := 50) C X d_Ta_placeOf_50 ⟨rfl, lo, rfl, by omega, h3, fun i a b => h4 i (by omega) b⟩ (by decide) (by decide)
      · refine v_iload_n (pc := 14) C 1 d_Ta_placeOf_14 rfl rfl ?_
        refine v_iload (pc := 15) C 0 d_Ta_placeOf_15 rfl ?_
        refine v_iadd (pc := 17) C (nI (lo + hi)) d_Ta_placeOf_17 (nI_add _ _) ?_
        refine v_iconst (pc := 18) C (nI 1) d_Ta_placeOf_18 (by decide +kernel) ?_
        refine v_iushr (pc := 19) C (nI ((lo + hi) / 2)) d_Ta_placeOf_19 (pk_ushrN (by omega) (nI 1) 1 (by decide)) ?_
        have hm1 : lo ≤ (lo + hi) / 2 := by omega
        have hm2 : (lo + hi) / 2 < hi := by omega
        generalize (lo + hi) / 2 = mid at hm1 hm2 ⊢
        refine v_istore (pc := 20) C [(5, .int (nI mid)), (4, .int (nI hi)), (3, .int (nI lo)), (0, .ref t), (1, .long (lN k))] d_Ta_placeOf_20 (by decide) rfl ?_
        refine v_aload_n (pc := 22) C 3 d_Ta_placeOf_22 rfl rfl ?_
        refine v_get (pc := 23) (Cn := "WeightOrder$Table") (T := T_Ta) (N := 3) (ci := 0) (v := .ref a) C 0 0 rfl rfl hin_Ta (by decide) rfl k_31 rfl d_Ta_placeOf_23 ?_
        refine v_iload (pc := 26) C 0 d_Ta_placeOf_26 rfl ?_
        refine v_lald (pc := 28) C 1 rfl mid rfl (by omega) (by omega) d_Ta_placeOf_28 ?_
        refine v_setl (lN (kn mid)) (hS.1 mid (by omega)).1 ?_
        refine v_lload_n (pc := 29) C 4 d_Ta_placeOf_29 rfl rfl ?_
        refine v_lcmp (pc := 30) C d_Ta_placeOf_30 ?_
        have hkm := (hS.1 mid (by omega)).2
        refine v_if_ge (pc := 31) C 42 d_Ta_placeOf_31 (by decide) (fun hl => ?_) (fun hl => ?_)
        · refine v_iload (pc := 42) C 0 d_Ta_placeOf_42 rfl ?_
          refine v_istore (pc := 44) C [(4, .int (nI mid)), (5, .int (nI mid)), (3, .int (nI lo)), (0, .ref t), (1, .long (lN k))] d_Ta_placeOf_44 (by decide) rfl ?_
          refine v_goto (pc := 46) C 8 d_Ta_placeOf_46 (by decide) ?_
          refine v_lsub [0, 2, 3, 4] [(4, .int (nI mid)), (3, .int (nI lo)), (0, .ref t), (1, .long (lN k))] rfl ?_
          exact ih lo mid (by omega) (by omega) (by omega) h3 (fun i a b => by
            have hl := (lgc_geN hkm hk).mp hl
            rcases Nat.lt_or_ge mid i with c | c
            · have := hS.2 mid i c b; omega
            · have e : i = mid := by omega
              rw [e]; exact hl)
        · refine v_iload (pc := 34) C 0 d_Ta_placeOf_34 rfl ?_
          refine v_iconst (pc := 36) C (nI 1) d_Ta_placeOf_36 (by decide +kernel) ?_
          refine v_iadd (pc := 37) C (nI (mid + 1)) d_Ta_placeOf_37 (nI_add _ _) ?_
          refine v_istore_n (pc := 38) C [(3, .int (nI (mid + 1))), (5, .int (nI mid)), (4, .int (nI hi)), (0, .ref t), (1, .long (lN k))] d_Ta_placeOf_38 rfl (by decide) rfl ?_
          refine v_goto (pc := 39) C 46 d_Ta_placeOf_39 (by decide) ?_
          refine v_goto (pc := 46) C 8 d_Ta_placeOf_46 (by decide) ?_
          refine v_lsub [2, 0, 3, 4] [(4, .int (nI hi)), (3, .int (nI (mid + 1))), (0, .ref t), (1, .long (lN k))] rfl ?_
          exact ih (mid + 1) hi (by omega) (by omega) (by omega) (fun i a => by
            have hl : ¬ k ≤ kn mid := fun z => hl ((lgc_geN hkm hk).mpr z)
            rcases Nat.lt_or_ge i mid with c | c
            · have := hS.2 i mid c (by omega); omega
            · have e : i = mid := by omega
              rw [e]; omega) h4
  refine v_lsub [0, 1, 2, 3] [(4, .int (nI n)), (3, .int (nI 0)), (0, .ref t), (1, .long (lN k))] rfl ?_
  exact loop (n + 1) 0 n (by omega) (by omega) (Nat.le_refl _) (fun i a => absurd a (Nat.not_lt_zero _)) (fun i a b => absurd b (by omega))

set_option maxHeartbeats 4000000 in
set_option maxRecDepth 100000 in
theorem c_Ta_valueOf (l : Launch) (G : Gx) (t a b cap : Nat) (ks : Nat → Int64) (vs : Nat → Int32) (n : Nat) (F : Nat → Option Int32) (k : Nat) (o : Int32) (hcap : cap ≤ 512) (hn : n ≤ cap) (hT : TB ks vs n F) (hk : k < 9223372036854775808) : CT l G y_Ta_valueOf b_Ta_valueOf 5 (some .int) ({ frames := 1, cells := 0, slots := 0, locals := 25 } : Room) ([(t, ob 0 [.ref a, .ref b, .int (nI n)]), (a, aJ G cap ks), (b, aI G cap vs)]) [.ref t, .long (lN k), .int o] (fun r w' => w' = [(t, ob 0 [.ref a, .ref b, .int (nI n)]), (a, aJ G cap ks), (b, aI G cap vs)] ∧ r = some (.int ((F k).getD o))) := by
  refine ct_of [(0, .ref t), (1, .long (lN k)), (3, .int o)] (by decide) (Nat.le_of_ble_eq_true rfl) rfl (fun K hKl hNI C X => ?_)
  subst hKl
  obtain ⟨kn, hS, hF1, hF2⟩ := hT
  refine v_aload_n (pc := 0) C 0 d_Ta_valueOf_0 rfl rfl ?_
  refine v_lload_n (pc := 1) C 1 d_Ta_valueOf_1 rfl rfl ?_
  refine v_callV (pc := 2) (As := [.long (lN k)]) (rest := []) C (c_Ta_placeOf _ G t a b cap ks vs n kn k hcap hn hS hk) l_Ta_17 ([]) (sp_pos [] [0, 1, 2] rfl rfl rfl) 0 rfl rfl rfl rfl rfl (Nat.le_of_ble_eq_true rfl) (by decide) (by decide) (by decide) (by decide) d_Ta_valueOf_2 (fun r w' hq => ?_)
  obtain ⟨rfl, p, rfl, hp⟩ := hq
  show vv K ({ frames := 1, cells := 0, slots := 0, locals := 25 } : Room) G 5 0 0 ([(t, ob 0 [.ref a, .ref b, .int (nI n)]), (a, aJ G cap ks), (b, aI G cap vs)]) 5 [(0, .ref t), (1, .long (lN k)), (3, .int o)] [.int (nI p)]
  have hpn := hp.1
  refine v_istore (pc := 5) C [(4, .int (nI p)), (0, .ref t), (1, .long (lN k)), (3, .int o)] d_Ta_valueOf_5 (by decide) rfl ?_
  refine v_iload (pc := 7) C 0 d_Ta_valueOf_7 rfl ?_
  refine v_aload_n (pc := 9) C 1 d_Ta_valueOf_9 rfl rfl ?_
  refine v_get (pc := 10) (Cn := "WeightOrder$Table") (T := T_Ta) (N := 3) (ci := 0) (v := .int (nI n)) C 0 2 rfl rfl hin_Ta (by decide) rfl k_33 rfl d_Ta_valueOf_10 ?_
  refine v_icmpN_ge (pc := 13) C 38 p n d_Ta_valueOf_13 (by decide) (by omega) (by omega) (fun hc => ?_) (fun hc => ?_)
  · refine v_iload_n (pc := 38) C 3 d_Ta_valueOf_38 rfl rfl ?_
    exact v_iret (pc := 39) C X d_Ta_valueOf_39 ⟨rfl, by rw [hF2 k (plc_none hp hS.2 (fun z => by omega))]; rfl⟩ (by decide) (by decide)
  · refine v_aload_n (pc := 16) C 1 d_Ta_valueOf_16 rfl rfl ?_
    refine v_get (pc := 17) (Cn := "WeightOrder$Table") (T := T_Ta) (N := 3) (ci := 0) (v := .ref a) C 0 0 rfl rfl hin_Ta (by decide) rfl k_31 rfl d_Ta_valueOf_17 ?_
    refine v_iload (pc := 20) C 0 d_Ta_valueOf_20 rfl ?_
    refine v_lald (pc := 22) C 1 rfl p rfl (by omega) (by omega) d_Ta_valueOf_22 ?_
    refine v_setl (lN (kn p)) (hS.1 p hc).1 ?_
    refine v_lload_n (pc := 23) C 2 d_Ta_valueOf_23 rfl rfl ?_
    refine v_lcmp (pc := 24) C d_Ta_valueOf_24 ?_
    have hkp := (hS.1 p hc).2
    refine v_if_ne (pc := 25) C 38 d_Ta_valueOf_25 (by decide) (fun he => ?_) (fun he => ?_)
    · refine v_iload_n (pc := 38) C 3 d_Ta_valueOf_38 rfl rfl ?_
      exact v_iret (pc := 39) C X d_Ta_valueOf_39 ⟨rfl, by rw [hF2 k (plc_none hp hS.2 (fun z => he ((lgc_eqN hkp hk).mpr z.2)))]; rfl⟩ (by decide) (by decide)
    · refine v_aload_n (pc := 28) C 1 d_Ta_valueOf_28 rfl rfl ?_
      refine v_get (pc := 29) (Cn := "WeightOrder$Table") (T := T_Ta) (N := 3) (ci := 0) (v := .ref b) C 0 1 rfl rfl hin_Ta (by decide) rfl k_32 rfl d_Ta_valueOf_29 ?_
      refine v_iload (pc := 32) C 0 d_Ta_valueOf_32 rfl ?_
      refine v_iald (pc := 34) C 2 rfl p rfl (by omega) (by omega) d_Ta_valueOf_34 ?_
      refine v_goto (pc := 35) C 39 d_Ta_valueOf_35 (by decide) ?_
      exact v_iret (pc := 39) C X d_Ta_valueOf_39 ⟨rfl, by rw [← (lgc_eqN hkp hk).mp he, hF1 p hc]; rfl⟩ (by decide) (by decide)

set_option maxHeartbeats 4000000 in
set_option maxRecDepth 100000 in
theorem c_Ta_insert (l : Launch) (G : Gx) (t a b cap : Nat) (ks : Nat → Int64) (vs : Nat → Int32) (n : Nat) (p k : Nat) (v : Int32) (hcap : cap ≤ 512) (hn : n < cap) (hp : p ≤ n) : CT l G y_Ta_insert b_Ta_insert 5 none ({ frames := 1, cells := 0, slots := 0, locals := 60 } : Room) ([(t, ob 0 [.ref a, .ref b, .int (nI n)]), (a, aJ G cap ks), (b, aI G cap vs)]) [.ref t, .int (nI p), .long (lN k), .int v] (fun r w' => w' = [(t, ob 0 [.ref a, .ref b, .int (nI (n + 1))]), (a, aJ G cap (vp_updL (va_cpy ks ks p (p + 1) (n - p)) p (lN k))), (b, aI G cap (upd (va_cpy vs vs p (p + 1) (n - p)) p v))] ∧ r = none) := by
  refine ct_of [(0, .ref t), (1, .int (nI p)), (2, .long (lN k)), (4, .int v)] (by decide) (Nat.le_of_ble_eq_true rfl) rfl (fun K hKl hNI C X => ?_)
  subst hKl
  refine v_aload_n (pc := 0) C 0 d_Ta_insert_0 rfl rfl ?_
  refine v_get (pc := 1) (Cn := "WeightOrder$Table") (T := T_Ta) (N := 3) (ci := 0) (v := .ref a) C 0 0 rfl rfl hin_Ta (by decide) rfl k_31 rfl d_Ta_insert_1 ?_
  refine v_iload_n (pc := 4) C 1 d_Ta_insert_4 rfl rfl ?_
  refine v_aload_n (pc := 5) C 0 d_Ta_insert_5 rfl rfl ?_
  refine v_get (pc := 6) (Cn := "WeightOrder$Table") (T := T_Ta) (N := 3) (ci := 0) (v := .ref a) C 0 0 rfl rfl hin_Ta (by decide) rfl k_31 rfl d_Ta_insert_6 ?_
  refine v_iload_n (pc := 9) C 1 d_Ta_insert_9 rfl rfl ?_
  refine v_iconst (pc := 10) C (nI 1) d_Ta_insert_10 (by decide +kernel) ?_
  refine v_iadd (pc := 11) C (nI (p + 1)) d_Ta_insert_11 (nI_add _ _) ?_
  refine v_aload_n (pc := 12) C 0 d_Ta_insert_12 rfl rfl ?_
  refine v_get (pc := 13) (Cn := "WeightOrder$Table") (T := T_Ta) (N := 3) (ci := 0) (v := .int (nI n)) C 0 2 rfl rfl hin_Ta (by decide) rfl k_33 rfl d_Ta_insert_13 ?_
  refine v_iload_n (pc := 16) C 1 d_Ta_insert_16 rfl rfl ?_
  refine v_isub (pc := 17) C (nI (n - p)) d_Ta_insert_17 (pk_sub (by omega)) ?_
  refine v_copyJ (pc := 18) C 1 1 ([(t, ob 0 [.ref a, .ref b, .int (nI n)]), (a, aJ G cap (va_cpy ks ks p (p + 1) (n - p))), (b, aI G cap vs)]) rfl rfl p (p + 1) (n - p) (by omega) (by omega) (by omega) (by omega) k_245 rfl (by decide) (by decide) d_Ta_insert_18 ?_
  refine v_aload_n (pc := 21) C 0 d_Ta_insert_21 rfl rfl ?_
  refine v_get (pc := 22) (Cn := "WeightOrder$Table") (T := T_Ta) (N := 3) (ci := 0) (v := .ref b) C 0 1 rfl rfl hin_Ta (by decide) rfl k_32 rfl d_Ta_insert_22 ?_
  refine v_iload_n (pc := 25) C 1 d_Ta_insert_25 rfl rfl ?_
  refine v_aload_n (pc := 26) C 0 d_Ta_insert_26 rfl rfl ?_
  refine v_get (pc := 27) (Cn := "WeightOrder$Table") (T := T_Ta) (N := 3) (ci := 0) (v := .ref b) C 0 1 rfl rfl hin_Ta (by decide) rfl k_32 rfl d_Ta_insert_27 ?_
  refine v_iload_n (pc := 30) C 1 d_Ta_insert_30 rfl rfl ?_
  refine v_iconst (pc := 31) C (nI 1) d_Ta_insert_31 (by decide +kernel) ?_
  refine v_iadd (pc := 32) C (nI (p + 1)) d_Ta_insert_32 (nI_add _ _) ?_
  refine v_aload_n (pc := 33) C 0 d_Ta_insert_33 rfl rfl ?_
  refine v_get (pc := 34) (Cn := "WeightOrder$Table") (T := T_Ta) (N := 3) (ci := 0) (v := .int (nI n)) C 0 2 rfl rfl hin_Ta (by decide) rfl k_33 rfl d_Ta_insert_34 ?_
  refine v_iload_n (pc := 37) C 1 d_Ta_insert_37 rfl rfl ?_
  refine v_isub (pc := 38) C (nI (n - p)) d_Ta_insert_38 (pk_sub (by omega)) ?_
  refine v_copyI (pc := 39) C 2 2 ([(t, ob 0 [.ref a, .ref b, .int (nI n)]), (a, aJ G cap (va_cpy ks ks p (p + 1) (n - p))), (b, aI G cap (va_cpy vs vs p (p + 1) (n - p)))]) rfl rfl p (p + 1) (n - p) (by omega) (by omega) (by omega) (by omega) k_245 rfl (by decide) (by decide) d_Ta_insert_39 ?_
  refine v_aload_n (pc := 42) C 0 d_Ta_insert_42 rfl rfl ?_
  refine v_get (pc := 43) (Cn := "WeightOrder$Table") (T := T_Ta) (N := 3) (ci := 0) (v := .ref a) C 0 0 rfl rfl hin_Ta (by decide) rfl k_31 rfl d_Ta_insert_43 ?_
  refine v_iload_n (pc := 46) C 1 d_Ta_insert_46 rfl rfl ?_
  refine v_lload_n (pc := 47) C 2 d_Ta_insert_47 rfl rfl ?_
  refine v_last (pc := 48) C 1 ([(t, ob 0 [.ref a, .ref b, .int (nI n)]), (a, aJ G cap (vp_updL (va_cpy ks ks p (p + 1) (n - p)) p (lN k))), (b, aI G cap (va_cpy vs vs p (p + 1) (n - p)))]) rfl p rfl (by omega) (by omega) rfl d_Ta_insert_48 ?_
  refine v_aload_n (pc := 49) C 0 d_Ta_insert_49 rfl rfl ?_
  refine v_get (pc := 50) (Cn := "WeightOrder$Table") (T := T_Ta) (N := 3) (ci := 0) (v := .ref b) C 0 1 rfl rfl hin_Ta (by decide) rfl k_32 rfl d_Ta_insert_50 ?_
  refine v_iload_n (pc := 53) C 1 d_Ta_insert_53 rfl rfl ?_
  refine v_iload (pc := 54) C 3 d_Ta_insert_54 rfl ?_
  refine v_iast (pc := 56) C 2 ([(t, ob 0 [.ref a, .ref b, .int (nI n)]), (a, aJ G cap (vp_updL (va_cpy ks ks p (p + 1) (n - p)) p (lN k))), (b, aI G cap (upd (va_cpy vs vs p (p + 1) (n - p)) p v))]) rfl p rfl (by omega) (by omega) rfl d_Ta_insert_56 ?_
  refine v_aload_n (pc := 57) C 0 d_Ta_insert_57 rfl rfl ?_
  refine v_dup (pc := 58) C d_Ta_insert_58 rfl ?_
  refine v_get (pc := 59) (Cn := "WeightOrder$Table") (T := T_Ta) (N := 3) (ci := 0) (v := .int (nI n)) C 0 2 rfl rfl hin_Ta (by decide) rfl k_33 rfl d_Ta_insert_59 ?_
  refine v_iconst (pc := 62) C (nI 1) d_Ta_insert_62 (by decide +kernel) ?_
  refine v_iadd (pc := 63) C (nI (n + 1)) d_Ta_insert_63 (nI_add _ _) ?_
  refine v_put (pc := 64) (Cn := "WeightOrder$Table") (T := T_Ta) (N := 3) (ci := 0) (v := .int (nI (n + 1))) C 0 2 rfl rfl hin_Ta (by decide) rfl ([(t, ob 0 [.ref a, .ref b, .int (nI (n + 1))]), (a, aJ G cap (vp_updL (va_cpy ks ks p (p + 1) (n - p)) p (lN k))), (b, aI G cap (upd (va_cpy vs vs p (p + 1) (n - p)) p v))]) t_Ta t_Ta_ok n_Ta (.int) rfl rfl rfl (Nat.le_of_ble_eq_true rfl) rfl rfl k_33 d_Ta_insert_64 ?_
  exact v_vret (pc := 67) C X d_Ta_insert_67 ⟨rfl, rfl⟩ (by decide) (by decide)

set_option maxHeartbeats 4000000 in
set_option maxRecDepth 100000 in
theorem c_Ta_put (l : Launch) (G : Gx) (t a b cap : Nat) (ks : Nat → Int64) (vs : Nat → Int32) (n : Nat) (F : Nat → Option Int32) (k : Nat) (v : Int32) (hcap : cap ≤ 512) (hn : n ≤ cap) (hT : TB ks vs n F) (hk : k < 9223372036854775808) (hroom : F k = none → n < cap) : CT l G y_Ta_put b_Ta_put 5 none ({ frames := 2, cells := 0, slots := 0, locals := 85 } : Room) ([(t, ob 0 [.ref a, .ref b, .int (nI n)]), (a, aJ G cap ks), (b, aI G cap vs)]) [.ref t, .long (lN k), .int v] (fun r w' => r = none ∧ ∃ ks' vs' n', w' = [(t, ob 0 [.ref a, .ref b, .int (nI n')]), (a, aJ G cap ks'), (b, aI G cap vs')] ∧ TB ks' vs' n' (fun j => if j = k then some v else F j) ∧ n' = (if F k = none then n + 1 else n)) := by
  refine ct_of [(0, .ref t), (1, .long (lN k)), (3, .int v)] (by decide) (Nat.le_of_ble_eq_true rfl) rfl (fun K hKl hNI C X => ?_)
  subst hKl
  obtain ⟨kn, hS, hF1, hF2⟩ := hT
  refine v_aload_n (pc := 0) C 0 d_Ta_put_0 rfl rfl ?_
  refine v_lload_n (pc := 1) C 1 d_Ta_put_1 rfl rfl ?_
  refine v_callV (pc := 2) (As := [.long (lN k)]) (rest := []) C (c_Ta_placeOf _ G t a b cap ks vs n kn k hcap hn hS hk) l_Ta_17 ([]) (sp_pos [] [0, 1, 2] rfl rfl rfl) 0 rfl rfl rfl rfl rfl (Nat.le_of_ble_eq_true rfl) (by decide) (by decide) (by decide) (by decide) d_Ta_put_2 (fun r w' hq => ?_)
  obtain ⟨rfl, p, rfl, hp⟩ := hq
  show vv K ({ frames := 2, cells := 0, slots := 0, locals := 85 } : Room) G 5 0 0 ([(t, ob 0 [.ref a, .ref b, .int (nI n)]), (a, aJ G cap ks), (b, aI G cap vs)]) 5 [(0, .ref t), (1, .long (lN k)), (3, .int v)] [.int (nI p)]
  have hpn := hp.1
  refine v_istore (pc := 5) C [(4, .int (nI p)), (0, .ref t), (1, .long (lN k)), (3, .int v)] d_Ta_put_5 (by decide) rfl ?_
  refine v_iload (pc := 7) C 0 d_Ta_put_7 rfl ?_
  refine v_aload_n (pc := 9) C 1 d_Ta_put_9 rfl rfl ?_
  refine v_get (pc := 10) (Cn := "WeightOrder$Table") (T := T_Ta) (N := 3) (ci := 0) (v := .int (nI n)) C 0 2 rfl rfl hin_Ta (by decide) rfl k_33 rfl d_Ta_put_10 ?_
  refine v_icmpN_ge (pc := 13) C 39 p n d_Ta_put_13 (by decide) (by omega) (by omega) (fun hc => ?_) (fun hc => ?_)
  · have hno : ∀ i, i < n → kn i ≠ k := plc_none hp hS.2 (fun z => by omega)
    have hFk := hF2 k hno
    have hnc := hroom hFk
    refine v_aload_n (pc := 39) C 1 d_Ta_put_39 rfl rfl ?_
    refine v_get (pc := 40) (Cn := "WeightOrder$Table") (T := T_Ta) (N := 3) (ci := 0) (v := .int (nI n)) C 0 2 rfl rfl hin_Ta (by decide) rfl k_33 rfl d_Ta_put_40 ?_
    refine v_aload_n (pc := 43) C 1 d_Ta_put_43 rfl rfl ?_
    refine v_get (pc := 44) (Cn := "WeightOrder$Table") (T := T_Ta) (N := 3) (ci := 0) (v := .ref a) C 0 0 rfl rfl hin_Ta (by decide) rfl k_31 rfl d_Ta_put_44 ?_
    refine v_alenJ (pc := 47) C 1 rfl d_Ta_put_47 ?_
    refine v_icmpN_ge (pc := 48) C 59 n cap d_Ta_put_48 (by decide) (by omega) (by omega) (fun hx => ?_) (fun hx => ?_)
    · omega
    · refine v_aload_n (pc := 51) C 1 d_Ta_put_51 rfl rfl ?_
      refine v_iload (pc := 52) C 0 d_Ta_put_52 rfl ?_
      refine v_lload_n (pc := 54) C 2 d_Ta_put_54 rfl rfl ?_
      refine v_iload_n (pc := 55) C 3 d_Ta_put_55 rfl rfl ?_
      refine v_callV (pc := 56) (As := [.int (nI p), .long (lN k), .int v]) (rest := []) C (c_Ta_insert _ G t a b cap ks vs n p k v hcap hnc hpn) l_Ta_25 ([]) (sp_pos [] [0, 1, 2] rfl rfl rfl) 0 rfl rfl rfl rfl rfl (Nat.le_of_ble_eq_true rfl) (by decide) (by decide) (by decide) (by decide) d_Ta_put_56 (fun r w' hq => ?_)
      obtain ⟨rfl, rfl⟩ := hq
      show vv K ({ frames := 2, cells := 0, slots := 0, locals := 85 } : Room) G 5 0 0 ([(t, ob 0 [.ref a, .ref b, .int (nI (n + 1))]), (a, aJ G cap (vp_updL (va_cpy ks ks p (p + 1) (n - p)) p (lN k))), (b, aI G cap (upd (va_cpy vs vs p (p + 1) (n - p)) p v))]) 59 [(4, .int (nI p)), (0, .ref t), (1, .long (lN k)), (3, .int v)] []
      exact v_vret (pc := 59) C X d_Ta_put_59 ⟨rfl, _, _, _, rfl, tb_ins hS hF1 hF2 hk hp hno, by rw [if_pos hFk]⟩ (by decide) (by decide)
  · refine v_aload_n (pc := 16) C 1 d_Ta_put_16 rfl rfl ?_
    refine v_get (pc := 17) (Cn := "WeightOrder$Table") (T := T_Ta) (N := 3) (ci := 0) (v := .ref a) C 0 0 rfl rfl hin_Ta (by decide) rfl k_31 rfl d_Ta_put_17 ?_
    refine v_iload (pc := 20) C 0 d_Ta_put_20 rfl ?_
    refine v_lald (pc := 22) C 1 rfl p rfl (by omega) (by omega) d_Ta_put_22 ?_
    refine v_setl (lN (kn p)) (hS.1 p hc).1 ?_
    refine v_lload_n (pc := 23) C 2 d_Ta_put_23 rfl rfl ?_
    refine v_lcmp (pc := 24) C d_Ta_put_24 ?_
    have hkp := (hS.1 p hc).2
    refine v_if_ne (pc := 25) C 39 d_Ta_put_25 (by decide) (fun he => ?_) (fun he => ?_)
    · have hno : ∀ i, i < n → kn i ≠ k := plc_none hp hS.2 (fun z => he ((lgc_eqN hkp hk).mpr z.2))
      have hFk := hF2 k hno
      have hnc := hroom hFk
      refine v_aload_n (pc := 39) C 1 d_Ta_put_39 rfl rfl ?_
      refine v_get (pc := 40) (Cn := "WeightOrder$Table") (T := T_Ta) (N := 3) (ci := 0) (v := .int (nI n)) C 0 2 rfl rfl hin_Ta (by decide) rfl k_33 rfl d_Ta_put_40 ?_
      refine v_aload_n (pc := 43) C 1 d_Ta_put_43 rfl rfl ?_
      refine v_get (pc := 44) (Cn := "WeightOrder$Table") (T := T_Ta) (N := 3) (ci := 0) (v := .ref a) C 0 0 rfl rfl hin_Ta (by decide) rfl k_31 rfl d_Ta_put_44 ?_
      refine v_alenJ (pc := 47) C 1 rfl d_Ta_put_47 ?_
      refine v_icmpN_ge (pc := 48) C 59 n cap d_Ta_put_48 (by decide) (by omega) (by omega) (fun hx => ?_) (fun hx => ?_)
      · omega
      · refine v_aload_n (pc := 51) C 1 d_Ta_put_51 rfl rfl ?_
        refine v_iload (pc := 52) C 0 d_Ta_put_52 rfl ?_
        refine v_lload_n (pc := 54) C 2 d_Ta_put_54 rfl rfl ?_
        refine v_iload_n (pc := 55) C 3 d_Ta_put_55 rfl rfl ?_
        refine v_callV (pc := 56) (As := [.int (nI p), .long (lN k), .int v]) (rest := []) C (c_Ta_insert _ G t a b cap ks vs n p k v hcap hnc hpn) l_Ta_25 ([]) (sp_pos [] [0, 1, 2] rfl rfl rfl) 0 rfl rfl rfl rfl rfl (Nat.le_of_ble_eq_true rfl) (by decide) (by decide) (by decide) (by decide) d_Ta_put_56 (fun r w' hq => ?_)
        obtain ⟨rfl, rfl⟩ := hq
        show vv K ({ frames := 2, cells := 0, slots := 0, locals := 85 } : Room) G 5 0 0 ([(t, ob 0 [.ref a, .ref b, .int (nI (n + 1))]), (a, aJ G cap (vp_updL (va_cpy ks ks p (p + 1) (n - p)) p (lN k))), (b, aI G cap (upd (va_cpy vs vs p (p + 1) (n - p)) p v))]) 59 [(4, .int (nI p)), (0, .ref t), (1, .long (lN k)), (3, .int v)] []
        exact v_vret (pc := 59) C X d_Ta_put_59 ⟨rfl, _, _, _, rfl, tb_ins hS hF1 hF2 hk hp hno, by rw [if_pos hFk]⟩ (by decide) (by decide)
    · have he := (lgc_eqN hkp hk).mp he
      refine v_aload_n (pc := 28) C 1 d_Ta_put_28 rfl rfl ?_
      refine v_get (pc := 29) (Cn := "WeightOrder$Table") (T := T_Ta) (N := 3) (ci := 0) (v := .ref b) C 0 1 rfl rfl hin_Ta (by decide) rfl k_32 rfl d_Ta_put_29 ?_
      refine v_iload (pc := 32) C 0 d_Ta_put_32 rfl ?_
      refine v_iload_n (pc := 34) C 3 d_Ta_put_34 rfl rfl ?_
      refine v_iast (pc := 35) C 2 ([(t, ob 0 [.ref a, .ref b, .int (nI n)]), (a, aJ G cap ks), (b, aI G cap (upd vs p v))]) rfl p rfl (by omega) (by omega) rfl d_Ta_put_35 ?_
      refine v_goto (pc := 36) C 59 d_Ta_put_36 (by decide) ?_
      exact v_vret (pc := 59) C X d_Ta_put_59 ⟨rfl, _, _, _, rfl, tb_set hS hF1 hF2 hc he, by rw [← he, hF1 p hc]; rfl⟩ (by decide) (by decide)
end
section
/-! Elements: what was found for a row -/
/-- an element: p, s, t and variable (0, 1), or p, s, t and the fourth -/
abbrev E4 : Type := Nat × Nat × Nat × Nat
def okR (e : E4) : Prop := e.1 < 65536 ∧ e.2.1 < 65536 ∧ e.2.2.1 < 65536 ∧ e.2.2.2 ≤ 1
def okQ (e : E4) : Prop := e.1 < 65536 ∧ e.2.1 < 65536 ∧ e.2.2.1 < 65536 ∧ e.2.2.2 < 65536
def pq (e : E4) : Nat := pkN e.1 e.2.1 e.2.2.1 e.2.2.2
/-- one element with its fourth: what stands behind it is behind a variable one (0, 1), its weights -/
def shE (sh b : Nat) (e : E4) : Nat × E4 :=
  if sh = 0 then (b, (e.1, e.2.1, e.2.2.1, 0))
  else if 0 < e.1 then (e.2.2.2, if e.2.2.2 = 0 then (e.1, e.2.1, e.2.2.1, 65535) else (0, 0, 0, e.1))
  else (b, if b ≠ 0 ∨ (e.2.1 = 0 ∧ e.2.2.1 = 0) then (0, 0, 0, 0) else (0, e.2.1, e.2.2.1, 65535))
theorem pq_0 : pq (0, 0, 0, 0) = 0 := by simp [pq, pkN]
def shF (sh : Nat) : Nat → List E4 → Nat
  | b, [] => b
  | b, e :: es => shF sh (shE sh b e).1 es
def shL (sh : Nat) : Nat → List E4 → List E4
  | _, [] => []
  | b, e :: es => (shE sh b e).2 :: shL sh (shE sh b e).1 es
theorem shF_app (sh : Nat) (es fs : List E4) : ∀ b, shF sh b (es ++ fs) = shF sh (shF sh b es) fs := by
  induction es with
  | nil => intro b; rfl
  | cons e es ih => intro b; exact ih _
theorem shL_app (sh : Nat) (es fs : List E4) : ∀ b, shL sh b (es ++ fs) = shL sh b es ++ shL sh (shF sh b es) fs := by
  induction es with
  | nil => intro b; rfl
  | cons e es ih => intro b; exact congrArg (List.cons _) (ih _)
theorem shL_len (sh : Nat) (es : List E4) : ∀ b, (shL sh b es).length = es.length := by
  induction es with
  | nil => intro b; rfl
  | cons e es ih => intro b; exact congrArg Nat.succ (ih _)
theorem shE_b {sh b : Nat} {e : E4} (hb : b ≤ 1) (he : okR e) : (shE sh b e).1 ≤ 1 := by
  unfold shE
  split
  · exact hb
  · split
    · exact he.2.2.2
    · exact hb
theorem z0 : (0 : Nat) < 65536 := by decide
theorem z5 : (65535 : Nat) < 65536 := by decide
theorem shE_ok {sh b : Nat} {e : E4} (he : okR e) : okQ (shE sh b e).2 := by
  obtain ⟨h1, h2, h3, h4⟩ := he
  unfold shE
  split
  · exact ⟨h1, h2, h3, z0⟩
  · split
    · show okQ (if _ then _ else _)
      split
      · exact ⟨h1, h2, h3, z5⟩
      · exact ⟨z0, z0, z0, h1⟩
    · show okQ (if _ then _ else _)
      split
      · exact ⟨z0, z0, z0, z0⟩
      · exact ⟨z0, h2, h3, z5⟩
theorem shL_ok {sh : Nat} {es : List E4} : ∀ {b : Nat}, (∀ e ∈ es, okR e) → ∀ q ∈ shL sh b es, okQ q := by
  induction es with
  | nil => intro b h q hq; exact absurd hq List.not_mem_nil
  | cons e es ih =>
    intro b h q hq
    rcases List.mem_cons.mp hq with rfl | hq
    · exact shE_ok (h e List.mem_cons_self)
    · exact ih (fun x hx => h x (List.mem_cons_of_mem _ hx)) q hq
theorem shF_b {sh : Nat} {es : List E4} : ∀ {b : Nat}, b ≤ 1 → (∀ e ∈ es, okR e) → shF sh b es ≤ 1 := by
  induction es with
  | nil => intro b hb h; exact hb
  | cons e es ih => intro b hb h; exact ih (shE_b hb (h e List.mem_cons_self)) (fun x hx => h x (List.mem_cons_of_mem _ hx))
/-- the array holds the shifted elements of es -/
def ElS (sh : Nat) (es : List E4) (f : Nat → Int64) : Prop := (∀ e ∈ es, okR e) ∧ ∀ i q, (shL sh 0 es)[i]? = some q → f i = lN (pq q)
theorem els_nil (sh : Nat) (f : Nat → Int64) : ElS sh [] f := ⟨fun _ h => absurd h List.not_mem_nil, fun i q h => by cases h⟩
theorem els_add {sh : Nat} {es : List E4} {f : Nat → Int64} {e : E4} (h : ElS sh es f) (he : okR e) : ElS sh (es ++ [e]) (vp_updL f es.length (lN (pq (shE sh (shF sh 0 es) e).2))) := by
  refine ⟨fun x hx => ?_, fun i q hq => ?_⟩
  · rcases List.mem_append.mp hx with hx | hx
    · exact h.1 x hx
    · rw [List.mem_singleton.mp hx]; exact he
  · rw [shL_app] at hq
    rcases Nat.lt_trichotomy i es.length with c | c | c
    · rw [List.getElem?_append_left (by rw [shL_len]; exact c)] at hq
      rw [pk_uLn (by omega)]
      exact h.2 i q hq
    · rw [List.getElem?_append_right (by rw [shL_len]; omega), shL_len, c, Nat.sub_self] at hq
      cases hq
      rw [c, pk_uLs]
    · rw [List.getElem?_append_right (by rw [shL_len]; omega), shL_len] at hq
      have : (shL sh (shF sh 0 es) [e]).length ≤ i - es.length := by rw [shL_len]; simp; omega
      rw [List.getElem?_eq_none this] at hq
      cases hq
theorem nar_b {v : Nat} (hv : v ≤ 1) : narrow .boolean (.int (nI v)) = .int (nI v) := by rcases (show v = 0 ∨ v = 1 by omega) with rfl | rfl <;> rfl
theorem fit_b {v : Nat} (hv : v ≤ 1) : fits .boolean (.int (nI v)) = true := by rcases (show v = 0 ∨ v = 1 by omega) with rfl | rfl <;> rfl
theorem vpn_b {v : Nat} (hv : v ≤ 1) : vp_nar .boolean (nI v) = nI v := by rcases (show v = 0 ∨ v = 1 by omega) with rfl | rfl <;> rfl
theorem shE_s1 {b : Nat} {e : E4} (hp : 0 < e.1) (hv : e.2.2.2 = 0) : shE 1 b e = (0, (e.1, e.2.1, e.2.2.1, 65535)) := by unfold shE; rw [if_neg (by decide), if_pos hp, if_pos hv, hv]
theorem shE_s2 {b : Nat} {e : E4} (hp : 0 < e.1) (hv : ¬ e.2.2.2 = 0) : shE 1 b e = (e.2.2.2, (0, 0, 0, e.1)) := by unfold shE; rw [if_neg (by decide), if_pos hp, if_neg hv]
theorem shE_s3 {b : Nat} {e : E4} (hp : ¬ 0 < e.1) (hv : b ≠ 0 ∨ (e.2.1 = 0 ∧ e.2.2.1 = 0)) : shE 1 b e = (b, (0, 0, 0, 0)) := by unfold shE; rw [if_neg (by decide), if_neg hp, if_pos hv]
theorem shE_s4 {b : Nat} {e : E4} (hp : ¬ 0 < e.1) (hv : ¬ (b ≠ 0 ∨ (e.2.1 = 0 ∧ e.2.2.1 = 0))) : shE 1 b e = (b, (0, e.2.1, e.2.2.1, 65535)) := by unfold shE; rw [if_neg (by decide), if_neg hp, if_neg hv]
theorem shE_0 {b : Nat} {e : E4} : shE 0 b e = (b, (e.1, e.2.1, e.2.2.1, 0)) := by unfold shE; rw [if_pos rfl]

set_option maxHeartbeats 4000000 in
set_option maxRecDepth 100000 in
theorem c_El_begin (l : Launch) (G : Gx) (x y n s0 b0 sh : Nat) (f : Nat → Int64) (hsh : sh ≤ 1) : CT l G y_El_begin b_El_begin 2 none ({ frames := 0, cells := 0, slots := 0, locals := 0 } : Room) ([(x, ob 4 [.ref y, .int (nI n), .int (nI s0), .int (nI b0)]), (y, aJ G 1600 f)]) [.ref x, .int (nI sh)] (fun r w' => w' = [(x, ob 4 [.ref y, .int (nI 0), .int (nI sh), .int (nI 0)]), (y, aJ G 1600 f)] ∧ r = none) := by
  refine ct_of [(0, .ref x), (1, .int (nI sh))] (by decide) (Nat.le_of_ble_eq_true rfl) rfl (fun K hKl hNI C X => ?_)
  subst hKl
  refine v_aload_n (pc := 0) C 0 d_El_begin_0 rfl rfl ?_
  refine v_iconst (pc := 1) C (nI 0) d_El_begin_1 (by decide +kernel) ?_
  refine v_put (pc := 2) (Cn := "WeightOrder$Elements") (T := T_El) (N := 4) (ci := 4) (v := .int (nI 0)) C 0 1 rfl rfl hin_El (by decide) rfl ([(x, ob 4 [.ref y, .int (nI 0), .int (nI s0), .int (nI b0)]), (y, aJ G 1600 f)]) t_El t_El_ok n_El (.int) rfl rfl rfl (Nat.le_of_ble_eq_true rfl) rfl rfl k_127 d_El_begin_2 ?_
  refine v_aload_n (pc := 5) C 0 d_El_begin_5 rfl rfl ?_
  refine v_iload_n (pc := 6) C 1 d_El_begin_6 rfl rfl ?_
  refine v_put (pc := 7) (Cn := "WeightOrder$Elements") (T := T_El) (N := 4) (ci := 4) (v := .int (nI sh)) C 0 2 rfl rfl hin_El (by decide) rfl ([(x, ob 4 [.ref y, .int (nI 0), .int (nI sh), .int (nI b0)]), (y, aJ G 1600 f)]) t_El t_El_ok n_El (.boolean) rfl (nar_b hsh) (fit_b hsh) (Nat.le_of_ble_eq_true rfl) rfl rfl k_129 d_El_begin_7 ?_
  refine v_aload_n (pc := 10) C 0 d_El_begin_10 rfl rfl ?_
  refine v_iconst (pc := 11) C (nI 0) d_El_begin_11 (by decide +kernel) ?_
  refine v_put (pc := 12) (Cn := "WeightOrder$Elements") (T := T_El) (N := 4) (ci := 4) (v := .int (nI 0)) C 0 3 rfl rfl hin_El (by decide) rfl ([(x, ob 4 [.ref y, .int (nI 0), .int (nI sh), .int (nI 0)]), (y, aJ G 1600 f)]) t_El t_El_ok n_El (.boolean) rfl rfl rfl (Nat.le_of_ble_eq_true rfl) rfl rfl k_130 d_El_begin_12 ?_
  exact v_vret (pc := 15) C X d_El_begin_15 ⟨rfl, rfl⟩ (by decide) (by decide)

set_option maxHeartbeats 4000000 in
set_option maxRecDepth 100000 in
theorem c_El_shift (l : Launch) (G : Gx) (x y n sh b : Nat) (e : E4) (he : okR e) (hb : b ≤ 1) : CT l G y_El_shift b_El_shift 5 (some .long) ({ frames := 1, cells := 0, slots := 0, locals := 22 } : Room) ([(x, ob 4 [.ref y, .int (nI n), .int (nI sh), .int (nI b)])]) [.ref x, .long (lN (pkN e.1 e.2.1 e.2.2.1 0)), .int (nI e.2.2.2)] (fun r w' => w' = [(x, ob 4 [.ref y, .int (nI n), .int (nI sh), .int (nI ((shE 1 b e).1))])] ∧ r = some (.long (lN (pq (shE 1 b e).2)))) := by
  refine ct_of [(0, .ref x), (1, .long (lN (pkN e.1 e.2.1 e.2.2.1 0))), (3, .int (nI e.2.2.2))] (by decide) (Nat.le_of_ble_eq_true rfl) rfl (fun K hKl hNI C X => ?_)
  subst hKl
  obtain ⟨hp, hs, ht, hv⟩ := id he
  refine v_lload_n (pc := 0) C 1 d_El_shift_0 rfl rfl ?_
  refine v_iconst (pc := 1) C (nI 0) d_El_shift_1 (by decide +kernel) ?_
  refine v_callS (pc := 2) (As := [.long (lN (pkN e.1 e.2.1 e.2.2.1 0)), .int (nI 0)]) (rest := []) C (c_Wo_weightOf _ G (pkN e.1 e.2.1 e.2.2.1 0) 0 (pkN_lt hp hs ht (by decide)) (by decide)) l_El_48 ([(x, ob 4 [.ref y, .int (nI n), .int (nI sh), .int (nI b)])]) (sp_pos [0] [] rfl rfl rfl) rfl rfl (Nat.le_of_ble_eq_true rfl) (by decide) (by decide) (by decide) (by decide) d_El_shift_2 (fun r w' hq => ?_)
  obtain ⟨rfl, rfl⟩ := hq
  show vv K ({ frames := 1, cells := 0, slots := 0, locals := 22 } : Room) G 5 0 0 ([(x, ob 4 [.ref y, .int (nI n), .int (nI sh), .int (nI b)])]) 5 [(0, .ref x), (1, .long (lN (pkN e.1 e.2.1 e.2.2.1 0))), (3, .int (nI e.2.2.2))] [.int (nI (wtN (pkN e.1 e.2.1 e.2.2.1 0) 0))]
  refine v_seti (nI e.1) (by rw [wt_0 hp hs ht (by decide)]) ?_
  refine v_istore (pc := 5) C [(4, .int (nI e.1)), (0, .ref x), (1, .long (lN (pkN e.1 e.2.1 e.2.2.1 0))), (3, .int (nI e.2.2.2))] d_El_shift_5 (by decide) rfl ?_
  refine v_iload (pc := 7) C 0 d_El_shift_7 rfl ?_
  refine v_ifN_le (pc := 9) C 33 e.1 d_El_shift_9 (by decide) (by omega) (fun h1 => ?_) (fun h1 => ?_)
  · have hp0 : e.1 = 0 := by omega
    refine v_aload_n (pc := 33) C 1 d_El_shift_33 rfl rfl ?_
    refine v_get (pc := 34) (Cn := "WeightOrder$Elements") (T := T_El) (N := 4) (ci := 4) (v := .int (nI b)) C 0 3 rfl rfl hin_El (by decide) rfl k_130 rfl d_El_shift_34 ?_
    refine v_ifN_ne (pc := 37) C 46 b d_El_shift_37 (by decide) (by omega) (fun h3 => ?_) (fun h3 => ?_)
    · refine v_lconst (pc := 46) C (lN 0) d_El_shift_46 (by decide +kernel) ?_
      refine v_goto (pc := 47) C 55 d_El_shift_47 (by decide) ?_
      exact v_lret (pc := 55) C X d_El_shift_55 ⟨by rw [shE_s3 (by omega) (Or.inl h3)], by rw [shE_s3 (by omega) (Or.inl h3), pq_0]⟩ (by decide) (by decide)
    · refine v_lload_n (pc := 40) C 2 d_El_shift_40 rfl rfl ?_
      refine v_lconst (pc := 41) C (lN 0) d_El_shift_41 (by decide +kernel) ?_
      refine v_lcmp (pc := 42) C d_El_shift_42 ?_
      refine v_if_ne (pc := 43) C 50 d_El_shift_43 (by decide) (fun h4 => ?_) (fun h4 => ?_)
      · have h5 : ¬ (b ≠ 0 ∨ (e.2.1 = 0 ∧ e.2.2.1 = 0)) := by
          intro q
          rcases q with q | q
          · exact q h3
          · exact h4 (lgc_eq.mpr (congrArg lN (pkN_eq0.mpr ⟨hp0, q.1, q.2⟩)))
        refine v_lload_n (pc := 50) C 2 d_El_shift_50 rfl rfl ?_
        refine v_ldc2 (pc := 51) C 65535 k_412 d_El_shift_51 ?_
        refine v_setl (lN 65535) (by decide +kernel) ?_
        refine v_lor (pc := 54) C (lN (pkN e.1 e.2.1 e.2.2.1 65535)) d_El_shift_54 (pk_orF hp hs ht) ?_
        exact v_lret (pc := 55) C X d_El_shift_55 ⟨by rw [shE_s4 (by omega) h5], by rw [shE_s4 (by omega) h5]; exact congrArg (fun z => some (Value.long (lN z))) (by unfold pq; rw [hp0])⟩ (by decide) (by decide)
      · have h5 : pkN e.1 e.2.1 e.2.2.1 0 = 0 := by
          have := lgc_eq.mp h4
          have hlt := pkN_lt (f := 0) hp hs ht (by decide)
          have h6 := congrArg (fun z : Int64 => z.toBitVec.toNat) this
          simp only [wb_tn (by rw [pw64]; exact hlt), wb_tn (n := 0) (by decide)] at h6
          exact h6
        refine v_lconst (pc := 46) C (lN 0) d_El_shift_46 (by decide +kernel) ?_
        refine v_goto (pc := 47) C 55 d_El_shift_47 (by decide) ?_
        exact v_lret (pc := 55) C X d_El_shift_55 ⟨by rw [shE_s3 (by omega) (Or.inr ⟨(pkN_eq0.mp h5).2.1, (pkN_eq0.mp h5).2.2⟩)], by rw [shE_s3 (by omega) (Or.inr ⟨(pkN_eq0.mp h5).2.1, (pkN_eq0.mp h5).2.2⟩), pq_0]⟩ (by decide) (by decide)
  · refine v_aload_n (pc := 12) C 1 d_El_shift_12 rfl rfl ?_
    refine v_iload_n (pc := 13) C 3 d_El_shift_13 rfl rfl ?_
    refine v_put (pc := 14) (Cn := "WeightOrder$Elements") (T := T_El) (N := 4) (ci := 4) (v := .int (nI e.2.2.2)) C 0 3 rfl rfl hin_El (by decide) rfl ([(x, ob 4 [.ref y, .int (nI n), .int (nI sh), .int (nI e.2.2.2)])]) t_El t_El_ok n_El (.boolean) rfl (nar_b hv) (fit_b hv) (Nat.le_of_ble_eq_true rfl) rfl rfl k_130 d_El_shift_14 ?_
    refine v_iload_n (pc := 17) C 3 d_El_shift_17 rfl rfl ?_
    refine v_ifN_eq (pc := 18) C 27 e.2.2.2 d_El_shift_18 (by decide) (by omega) (fun h2 => ?_) (fun h2 => ?_)
    · refine v_lload_n (pc := 27) C 2 d_El_shift_27 rfl rfl ?_
      refine v_ldc2 (pc := 28) C 65535 k_412 d_El_shift_28 ?_
      refine v_setl (lN 65535) (by decide +kernel) ?_
      refine v_lor (pc := 31) C (lN (pkN e.1 e.2.1 e.2.2.1 65535)) d_El_shift_31 (pk_orF hp hs ht) ?_
      exact v_lret (pc := 32) C X d_El_shift_32 ⟨by rw [shE_s1 h1 h2, h2], by rw [shE_s1 h1 h2]; rfl⟩ (by decide) (by decide)
    · refine v_iload (pc := 21) C 0 d_El_shift_21 rfl ?_
      refine v_i2l (pc := 23) C (lN e.1) d_El_shift_23 (nI_l (by omega)) ?_
      refine v_goto (pc := 24) C 32 d_El_shift_24 (by decide) ?_
      exact v_lret (pc := 32) C X d_El_shift_32 ⟨by rw [shE_s2 h1 h2], by rw [shE_s2 h1 h2]; exact congrArg (fun z => some (Value.long (lN z))) (by unfold pq pkN; simp)⟩ (by decide) (by decide)

set_option maxHeartbeats 4000000 in
set_option maxRecDepth 100000 in
theorem c_El_append (l : Launch) (G : Gx) (x y sh : Nat) (es : List E4) (f : Nat → Int64) (e : E4) (hsh : sh ≤ 1) (hE : ElS sh es f) (he : okR e) (hlen : es.length < 1600) : CT l G y_El_append b_El_append 4 none ({ frames := 2, cells := 0, slots := 0, locals := 46 } : Room) ([(x, ob 4 [.ref y, .int (nI es.length), .int (nI sh), .int (nI (shF sh 0 es))]), (y, aJ G 1600 f)]) [.ref x, .long (lN (pkN e.1 e.2.1 e.2.2.1 0)), .int (nI e.2.2.2)] (fun r w' => r = none ∧ ∃ f', w' = [(x, ob 4 [.ref y, .int (nI ((es ++ [e]).length)), .int (nI sh), .int (nI (shF sh 0 (es ++ [e])))]), (y, aJ G 1600 f')] ∧ ElS sh (es ++ [e]) f') := by
  refine ct_of [(0, .ref x), (1, .long (lN (pkN e.1 e.2.1 e.2.2.1 0))), (3, .int (nI e.2.2.2))] (by decide) (Nat.le_of_ble_eq_true rfl) rfl (fun K hKl hNI C X => ?_)
  subst hKl
  have hl1 : (es ++ [e]).length = es.length + 1 := by simp
  have hsf : shF sh 0 (es ++ [e]) = (shE sh (shF sh 0 es) e).1 := by rw [shF_app]; rfl
  have hadd := els_add hE he
  have hb := shF_b (sh := sh) (b := 0) (by decide) hE.1
  refine v_aload_n (pc := 0) C 0 d_El_append_0 rfl rfl ?_
  refine v_get (pc := 1) (Cn := "WeightOrder$Elements") (T := T_El) (N := 4) (ci := 4) (v := .int (nI es.length)) C 0 1 rfl rfl hin_El (by decide) rfl k_127 rfl d_El_append_1 ?_
  refine v_aload_n (pc := 4) C 0 d_El_append_4 rfl rfl ?_
  refine v_get (pc := 5) (Cn := "WeightOrder$Elements") (T := T_El) (N := 4) (ci := 4) (v := .ref y) C 0 0 rfl rfl hin_El (by decide) rfl k_125 rfl d_El_append_5 ?_
  refine v_alenJ (pc := 8) C 1 rfl d_El_append_8 ?_
  refine v_icmpN_ge (pc := 9) C 48 es.length 1600 d_El_append_9 (by decide) (by omega) (by omega) (fun h1 => ?_) (fun h1 => ?_)
  · omega
  · refine v_aload_n (pc := 12) C 0 d_El_append_12 rfl rfl ?_
    refine v_get (pc := 13) (Cn := "WeightOrder$Elements") (T := T_El) (N := 4) (ci := 4) (v := .ref y) C 0 0 rfl rfl hin_El (by decide) rfl k_125 rfl d_El_append_13 ?_
    refine v_aload_n (pc := 16) C 0 d_El_append_16 rfl rfl ?_
    refine v_get (pc := 17) (Cn := "WeightOrder$Elements") (T := T_El) (N := 4) (ci := 4) (v := .int (nI es.length)) C 0 1 rfl rfl hin_El (by decide) rfl k_127 rfl d_El_append_17 ?_
    refine v_aload_n (pc := 20) C 0 d_El_append_20 rfl rfl ?_
    refine v_get (pc := 21) (Cn := "WeightOrder$Elements") (T := T_El) (N := 4) (ci := 4) (v := .int (nI sh)) C 0 2 rfl rfl hin_El (by decide) rfl k_129 rfl d_El_append_21 ?_
    refine v_ifN_eq (pc := 24) C 36 sh d_El_append_24 (by decide) (by omega) (fun h2 => ?_) (fun h2 => ?_)
    · subst h2
      refine v_lload_n (pc := 36) C 1 d_El_append_36 rfl rfl ?_
      refine v_last (pc := 37) C 1 ([(x, ob 4 [.ref y, .int (nI es.length), .int (nI 0), .int (nI (shF 0 0 es))]), (y, aJ G 1600 (vp_updL f es.length (lN (pkN e.1 e.2.1 e.2.2.1 0))))]) rfl es.length rfl (by omega) (by decide) rfl d_El_append_37 ?_
      refine v_aload_n (pc := 38) C 0 d_El_append_38 rfl rfl ?_
      refine v_dup (pc := 39) C d_El_append_39 rfl ?_
      refine v_get (pc := 40) (Cn := "WeightOrder$Elements") (T := T_El) (N := 4) (ci := 4) (v := .int (nI es.length)) C 0 1 rfl rfl hin_El (by decide) rfl k_127 rfl d_El_append_40 ?_
      refine v_iconst (pc := 43) C (nI 1) d_El_append_43 (by decide +kernel) ?_
      refine v_iadd (pc := 44) C (nI (es.length + 1)) d_El_append_44 (nI_add _ _) ?_
      refine v_put (pc := 45) (Cn := "WeightOrder$Elements") (T := T_El) (N := 4) (ci := 4) (v := .int (nI (es.length + 1))) C 0 1 rfl rfl hin_El (by decide) rfl ([(x, ob 4 [.ref y, .int (nI (es.length + 1)), .int (nI 0), .int (nI (shF 0 0 es))]), (y, aJ G 1600 (vp_updL f es.length (lN (pkN e.1 e.2.1 e.2.2.1 0))))]) t_El t_El_ok n_El (.int) rfl rfl rfl (Nat.le_of_ble_eq_true rfl) rfl rfl k_127 d_El_append_45 ?_
      exact v_vret (pc := 48) C X d_El_append_48 ⟨rfl, vp_updL f es.length (lN (pkN e.1 e.2.1 e.2.2.1 0)), by rw [hl1, hsf, shE_0], by rw [shE_0] at hadd; exact hadd⟩ (by decide) (by decide)
    · have hs1 : sh = 1 := by omega
      subst hs1
      refine v_aload_n (pc := 27) C 0 d_El_append_27 rfl rfl ?_
      refine v_lload_n (pc := 28) C 1 d_El_append_28 rfl rfl ?_
      refine v_iload_n (pc := 29) C 2 d_El_append_29 rfl rfl ?_
      refine v_callV (pc := 30) (As := [.long (lN (pkN e.1 e.2.1 e.2.2.1 0)), .int (nI e.2.2.2)]) (rest := [.int (nI es.length), .ref y]) C (c_El_shift _ G x y es.length 1 (shF 1 0 es) e he hb) l_El_26 ([(y, aJ G 1600 f)]) (sp_pos [1] [0] rfl rfl rfl) 0 rfl rfl rfl rfl rfl (Nat.le_of_ble_eq_true rfl) (by decide) (by decide) (by decide) (by decide) d_El_append_30 (fun r w' hq => ?_)
      obtain ⟨rfl, rfl⟩ := hq
      show vv K ({ frames := 2, cells := 0, slots := 0, locals := 46 } : Room) G 4 0 0 ([(y, aJ G 1600 f), (x, ob 4 [.ref y, .int (nI es.length), .int (nI 1), .int (nI ((shE 1 (shF 1 0 es) e).1))])]) 33 [(0, .ref x), (1, .long (lN (pkN e.1 e.2.1 e.2.2.1 0))), (3, .int (nI e.2.2.2))] [.long (lN (pq (shE 1 (shF 1 0 es) e).2)), .int (nI es.length), .ref y]
      refine v_goto (pc := 33) C 37 d_El_append_33 (by decide) ?_
      refine v_last (pc := 37) C 0 ([(y, aJ G 1600 (vp_updL f es.length (lN (pq (shE 1 (shF 1 0 es) e).2)))), (x, ob 4 [.ref y, .int (nI es.length), .int (nI 1), .int (nI ((shE 1 (shF 1 0 es) e).1))])]) rfl es.length rfl (by omega) (by decide) rfl d_El_append_37 ?_
      refine v_aload_n (pc := 38) C 0 d_El_append_38 rfl rfl ?_
      refine v_dup (pc := 39) C d_El_append_39 rfl ?_
      refine v_get (pc := 40) (Cn := "WeightOrder$Elements") (T := T_El) (N := 4) (ci := 4) (v := .int (nI es.length)) C 1 1 rfl rfl hin_El (by decide) rfl k_127 rfl d_El_append_40 ?_
      refine v_iconst (pc := 43) C (nI 1) d_El_append_43 (by decide +kernel) ?_
      refine v_iadd (pc := 44) C (nI (es.length + 1)) d_El_append_44 (nI_add _ _) ?_
      refine v_put (pc := 45) (Cn := "WeightOrder$Elements") (T := T_El) (N := 4) (ci := 4) (v := .int (nI (es.length + 1))) C 1 1 rfl rfl hin_El (by decide) rfl ([(y, aJ G 1600 (vp_updL f es.length (lN (pq (shE 1 (shF 1 0 es) e).2)))), (x, ob 4 [.ref y, .int (nI (es.length + 1)), .int (nI 1), .int (nI ((shE 1 (shF 1 0 es) e).1))])]) t_El t_El_ok n_El (.int) rfl rfl rfl (Nat.le_of_ble_eq_true rfl) rfl rfl k_127 d_El_append_45 ?_
      refine v_wsub [1, 0] ([(x, ob 4 [.ref y, .int (nI (es.length + 1)), .int (nI 1), .int (nI ((shE 1 (shF 1 0 es) e).1))]), (y, aJ G 1600 (vp_updL f es.length (lN (pq (shE 1 (shF 1 0 es) e).2))))]) rfl rfl ?_
      exact v_vret (pc := 48) C X d_El_append_48 ⟨rfl, vp_updL f es.length (lN (pq (shE 1 (shF 1 0 es) e).2)), by rw [hl1, hsf], hadd⟩ (by decide) (by decide)

/-- the arrays of a Line hold es -/
def LnS (es : List E4) (fp : Nat → Int64) (fv : Nat → Int32) : Prop := (∀ e ∈ es, okR e) ∧ ∀ i e, es[i]? = some e → fp i = lN (pkN e.1 e.2.1 e.2.2.1 0) ∧ fv i = nI e.2.2.2

set_option maxHeartbeats 4000000 in
set_option maxRecDepth 100000 in
theorem c_El_appendLine (l : Launch) (G : Gx) (x y a p q sh : Nat) (es ls : List E4) (f fp : Nat → Int64) (fv : Nat → Int32) (hsh : sh ≤ 1) (hE : ElS sh es f) (hL : LnS ls fp fv) (h8 : ls.length ≤ 8) (hlen : (es ++ ls).length ≤ 1600) : CT l G y_El_appendLine b_El_appendLine 3 none ({ frames := 3, cells := 0, slots := 0, locals := 69 } : Room) ([(x, ob 4 [.ref y, .int (nI es.length), .int (nI sh), .int (nI (shF sh 0 es))]), (y, aJ G 1600 f), (a, ob 1 [.ref p, .ref q, .int (nI ls.length)]), (p, aJ G 8 fp), (q, aZ G 8 fv)]) [.ref x, .ref a] (fun r w' => r = none ∧ ∃ f', w' = [(x, ob 4 [.ref y, .int (nI ((es ++ ls).length)), .int (nI sh), .int (nI (shF sh 0 (es ++ ls)))]), (y, aJ G 1600 f'), (a, ob 1 [.ref p, .ref q, .int (nI ls.length)]), (p, aJ G 8 fp), (q, aZ G 8 fv)] ∧ ElS sh (es ++ ls) f') := by
  refine ct_of [(0, .ref x), (1, .ref a)] (by decide) (Nat.le_of_ble_eq_true rfl) rfl (fun K hKl hNI C X => ?_)
  subst hKl
  have hla : (es ++ ls).length = es.length + ls.length := by simp
  refine v_iconst (pc := 0) C (nI 0) d_El_appendLine_0 (by decide +kernel) ?_
  refine v_istore_n (pc := 1) C [(2, .int (nI 0)), (0, .ref x), (1, .ref a)] d_El_appendLine_1 rfl (by decide) rfl ?_
  have loop : ∀ (d : Nat) (i : Nat) (g : Nat → Int64), ls.length - i < d → (i ≤ ls.length) → (ElS sh (es ++ ls.take i) g) → vv K ({ frames := 3, cells := 0, slots := 0, locals := 69 } : Room) G 3 0 0 ([(x, ob 4 [.ref y, .int (nI ((es ++ ls.take i).length)), .int (nI sh), .int (nI (shF sh 0 (es ++ ls.take i)))]), (y, aJ G 1600 g), (a, ob 1 [.ref p, .ref q, .int (nI ls.length)]), (p, aJ G 8 fp), (q, aZ G 8 fv)]) 2 [(2, .int (nI i)), (0, .ref x), (1, .ref a)] [] := by
    intro d
    induction d with
    | zero => intro i g hm; exact absurd hm (Nat.not_lt_zero _)
    | succ d ih =>
      intro i g hm hi hg
      refine v_iload_n (pc := 2) C 0 d_El_appendLine_2 rfl rfl ?_
      refine v_aload_n (pc := 3) C 2 d_El_appendLine_3 rfl rfl ?_
      refine v_getN (pc := 4) (Cn := "WeightOrder$Line") (T := T_Li) (N := 3) (ci := 1) (v := .int (nI ls.length)) C 2 2 rfl rfl hin_Li (by decide) rfl k_307 rfl d_El_appendLine_4 ?_
      refine v_icmpN_ge (pc := 7) C 32 i ls.length d_El_appendLine_7 (by decide) (by omega) (by omega) (fun hc => ?_) (fun hc => ?_)
      · have hie : i = ls.length := by omega
        rw [hie, List.take_length] at hg
        exact v_vret (pc := 32) C X d_El_appendLine_32 ⟨rfl, g, by rw [hie, List.take_length], hg⟩ (by decide) (by decide)
      · obtain ⟨e, he⟩ : ∃ e, ls[i]? = some e := ⟨_, List.getElem?_eq_getElem hc⟩
        have hoe := hL.1 e (List.mem_of_getElem? he)
        have hie := hL.2 i e he
        have htk : ls.take (i + 1) = ls.take i ++ [e] := by rw [List.take_add_one, he]; rfl
        have hlt : (es ++ ls.take i).length < 1600 := by rw [List.length_append, List.length_take]; omega
        refine v_aload_n (pc := 10) C 1 d_El_appendLine_10 rfl rfl ?_
        refine v_aload_n (pc := 11) C 2 d_El_appendLine_11 rfl rfl ?_
        refine v_getN (pc := 12) (Cn := "WeightOrder$Line") (T := T_Li) (N := 3) (ci := 1) (v := .ref p) C 2 0 rfl rfl hin_Li (by decide) rfl k_303 rfl d_El_appendLine_12 ?_
        refine v_iload_n (pc := 15) C 0 d_El_appendLine_15 rfl rfl ?_
        refine v_lald (pc := 16) C 3 rfl i rfl (by omega) (by decide) d_El_appendLine_16 ?_
        refine v_setl (lN (pkN e.1 e.2.1 e.2.2.1 0)) hie.1 ?_
        refine v_aload_n (pc := 17) C 2 d_El_appendLine_17 rfl rfl ?_
        refine v_getN (pc := 18) (Cn := "WeightOrder$Line") (T := T_Li) (N := 3) (ci := 1) (v := .ref q) C 2 1 rfl rfl hin_Li (by decide) rfl k_305 rfl d_El_appendLine_18 ?_
        refine v_iload_n (pc := 21) C 0 d_El_appendLine_21 rfl rfl ?_
        refine v_zald (pc := 22) C 4 rfl i rfl (by omega) (by decide) d_El_appendLine_22 ?_
        refine v_seti (nI e.2.2.2) hie.2 ?_
        refine v_callV (pc := 23) (As := [.long (lN (pkN e.1 e.2.1 e.2.2.1 0)), .int (nI e.2.2.2)]) (rest := []) C (c_El_append _ G x y sh (es ++ ls.take i) g e hsh hg hoe hlt) l_El_38 ([(a, ob 1 [.ref p, .ref q, .int (nI ls.length)]), (p, aJ G 8 fp), (q, aZ G 8 fv)]) (sp_pos [2, 3, 4] [0, 1] rfl rfl rfl) 0 rfl rfl rfl rfl rfl (Nat.le_of_ble_eq_true rfl) (by decide) (by decide) (by decide) (by decide) d_El_appendLine_23 (fun r w' hq => ?_)
        obtain ⟨rfl, g2, rfl, hg2⟩ := hq
        show vv K ({ frames := 3, cells := 0, slots := 0, locals := 69 } : Room) G 3 0 0 ([(a, ob 1 [.ref p, .ref q, .int (nI ls.length)]), (p, aJ G 8 fp), (q, aZ G 8 fv), (x, ob 4 [.ref y, .int (nI ((es ++ ls.take i ++ [e]).length)), .int (nI sh), .int (nI (shF sh 0 (es ++ ls.take i ++ [e])))]), (y, aJ G 1600 g2)]) 26 [(2, .int (nI i)), (0, .ref x), (1, .ref a)] []
        rw [List.append_assoc, ← htk] at hg2 ⊢
        refine v_iinc (pc := 26) C [(2, .int (nI (i + 1))), (0, .ref x), (1, .ref a)] 0 (nI (i + 1)) d_El_appendLine_26 rfl (nI_inc1 _) (by decide) rfl ?_
        refine v_goto (pc := 29) C 2 d_El_appendLine_29 (by decide) ?_
        refine v_wsub [3, 4, 0, 1, 2] ([(x, ob 4 [.ref y, .int (nI ((es ++ ls.take (i + 1)).length)), .int (nI sh), .int (nI (shF sh 0 (es ++ ls.take (i + 1))))]), (y, aJ G 1600 g2), (a, ob 1 [.ref p, .ref q, .int (nI ls.length)]), (p, aJ G 8 fp), (q, aZ G 8 fv)]) rfl rfl ?_
        refine v_lsub [0, 1, 2] [(2, .int (nI (i + 1))), (0, .ref x), (1, .ref a)] rfl ?_
        exact ih (i + 1) g2 (by omega) (by omega) hg2
  have hE0 : ElS sh (es ++ ls.take 0) f := by rw [List.take_zero, List.append_nil]; exact hE
  have := loop (ls.length + 1) 0 f (by omega) (by omega) hE0
  rw [List.take_zero, List.append_nil] at this
  exact this

def impE (p : Nat) : List E4 := [(64448 + p / 32768, 32, 2, 0), (p % 32768 + 32768, 0, 0, 0)]
theorem imp_ok {p : Nat} (hp : p ≤ 1114111) : ∀ e ∈ impE p, okR e := by
  intro e he
  rcases List.mem_cons.mp he with rfl | he
  · exact ⟨show 64448 + p / 32768 < 65536 by omega, show (32 : Nat) < 65536 by decide, show (2 : Nat) < 65536 by decide, Nat.zero_le _⟩
  · rw [List.mem_singleton.mp he]
    exact ⟨show p % 32768 + 32768 < 65536 by omega, z0, z0, Nat.zero_le _⟩

set_option maxHeartbeats 4000000 in
set_option maxRecDepth 100000 in
theorem c_El_appendImplicit (l : Launch) (G : Gx) (x y sh : Nat) (es : List E4) (f : Nat → Int64) (p : Nat) (hsh : sh ≤ 1) (hE : ElS sh es f) (hp : p ≤ 1114111) (hlen : es.length + 2 ≤ 1600) : CT l G y_El_appendImplicit b_El_appendImplicit 2 none ({ frames := 3, cells := 0, slots := 0, locals := 69 } : Room) ([(x, ob 4 [.ref y, .int (nI es.length), .int (nI sh), .int (nI (shF sh 0 es))]), (y, aJ G 1600 f)]) [.ref x, .int (nI p)] (fun r w' => r = none ∧ ∃ f', w' = [(x, ob 4 [.ref y, .int (nI ((es ++ impE p).length)), .int (nI sh), .int (nI (shF sh 0 (es ++ impE p)))]), (y, aJ G 1600 f')] ∧ ElS sh (es ++ impE p) f') := by
  refine ct_of [(0, .ref x), (1, .int (nI p))] (by decide) (Nat.le_of_ble_eq_true rfl) rfl (fun K hKl hNI C X => ?_)
  subst hKl
  have o1 := imp_ok hp _ (List.mem_cons_self (a := (64448 + p / 32768, 32, 2, 0)))
  have o2 := imp_ok hp (p % 32768 + 32768, 0, 0, 0) (List.mem_cons_of_mem _ List.mem_cons_self)
  refine v_aload_n (pc := 0) C 0 d_El_appendImplicit_0 rfl rfl ?_
  refine v_ldc (pc := 1) C 64448 k_398 d_El_appendImplicit_1 ?_
  refine v_seti (nI 64448) (by decide +kernel) ?_
  refine v_iload_n (pc := 3) C 1 d_El_appendImplicit_3 rfl rfl ?_
  refine v_ldc (pc := 4) C 32768 k_399 d_El_appendImplicit_4 ?_
  refine v_seti (nI 32768) (by decide +kernel) ?_
  refine v_idiv (pc := 6) C (nI (p / 32768)) d_El_appendImplicit_6 (by decide) (pk_div (by omega) (by decide) (by decide)) ?_
  refine v_iadd (pc := 7) C (nI (64448 + (p / 32768))) d_El_appendImplicit_7 (nI_add _ _) ?_
  refine v_bipush (pc := 8) C (nI 32) d_El_appendImplicit_8 (by decide +kernel) ?_
  refine v_iconst (pc := 10) C (nI 2) d_El_appendImplicit_10 (by decide +kernel) ?_
  refine v_callS (pc := 11) (As := [.int (nI (64448 + (p / 32768))), .int (nI 32), .int (nI 2)]) (rest := [.ref x]) C (c_Wo_pack _ G (64448 + p / 32768) 32 2 o1.1 (by decide) (by decide)) l_El_44 ([(x, ob 4 [.ref y, .int (nI es.length), .int (nI sh), .int (nI (shF sh 0 es))]), (y, aJ G 1600 f)]) (sp_pos [0, 1] [] rfl rfl rfl) rfl rfl (Nat.le_of_ble_eq_true rfl) (by decide) (by decide) (by decide) (by decide) d_El_appendImplicit_11 (fun r w' hq => ?_)
  obtain ⟨rfl, rfl⟩ := hq
  show vv K ({ frames := 3, cells := 0, slots := 0, locals := 69 } : Room) G 2 0 0 ([(x, ob 4 [.ref y, .int (nI es.length), .int (nI sh), .int (nI (shF sh 0 es))]), (y, aJ G 1600 f)]) 14 [(0, .ref x), (1, .int (nI p))] [.long (lN (pkN (64448 + p / 32768) 32 2 0)), .ref x]
  refine v_iconst (pc := 14) C (nI 0) d_El_appendImplicit_14 (by decide +kernel) ?_
  refine v_callV (pc := 15) (As := [.long (lN (pkN (64448 + p / 32768) 32 2 0)), .int (nI 0)]) (rest := []) C (c_El_append _ G x y sh es f (64448 + p / 32768, 32, 2, 0) hsh hE o1 (by omega)) l_El_38 ([]) (sp_pos [] [0, 1] rfl rfl rfl) 0 rfl rfl rfl rfl rfl (Nat.le_of_ble_eq_true rfl) (by decide) (by decide) (by decide) (by decide) d_El_appendImplicit_15 (fun r w' hq => ?_)
  obtain ⟨rfl, g, rfl, hg⟩ := hq
  show vv K ({ frames := 3, cells := 0, slots := 0, locals := 69 } : Room) G 2 0 0 ([(x, ob 4 [.ref y, .int (nI ((es ++ [(64448 + p / 32768, 32, 2, 0)]).length)), .int (nI sh), .int (nI (shF sh 0 (es ++ [(64448 + p / 32768, 32, 2, 0)])))]), (y, aJ G 1600 g)]) 18 [(0, .ref x), (1, .int (nI p))] []
  refine v_aload_n (pc := 18) C 0 d_El_appendImplicit_18 rfl rfl ?_
  refine v_iload_n (pc := 19) C 1 d_El_appendImplicit_19 rfl rfl ?_
  refine v_ldc (pc := 20) C 32768 k_399 d_El_appendImplicit_20 ?_
  refine v_seti (nI 32768) (by decide +kernel) ?_
  refine v_irem (pc := 22) C (nI (p % 32768)) d_El_appendImplicit_22 (by decide) (pk_rem (by omega) (by decide) (by decide)) ?_
  refine v_ldc (pc := 23) C 32768 k_399 d_El_appendImplicit_23 ?_
  refine v_seti (nI 32768) (by decide +kernel) ?_
  refine v_iadd (pc := 25) C (nI (p % 32768 + 32768)) d_El_appendImplicit_25 (nI_add _ _) ?_
  refine v_iconst (pc := 26) C (nI 0) d_El_appendImplicit_26 (by decide +kernel) ?_
  refine v_iconst (pc := 27) C (nI 0) d_El_appendImplicit_27 (by decide +kernel) ?_
  refine v_callS (pc := 28) (As := [.int (nI (p % 32768 + 32768)), .int (nI 0), .int (nI 0)]) (rest := [.ref x]) C (c_Wo_pack _ G (p % 32768 + 32768) 0 0 o2.1 (by decide) (by decide)) l_El_44 ([(x, ob 4 [.ref y, .int (nI ((es ++ [(64448 + p / 32768, 32, 2, 0)]).length)), .int (nI sh), .int (nI (shF sh 0 (es ++ [(64448 + p / 32768, 32, 2, 0)])))]), (y, aJ G 1600 g)]) (sp_pos [0, 1] [] rfl rfl rfl) rfl rfl (Nat.le_of_ble_eq_true rfl) (by decide) (by decide) (by decide) (by decide) d_El_appendImplicit_28 (fun r w' hq => ?_)
  obtain ⟨rfl, rfl⟩ := hq
  show vv K ({ frames := 3, cells := 0, slots := 0, locals := 69 } : Room) G 2 0 0 ([(x, ob 4 [.ref y, .int (nI ((es ++ [(64448 + p / 32768, 32, 2, 0)]).length)), .int (nI sh), .int (nI (shF sh 0 (es ++ [(64448 + p / 32768, 32, 2, 0)])))]), (y, aJ G 1600 g)]) 31 [(0, .ref x), (1, .int (nI p))] [.long (lN (pkN (p % 32768 + 32768) 0 0 0)), .ref x]
  refine v_iconst (pc := 31) C (nI 0) d_El_appendImplicit_31 (by decide +kernel) ?_
  refine v_callV (pc := 32) (As := [.long (lN (pkN (p % 32768 + 32768) 0 0 0)), .int (nI 0)]) (rest := []) C (c_El_append _ G x y sh (es ++ [(64448 + p / 32768, 32, 2, 0)]) g (p % 32768 + 32768, 0, 0, 0) hsh hg o2 (by simp; omega)) l_El_38 ([]) (sp_pos [] [0, 1] rfl rfl rfl) 0 rfl rfl rfl rfl rfl (Nat.le_of_ble_eq_true rfl) (by decide) (by decide) (by decide) (by decide) d_El_appendImplicit_32 (fun r w' hq => ?_)
  obtain ⟨rfl, g2, rfl, hg2⟩ := hq
  show vv K ({ frames := 3, cells := 0, slots := 0, locals := 69 } : Room) G 2 0 0 ([(x, ob 4 [.ref y, .int (nI ((es ++ [(64448 + p / 32768, 32, 2, 0)] ++ [(p % 32768 + 32768, 0, 0, 0)]).length)), .int (nI sh), .int (nI (shF sh 0 (es ++ [(64448 + p / 32768, 32, 2, 0)] ++ [(p % 32768 + 32768, 0, 0, 0)])))]), (y, aJ G 1600 g2)]) 35 [(0, .ref x), (1, .int (nI p))] []
  have hap : es ++ [(64448 + p / 32768, 32, 2, 0)] ++ [(p % 32768 + 32768, 0, 0, 0)] = es ++ impE p := by rw [List.append_assoc]; rfl
  exact v_vret (pc := 35) C X d_El_appendImplicit_35 ⟨rfl, g2, by rw [hap], by rw [← hap]; exact hg2⟩ (by decide) (by decide)

set_option maxHeartbeats 4000000 in
set_option maxRecDepth 100000 in
theorem c_El_nextWithWeight (l : Launch) (G : Gx) (x y n sh b : Nat) (f : Nat → Int64) (g : Nat → Nat) (fr k : Nat) (hn : n ≤ 1600) (hfr : fr ≤ n) (hk : k ≤ 3) (hg : ∀ i, i < n → f i = lN (g i) ∧ g i < 18446744073709551616) : CT l G y_El_nextWithWeight b_El_nextWithWeight 4 (some .int) ({ frames := 1, cells := 0, slots := 0, locals := 22 } : Room) ([(x, ob 4 [.ref y, .int (nI n), .int (nI sh), .int (nI b)]), (y, aJ G 1600 f)]) [.ref x, .int (nI fr), .int (nI k)] (fun r w' => w' = [(x, ob 4 [.ref y, .int (nI n), .int (nI sh), .int (nI b)]), (y, aJ G 1600 f)] ∧ ∃ j, r = some (.int (nI j)) ∧ fr ≤ j ∧ j ≤ n ∧ (∀ i, fr ≤ i → i < j → wtN (g i) k = 0) ∧ (j < n → wtN (g j) k ≠ 0)) := by
  refine ct_of [(0, .ref x), (1, .int (nI fr)), (2, .int (nI k))] (by decide) (Nat.le_of_ble_eq_true rfl) rfl (fun K hKl hNI C X => ?_)
  subst hKl
  refine v_iload_n (pc := 0) C 1 d_El_nextWithWeight_0 rfl rfl ?_
  refine v_istore_n (pc := 1) C [(3, .int (nI fr)), (0, .ref x), (1, .int (nI fr)), (2, .int (nI k))] d_El_nextWithWeight_1 rfl (by decide) rfl ?_
  have loop : ∀ (d : Nat) (j : Nat), n - j < d → (fr ≤ j) → (j ≤ n) → (∀ i, fr ≤ i → i < j → wtN (g i) k = 0) → vv K ({ frames := 1, cells := 0, slots := 0, locals := 22 } : Room) G 4 0 0 ([(x, ob 4 [.ref y, .int (nI n), .int (nI sh), .int (nI b)]), (y, aJ G 1600 f)]) 2 [(3, .int (nI j)), (0, .ref x), (2, .int (nI k))] [] := by
    intro d
    induction d with
    | zero => intro j hm; exact absurd hm (Nat.not_lt_zero _)
    | succ d ih =>
      intro j hm h1 h2 h3
      refine v_iload_n (pc := 2) C 0 d_El_nextWithWeight_2 rfl rfl ?_
      refine v_aload_n (pc := 3) C 1 d_El_nextWithWeight_3 rfl rfl ?_
      refine v_get (pc := 4) (Cn := "WeightOrder$Elements") (T := T_El) (N := 4) (ci := 4) (v := .int (nI n)) C 0 1 rfl rfl hin_El (by decide) rfl k_127 rfl d_El_nextWithWeight_4 ?_
      refine v_icmpN_ge (pc := 7) C 29 j n d_El_nextWithWeight_7 (by decide) (by omega) (by omega) (fun hc => ?_) (fun hc => ?_)
      · refine v_iload_n (pc := 29) C 0 d_El_nextWithWeight_29 rfl rfl ?_
        exact v_iret (pc := 30) C X d_El_nextWithWeight_30 ⟨rfl, j, rfl, h1, h2, h3, fun z => by omega⟩ (by decide) (by decide)
      · refine v_aload_n (pc := 10) C 1 d_El_nextWithWeight_10 rfl rfl ?_
        refine v_get (pc := 11) (Cn := "WeightOrder$Elements") (T := T_El) (N := 4) (ci := 4) (v := .ref y) C 0 0 rfl rfl hin_El (by decide) rfl k_125 rfl d_El_nextWithWeight_11 ?_
        refine v_iload_n (pc := 14) C 0 d_El_nextWithWeight_14 rfl rfl ?_
        refine v_lald (pc := 15) C 1 rfl j rfl (by omega) (by decide) d_El_nextWithWeight_15 ?_
        refine v_setl (lN (g j)) (hg j hc).1 ?_
        refine v_iload_n (pc := 16) C 2 d_El_nextWithWeight_16 rfl rfl ?_
        refine v_callS (pc := 17) (As := [.long (lN (g j)), .int (nI k)]) (rest := []) C (c_Wo_weightOf _ G (g j) k (hg j hc).2 hk) l_El_48 ([(x, ob 4 [.ref y, .int (nI n), .int (nI sh), .int (nI b)]), (y, aJ G 1600 f)]) (sp_pos [0, 1] [] rfl rfl rfl) rfl rfl (Nat.le_of_ble_eq_true rfl) (by decide) (by decide) (by decide) (by decide) d_El_nextWithWeight_17 (fun r w' hq => ?_)
        obtain ⟨rfl, rfl⟩ := hq
        show vv K ({ frames := 1, cells := 0, slots := 0, locals := 22 } : Room) G 4 0 0 ([(x, ob 4 [.ref y, .int (nI n), .int (nI sh), .int (nI b)]), (y, aJ G 1600 f)]) 20 [(3, .int (nI j)), (0, .ref x), (2, .int (nI k))] [.int (nI (wtN (g j) k))]
        have hw := wtN_lt (g j) k
        refine v_ifN_ne (pc := 20) C 29 (wtN (g j) k) d_El_nextWithWeight_20 (by decide) (by omega) (fun hz => ?_) (fun hz => ?_)
        · refine v_iload_n (pc := 29) C 0 d_El_nextWithWeight_29 rfl rfl ?_
          exact v_iret (pc := 30) C X d_El_nextWithWeight_30 ⟨rfl, j, rfl, h1, h2, h3, fun z => hz⟩ (by decide) (by decide)
        · refine v_iinc (pc := 23) C [(3, .int (nI (j + 1))), (0, .ref x), (2, .int (nI k))] 0 (nI (j + 1)) d_El_nextWithWeight_23 rfl (nI_inc1 _) (by decide) rfl ?_
          refine v_goto (pc := 26) C 2 d_El_nextWithWeight_26 (by decide) ?_
          refine v_lsub [0, 1, 2] [(3, .int (nI (j + 1))), (0, .ref x), (2, .int (nI k))] rfl ?_
          exact ih (j + 1) (by omega) (by omega) (by omega) (fun i a b => by
            rcases Nat.lt_or_ge i j with c | c
            · exact h3 i a c
            · have e : i = j := by omega
              rw [e]; exact hz)
  refine v_lsub [0, 1, 3] [(3, .int (nI fr)), (0, .ref x), (2, .int (nI k))] rfl ?_
  exact loop (n + 1) fr (by omega) (Nat.le_refl _) hfr (fun i a b => absurd b (by omega))
end
section
/-! Line objects in a pool; Lines -/
/-- a Line: its three addresses, its key, its elements, what its arrays hold -/
abbrev LnX : Type := (Nat × Nat × Nat) × Nat × List E4 × (Nat → Int64) × (Nat → Int32)
def lcells (G : Gx) (x : LnX) : va_W := [(x.1.1, ob 1 [.ref x.1.2.1, .ref x.1.2.2, .int (nI x.2.2.1.length)]), (x.1.2.1, aJ G 8 x.2.2.2.1), (x.1.2.2, aZ G 8 x.2.2.2.2)]
def lpool (G : Gx) (L : List LnX) : va_W := L.flatMap (lcells G)
theorem lpool_nil (G : Gx) : lpool G [] = [] := rfl
theorem lpool_app (G : Gx) (L M : List LnX) : lpool G (L ++ M) = lpool G L ++ lpool G M := List.flatMap_append ..
theorem lpool_one (G : Gx) (x : LnX) : lpool G [x] = lcells G x := by simp [lpool]
theorem lpool_cons (G : Gx) (x : LnX) (L : List LnX) : lpool G (x :: L) = lcells G x ++ lpool G L := rfl
/-- one Line out of the pool -/
theorem lpool_out (G : Gx) (X : va_W) (L M : List LnX) (x : LnX) : (X ++ lpool G (L ++ x :: M)).Perm ((X ++ lpool G (L ++ M)) ++ lcells G x) := by
  rw [lpool_app, lpool_app, lpool_cons, List.append_assoc, List.append_assoc]
  refine List.Perm.append_left X (List.Perm.append_left (lpool G L) ?_)
  exact List.perm_append_comm
theorem lset_split {α : Type} {L : List α} {i : Nat} {x : α} (h : L[i]? = some x) : ∃ A B, L = A ++ x :: B ∧ A.length = i ∧ ∀ y, L.set i y = A ++ y :: B := by
  refine ⟨L.take i, L.drop (i + 1), ?_, ?_, fun y => ?_⟩
  · have hi := (List.getElem?_eq_some_iff.mp h).1
    have := List.getElem_cons_drop hi
    rw [(List.getElem?_eq_some_iff.mp h).2] at this
    rw [this, List.take_append_drop]
  · have hi := (List.getElem?_eq_some_iff.mp h).1
    rw [List.length_take]; omega
  · have hi := (List.getElem?_eq_some_iff.mp h).1
    rw [List.set_eq_take_append_cons_drop, if_pos hi]
/-- where a key stands -/
def fnd (k : Nat) (L : List LnX) : Option Nat := L.findIdx? (fun x => x.2.1 == k)
def adr (k : Nat) (L : List LnX) : Option Nat := (fnd k L).bind (fun i => L[i]?.map (·.1.1))
theorem fnd_some {k i : Nat} {L : List LnX} (h : fnd k L = some i) : ∃ x, L[i]? = some x ∧ x.2.1 = k := by
  obtain ⟨hi, h1, -⟩ := List.findIdx?_eq_some_iff_getElem.mp h
  exact ⟨L[i], List.getElem?_eq_getElem hi, by simpa using h1⟩
theorem fnd_lt {k i : Nat} {L : List LnX} (h : fnd k L = some i) : i < L.length := by
  obtain ⟨x, hx, -⟩ := fnd_some h
  exact (List.getElem?_eq_some_iff.mp hx).1
theorem fnd_none {k : Nat} {L : List LnX} (h : fnd k L = none) : ∀ x ∈ L, x.2.1 ≠ k := by
  intro x hx e
  have := List.findIdx?_eq_none_iff.mp h x hx
  simp [e] at this
/-- what stands fast of the Lines -/
def LOk (L : List LnX) : Prop := L.length ≤ 500 ∧ ∀ x ∈ L, x.2.2.1.length ≤ 8 ∧ LnS x.2.2.1 x.2.2.2.1 x.2.2.2.2
def MdS (L : List LnX) (mf : Nat → Option Nat) : Prop := ∀ i x, L[i]? = some x → mf i = some x.1.1
/-- as the document sees them: keys and elements -/
def absL (L : List LnX) : List (Nat × List E4) := L.map (fun x => (x.2.1, x.2.2.1))
def fndA (k : Nat) (A : List (Nat × List E4)) : Option Nat := A.findIdx? (fun x => x.1 == k)
theorem fnd_abs (k : Nat) (L : List LnX) : fndA k (absL L) = fnd k L := by
  unfold fndA fnd absL
  rw [List.findIdx?_map]
  rfl
def tellA (k : Nat) (A : List (Nat × List E4)) : List (Nat × List E4) := match fndA k A with
  | some i => A.set i (k, [])
  | none => A ++ [(k, [])]
def tellI (k : Nat) (A : List (Nat × List E4)) : Nat := (fndA k A).getD A.length

set_option maxHeartbeats 4000000 in
set_option maxRecDepth 100000 in
theorem c_Li_init (l : Launch) (G : Gx) (a : Nat)  : CT l G y_Li_init b_Li_init 1 none ({ frames := 1, cells := 2, slots := 16, locals := 30 } : Room) ([(a, ob 1 [.null, .null, .int (nI 0)])]) [.ref a] (fun r w' => r = none ∧ ∃ p q, w' = [(a, ob 1 [.ref p, .ref q, .int (nI 0)]), (p, aJ G 8 (fun _ => 0)), (q, aZ G 8 (fun _ => 0))]) := by
  refine ct_of [(0, .ref a)] (by decide) (Nat.le_of_ble_eq_true rfl) rfl (fun K hKl hNI C X => ?_)
  subst hKl
  have NI := hNI rfl
  refine v_aload_n (pc := 0) C 0 d_Li_init_0 rfl rfl ?_
  refine v_objInit (pc := 1) C k_301 (by decide) (by decide) d_Li_init_1 ?_
  refine v_aload_n (pc := 4) C 0 d_Li_init_4 rfl rfl ?_
  refine v_bipush (pc := 5) C (nI 8) d_Li_init_5 (by decide +kernel) ?_
  refine v_newaJ (pc := 7) C 8 (by decide) (by decide) (by decide) d_Li_init_7 (fun q1 => ?_)
  show vv K ({ frames := 1, cells := 2, slots := 16, locals := 30 } : Room) G 1 1 8 ([(a, ob 1 [.null, .null, .int (nI 0)]), (q1, aJ G 8 (fun _ => 0))]) 9 [(0, .ref a)] [.ref q1, .ref a]
  refine v_putF (pc := 9) (Cn := "WeightOrder$Line") (T := T_Li) (N := 3) (ci := 1) (v := .ref q1) C NI 0 0 rfl rfl hin_Li (by decide) rfl ([(a, ob 1 [.ref q1, .null, .int (nI 0)]), (q1, aJ G 8 (fun _ => 0))]) t_Li t_Li_ok n_Li (.array .long) rfl rfl rfl (Nat.le_of_ble_eq_true rfl) rfl rfl rfl k_302 d_Li_init_9 ?_
  refine v_aload_n (pc := 12) C 0 d_Li_init_12 rfl rfl ?_
  refine v_bipush (pc := 13) C (nI 8) d_Li_init_13 (by decide +kernel) ?_
  refine v_newaZ (pc := 15) C 8 (by decide) (by decide) (by decide) d_Li_init_15 (fun q2 => ?_)
  show vv K ({ frames := 1, cells := 2, slots := 16, locals := 30 } : Room) G 1 2 16 ([(a, ob 1 [.ref q1, .null, .int (nI 0)]), (q1, aJ G 8 (fun _ => 0)), (q2, aZ G 8 (fun _ => 0))]) 17 [(0, .ref a)] [.ref q2, .ref a]
  refine v_putF (pc := 17) (Cn := "WeightOrder$Line") (T := T_Li) (N := 3) (ci := 1) (v := .ref q2) C NI 0 1 rfl rfl hin_Li (by decide) rfl ([(a, ob 1 [.ref q1, .ref q2, .int (nI 0)]), (q1, aJ G 8 (fun _ => 0)), (q2, aZ G 8 (fun _ => 0))]) t_Li t_Li_ok n_Li (.array .boolean) rfl rfl rfl (Nat.le_of_ble_eq_true rfl) rfl rfl rfl k_304 d_Li_init_17 ?_
  exact v_vret (pc := 20) C X d_Li_init_20 ⟨rfl, _, _, rfl⟩ (by decide) (by decide)

set_option maxHeartbeats 4000000 in
set_option maxRecDepth 100000 in
theorem c_Ls_isFull (l : Launch) (G : Gx) (s t m n : Nat) (td : Option Nat) (mf : Nat → Option Nat) (hn : n ≤ 500) : CT l G y_Ls_isFull b_Ls_isFull 1 (some .boolean) ({ frames := 0, cells := 0, slots := 0, locals := 0 } : Room) ([(s, ob 2 [.ref t, .ref m, .int (nI n), va_rf (td)]), (m, aL G 500 mf)]) [.ref s] (fun r w' => w' = [(s, ob 2 [.ref t, .ref m, .int (nI n), va_rf (td)]), (m, aL G 500 mf)] ∧ r = some (.int (if n = 500 then nI 1 else nI 0))) := by
  refine ct_of [(0, .ref s)] (by decide) (Nat.le_of_ble_eq_true rfl) rfl (fun K hKl hNI C X => ?_)
  subst hKl
  refine v_aload_n (pc := 0) C 0 d_Ls_isFull_0 rfl rfl ?_
  refine v_get (pc := 1) (Cn := "WeightOrder$Lines") (T := T_Ls) (N := 4) (ci := 2) (v := .int (nI n)) C 0 2 rfl rfl hin_Ls (by decide) rfl k_55 rfl d_Ls_isFull_1 ?_
  refine v_aload_n (pc := 4) C 0 d_Ls_isFull_4 rfl rfl ?_
  refine v_get (pc := 5) (Cn := "WeightOrder$Lines") (T := T_Ls) (N := 4) (ci := 2) (v := .ref m) C 0 1 rfl rfl hin_Ls (by decide) rfl k_54 rfl d_Ls_isFull_5 ?_
  refine v_alenL (pc := 8) C 1 rfl d_Ls_isFull_8 ?_
  refine v_icmpN_ne (pc := 9) C 16 n 500 d_Ls_isFull_9 (by decide) (by omega) (by omega) (fun hc => ?_) (fun hc => ?_)
  · refine v_iconst (pc := 16) C (nI 0) d_Ls_isFull_16 (by decide +kernel) ?_
    exact v_zret (pc := 17) C X rfl d_Ls_isFull_17 ⟨rfl, by rw [if_neg hc]⟩ (by decide) (by decide)
  · refine v_iconst (pc := 12) C (nI 1) d_Ls_isFull_12 (by decide +kernel) ?_
    refine v_goto (pc := 13) C 17 d_Ls_isFull_13 (by decide) ?_
    exact v_zret (pc := 17) C X rfl d_Ls_isFull_17 ⟨rfl, by rw [if_pos hc]⟩ (by decide) (by decide)

set_option maxHeartbeats 4000000 in
set_option maxRecDepth 100000 in
theorem c_Ls_find (l : Launch) (G : Gx) (s t a b m : Nat) (td : Option Nat) (ks : Nat → Int64) (vs : Nat → Int32) (mf : Nat → Option Nat) (L : List LnX) (k : Nat) (hL : LOk L) (hT : TB ks vs L.length (fun j => (fnd j L).map nI)) (hM : MdS L mf) (hk : k < 9223372036854775808) : CT l G y_Ls_find b_Ls_find 4 (some (.object "WeightOrder$Line")) ({ frames := 2, cells := 0, slots := 0, locals := 49 } : Room) ([(s, ob 2 [.ref t, .ref m, .int (nI L.length), va_rf (td)]), (t, ob 0 [.ref a, .ref b, .int (nI L.length)]), (a, aJ G 500 ks), (b, aI G 500 vs), (m, aL G 500 mf)]) [.ref s, .long (lN k)] (fun r w' => w' = [(s, ob 2 [.ref t, .ref m, .int (nI L.length), va_rf (td)]), (t, ob 0 [.ref a, .ref b, .int (nI L.length)]), (a, aJ G 500 ks), (b, aI G 500 vs), (m, aL G 500 mf)] ∧ r = some (va_rf (adr k L))) := by
  refine ct_of [(0, .ref s), (1, .long (lN k))] (by decide) (Nat.le_of_ble_eq_true rfl) rfl (fun K hKl hNI C X => ?_)
  subst hKl
  have hn := hL.1
  refine v_aload_n (pc := 0) C 0 d_Ls_find_0 rfl rfl ?_
  refine v_get (pc := 1) (Cn := "WeightOrder$Lines") (T := T_Ls) (N := 4) (ci := 2) (v := .ref t) C 0 0 rfl rfl hin_Ls (by decide) rfl k_53 rfl d_Ls_find_1 ?_
  refine v_lload_n (pc := 4) C 1 d_Ls_find_4 rfl rfl ?_
  refine v_iconst (pc := 5) C (-1) d_Ls_find_5 (by decide +kernel) ?_
  refine v_callV (pc := 6) (As := [.long (lN k), .int (-1)]) (rest := []) C (c_Ta_valueOf _ G t a b 500 ks vs L.length _ k (-1) (by decide) hn hT hk) l_Ls_30 ([(s, ob 2 [.ref t, .ref m, .int (nI L.length), va_rf (td)]), (m, aL G 500 mf)]) (sp_pos [0, 4] [1, 2, 3] rfl rfl rfl) 0 rfl rfl rfl rfl rfl (Nat.le_of_ble_eq_true rfl) (by decide) (by decide) (by decide) (by decide) d_Ls_find_6 (fun r w' hq => ?_)
  obtain ⟨rfl, rfl⟩ := hq
  show vv K ({ frames := 2, cells := 0, slots := 0, locals := 49 } : Room) G 4 0 0 ([(s, ob 2 [.ref t, .ref m, .int (nI L.length), va_rf (td)]), (m, aL G 500 mf), (t, ob 0 [.ref a, .ref b, .int (nI L.length)]), (a, aJ G 500 ks), (b, aI G 500 vs)]) 9 [(0, .ref s), (1, .long (lN k))] [.int (((fnd k L).map nI).getD (-1))]
  cases hf : fnd k L with
  | none =>
    rw [show adr k L = none by unfold adr; rw [hf]; rfl] at X
    show vv K ({ frames := 2, cells := 0, slots := 0, locals := 49 } : Room) G 4 0 0 ([(s, ob 2 [.ref t, .ref m, .int (nI L.length), va_rf (td)]), (m, aL G 500 mf), (t, ob 0 [.ref a, .ref b, .int (nI L.length)]), (a, aJ G 500 ks), (b, aI G 500 vs)]) 9 [(0, .ref s), (1, .long (lN k))] [.int (-1)]
    refine v_istore_n (pc := 9) C [(3, .int (-1)), (0, .ref s), (1, .long (lN k))] d_Ls_find_9 rfl (by decide) rfl ?_
    refine v_iload_n (pc := 10) C 0 d_Ls_find_10 rfl rfl ?_
    refine v_iconst (pc := 11) C (-1) d_Ls_find_11 (by decide +kernel) ?_
    refine v_icmp_ne (pc := 12) C 19 d_Ls_find_12 (by decide) (fun hc => ?_) (fun hc => ?_)
    · exact absurd rfl hc
    · refine v_null (pc := 15) C d_Ls_find_15 ?_
      refine v_goto (pc := 16) C 25 d_Ls_find_16 (by decide) ?_
      refine v_wsub [0, 2, 3, 4, 1] ([(s, ob 2 [.ref t, .ref m, .int (nI L.length), va_rf (td)]), (t, ob 0 [.ref a, .ref b, .int (nI L.length)]), (a, aJ G 500 ks), (b, aI G 500 vs), (m, aL G 500 mf)]) rfl rfl ?_
      exact v_aret (pc := 25) C X (Or.inl rfl) d_Ls_find_25 ⟨rfl, rfl⟩ (by decide) (by decide)
  | some i =>
    obtain ⟨x, hx, hxk⟩ := fnd_some hf
    have hi := fnd_lt hf
    rw [show adr k L = some x.1.1 by unfold adr; rw [hf]; show (L[i]?.map _) = _; rw [hx]; rfl] at X
    show vv K ({ frames := 2, cells := 0, slots := 0, locals := 49 } : Room) G 4 0 0 ([(s, ob 2 [.ref t, .ref m, .int (nI L.length), va_rf (td)]), (m, aL G 500 mf), (t, ob 0 [.ref a, .ref b, .int (nI L.length)]), (a, aJ G 500 ks), (b, aI G 500 vs)]) 9 [(0, .ref s), (1, .long (lN k))] [.int (nI i)]
    refine v_istore_n (pc := 9) C [(3, .int (nI i)), (0, .ref s), (1, .long (lN k))] d_Ls_find_9 rfl (by decide) rfl ?_
    refine v_iload_n (pc := 10) C 0 d_Ls_find_10 rfl rfl ?_
    refine v_iconst (pc := 11) C (-1) d_Ls_find_11 (by decide +kernel) ?_
    refine v_icmp_ne (pc := 12) C 19 d_Ls_find_12 (by decide) (fun hc => ?_) (fun hc => ?_)
    · refine v_aload_n (pc := 19) C 1 d_Ls_find_19 rfl rfl ?_
      refine v_get (pc := 20) (Cn := "WeightOrder$Lines") (T := T_Ls) (N := 4) (ci := 2) (v := .ref m) C 0 1 rfl rfl hin_Ls (by decide) rfl k_54 rfl d_Ls_find_20 ?_
      refine v_iload_n (pc := 23) C 0 d_Ls_find_23 rfl rfl ?_
      refine v_aaldL (pc := 24) C 1 rfl i rfl (by omega) (by decide) d_Ls_find_24 ?_
      rw [hM i x hx]
      show vv K ({ frames := 2, cells := 0, slots := 0, locals := 49 } : Room) G 4 0 0 ([(s, ob 2 [.ref t, .ref m, .int (nI L.length), va_rf (td)]), (m, aL G 500 mf), (t, ob 0 [.ref a, .ref b, .int (nI L.length)]), (a, aJ G 500 ks), (b, aI G 500 vs)]) 25 [(3, .int (nI i)), (0, .ref s), (1, .long (lN k))] [.ref x.1.1]
      refine v_wsub [0, 2, 3, 4, 1] ([(s, ob 2 [.ref t, .ref m, .int (nI L.length), va_rf (td)]), (t, ob 0 [.ref a, .ref b, .int (nI L.length)]), (a, aJ G 500 ks), (b, aI G 500 vs), (m, aL G 500 mf)]) rfl rfl ?_
      exact v_aret (pc := 25) C X (Or.inr ⟨_, rfl⟩) d_Ls_find_25 ⟨rfl, rfl⟩ (by decide) (by decide)
    · exact absurd hc (by intro z; have h1 := congrArg Int32.toInt z; rw [nI_toInt (by omega)] at h1; have h2 : (-1 : Int32).toInt = -1 := rfl; omega)

section PR
variable {K : Kx} {R : Room} {G : Gx} {nL cells slots : Nat} {pc : Nat} {lv : List (Nat × Value)} {st : List Value} {X Y P : va_W} {A B L : List LnX} {x : LnX}
theorem v_swap (kk : vv K R G nL cells slots ((X ++ Y) ++ P) pc lv st) : vv K R G nL cells slots ((X ++ P) ++ Y) pc lv st := by
  refine v_perm _ ?_ kk
  rw [List.append_assoc, List.append_assoc]
  exact List.Perm.append_left X List.perm_append_comm
theorem sp_poolR {Xr wc : va_W} (isR isC : List Nat) (hR : isR.map (fun i => X[i]?) = Xr.map some) (hC : isC.map (fun i => X[i]?) = wc.map some) (hn : va_nd (isR ++ isC) = true) : Sp (X ++ P) (Xr ++ P) wc := by
  refine ⟨fun D H hP => ⟨?_, fun k q hq => ?_⟩, fun A hD => ?_⟩
  · exact va_P.app (fun k q hq => by obtain ⟨i, -, h⟩ := sp_at hR hq; exact hP i q (sp_get h)) (fun k q hq => hP (X.length + k) q (by rw [List.getElem?_append_right (Nat.le_add_right _ _), Nat.add_sub_cancel_left]; exact hq))
  · obtain ⟨i, -, h⟩ := sp_at hC hq
    exact hP i q (sp_get h)
  · exact (hD.part (isR ++ isC) hn (by rw [List.map_append, List.map_append, hR, hC])).swap
theorem sp_poolC {Xr Xc : va_W} (isR isC : List Nat) (hR : isR.map (fun i => X[i]?) = Xr.map some) (hC : isC.map (fun i => X[i]?) = Xc.map some) (hn : va_nd (isR ++ isC) = true) : Sp (X ++ P) Xr (Xc ++ P) := by
  refine ⟨fun D H hP => ⟨fun k q hq => ?_, ?_⟩, fun A hD => ?_⟩
  · obtain ⟨i, -, h⟩ := sp_at hR hq
    exact hP i q (sp_get h)
  · exact va_P.app (fun k q hq => by obtain ⟨i, -, h⟩ := sp_at hC hq; exact hP i q (sp_get h)) (fun k q hq => hP (X.length + k) q (by rw [List.getElem?_append_right (Nat.le_add_right _ _), Nat.add_sub_cancel_left]; exact hq))
  · rw [← List.append_assoc]
    exact hD.part (isR ++ isC) hn (by rw [List.map_append, List.map_append, hR, hC])
theorem v_wsubP (is : List Nat) (X' : va_W) (hn : va_nd is = true) (h : is.map (fun i => X[i]?) = X'.map some) (kk : vv K R G nL cells slots (X' ++ P) pc lv st) : vv K R G nL cells slots (X ++ P) pc lv st := by
  obtain ⟨p, l, e, s, m, args, below, meth, c, Q, A⟩ := K
  intro H locs ls hP hD hS hl
  refine kk H locs ls ?_ (hD.part is hn h) hS hl
  exact va_P.app (fun k q hq => by obtain ⟨i, -, h⟩ := sp_at h hq; exact hP i q (sp_get h)) (fun k q hq => hP (X.length + k) q (by rw [List.getElem?_append_right (Nat.le_add_right _ _), Nat.add_sub_cancel_left]; exact hq))
theorem lout_perm : (X ++ lpool G (A ++ x :: B)).Perm ((X ++ lcells G x) ++ lpool G (A ++ B)) := by
  refine (lpool_out G X A B x).trans ?_
  rw [List.append_assoc, List.append_assoc]
  exact List.Perm.append_left X List.perm_append_comm
theorem v_lout (kk : vv K R G nL cells slots ((X ++ lcells G x) ++ lpool G (A ++ B)) pc lv st) : vv K R G nL cells slots (X ++ lpool G (A ++ x :: B)) pc lv st := v_perm _ lout_perm kk
theorem v_lin (kk : vv K R G nL cells slots (X ++ lpool G (A ++ x :: B)) pc lv st) : vv K R G nL cells slots ((X ++ lcells G x) ++ lpool G (A ++ B)) pc lv st := v_perm _ lout_perm.symm kk
theorem v_lnew (kk : vv K R G nL cells slots (X ++ lpool G (L ++ [x])) pc lv st) : vv K R G nL cells slots ((X ++ lcells G x) ++ lpool G L) pc lv st := by
  refine v_perm _ ?_ kk
  rw [lpool_app, lpool_one, List.append_assoc]
  exact List.Perm.append_left X List.perm_append_comm
end PR
theorem fnd_keys (j : Nat) (L : List LnX) : fnd j L = (L.map (·.2.1)).findIdx? (· == j) := by
  unfold fnd
  rw [List.findIdx?_map]
  rfl
theorem map_set_same {α β : Type} (f : α → β) {L : List α} {i : Nat} {x y : α} (h : L[i]? = some x) (e : f y = f x) : (L.set i y).map f = L.map f := by
  rw [List.map_set, e]
  refine List.ext_getElem? (fun j => ?_)
  rw [List.getElem?_set]
  split
  · rename_i c
    subst c
    rw [List.getElem?_map, h]
    have := (List.getElem?_eq_some_iff.mp h).1
    simp [this]
  · rfl
theorem fnd_set {L : List LnX} {i : Nat} {x y : LnX} (h : L[i]? = some x) (e : y.2.1 = x.2.1) (j : Nat) : fnd j (L.set i y) = fnd j L := by
  rw [fnd_keys, fnd_keys, map_set_same (·.2.1) h e]
theorem fnd_new {L : List LnX} {x : LnX} {k : Nat} (h : fnd k L = none) (e : x.2.1 = k) (j : Nat) : (fnd j (L ++ [x])).map nI = if j = k then some (nI L.length) else (fnd j L).map nI := by
  unfold fnd at h ⊢
  rw [List.findIdx?_append]
  by_cases c : j = k
  · subst c
    rw [if_pos rfl, h]
    simp [e]
  · rw [if_neg c]
    have : ((fun x : LnX => x.2.1 == j) x) = false := by simp [e]; exact fun z => c z.symm
    cases hj : List.findIdx? (fun x : LnX => x.2.1 == j) L with
    | none => simp [this]
    | some i => simp
theorem abs_set {L : List LnX} {i : Nat} (y : LnX) : absL (L.set i y) = (absL L).set i (y.2.1, y.2.2.1) := by unfold absL; rw [List.map_set]
theorem lok_set {L : List LnX} {i : Nat} {y : LnX} (h : LOk L) (hy : y.2.2.1.length ≤ 8 ∧ LnS y.2.2.1 y.2.2.2.1 y.2.2.2.2) : LOk (L.set i y) := by
  refine ⟨by rw [List.length_set]; exact h.1, fun x hx => ?_⟩
  rcases List.mem_or_eq_of_mem_set hx with hx | rfl
  · exact h.2 x hx
  · exact hy
theorem mds_set {L : List LnX} {i : Nat} {x y : LnX} {mf : Nat → Option Nat} (h : MdS L mf) (hx : L[i]? = some x) (e : y.1.1 = x.1.1) : MdS (L.set i y) mf := by
  intro j z hz
  rw [List.getElem?_set] at hz
  split at hz
  · rename_i c
    subst c
    split at hz
    · cases hz
      rw [e]; exact h i x hx
    · cases hz
  · exact h j z hz
theorem lns_nil (fp : Nat → Int64) (fv : Nat → Int32) : LnS [] fp fv := ⟨fun _ h => absurd h List.not_mem_nil, fun i e h => by cases h⟩
theorem lok_new {L : List LnX} {x : LnX} (h : LOk L) (hl : L.length < 500) (e : x.2.2.1 = []) : LOk (L ++ [x]) := by
  refine ⟨by simp; omega, fun y hy => ?_⟩
  rcases List.mem_append.mp hy with hy | hy
  · exact h.2 y hy
  · rw [List.mem_singleton.mp hy, e]
    exact ⟨by decide, lns_nil _ _⟩
theorem mds_new {L : List LnX} {x : LnX} {mf : Nat → Option Nat} (h : MdS L mf) : MdS (L ++ [x]) (va_up mf L.length (some x.1.1)) := by
  intro j z hz
  rcases Nat.lt_trichotomy j L.length with c | c | c
  · rw [List.getElem?_append_left c] at hz
    rw [va_up_ne _ _ (by omega)]
    exact h j z hz
  · subst c
    rw [List.getElem?_append_right (Nat.le_refl _), Nat.sub_self] at hz
    cases hz
    rw [va_up_self]
  · rw [List.getElem?_eq_none (by simp; omega)] at hz
    cases hz

set_option maxHeartbeats 4000000 in
set_option maxRecDepth 100000 in
theorem c_Ls_tell (l : Launch) (G : Gx) (s t a b m : Nat) (td : Option Nat) (ks : Nat → Int64) (vs : Nat → Int32) (mf : Nat → Option Nat) (L : List LnX) (k : Nat) (hL : LOk L) (hT : TB ks vs L.length (fun j => (fnd j L).map nI)) (hM : MdS L mf) (hk : k < 9223372036854775808) (hroom : fnd k L = none → L.length < 500) : CT l G y_Ls_tell b_Ls_tell 4 none ({ frames := 3, cells := 3, slots := 19, locals := 110 } : Room) ([(s, ob 2 [.ref t, .ref m, .int (nI L.length), va_rf (td)]), (t, ob 0 [.ref a, .ref b, .int (nI L.length)]), (a, aJ G 500 ks), (b, aI G 500 vs), (m, aL G 500 mf)] ++ lpool G L) [.ref s, .long (lN k)] (fun r w' => r = none ∧ ∃ L' ks' vs' mf' td', w' = [(s, ob 2 [.ref t, .ref m, .int (nI L'.length), va_rf (td')]), (t, ob 0 [.ref a, .ref b, .int (nI L'.length)]), (a, aJ G 500 ks'), (b, aI G 500 vs'), (m, aL G 500 mf')] ++ lpool G L' ∧ LOk L' ∧ TB ks' vs' L'.length (fun j => (fnd j L').map nI) ∧ MdS L' mf' ∧ absL L' = tellA k (absL L) ∧ ∃ x, L'[tellI k (absL L)]? = some x ∧ td' = some x.1.1) := by
  refine ct_of [(0, .ref s), (1, .long (lN k))] (by decide) (Nat.le_of_ble_eq_true rfl) rfl (fun K hKl hNI C X => ?_)
  subst hKl
  refine v_aload_n (pc := 0) C 0 d_Ls_tell_0 rfl rfl ?_
  refine v_lload_n (pc := 1) C 1 d_Ls_tell_1 rfl rfl ?_
  refine v_callV (pc := 2) (As := [.long (lN k)]) (rest := []) C (c_Ls_find _ G s t a b m td ks vs mf L k hL hT hM hk) l_Ls_34 ([] ++ lpool G L) (sp_poolR [] [0, 1, 2, 3, 4] rfl rfl rfl) 0 rfl rfl rfl rfl rfl (Nat.le_of_ble_eq_true rfl) (by decide) (by decide) (by decide) (by decide) d_Ls_tell_2 (fun r w' hq => ?_)
  obtain ⟨rfl, rfl⟩ := hq
  refine v_swap ?_
  show vv K ({ frames := 3, cells := 3, slots := 19, locals := 110 } : Room) G 4 0 0 ([(s, ob 2 [.ref t, .ref m, .int (nI L.length), va_rf (td)]), (t, ob 0 [.ref a, .ref b, .int (nI L.length)]), (a, aJ G 500 ks), (b, aI G 500 vs), (m, aL G 500 mf)] ++ lpool G L) 5 [(0, .ref s), (1, .long (lN k))] [va_rf (adr k L)]
  have hn := hL.1
  cases hf : fnd k L with
  | none =>
    have hlt := hroom hf
    rw [show adr k L = none by unfold adr; rw [hf]; rfl]
    show vv K ({ frames := 3, cells := 3, slots := 19, locals := 110 } : Room) G 4 0 0 ([(s, ob 2 [.ref t, .ref m, .int (nI L.length), va_rf (td)]), (t, ob 0 [.ref a, .ref b, .int (nI L.length)]), (a, aJ G 500 ks), (b, aI G 500 vs), (m, aL G 500 mf)] ++ lpool G L) 5 [(0, .ref s), (1, .long (lN k))] [.null]
    refine v_astore_nN (pc := 5) C [(3, .null), (0, .ref s), (1, .long (lN k))] d_Ls_tell_5 rfl (by decide) rfl ?_
    refine v_aload_nN (pc := 6) C 0 d_Ls_tell_6 rfl rfl ?_
    refine v_ifnonnullN (pc := 7) C d_Ls_tell_7 ?_
    refine v_new (pc := 10) C [.null, .null, .int (nI 0)] t_Li t_Li_ok hin_Li (ci := 1) rfl k_51 k_297 k_14 (fun j hj => by rcases (show j = 0 ∨ j = 1 ∨ j = 2 by omega) with rfl | rfl | rfl <;> rfl) (by decide) (by decide) d_Ls_tell_10 (fun z => ?_)
    refine v_swap ?_
    show vv K ({ frames := 3, cells := 3, slots := 19, locals := 110 } : Room) G 4 1 3 ([(s, ob 2 [.ref t, .ref m, .int (nI L.length), va_rf (td)]), (t, ob 0 [.ref a, .ref b, .int (nI L.length)]), (a, aJ G 500 ks), (b, aI G 500 vs), (m, aL G 500 mf), (z, ob 1 [.null, .null, .int (nI 0)])] ++ lpool G L) 13 [(3, .null), (0, .ref s), (1, .long (lN k))] [.ref z]
    refine v_dup (pc := 13) C d_Ls_tell_13 rfl ?_
    refine v_callI (pc := 14) (As := []) (rest := [.ref z]) C (c_Li_init _ G z) l_Ls_38 ([(s, ob 2 [.ref t, .ref m, .int (nI L.length), va_rf (td)]), (t, ob 0 [.ref a, .ref b, .int (nI L.length)]), (a, aJ G 500 ks), (b, aI G 500 vs), (m, aL G 500 mf)] ++ lpool G L) (sp_poolR [0, 1, 2, 3, 4] [5] rfl rfl rfl) rfl rfl (Nat.le_of_ble_eq_true rfl) (by decide) (by decide) (by decide) (by decide) d_Ls_tell_14 (fun r w' hq => ?_)
    obtain ⟨rfl, zp, zq, rfl⟩ := hq
    refine v_swap ?_
    show vv K ({ frames := 3, cells := 3, slots := 19, locals := 110 } : Room) G 4 3 19 ([(s, ob 2 [.ref t, .ref m, .int (nI L.length), va_rf (td)]), (t, ob 0 [.ref a, .ref b, .int (nI L.length)]), (a, aJ G 500 ks), (b, aI G 500 vs), (m, aL G 500 mf), (z, ob 1 [.ref zp, .ref zq, .int (nI 0)]), (zp, aJ G 8 (fun _ => 0)), (zq, aZ G 8 (fun _ => 0))] ++ lpool G L) 17 [(3, .null), (0, .ref s), (1, .long (lN k))] [.ref z]
    refine v_astore_n (pc := 17) C [(3, .ref z), (0, .ref s), (1, .long (lN k))] d_Ls_tell_17 rfl (by decide) rfl ?_
    refine v_aload_n (pc := 18) C 1 d_Ls_tell_18 rfl rfl ?_
    refine v_get (pc := 19) (Cn := "WeightOrder$Lines") (T := T_Ls) (N := 4) (ci := 2) (v := .ref t) C 0 0 rfl rfl hin_Ls (by decide) rfl k_53 rfl d_Ls_tell_19 ?_
    refine v_lload_n (pc := 22) C 2 d_Ls_tell_22 rfl rfl ?_
    refine v_aload_n (pc := 23) C 1 d_Ls_tell_23 rfl rfl ?_
    refine v_get (pc := 24) (Cn := "WeightOrder$Lines") (T := T_Ls) (N := 4) (ci := 2) (v := .int (nI L.length)) C 0 2 rfl rfl hin_Ls (by decide) rfl k_55 rfl d_Ls_tell_24 ?_
    refine v_callV (pc := 27) (As := [.long (lN k), .int (nI L.length)]) (rest := []) C (c_Ta_put _ G t a b 500 ks vs L.length _ k (nI L.length) (by decide) hn hT hk (fun _ => hlt)) l_Ls_39 ([(s, ob 2 [.ref t, .ref m, .int (nI L.length), va_rf (td)]), (m, aL G 500 mf), (z, ob 1 [.ref zp, .ref zq, .int (nI 0)]), (zp, aJ G 8 (fun _ => 0)), (zq, aZ G 8 (fun _ => 0))] ++ lpool G L) (sp_poolR [0, 4, 5, 6, 7] [1, 2, 3] rfl rfl rfl) 0 rfl rfl rfl rfl rfl (Nat.le_of_ble_eq_true rfl) (by decide) (by decide) (by decide) (by decide) d_Ls_tell_27 (fun r w' hq => ?_)
    obtain ⟨rfl, ks2, vs2, n2, rfl, hT2, hn2⟩ := hq
    refine v_swap ?_
    show vv K ({ frames := 3, cells := 3, slots := 19, locals := 110 } : Room) G 4 3 19 ([(s, ob 2 [.ref t, .ref m, .int (nI L.length), va_rf (td)]), (m, aL G 500 mf), (z, ob 1 [.ref zp, .ref zq, .int (nI 0)]), (zp, aJ G 8 (fun _ => 0)), (zq, aZ G 8 (fun _ => 0)), (t, ob 0 [.ref a, .ref b, .int (nI n2)]), (a, aJ G 500 ks2), (b, aI G 500 vs2)] ++ lpool G L) 30 [(3, .ref z), (0, .ref s), (1, .long (lN k))] []
    rw [if_pos (show (fnd k L).map nI = none by rw [hf]; rfl)] at hn2
    subst hn2
    refine v_aload_n (pc := 30) C 1 d_Ls_tell_30 rfl rfl ?_
    refine v_get (pc := 31) (Cn := "WeightOrder$Lines") (T := T_Ls) (N := 4) (ci := 2) (v := .ref m) C 0 1 rfl rfl hin_Ls (by decide) rfl k_54 rfl d_Ls_tell_31 ?_
    refine v_aload_n (pc := 34) C 1 d_Ls_tell_34 rfl rfl ?_
    refine v_get (pc := 35) (Cn := "WeightOrder$Lines") (T := T_Ls) (N := 4) (ci := 2) (v := .int (nI L.length)) C 0 2 rfl rfl hin_Ls (by decide) rfl k_55 rfl d_Ls_tell_35 ?_
    refine v_aload_n (pc := 38) C 0 d_Ls_tell_38 rfl rfl ?_
    refine v_aastL (pc := 39) C 1 2 ([(s, ob 2 [.ref t, .ref m, .int (nI L.length), va_rf (td)]), (m, aL G 500 (va_up mf L.length (some z))), (z, ob 1 [.ref zp, .ref zq, .int (nI 0)]), (zp, aJ G 8 (fun _ => 0)), (zq, aZ G 8 (fun _ => 0)), (t, ob 0 [.ref a, .ref b, .int (nI (L.length + 1))]), (a, aJ G 500 ks2), (b, aI G 500 vs2)] ++ lpool G L) rfl rfl rfl rfl L.length rfl (by omega) (by decide) rfl d_Ls_tell_39 ?_
    refine v_aload_n (pc := 40) C 1 d_Ls_tell_40 rfl rfl ?_
    refine v_dup (pc := 41) C d_Ls_tell_41 rfl ?_
    refine v_get (pc := 42) (Cn := "WeightOrder$Lines") (T := T_Ls) (N := 4) (ci := 2) (v := .int (nI L.length)) C 0 2 rfl rfl hin_Ls (by decide) rfl k_55 rfl d_Ls_tell_42 ?_
    refine v_iconst (pc := 45) C (nI 1) d_Ls_tell_45 (by decide +kernel) ?_
    refine v_iadd (pc := 46) C (nI (L.length + 1)) d_Ls_tell_46 (nI_add _ _) ?_
    refine v_put (pc := 47) (Cn := "WeightOrder$Lines") (T := T_Ls) (N := 4) (ci := 2) (v := .int (nI (L.length + 1))) C 0 2 rfl rfl hin_Ls (by decide) rfl ([(s, ob 2 [.ref t, .ref m, .int (nI (L.length + 1)), va_rf (td)]), (m, aL G 500 (va_up mf L.length (some z))), (z, ob 1 [.ref zp, .ref zq, .int (nI 0)]), (zp, aJ G 8 (fun _ => 0)), (zq, aZ G 8 (fun _ => 0)), (t, ob 0 [.ref a, .ref b, .int (nI (L.length + 1))]), (a, aJ G 500 ks2), (b, aI G 500 vs2)] ++ lpool G L) t_Ls t_Ls_ok n_Ls (.int) rfl rfl rfl (Nat.le_of_ble_eq_true rfl) rfl rfl k_55 d_Ls_tell_47 ?_
    refine v_aload_n (pc := 50) C 0 d_Ls_tell_50 rfl rfl ?_
    refine v_iconst (pc := 51) C (nI 0) d_Ls_tell_51 (by decide +kernel) ?_
    refine v_putN (pc := 52) (Cn := "WeightOrder$Line") (T := T_Li) (N := 3) (ci := 1) (v := .int (nI 0)) C 2 2 rfl rfl hin_Li (by decide) rfl ([(s, ob 2 [.ref t, .ref m, .int (nI (L.length + 1)), va_rf (td)]), (m, aL G 500 (va_up mf L.length (some z))), (z, ob 1 [.ref zp, .ref zq, .int (nI 0)]), (zp, aJ G 8 (fun _ => 0)), (zq, aZ G 8 (fun _ => 0)), (t, ob 0 [.ref a, .ref b, .int (nI (L.length + 1))]), (a, aJ G 500 ks2), (b, aI G 500 vs2)] ++ lpool G L) t_Li t_Li_ok n_Li (.int) rfl rfl rfl (Nat.le_of_ble_eq_true rfl) rfl rfl k_308 d_Ls_tell_52 ?_
    refine v_aload_n (pc := 55) C 1 d_Ls_tell_55 rfl rfl ?_
    refine v_aload_n (pc := 56) C 0 d_Ls_tell_56 rfl rfl ?_
    refine v_put (pc := 57) (Cn := "WeightOrder$Lines") (T := T_Ls) (N := 4) (ci := 2) (v := .ref z) C 0 3 rfl rfl hin_Ls (by decide) rfl ([(s, ob 2 [.ref t, .ref m, .int (nI (L.length + 1)), .ref z]), (m, aL G 500 (va_up mf L.length (some z))), (z, ob 1 [.ref zp, .ref zq, .int (nI 0)]), (zp, aJ G 8 (fun _ => 0)), (zq, aZ G 8 (fun _ => 0)), (t, ob 0 [.ref a, .ref b, .int (nI (L.length + 1))]), (a, aJ G 500 ks2), (b, aI G 500 vs2)] ++ lpool G L) t_Ls t_Ls_ok n_Ls (.object "WeightOrder$Line") rfl rfl rfl (Nat.le_of_ble_eq_true rfl) rfl rfl k_58 d_Ls_tell_57 ?_
    refine v_wsubP [0, 5, 6, 7, 1, 2, 3, 4] ([(s, ob 2 [.ref t, .ref m, .int (nI (L.length + 1)), .ref z]), (t, ob 0 [.ref a, .ref b, .int (nI (L.length + 1))]), (a, aJ G 500 ks2), (b, aI G 500 vs2), (m, aL G 500 (va_up mf L.length (some z))), (z, ob 1 [.ref zp, .ref zq, .int (nI 0)]), (zp, aJ G 8 (fun _ => 0)), (zq, aZ G 8 (fun _ => 0))]) rfl rfl ?_
    obtain ⟨x, hx⟩ : ∃ x : LnX, x = ((z, zp, zq), k, [], (fun _ => 0), (fun _ => 0)) := ⟨_, rfl⟩
    have hl1 : (L ++ [x]).length = L.length + 1 := by simp
    refine v_lnew (X := [(s, ob 2 [.ref t, .ref m, .int (nI (L.length + 1)), .ref z]), (t, ob 0 [.ref a, .ref b, .int (nI (L.length + 1))]), (a, aJ G 500 ks2), (b, aI G 500 vs2), (m, aL G 500 (va_up mf L.length (some z)))]) (x := ((z, zp, zq), k, [], (fun _ => 0), (fun _ => 0))) ?_
    rw [← hx]
    exact v_vret (pc := 60) C X d_Ls_tell_60 ⟨rfl, L ++ [x], ks2, vs2, va_up mf L.length (some z), some z, by rw [hl1]; rfl, lok_new hL hlt (by rw [hx]), by rw [hl1, funext (fnd_new (x := x) hf (by rw [hx]))]; exact hT2, by have := mds_new (x := x) hM; rw [show x.1.1 = z by rw [hx]] at this; exact this, by unfold tellA; rw [fnd_abs, hf]; show absL (L ++ [x]) = _; unfold absL; rw [List.map_append, hx]; rfl, x, by unfold tellI; rw [fnd_abs, hf]; show (L ++ [x])[(absL L).length]? = _; unfold absL; rw [List.length_map, List.getElem?_append_right (Nat.le_refl _), Nat.sub_self]; rfl, by rw [hx]⟩ (by decide) (by decide)
  | some i =>
    obtain ⟨x, hx, hxk⟩ := fnd_some hf
    have hi := fnd_lt hf
    rw [show adr k L = some x.1.1 by unfold adr; rw [hf]; show (L[i]?.map _) = _; rw [hx]; rfl]
    show vv K ({ frames := 3, cells := 3, slots := 19, locals := 110 } : Room) G 4 0 0 ([(s, ob 2 [.ref t, .ref m, .int (nI L.length), va_rf (td)]), (t, ob 0 [.ref a, .ref b, .int (nI L.length)]), (a, aJ G 500 ks), (b, aI G 500 vs), (m, aL G 500 mf)] ++ lpool G L) 5 [(0, .ref s), (1, .long (lN k))] [.ref x.1.1]
    refine v_astore_n (pc := 5) C [(3, .ref x.1.1), (0, .ref s), (1, .long (lN k))] d_Ls_tell_5 rfl (by decide) rfl ?_
    refine v_aload_n (pc := 6) C 0 d_Ls_tell_6 rfl rfl ?_
    refine v_ifnonnull (pc := 7) C 50 d_Ls_tell_7 (by decide) ?_
    obtain ⟨LA, LB, e1, -, e2⟩ := lset_split hx
    have e3 := e2 (x.1, x.2.1, [], x.2.2.2.1, x.2.2.2.2)
    rw [show lpool G L = lpool G (LA ++ x :: LB) by rw [← e1]]
    refine v_lout ?_
    show vv K ({ frames := 3, cells := 3, slots := 19, locals := 110 } : Room) G 4 0 0 ([(s, ob 2 [.ref t, .ref m, .int (nI L.length), va_rf (td)]), (t, ob 0 [.ref a, .ref b, .int (nI L.length)]), (a, aJ G 500 ks), (b, aI G 500 vs), (m, aL G 500 mf), (x.1.1, ob 1 [.ref x.1.2.1, .ref x.1.2.2, .int (nI x.2.2.1.length)]), (x.1.2.1, aJ G 8 x.2.2.2.1), (x.1.2.2, aZ G 8 x.2.2.2.2)] ++ lpool G (LA ++ LB)) 50 [(3, .ref x.1.1), (0, .ref s), (1, .long (lN k))] []
    refine v_aload_n (pc := 50) C 0 d_Ls_tell_50 rfl rfl ?_
    refine v_iconst (pc := 51) C (nI 0) d_Ls_tell_51 (by decide +kernel) ?_
    refine v_putN (pc := 52) (Cn := "WeightOrder$Line") (T := T_Li) (N := 3) (ci := 1) (v := .int (nI 0)) C 5 2 rfl rfl hin_Li (by decide) rfl ([(s, ob 2 [.ref t, .ref m, .int (nI L.length), va_rf (td)]), (t, ob 0 [.ref a, .ref b, .int (nI L.length)]), (a, aJ G 500 ks), (b, aI G 500 vs), (m, aL G 500 mf), (x.1.1, ob 1 [.ref x.1.2.1, .ref x.1.2.2, .int (nI 0)]), (x.1.2.1, aJ G 8 x.2.2.2.1), (x.1.2.2, aZ G 8 x.2.2.2.2)] ++ lpool G (LA ++ LB)) t_Li t_Li_ok n_Li (.int) rfl rfl rfl (Nat.le_of_ble_eq_true rfl) rfl rfl k_308 d_Ls_tell_52 ?_
    refine v_aload_n (pc := 55) C 1 d_Ls_tell_55 rfl rfl ?_
    refine v_aload_n (pc := 56) C 0 d_Ls_tell_56 rfl rfl ?_
    refine v_put (pc := 57) (Cn := "WeightOrder$Lines") (T := T_Ls) (N := 4) (ci := 2) (v := .ref x.1.1) C 0 3 rfl rfl hin_Ls (by decide) rfl ([(s, ob 2 [.ref t, .ref m, .int (nI L.length), .ref x.1.1]), (t, ob 0 [.ref a, .ref b, .int (nI L.length)]), (a, aJ G 500 ks), (b, aI G 500 vs), (m, aL G 500 mf), (x.1.1, ob 1 [.ref x.1.2.1, .ref x.1.2.2, .int (nI 0)]), (x.1.2.1, aJ G 8 x.2.2.2.1), (x.1.2.2, aZ G 8 x.2.2.2.2)] ++ lpool G (LA ++ LB)) t_Ls t_Ls_ok n_Ls (.object "WeightOrder$Line") rfl rfl rfl (Nat.le_of_ble_eq_true rfl) rfl rfl k_58 d_Ls_tell_57 ?_
    refine v_lin (X := [(s, ob 2 [.ref t, .ref m, .int (nI L.length), .ref x.1.1]), (t, ob 0 [.ref a, .ref b, .int (nI L.length)]), (a, aJ G 500 ks), (b, aI G 500 vs), (m, aL G 500 mf)]) (x := (x.1, x.2.1, [], x.2.2.2.1, x.2.2.2.2)) ?_
    rw [← e3]
    have hl1 : (L.set i (x.1, x.2.1, [], x.2.2.2.1, x.2.2.2.2)).length = L.length := List.length_set
    exact v_vret (pc := 60) C X d_Ls_tell_60 ⟨rfl, L.set i (x.1, x.2.1, [], x.2.2.2.1, x.2.2.2.2), ks, vs, mf, some x.1.1, by rw [hl1]; rfl, lok_set hL ⟨Nat.zero_le _, lns_nil _ _⟩, by rw [hl1, show (fun j => (fnd j (L.set i (x.1, x.2.1, [], x.2.2.2.1, x.2.2.2.2))).map nI) = fun j => (fnd j L).map nI from funext (fun j => congrArg (Option.map nI) (fnd_set (y := (x.1, x.2.1, [], x.2.2.2.1, x.2.2.2.2)) hx rfl j))]; exact hT, mds_set hM hx rfl, by unfold tellA; rw [fnd_abs, hf, abs_set, hxk], (x.1, x.2.1, [], x.2.2.2.1, x.2.2.2.2), by unfold tellI; rw [fnd_abs, hf]; show (L.set i _)[i]? = _; rw [List.getElem?_set]; simp [hi], rfl⟩ (by decide) (by decide)
end
section
/-! How a row is taken apart, as the document says it; then the Finder -/
section SPEC
variable (fi : Nat → Option Nat) (cl : Nat → Nat)
/-- the key of the first m points -/
def keyP (row : List Nat) (m : Nat) : Nat := (row.take m).foldl kx 0
/-- the longest beginning of at most m points with a line: its key, its length, the line -/
def bestN (row : List Nat) : Nat → Option (Nat × Nat × Nat)
  | 0 => none
  | m + 1 => match fi (keyP row (m + 1)) with
    | some i => some (keyP row (m + 1), m + 1, i)
    | none => bestN row m
/-- what stands behind: the line in the end, and what is left -/
def beh : Nat → Nat → Nat → Nat → List Nat → List Nat → Nat × List Nat
  | _, _, i, _, P, [] => (i, P)
  | k, n, i, most, P, x :: xs =>
    if cl x = 0 ∨ 3 ≤ n then (i, P ++ x :: xs)
    else match (if most < cl x then fi (kx k x) else none) with
      | some j => beh (kx k x) (n + 1) j most P xs
      | none => beh k n i (max most (cl x)) (P ++ [x]) xs
variable (es : Nat → List E4)
/-- one step: the elements, and what is left -/
def stepR (row : List Nat) : List E4 × List Nat := match bestN fi row (min 3 row.length) with
  | none => (impE (row.headD 0), row.tail)
  | some (k, n, i) => (es (beh fi cl k n i 0 [] (row.drop n)).1, (beh fi cl k n i 0 [] (row.drop n)).2)
def takeR : Nat → List Nat → List E4
  | 0, _ => []
  | f + 1, row => if row = [] then [] else (stepR fi cl es row).1 ++ takeR f (stepR fi cl es row).2
end SPEC
theorem keyP_0 (row : List Nat) : keyP row 0 = 0 := rfl
theorem keyP_succ {row : List Nat} {m x : Nat} (h : row[m]? = some x) : keyP row (m + 1) = kx (keyP row m) x := by
  unfold keyP
  rw [List.take_add_one, h, List.foldl_append]
  rfl
theorem keyP_lt {row : List Nat} (hr : ∀ x ∈ row, x ≤ 1114111) : ∀ m, m ≤ row.length → keyP row m < 2097152 ^ m := by
  intro m
  induction m with
  | zero => intro _; show (0 : Nat) < 1; decide
  | succ m ih =>
    intro hm
    have hx : row[m]? = some row[m] := List.getElem?_eq_getElem hm
    have h1 := ih (by omega)
    have h2 := hr _ (List.getElem_mem hm)
    rw [keyP_succ hx, Nat.pow_succ]
    unfold kx
    omega
theorem beh_len (fi : Nat → Option Nat) (cl : Nat → Nat) : ∀ (xs : List Nat) (k n i most : Nat) (P : List Nat), (beh fi cl k n i most P xs).2.length ≤ P.length + xs.length := by
  intro xs
  induction xs with
  | nil => intro k n i most P; exact Nat.le_refl _
  | cons x xs ih =>
    intro k n i most P
    unfold beh
    split
    · simp
    · split
      · have := ih (kx k x) (n + 1) (by assumption) most P
        simp only [List.length_cons]
        omega
      · have := ih k n i (max most (cl x)) (P ++ [x])
        simp only [List.length_append, List.length_cons, List.length_nil] at this ⊢
        omega
theorem beh_mem (fi : Nat → Option Nat) (cl : Nat → Nat) (Q : Nat → Prop) : ∀ (xs : List Nat) (k n i most : Nat) (P : List Nat), (∀ x ∈ P, Q x) → (∀ x ∈ xs, Q x) → ∀ x ∈ (beh fi cl k n i most P xs).2, Q x := by
  intro xs
  induction xs with
  | nil => intro k n i most P hP _; exact hP
  | cons y xs ih =>
    intro k n i most P hP hx
    unfold beh
    split
    · intro x h
      rcases List.mem_append.mp h with h | h
      · exact hP x h
      · exact hx x h
    · split
      · exact ih _ _ _ _ _ hP (fun x h => hx x (List.mem_cons_of_mem _ h))
      · refine ih _ _ _ _ _ (fun x h => ?_) (fun x h => hx x (List.mem_cons_of_mem _ h))
        rcases List.mem_append.mp h with h | h
        · exact hP x h
        · rw [List.mem_singleton.mp h]; exact hx y List.mem_cons_self
theorem bestN_len {fi : Nat → Option Nat} {row : List Nat} : ∀ {m k n i : Nat}, bestN fi row m = some (k, n, i) → 1 ≤ n ∧ n ≤ m ∧ k = keyP row n ∧ fi k = some i := by
  intro m
  induction m with
  | zero => intro k n i h; cases h
  | succ m ih =>
    intro k n i h
    unfold bestN at h
    split at h
    · rename_i j hj
      cases h
      exact ⟨by omega, Nat.le_refl _, rfl, hj⟩
    · have := ih h
      exact ⟨this.1, by omega, this.2.2⟩
/-- the finder's two arrays hold rem from st on -/
def FnS (cl : Nat → Nat) (pts pcs : Nat → Int32) (st : Nat) (rem : List Nat) : Prop := (∀ x ∈ rem, x ≤ 1114111) ∧ ∀ j x, rem[j]? = some x → pts (st + j) = nI x ∧ pcs (st + j) = nI (cl x)
theorem fns_drop {cl : Nat → Nat} {pts pcs : Nat → Int32} {st : Nat} {rem : List Nat} (h : FnS cl pts pcs st rem) (n : Nat) : FnS cl pts pcs (st + n) (rem.drop n) := by
  refine ⟨fun x hx => h.1 x (List.mem_of_mem_drop hx), fun j x hx => ?_⟩
  rw [List.getElem?_drop] at hx
  have := h.2 (n + j) x hx
  rw [← Nat.add_assoc] at this
  exact this
theorem fns_gap {cl : Nat → Nat} {pts pcs : Nat → Int32} {st : Nat} {P : List Nat} {y : Nat} {xs : List Nat} (h : FnS cl pts pcs st (P ++ y :: xs)) : FnS cl (va_cpy pts pts st (st + 1) P.length) (va_cpy pcs pcs st (st + 1) P.length) (st + 1) (P ++ xs) := by
  refine ⟨fun x hx => h.1 x ?_, fun j x hx => ?_⟩
  · rcases List.mem_append.mp hx with hx | hx
    · exact List.mem_append_left _ hx
    · exact List.mem_append_right _ (List.mem_cons_of_mem _ hx)
  · rcases Nat.lt_or_ge j P.length with c | c
    · rw [pk_cpy_in (by omega) (by omega), pk_cpy_in (by omega) (by omega)]
      have e : st + (st + 1 + j - (st + 1)) = st + j := by omega
      rw [e]
      refine h.2 j x ?_
      rw [List.getElem?_append_left c] at hx ⊢
      exact hx
    · rw [pk_cpy_out (Or.inr (by omega)), pk_cpy_out (Or.inr (by omega))]
      have e : st + 1 + j = st + (j + 1) := by omega
      rw [e]
      refine h.2 (j + 1) x ?_
      rw [List.getElem?_append_right c] at hx
      rw [List.getElem?_append_right (by omega), show j + 1 - P.length = (j - P.length) + 1 by omega]
      exact hx
theorem v_mmax {K : Kx} {R : Room} {G : Gx} {nL cells slots : Nat} {w : va_W} {pc : Nat} {lv : List (Nat × Value)} {st : List Value} {cc : ByteArray} {own : String} (C : CX K G nL cc own) {ix : Nat} (a b : Nat) (ha : a < 2147483648) (hb : b < 2147483648) (hw : Cond.methodLink own ix ⟨"java/lang/Math", "max", "(II)I"⟩ ∈ gwords) (hfr : 1 ≤ R.frames) (hlo : (st.map fun v => v.category).sum + 13 ≤ R.locals) (h1 : cells ≤ R.cells) (h2 : slots ≤ R.slots) (hd : decode cc pc = .ok (.invokestatic ix, 3)) (kk : vv K R G nL cells slots w (pc + 3) lv (.int (nI (max a b)) :: st)) : vv K R G nL cells slots w pc lv (.int (nI b) :: .int (nI a) :: st) := by
  obtain ⟨p, l, e, s, m, args, below, meth, c, Q, A⟩ := K
  intro H locs ls hP hD hS hl
  refine va_mmax C.1 C.2.1 (C.2.2.1.trans hl.1.symm) C.2.2.2.1 (C.2.2.2.2.1 _ hw) (C.2.2.2.2.1 _ k_418) (C.2.2.2.2.1 _ k_15) (C.2.2.2.2.1 _ k_419) hfr hlo h1 h2 hd ?_
  have e1 : (if nI a < nI b then nI b else nI a) = nI (max a b) := by
    by_cases c : a < b
    · rw [if_pos ((nI_ltN ha hb).mpr c), Nat.max_eq_right (Nat.le_of_lt c)]
    · rw [if_neg (fun z => c ((nI_ltN ha hb).mp z)), Nat.max_eq_left (Nat.le_of_not_lt c)]
  rw [e1]
  exact kk H locs ls hP hD hS hl

theorem v_aloadN {K : Kx} {R : Room} {G : Gx} {nL cells slots : Nat} {w : va_W} {pc : Nat} {lv : List (Nat × Value)} {st : List Value} {cc : ByteArray} {own : String} (C : CX K G nL cc own) (k : Nat) {i : Nat} (hd : decode cc pc = .ok (.aload i, 2)) (hk : lv[k]? = some (i, .null)) (kk : vv K R G nL cells slots w (pc + 2) lv (.null :: st)) : vv K R G nL cells slots w pc lv st := by
  obtain ⟨p, l, e, s, m, args, below, meth, c, Q, A⟩ := K
  intro H locs ls hP hD hS hl
  exact lv_aloadN C.1 C.2.1 hd (lv_at hl k hk) (kk H locs ls hP hD hS hl)
theorem v_astoreN {K : Kx} {R : Room} {G : Gx} {nL cells slots : Nat} {w : va_W} {pc : Nat} {lv : List (Nat × Value)} {st : List Value} {cc : ByteArray} {own : String} (C : CX K G nL cc own) (lv' : List (Nat × Value)) {i : Nat} (hd : decode cc pc = .ok (.astore i, 2)) (hn : i < nL) (hl' : (i, Value.null) :: lv.filter (fun q => !(q.1 == i) && !(q.1 + 1 == i && q.2.category == 2)) = lv') (kk : vv K R G nL cells slots w (pc + 2) lv' st) : vv K R G nL cells slots w pc lv (.null :: st) := by
  obtain ⟨p, l, e, s, m, args, below, meth, c, Q, A⟩ := K
  intro H locs ls hP hD hS hl
  exact lv_astoreN C.1 C.2.1 hd hl hn hl' (fun ls' h' => kk H locs ls' hP hD hS h')

set_option maxHeartbeats 4000000 in
set_option maxRecDepth 100000 in
theorem c_Fi_become (l : Launch) (G : Gx) (x t s p c : Nat) (st en n0 n1 : Int32) (k0 k1 : Int64) (ld : Option Nat) (a : Nat)  : CT l G y_Fi_become b_Fi_become 5 none ({ frames := 0, cells := 0, slots := 0, locals := 0 } : Room) ([(x, ob 5 [.ref t, .ref s, .ref p, .ref c, .int st, .int en, .long k0, .int n0, va_rf (ld)])]) [.ref x, .long k1, .int n1, .ref a] (fun r w' => w' = [(x, ob 5 [.ref t, .ref s, .ref p, .ref c, .int st, .int en, .long k1, .int n1, .ref a])] ∧ r = none) := by
  refine ct_of [(0, .ref x), (1, .long k1), (3, .int n1), (4, .ref a)] (by decide) (Nat.le_of_ble_eq_true rfl) rfl (fun K hKl hNI C X => ?_)
  subst hKl
  refine v_aload_n (pc := 0) C 0 d_Fi_become_0 rfl rfl ?_
  refine v_lload_n (pc := 1) C 1 d_Fi_become_1 rfl rfl ?_
  refine v_put (pc := 2) (Cn := "WeightOrder$Finder") (T := T_Fi) (N := 9) (ci := 5) (v := .long k1) C 0 6 rfl rfl hin_Fi (by decide) rfl ([(x, ob 5 [.ref t, .ref s, .ref p, .ref c, .int st, .int en, .long k1, .int n0, va_rf (ld)])]) t_Fi t_Fi_ok n_Fi (.long) rfl rfl rfl (Nat.le_of_ble_eq_true rfl) rfl rfl k_97 d_Fi_become_2 ?_
  refine v_aload_n (pc := 5) C 0 d_Fi_become_5 rfl rfl ?_
  refine v_iload_n (pc := 6) C 2 d_Fi_become_6 rfl rfl ?_
  refine v_put (pc := 7) (Cn := "WeightOrder$Finder") (T := T_Fi) (N := 9) (ci := 5) (v := .int n1) C 0 7 rfl rfl hin_Fi (by decide) rfl ([(x, ob 5 [.ref t, .ref s, .ref p, .ref c, .int st, .int en, .long k1, .int n1, va_rf (ld)])]) t_Fi t_Fi_ok n_Fi (.int) rfl rfl rfl (Nat.le_of_ble_eq_true rfl) rfl rfl k_98 d_Fi_become_7 ?_
  refine v_aload_n (pc := 10) C 0 d_Fi_become_10 rfl rfl ?_
  refine v_aload (pc := 11) C 3 d_Fi_become_11 rfl ?_
  refine v_put (pc := 13) (Cn := "WeightOrder$Finder") (T := T_Fi) (N := 9) (ci := 5) (v := .ref a) C 0 8 rfl rfl hin_Fi (by decide) rfl ([(x, ob 5 [.ref t, .ref s, .ref p, .ref c, .int st, .int en, .long k1, .int n1, .ref a])]) t_Fi t_Fi_ok n_Fi (.object "WeightOrder$Line") rfl rfl rfl (Nat.le_of_ble_eq_true rfl) rfl rfl k_99 d_Fi_become_13 ?_
  exact v_vret (pc := 16) C X d_Fi_become_16 ⟨rfl, rfl⟩ (by decide) (by decide)

set_option maxHeartbeats 4000000 in
set_option maxRecDepth 100000 in
theorem c_Fi_closeGap (l : Launch) (G : Gx) (x t s p c st d : Nat) (en n0 : Int32) (k0 : Int64) (ld : Option Nat) (f g : Nat → Int32) (h : st + d < 200) : CT l G y_Fi_closeGap b_Fi_closeGap 2 none ({ frames := 1, cells := 0, slots := 0, locals := 60 } : Room) ([(x, ob 5 [.ref t, .ref s, .ref p, .ref c, .int (nI st), .int en, .long k0, .int n0, va_rf (ld)]), (p, aI G 200 f), (c, aI G 200 g)]) [.ref x, .int (nI (st + d))] (fun r w' => w' = [(x, ob 5 [.ref t, .ref s, .ref p, .ref c, .int (nI (st + 1)), .int en, .long k0, .int n0, va_rf (ld)]), (p, aI G 200 (va_cpy f f st (st + 1) d)), (c, aI G 200 (va_cpy g g st (st + 1) d))] ∧ r = none) := by
  refine ct_of [(0, .ref x), (1, .int (nI (st + d)))] (by decide) (Nat.le_of_ble_eq_true rfl) rfl (fun K hKl hNI C X => ?_)
  subst hKl
  have hd : st + d - st = d := by omega
  refine v_aload_n (pc := 0) C 0 d_Fi_closeGap_0 rfl rfl ?_
  refine v_get (pc := 1) (Cn := "WeightOrder$Finder") (T := T_Fi) (N := 9) (ci := 5) (v := .ref p) C 0 2 rfl rfl hin_Fi (by decide) rfl k_93 rfl d_Fi_closeGap_1 ?_
  refine v_aload_n (pc := 4) C 0 d_Fi_closeGap_4 rfl rfl ?_
  refine v_get (pc := 5) (Cn := "WeightOrder$Finder") (T := T_Fi) (N := 9) (ci := 5) (v := .int (nI st)) C 0 4 rfl rfl hin_Fi (by decide) rfl k_95 rfl d_Fi_closeGap_5 ?_
  refine v_aload_n (pc := 8) C 0 d_Fi_closeGap_8 rfl rfl ?_
  refine v_get (pc := 9) (Cn := "WeightOrder$Finder") (T := T_Fi) (N := 9) (ci := 5) (v := .ref p) C 0 2 rfl rfl hin_Fi (by decide) rfl k_93 rfl d_Fi_closeGap_9 ?_
  refine v_aload_n (pc := 12) C 0 d_Fi_closeGap_12 rfl rfl ?_
  refine v_get (pc := 13) (Cn := "WeightOrder$Finder") (T := T_Fi) (N := 9) (ci := 5) (v := .int (nI st)) C 0 4 rfl rfl hin_Fi (by decide) rfl k_95 rfl d_Fi_closeGap_13 ?_
  refine v_iconst (pc := 16) C (nI 1) d_Fi_closeGap_16 (by decide +kernel) ?_
  refine v_iadd (pc := 17) C (nI (st + 1)) d_Fi_closeGap_17 (nI_add _ _) ?_
  refine v_iload_n (pc := 18) C 1 d_Fi_closeGap_18 rfl rfl ?_
  refine v_aload_n (pc := 19) C 0 d_Fi_closeGap_19 rfl rfl ?_
  refine v_get (pc := 20) (Cn := "WeightOrder$Finder") (T := T_Fi) (N := 9) (ci := 5) (v := .int (nI st)) C 0 4 rfl rfl hin_Fi (by decide) rfl k_95 rfl d_Fi_closeGap_20 ?_
  refine v_isub (pc := 23) C (nI (st + d - st)) d_Fi_closeGap_23 (pk_sub (by omega)) ?_
  rw [hd]
  refine v_copyI (pc := 24) C 1 1 ([(x, ob 5 [.ref t, .ref s, .ref p, .ref c, .int (nI st), .int en, .long k0, .int n0, va_rf (ld)]), (p, aI G 200 (va_cpy f f st (st + 1) d)), (c, aI G 200 g)]) rfl rfl st (st + 1) d (by omega) (by omega) (by decide) (by decide) k_424 rfl (by decide) (by decide) d_Fi_closeGap_24 ?_
  refine v_aload_n (pc := 27) C 0 d_Fi_closeGap_27 rfl rfl ?_
  refine v_get (pc := 28) (Cn := "WeightOrder$Finder") (T := T_Fi) (N := 9) (ci := 5) (v := .ref c) C 0 3 rfl rfl hin_Fi (by decide) rfl k_94 rfl d_Fi_closeGap_28 ?_
  refine v_aload_n (pc := 31) C 0 d_Fi_closeGap_31 rfl rfl ?_
  refine v_get (pc := 32) (Cn := "WeightOrder$Finder") (T := T_Fi) (N := 9) (ci := 5) (v := .int (nI st)) C 0 4 rfl rfl hin_Fi (by decide) rfl k_95 rfl d_Fi_closeGap_32 ?_
  refine v_aload_n (pc := 35) C 0 d_Fi_closeGap_35 rfl rfl ?_
  refine v_get (pc := 36) (Cn := "WeightOrder$Finder") (T := T_Fi) (N := 9) (ci := 5) (v := .ref c) C 0 3 rfl rfl hin_Fi (by decide) rfl k_94 rfl d_Fi_closeGap_36 ?_
  refine v_aload_n (pc := 39) C 0 d_Fi_closeGap_39 rfl rfl ?_
  refine v_get (pc := 40) (Cn := "WeightOrder$Finder") (T := T_Fi) (N := 9) (ci := 5) (v := .int (nI st)) C 0 4 rfl rfl hin_Fi (by decide) rfl k_95 rfl d_Fi_closeGap_40 ?_
  refine v_iconst (pc := 43) C (nI 1) d_Fi_closeGap_43 (by decide +kernel) ?_
  refine v_iadd (pc := 44) C (nI (st + 1)) d_Fi_closeGap_44 (nI_add _ _) ?_
  refine v_iload_n (pc := 45) C 1 d_Fi_closeGap_45 rfl rfl ?_
  refine v_aload_n (pc := 46) C 0 d_Fi_closeGap_46 rfl rfl ?_
  refine v_get (pc := 47) (Cn := "WeightOrder$Finder") (T := T_Fi) (N := 9) (ci := 5) (v := .int (nI st)) C 0 4 rfl rfl hin_Fi (by decide) rfl k_95 rfl d_Fi_closeGap_47 ?_
  refine v_isub (pc := 50) C (nI (st + d - st)) d_Fi_closeGap_50 (pk_sub (by omega)) ?_
  rw [hd]
  refine v_copyI (pc := 51) C 2 2 ([(x, ob 5 [.ref t, .ref s, .ref p, .ref c, .int (nI st), .int en, .long k0, .int n0, va_rf (ld)]), (p, aI G 200 (va_cpy f f st (st + 1) d)), (c, aI G 200 (va_cpy g g st (st + 1) d))]) rfl rfl st (st + 1) d (by omega) (by omega) (by decide) (by decide) k_424 rfl (by decide) (by decide) d_Fi_closeGap_51 ?_
  refine v_aload_n (pc := 54) C 0 d_Fi_closeGap_54 rfl rfl ?_
  refine v_dup (pc := 55) C d_Fi_closeGap_55 rfl ?_
  refine v_get (pc := 56) (Cn := "WeightOrder$Finder") (T := T_Fi) (N := 9) (ci := 5) (v := .int (nI st)) C 0 4 rfl rfl hin_Fi (by decide) rfl k_95 rfl d_Fi_closeGap_56 ?_
  refine v_iconst (pc := 59) C (nI 1) d_Fi_closeGap_59 (by decide +kernel) ?_
  refine v_iadd (pc := 60) C (nI (st + 1)) d_Fi_closeGap_60 (nI_add _ _) ?_
  refine v_put (pc := 61) (Cn := "WeightOrder$Finder") (T := T_Fi) (N := 9) (ci := 5) (v := .int (nI (st + 1))) C 0 4 rfl rfl hin_Fi (by decide) rfl ([(x, ob 5 [.ref t, .ref s, .ref p, .ref c, .int (nI (st + 1)), .int en, .long k0, .int n0, va_rf (ld)]), (p, aI G 200 (va_cpy f f st (st + 1) d)), (c, aI G 200 (va_cpy g g st (st + 1) d))]) t_Fi t_Fi_ok n_Fi (.int) rfl rfl rfl (Nat.le_of_ble_eq_true rfl) rfl rfl k_95 d_Fi_closeGap_61 ?_
  exact v_vret (pc := 64) C X d_Fi_closeGap_64 ⟨rfl, rfl⟩ (by decide) (by decide)
end
section
/-! Finder.load and the seeking -/
def ClS (F : Nat → Option Int32) (cl : Nat → Nat) : Prop := ∀ x, x ≤ 1114111 → (F x).getD (nI 0) = nI (cl x) ∧ cl x ≤ 254
def RwS (rw : List Nat) (f : Nat → Int32) : Prop := rw.length ≤ 200 ∧ (∀ x ∈ rw, x ≤ 1114111) ∧ ∀ j x, rw[j]? = some x → f j = nI x

set_option maxHeartbeats 4000000 in
set_option maxRecDepth 100000 in
theorem c_Fi_load (l : Launch) (G : Gx) (x t s p c r u a b nc : Nat) (st0 en0 n0 : Int32) (k0 : Int64) (ld : Option Nat) (f g rf vc : Nat → Int32) (kc : Nat → Int64) (rw : List Nat) (Fc : Nat → Option Int32) (cl : Nat → Nat) (hR : RwS rw rf) (hnc : nc ≤ 512) (hT : TB kc vc nc Fc) (hcl : ClS Fc cl) : CT l G y_Fi_load b_Fi_load 3 none ({ frames := 2, cells := 0, slots := 0, locals := 49 } : Room) ([(x, ob 5 [.ref t, .ref s, .ref p, .ref c, .int st0, .int en0, .long k0, .int n0, va_rf (ld)]), (p, aI G 200 f), (c, aI G 200 g), (r, ob 3 [.ref u, .int (nI rw.length)]), (u, aI G 200 rf), (t, ob 0 [.ref a, .ref b, .int (nI nc)]), (a, aJ G 512 kc), (b, aI G 512 vc)]) [.ref x, .ref r] (fun r' w' => r' = none ∧ ∃ f' g', w' = [(x, ob 5 [.ref t, .ref s, .ref p, .ref c, .int (nI 0), .int (nI rw.length), .long k0, .int n0, va_rf (ld)]), (p, aI G 200 f'), (c, aI G 200 g'), (r, ob 3 [.ref u, .int (nI rw.length)]), (u, aI G 200 rf), (t, ob 0 [.ref a, .ref b, .int (nI nc)]), (a, aJ G 512 kc), (b, aI G 512 vc)] ∧ FnS cl f' g' 0 rw) := by
  refine ct_of [(0, .ref x), (1, .ref r)] (by decide) (Nat.le_of_ble_eq_true rfl) rfl (fun K hKl hNI C X => ?_)
  subst hKl
  obtain ⟨hr1, hr2, hr3⟩ := hR
  refine v_aload_n (pc := 0) C 0 d_Fi_load_0 rfl rfl ?_
  refine v_iconst (pc := 1) C (nI 0) d_Fi_load_1 (by decide +kernel) ?_
  refine v_put (pc := 2) (Cn := "WeightOrder$Finder") (T := T_Fi) (N := 9) (ci := 5) (v := .int (nI 0)) C 0 4 rfl rfl hin_Fi (by decide) rfl ([(x, ob 5 [.ref t, .ref s, .ref p, .ref c, .int (nI 0), .int en0, .long k0, .int n0, va_rf (ld)]), (p, aI G 200 f), (c, aI G 200 g), (r, ob 3 [.ref u, .int (nI rw.length)]), (u, aI G 200 rf), (t, ob 0 [.ref a, .ref b, .int (nI nc)]), (a, aJ G 512 kc), (b, aI G 512 vc)]) t_Fi t_Fi_ok n_Fi (.int) rfl rfl rfl (Nat.le_of_ble_eq_true rfl) rfl rfl k_95 d_Fi_load_2 ?_
  refine v_aload_n (pc := 5) C 0 d_Fi_load_5 rfl rfl ?_
  refine v_aload_n (pc := 6) C 1 d_Fi_load_6 rfl rfl ?_
  refine v_getN (pc := 7) (Cn := "WeightOrder$Row") (T := T_Ro) (N := 2) (ci := 3) (v := .int (nI rw.length)) C 3 1 rfl rfl hin_Ro (by decide) rfl k_78 rfl d_Fi_load_7 ?_
  refine v_put (pc := 10) (Cn := "WeightOrder$Finder") (T := T_Fi) (N := 9) (ci := 5) (v := .int (nI rw.length)) C 0 5 rfl rfl hin_Fi (by decide) rfl ([(x, ob 5 [.ref t, .ref s, .ref p, .ref c, .int (nI 0), .int (nI rw.length), .long k0, .int n0, va_rf (ld)]), (p, aI G 200 f), (c, aI G 200 g), (r, ob 3 [.ref u, .int (nI rw.length)]), (u, aI G 200 rf), (t, ob 0 [.ref a, .ref b, .int (nI nc)]), (a, aJ G 512 kc), (b, aI G 512 vc)]) t_Fi t_Fi_ok n_Fi (.int) rfl rfl rfl (Nat.le_of_ble_eq_true rfl) rfl rfl k_96 d_Fi_load_10 ?_
  refine v_iconst (pc := 13) C (nI 0) d_Fi_load_13 (by decide +kernel) ?_
  refine v_istore_n (pc := 14) C [(2, .int (nI 0)), (0, .ref x), (1, .ref r)] d_Fi_load_14 rfl (by decide) rfl ?_
  have loop : ∀ (d : Nat) (i : Nat) (f1 : Nat → Int32) (g1 : Nat → Int32), rw.length - i < d → (i ≤ rw.length) → (∀ j x, j < i → rw[j]? = some x → f1 j = nI x ∧ g1 j = nI (cl x)) → vv K ({ frames := 2, cells := 0, slots := 0, locals := 49 } : Room) G 3 0 0 ([(x, ob 5 [.ref t, .ref s, .ref p, .ref c, .int (nI 0), .int (nI rw.length), .long k0, .int n0, va_rf (ld)]), (p, aI G 200 f1), (c, aI G 200 g1), (r, ob 3 [.ref u, .int (nI rw.length)]), (u, aI G 200 rf), (t, ob 0 [.ref a, .ref b, .int (nI nc)]), (a, aJ G 512 kc), (b, aI G 512 vc)]) 15 [(2, .int (nI i)), (0, .ref x), (1, .ref r)] [] := by
    intro d
    induction d with
    | zero => intro i f1 g1 hm; exact absurd hm (Nat.not_lt_zero _)
    | succ d ih =>
      intro i f1 g1 hm hi hf
      refine v_iload_n (pc := 15) C 0 d_Fi_load_15 rfl rfl ?_
      refine v_aload_n (pc := 16) C 1 d_Fi_load_16 rfl rfl ?_
      refine v_get (pc := 17) (Cn := "WeightOrder$Finder") (T := T_Fi) (N := 9) (ci := 5) (v := .int (nI rw.length)) C 0 5 rfl rfl hin_Fi (by decide) rfl k_96 rfl d_Fi_load_17 ?_
      refine v_icmpN_ge (pc := 20) C 62 i rw.length d_Fi_load_20 (by decide) (by omega) (by omega) (fun hc => ?_) (fun hc => ?_)
      · exact v_vret (pc := 62) C X d_Fi_load_62 ⟨rfl, f1, g1, rfl, hr2, fun j x hx => by rw [Nat.zero_add]; exact hf j x (by have := (List.getElem?_eq_some_iff.mp hx).1; omega) hx⟩ (by decide) (by decide)
      · obtain ⟨y, hy⟩ : ∃ y, rw[i]? = some y := ⟨_, List.getElem?_eq_getElem hc⟩
        have hy1 := hr2 y (List.mem_of_getElem? hy)
        have hy2 := hcl y hy1
        refine v_aload_n (pc := 23) C 1 d_Fi_load_23 rfl rfl ?_
        refine v_get (pc := 24) (Cn := "WeightOrder$Finder") (T := T_Fi) (N := 9) (ci := 5) (v := .ref p) C 0 2 rfl rfl hin_Fi (by decide) rfl k_93 rfl d_Fi_load_24 ?_
        refine v_iload_n (pc := 27) C 0 d_Fi_load_27 rfl rfl ?_
        refine v_aload_n (pc := 28) C 2 d_Fi_load_28 rfl rfl ?_
        refine v_getN (pc := 29) (Cn := "WeightOrder$Row") (T := T_Ro) (N := 2) (ci := 3) (v := .ref u) C 3 0 rfl rfl hin_Ro (by decide) rfl k_76 rfl d_Fi_load_29 ?_
        refine v_iload_n (pc := 32) C 0 d_Fi_load_32 rfl rfl ?_
        refine v_iald (pc := 33) C 4 rfl i rfl (by omega) (by decide) d_Fi_load_33 ?_
        refine v_seti (nI y) (hr3 i y hy) ?_
        refine v_iast (pc := 34) C 1 ([(x, ob 5 [.ref t, .ref s, .ref p, .ref c, .int (nI 0), .int (nI rw.length), .long k0, .int n0, va_rf (ld)]), (p, aI G 200 (upd f1 i (nI y))), (c, aI G 200 g1), (r, ob 3 [.ref u, .int (nI rw.length)]), (u, aI G 200 rf), (t, ob 0 [.ref a, .ref b, .int (nI nc)]), (a, aJ G 512 kc), (b, aI G 512 vc)]) rfl i rfl (by omega) (by decide) rfl d_Fi_load_34 ?_
        refine v_aload_n (pc := 35) C 1 d_Fi_load_35 rfl rfl ?_
        refine v_get (pc := 36) (Cn := "WeightOrder$Finder") (T := T_Fi) (N := 9) (ci := 5) (v := .ref c) C 0 3 rfl rfl hin_Fi (by decide) rfl k_94 rfl d_Fi_load_36 ?_
        refine v_iload_n (pc := 39) C 0 d_Fi_load_39 rfl rfl ?_
        refine v_aload_n (pc := 40) C 1 d_Fi_load_40 rfl rfl ?_
        refine v_get (pc := 41) (Cn := "WeightOrder$Finder") (T := T_Fi) (N := 9) (ci := 5) (v := .ref t) C 0 0 rfl rfl hin_Fi (by decide) rfl k_91 rfl d_Fi_load_41 ?_
        refine v_aload_n (pc := 44) C 1 d_Fi_load_44 rfl rfl ?_
        refine v_get (pc := 45) (Cn := "WeightOrder$Finder") (T := T_Fi) (N := 9) (ci := 5) (v := .ref p) C 0 2 rfl rfl hin_Fi (by decide) rfl k_93 rfl d_Fi_load_45 ?_
        refine v_iload_n (pc := 48) C 0 d_Fi_load_48 rfl rfl ?_
        refine v_iald (pc := 49) C 1 rfl i rfl (by omega) (by decide) d_Fi_load_49 ?_
        refine v_seti (nI y) pk_us ?_
        refine v_i2l (pc := 50) C (lN y) d_Fi_load_50 (nI_l (by omega)) ?_
        refine v_iconst (pc := 51) C (nI 0) d_Fi_load_51 (by decide +kernel) ?_
        refine v_callV (pc := 52) (As := [.long (lN y), .int (nI 0)]) (rest := [.int (nI i), .ref c]) C (c_Ta_valueOf _ G t a b 512 kc vc nc Fc y (nI 0) (by decide) hnc hT (by omega)) l_Fi_53 ([(x, ob 5 [.ref t, .ref s, .ref p, .ref c, .int (nI 0), .int (nI rw.length), .long k0, .int n0, va_rf (ld)]), (p, aI G 200 (upd f1 i (nI y))), (c, aI G 200 g1), (r, ob 3 [.ref u, .int (nI rw.length)]), (u, aI G 200 rf)]) (sp_pos [0, 1, 2, 3, 4] [5, 6, 7] rfl rfl rfl) 0 rfl rfl rfl rfl rfl (Nat.le_of_ble_eq_true rfl) (by decide) (by decide) (by decide) (by decide) d_Fi_load_52 (fun r w' hq => ?_)
        obtain ⟨rfl, rfl⟩ := hq
        show vv K ({ frames := 2, cells := 0, slots := 0, locals := 49 } : Room) G 3 0 0 ([(x, ob 5 [.ref t, .ref s, .ref p, .ref c, .int (nI 0), .int (nI rw.length), .long k0, .int n0, va_rf (ld)]), (p, aI G 200 (upd f1 i (nI y))), (c, aI G 200 g1), (r, ob 3 [.ref u, .int (nI rw.length)]), (u, aI G 200 rf), (t, ob 0 [.ref a, .ref b, .int (nI nc)]), (a, aJ G 512 kc), (b, aI G 512 vc)]) 55 [(2, .int (nI i)), (0, .ref x), (1, .ref r)] [.int ((Fc y).getD (nI 0)), .int (nI i), .ref c]
        refine v_seti (nI (cl y)) hy2.1 ?_
        refine v_iast (pc := 55) C 2 ([(x, ob 5 [.ref t, .ref s, .ref p, .ref c, .int (nI 0), .int (nI rw.length), .long k0, .int n0, va_rf (ld)]), (p, aI G 200 (upd f1 i (nI y))), (c, aI G 200 (upd g1 i (nI (cl y)))), (r, ob 3 [.ref u, .int (nI rw.length)]), (u, aI G 200 rf), (t, ob 0 [.ref a, .ref b, .int (nI nc)]), (a, aJ G 512 kc), (b, aI G 512 vc)]) rfl i rfl (by omega) (by decide) rfl d_Fi_load_55 ?_
        refine v_iinc (pc := 56) C [(2, .int (nI (i + 1))), (0, .ref x), (1, .ref r)] 0 (nI (i + 1)) d_Fi_load_56 rfl (nI_inc1 _) (by decide) rfl ?_
        refine v_goto (pc := 59) C 15 d_Fi_load_59 (by decide) ?_
        refine v_lsub [0, 1, 2] [(2, .int (nI (i + 1))), (0, .ref x), (1, .ref r)] rfl ?_
        refine ih (i + 1) _ _ (by omega) (by omega) (fun j z hj hz => ?_)
        rcases Nat.lt_or_ge j i with c9 | c9
        · rw [pk_un (by omega), pk_un (by omega)]; exact hf j z c9 hz
        · have e : j = i := by omega
          subst e
          rw [pk_us, pk_us]
          cases Option.some.inj (hz.symm.trans hy)
          exact ⟨rfl, rfl⟩
  refine v_lsub [0, 1, 2] [(2, .int (nI 0)), (0, .ref x), (1, .ref r)] rfl ?_
  exact loop (rw.length + 1) 0 f g (by omega) (by omega) (fun j x hj => absurd hj (Nat.not_lt_zero _))

/-- the fields key, length, line of the finder hold what was found -/
def BsS (L : List LnX) (o : Option (Nat × Nat × Nat)) (kv : Int64) (nv : Int32) (ld : Option Nat) : Prop := match o with
  | none => ld = none
  | some (k, n, i) => kv = lN k ∧ nv = nI n ∧ ∃ z, L[i]? = some z ∧ ld = some z.1.1

set_option maxHeartbeats 4000000 in
set_option maxRecDepth 100000 in
theorem c_Fi_seekBeginning (l : Launch) (G : Gx) (x t p c st : Nat) (k0 : Int64) (n0 : Int32) (l0 : Option Nat) (f g : Nat → Int32) (cl : Nat → Nat) (rem : List Nat) (s nt a b m : Nat) (td : Option Nat) (ks : Nat → Int64) (vs : Nat → Int32) (mf : Nat → Option Nat) (L : List LnX) (hF : FnS cl f g st rem) (hst : st + rem.length ≤ 200) (hL : LOk L) (hT : TB ks vs L.length (fun j => (fnd j L).map nI)) (hM : MdS L mf) : CT l G y_Fi_seekBeginning b_Fi_seekBeginning 5 none ({ frames := 3, cells := 0, slots := 0, locals := 72 } : Room) ([(x, ob 5 [.ref t, .ref s, .ref p, .ref c, .int (nI st), .int (nI (st + rem.length)), .long k0, .int n0, va_rf (l0)]), (p, aI G 200 f), (s, ob 2 [.ref nt, .ref m, .int (nI L.length), va_rf (td)]), (nt, ob 0 [.ref a, .ref b, .int (nI L.length)]), (a, aJ G 500 ks), (b, aI G 500 vs), (m, aL G 500 mf)]) [.ref x] (fun r w' => r = none ∧ ∃ kv nv ld, w' = [(x, ob 5 [.ref t, .ref s, .ref p, .ref c, .int (nI st), .int (nI (st + rem.length)), .long kv, .int nv, va_rf (ld)]), (p, aI G 200 f), (s, ob 2 [.ref nt, .ref m, .int (nI L.length), va_rf (td)]), (nt, ob 0 [.ref a, .ref b, .int (nI L.length)]), (a, aJ G 500 ks), (b, aI G 500 vs), (m, aL G 500 mf)] ∧ BsS L (bestN (fun k => fnd k L) rem (min 3 rem.length)) kv nv ld) := by
  refine ct_of [(0, .ref x)] (by decide) (Nat.le_of_ble_eq_true rfl) rfl (fun K hKl hNI C X => ?_)
  subst hKl
  refine v_aload_n (pc := 0) C 0 d_Fi_seekBeginning_0 rfl rfl ?_
  refine v_null (pc := 1) C d_Fi_seekBeginning_1 ?_
  refine v_put (pc := 2) (Cn := "WeightOrder$Finder") (T := T_Fi) (N := 9) (ci := 5) (v := .null) C 0 8 rfl rfl hin_Fi (by decide) rfl ([(x, ob 5 [.ref t, .ref s, .ref p, .ref c, .int (nI st), .int (nI (st + rem.length)), .long k0, .int n0, .null]), (p, aI G 200 f), (s, ob 2 [.ref nt, .ref m, .int (nI L.length), va_rf (td)]), (nt, ob 0 [.ref a, .ref b, .int (nI L.length)]), (a, aJ G 500 ks), (b, aI G 500 vs), (m, aL G 500 mf)]) t_Fi t_Fi_ok n_Fi (.object "WeightOrder$Line") rfl rfl rfl (Nat.le_of_ble_eq_true rfl) rfl rfl k_99 d_Fi_seekBeginning_2 ?_
  refine v_lconst (pc := 5) C (lN 0) d_Fi_seekBeginning_5 (by decide +kernel) ?_
  refine v_lstore_n (pc := 6) C [(1, .long (lN 0)), (0, .ref x)] d_Fi_seekBeginning_6 rfl (by decide) rfl ?_
  refine v_iconst (pc := 7) C (nI 1) d_Fi_seekBeginning_7 (by decide +kernel) ?_
  refine v_istore_n (pc := 8) C [(3, .int (nI 1)), (1, .long (lN 0)), (0, .ref x)] d_Fi_seekBeginning_8 rfl (by decide) rfl ?_
  have loop : ∀ (d : Nat) (j : Nat) (kv : Int64) (nv : Int32) (ld : Option Nat), 3 - j < d → (j ≤ 3) → (j ≤ rem.length) → (BsS L (bestN (fun k => fnd k L) rem j) kv nv ld) → vv K ({ frames := 3, cells := 0, slots := 0, locals := 72 } : Room) G 5 0 0 ([(x, ob 5 [.ref t, .ref s, .ref p, .ref c, .int (nI st), .int (nI (st + rem.length)), .long kv, .int nv, va_rf (ld)]), (p, aI G 200 f), (s, ob 2 [.ref nt, .ref m, .int (nI L.length), va_rf (td)]), (nt, ob 0 [.ref a, .ref b, .int (nI L.length)]), (a, aJ G 500 ks), (b, aI G 500 vs), (m, aL G 500 mf)]) 9 [(3, .int (nI (j + 1))), (1, .long (lN (keyP rem j))), (0, .ref x)] [] := by
    intro d
    induction d with
    | zero => intro j kv nv ld hm; exact absurd hm (Nat.not_lt_zero _)
    | succ d ih =>
      intro j kv nv ld hm h1 h2 hb
      refine v_iload_n (pc := 9) C 0 d_Fi_seekBeginning_9 rfl rfl ?_
      refine v_iconst (pc := 10) C (nI 3) d_Fi_seekBeginning_10 (by decide +kernel) ?_
      refine v_icmpN_gt (pc := 11) C 74 (j + 1) 3 d_Fi_seekBeginning_11 (by decide) (by omega) (by omega) (fun hc => ?_) (fun hc => ?_)
      · have e9 : min 3 rem.length = j := by omega
        exact v_vret (pc := 74) C X d_Fi_seekBeginning_74 ⟨rfl, kv, nv, ld, rfl, by rw [e9]; exact hb⟩ (by decide) (by decide)
      · refine v_aload_n (pc := 14) C 2 d_Fi_seekBeginning_14 rfl rfl ?_
        refine v_get (pc := 15) (Cn := "WeightOrder$Finder") (T := T_Fi) (N := 9) (ci := 5) (v := .int (nI st)) C 0 4 rfl rfl hin_Fi (by decide) rfl k_95 rfl d_Fi_seekBeginning_15 ?_
        refine v_iload_n (pc := 18) C 0 d_Fi_seekBeginning_18 rfl rfl ?_
        refine v_iadd (pc := 19) C (nI (st + (j + 1))) d_Fi_seekBeginning_19 (nI_add _ _) ?_
        refine v_aload_n (pc := 20) C 2 d_Fi_seekBeginning_20 rfl rfl ?_
        refine v_get (pc := 21) (Cn := "WeightOrder$Finder") (T := T_Fi) (N := 9) (ci := 5) (v := .int (nI (st + rem.length))) C 0 5 rfl rfl hin_Fi (by decide) rfl k_96 rfl d_Fi_seekBeginning_21 ?_
        refine v_icmpN_gt (pc := 24) C 74 (st + (j + 1)) (st + rem.length) d_Fi_seekBeginning_24 (by decide) (by omega) (by omega) (fun hd => ?_) (fun hd => ?_)
        · have e9 : min 3 rem.length = j := by omega
          exact v_vret (pc := 74) C X d_Fi_seekBeginning_74 ⟨rfl, kv, nv, ld, rfl, by rw [e9]; exact hb⟩ (by decide) (by decide)
        · have hjl : j < rem.length := by omega
          obtain ⟨y, hy⟩ : ∃ y, rem[j]? = some y := ⟨_, List.getElem?_eq_getElem hjl⟩
          have hy1 := hF.1 y (List.mem_of_getElem? hy)
          have hy2 := hF.2 j y hy
          have hk1 := keyP_lt hF.1 j h2
          have hk2 : keyP rem j < 4398046511104 := Nat.lt_of_lt_of_le hk1 (Nat.le_trans (Nat.pow_le_pow_right (by decide) (show j ≤ 2 by omega)) (by decide))
          have hk3 := keyP_succ hy
          refine v_lload_n (pc := 27) C 1 d_Fi_seekBeginning_27 rfl rfl ?_
          refine v_aload_n (pc := 28) C 2 d_Fi_seekBeginning_28 rfl rfl ?_
          refine v_get (pc := 29) (Cn := "WeightOrder$Finder") (T := T_Fi) (N := 9) (ci := 5) (v := .ref p) C 0 2 rfl rfl hin_Fi (by decide) rfl k_93 rfl d_Fi_seekBeginning_29 ?_
          refine v_aload_n (pc := 32) C 2 d_Fi_seekBeginning_32 rfl rfl ?_
          refine v_get (pc := 33) (Cn := "WeightOrder$Finder") (T := T_Fi) (N := 9) (ci := 5) (v := .int (nI st)) C 0 4 rfl rfl hin_Fi (by decide) rfl k_95 rfl d_Fi_seekBeginning_33 ?_
          refine v_iload_n (pc := 36) C 0 d_Fi_seekBeginning_36 rfl rfl ?_
          refine v_iadd (pc := 37) C (nI (st + (j + 1))) d_Fi_seekBeginning_37 (nI_add _ _) ?_
          refine v_iconst (pc := 38) C (nI 1) d_Fi_seekBeginning_38 (by decide +kernel) ?_
          refine v_isub (pc := 39) C (nI (st + (j + 1) - 1)) d_Fi_seekBeginning_39 (pk_sub (by omega)) ?_
          rw [show st + (j + 1) - 1 = st + j by omega]
          refine v_iald (pc := 40) C 1 rfl (st + j) rfl (by omega) (by decide) d_Fi_seekBeginning_40 ?_
          refine v_seti (nI y) hy2.1 ?_
          refine v_callS (pc := 41) (As := [.long (lN (keyP rem j)), .int (nI y)]) (rest := []) C (c_Wo_longerKey _ G (keyP rem j) y hy1 hk2) l_Fi_80 ([(x, ob 5 [.ref t, .ref s, .ref p, .ref c, .int (nI st), .int (nI (st + rem.length)), .long kv, .int nv, va_rf (ld)]), (p, aI G 200 f), (s, ob 2 [.ref nt, .ref m, .int (nI L.length), va_rf (td)]), (nt, ob 0 [.ref a, .ref b, .int (nI L.length)]), (a, aJ G 500 ks), (b, aI G 500 vs), (m, aL G 500 mf)]) (sp_pos [0, 1, 2, 3, 4, 5, 6] [] rfl rfl rfl) rfl rfl (Nat.le_of_ble_eq_true rfl) (by decide) (by decide) (by decide) (by decide) d_Fi_seekBeginning_41 (fun r w' hq => ?_)
          obtain ⟨rfl, rfl⟩ := hq
          show vv K ({ frames := 3, cells := 0, slots := 0, locals := 72 } : Room) G 5 0 0 ([(x, ob 5 [.ref t, .ref s, .ref p, .ref c, .int (nI st), .int (nI (st + rem.length)), .long kv, .int nv, va_rf (ld)]), (p, aI G 200 f), (s, ob 2 [.ref nt, .ref m, .int (nI L.length), va_rf (td)]), (nt, ob 0 [.ref a, .ref b, .int (nI L.length)]), (a, aJ G 500 ks), (b, aI G 500 vs), (m, aL G 500 mf)]) 44 [(3, .int (nI (j + 1))), (1, .long (lN (keyP rem j))), (0, .ref x)] [.long (lN (kx (keyP rem j) y))]
          rw [← hk3]
          have hk4 : keyP rem (j + 1) < 9223372036854775808 := by rw [hk3]; exact kx_lt hy1 hk2
          refine v_lstore_n (pc := 44) C [(1, .long (lN (keyP rem (j + 1)))), (3, .int (nI (j + 1))), (0, .ref x)] d_Fi_seekBeginning_44 rfl (by decide) rfl ?_
          refine v_aload_n (pc := 45) C 2 d_Fi_seekBeginning_45 rfl rfl ?_
          refine v_get (pc := 46) (Cn := "WeightOrder$Finder") (T := T_Fi) (N := 9) (ci := 5) (v := .ref s) C 0 1 rfl rfl hin_Fi (by decide) rfl k_92 rfl d_Fi_seekBeginning_46 ?_
          refine v_lload_n (pc := 49) C 0 d_Fi_seekBeginning_49 rfl rfl ?_
          refine v_callV (pc := 50) (As := [.long (lN (keyP rem (j + 1)))]) (rest := []) C (c_Ls_find _ G s nt a b m td ks vs mf L (keyP rem (j + 1)) hL hT hM hk4) l_Fi_84 ([(x, ob 5 [.ref t, .ref s, .ref p, .ref c, .int (nI st), .int (nI (st + rem.length)), .long kv, .int nv, va_rf (ld)]), (p, aI G 200 f)]) (sp_pos [0, 1] [2, 3, 4, 5, 6] rfl rfl rfl) 0 rfl rfl rfl rfl rfl (Nat.le_of_ble_eq_true rfl) (by decide) (by decide) (by decide) (by decide) d_Fi_seekBeginning_50 (fun r w' hq => ?_)
          obtain ⟨rfl, rfl⟩ := hq
          show vv K ({ frames := 3, cells := 0, slots := 0, locals := 72 } : Room) G 5 0 0 ([(x, ob 5 [.ref t, .ref s, .ref p, .ref c, .int (nI st), .int (nI (st + rem.length)), .long kv, .int nv, va_rf (ld)]), (p, aI G 200 f), (s, ob 2 [.ref nt, .ref m, .int (nI L.length), va_rf (td)]), (nt, ob 0 [.ref a, .ref b, .int (nI L.length)]), (a, aJ G 500 ks), (b, aI G 500 vs), (m, aL G 500 mf)]) 53 [(1, .long (lN (keyP rem (j + 1)))), (3, .int (nI (j + 1))), (0, .ref x)] [va_rf (adr (keyP rem (j + 1)) L)]
          cases hf : fnd (keyP rem (j + 1)) L with
          | none =>
            rw [show adr (keyP rem (j + 1)) L = none by unfold adr; rw [hf]; rfl]
            show vv K ({ frames := 3, cells := 0, slots := 0, locals := 72 } : Room) G 5 0 0 ([(x, ob 5 [.ref t, .ref s, .ref p, .ref c, .int (nI st), .int (nI (st + rem.length)), .long kv, .int nv, va_rf (ld)]), (p, aI G 200 f), (s, ob 2 [.ref nt, .ref m, .int (nI L.length), va_rf (td)]), (nt, ob 0 [.ref a, .ref b, .int (nI L.length)]), (a, aJ G 500 ks), (b, aI G 500 vs), (m, aL G 500 mf)]) 53 [(1, .long (lN (keyP rem (j + 1)))), (3, .int (nI (j + 1))), (0, .ref x)] [.null]
            refine v_astoreN (pc := 53) C [(4, .null), (1, .long (lN (keyP rem (j + 1)))), (3, .int (nI (j + 1))), (0, .ref x)] d_Fi_seekBeginning_53 (by decide) rfl ?_
            refine v_aloadN (pc := 55) C 0 d_Fi_seekBeginning_55 rfl ?_
            refine v_ifnullN (pc := 57) C 68 d_Fi_seekBeginning_57 (by decide) ?_
            refine v_iinc (pc := 68) C [(3, .int (nI (j + 1 + 1))), (4, .null), (1, .long (lN (keyP rem (j + 1)))), (0, .ref x)] 2 (nI (j + 1 + 1)) d_Fi_seekBeginning_68 rfl (nI_inc1 _) (by decide) rfl ?_
            refine v_goto (pc := 71) C 9 d_Fi_seekBeginning_71 (by decide) ?_
            refine v_wsub [0, 1, 2, 3, 4, 5, 6] ([(x, ob 5 [.ref t, .ref s, .ref p, .ref c, .int (nI st), .int (nI (st + rem.length)), .long kv, .int nv, va_rf (ld)]), (p, aI G 200 f), (s, ob 2 [.ref nt, .ref m, .int (nI L.length), va_rf (td)]), (nt, ob 0 [.ref a, .ref b, .int (nI L.length)]), (a, aJ G 500 ks), (b, aI G 500 vs), (m, aL G 500 mf)]) rfl rfl ?_
            refine v_lsub [0, 2, 3] [(3, .int (nI (j + 1 + 1))), (1, .long (lN (keyP rem (j + 1)))), (0, .ref x)] rfl ?_
            exact ih (j + 1) kv nv ld (by omega) (by omega) (by omega) (by unfold bestN; simp only [hf]; exact hb)
          | some i =>
            obtain ⟨z, hz, hzk⟩ := fnd_some hf
            rw [show adr (keyP rem (j + 1)) L = some z.1.1 by unfold adr; rw [hf]; show (L[i]?.map _) = _; rw [hz]; rfl]
            show vv K ({ frames := 3, cells := 0, slots := 0, locals := 72 } : Room) G 5 0 0 ([(x, ob 5 [.ref t, .ref s, .ref p, .ref c, .int (nI st), .int (nI (st + rem.length)), .long kv, .int nv, va_rf (ld)]), (p, aI G 200 f), (s, ob 2 [.ref nt, .ref m, .int (nI L.length), va_rf (td)]), (nt, ob 0 [.ref a, .ref b, .int (nI L.length)]), (a, aJ G 500 ks), (b, aI G 500 vs), (m, aL G 500 mf)]) 53 [(1, .long (lN (keyP rem (j + 1)))), (3, .int (nI (j + 1))), (0, .ref x)] [.ref z.1.1]
            refine v_astore (pc := 53) C [(4, .ref z.1.1), (1, .long (lN (keyP rem (j + 1)))), (3, .int (nI (j + 1))), (0, .ref x)] d_Fi_seekBeginning_53 (by decide) rfl ?_
            refine v_aload (pc := 55) C 0 d_Fi_seekBeginning_55 rfl ?_
            refine v_ifnull (pc := 57) C d_Fi_seekBeginning_57 ?_
            refine v_aload_n (pc := 60) C 3 d_Fi_seekBeginning_60 rfl rfl ?_
            refine v_lload_n (pc := 61) C 1 d_Fi_seekBeginning_61 rfl rfl ?_
            refine v_iload_n (pc := 62) C 2 d_Fi_seekBeginning_62 rfl rfl ?_
            refine v_aload (pc := 63) C 0 d_Fi_seekBeginning_63 rfl ?_
            refine v_callV (pc := 65) (As := [.long (lN (keyP rem (j + 1))), .int (nI (j + 1)), .ref z.1.1]) (rest := []) C (c_Fi_become _ G x t s p c (nI st) (nI (st + rem.length)) nv (nI (j + 1)) kv (lN (keyP rem (j + 1))) ld z.1.1) l_Fi_90 ([(p, aI G 200 f), (s, ob 2 [.ref nt, .ref m, .int (nI L.length), va_rf (td)]), (nt, ob 0 [.ref a, .ref b, .int (nI L.length)]), (a, aJ G 500 ks), (b, aI G 500 vs), (m, aL G 500 mf)]) (sp_pos [1, 2, 3, 4, 5, 6] [0] rfl rfl rfl) 0 rfl rfl rfl rfl rfl (Nat.le_of_ble_eq_true rfl) (by decide) (by decide) (by decide) (by decide) d_Fi_seekBeginning_65 (fun r w' hq => ?_)
            obtain ⟨rfl, rfl⟩ := hq
            show vv K ({ frames := 3, cells := 0, slots := 0, locals := 72 } : Room) G 5 0 0 ([(p, aI G 200 f), (s, ob 2 [.ref nt, .ref m, .int (nI L.length), va_rf (td)]), (nt, ob 0 [.ref a, .ref b, .int (nI L.length)]), (a, aJ G 500 ks), (b, aI G 500 vs), (m, aL G 500 mf), (x, ob 5 [.ref t, .ref s, .ref p, .ref c, .int (nI st), .int (nI (st + rem.length)), .long (lN (keyP rem (j + 1))), .int (nI (j + 1)), .ref z.1.1])]) 68 [(4, .ref z.1.1), (1, .long (lN (keyP rem (j + 1)))), (3, .int (nI (j + 1))), (0, .ref x)] []
            refine v_iinc (pc := 68) C [(3, .int (nI (j + 1 + 1))), (4, .ref z.1.1), (1, .long (lN (keyP rem (j + 1)))), (0, .ref x)] 2 (nI (j + 1 + 1)) d_Fi_seekBeginning_68 rfl (nI_inc1 _) (by decide) rfl ?_
            refine v_goto (pc := 71) C 9 d_Fi_seekBeginning_71 (by decide) ?_
            refine v_wsub [6, 0, 1, 2, 3, 4, 5] ([(x, ob 5 [.ref t, .ref s, .ref p, .ref c, .int (nI st), .int (nI (st + rem.length)), .long (lN (keyP rem (j + 1))), .int (nI (j + 1)), .ref z.1.1]), (p, aI G 200 f), (s, ob 2 [.ref nt, .ref m, .int (nI L.length), va_rf (td)]), (nt, ob 0 [.ref a, .ref b, .int (nI L.length)]), (a, aJ G 500 ks), (b, aI G 500 vs), (m, aL G 500 mf)]) rfl rfl ?_
            refine v_lsub [0, 2, 3] [(3, .int (nI (j + 1 + 1))), (1, .long (lN (keyP rem (j + 1)))), (0, .ref x)] rfl ?_
            exact ih (j + 1) (lN (keyP rem (j + 1))) (nI (j + 1)) (some z.1.1) (by omega) (by omega) (by omega) (by unfold bestN; simp only [hf]; exact ⟨rfl, rfl, z, hz, rfl⟩)
  refine v_lsub [0, 1, 2] [(3, .int (nI 1)), (1, .long (lN 0)), (0, .ref x)] rfl ?_
  exact loop 4 0 k0 n0 none (by decide) (by decide) (Nat.zero_le _) rfl
end
section
/-! Finder.seekBehind -/
theorem beh_nil (fi : Nat → Option Nat) (cl : Nat → Nat) (k n i most : Nat) (P : List Nat) : beh fi cl k n i most P [] = (i, P) := by unfold beh; rfl
theorem beh_stop {fi : Nat → Option Nat} {cl : Nat → Nat} {k n i most : Nat} {P : List Nat} {x : Nat} {xs : List Nat} (h : cl x = 0 ∨ 3 ≤ n) : beh fi cl k n i most P (x :: xs) = (i, P ++ x :: xs) := by
  rw [beh, if_pos h]
theorem beh_pass {fi : Nat → Option Nat} {cl : Nat → Nat} {k n i most : Nat} {P : List Nat} {x : Nat} {xs : List Nat} (h : ¬ (cl x = 0 ∨ 3 ≤ n)) (h2 : cl x ≤ most ∨ fi (kx k x) = none) : beh fi cl k n i most P (x :: xs) = beh fi cl k n i (max most (cl x)) (P ++ [x]) xs := by
  have e : (if most < cl x then fi (kx k x) else none) = none := by
    rcases h2 with h2 | h2
    · rw [if_neg (by omega)]
    · rw [h2]; split <;> rfl
  rw [beh, if_neg h]
  simp only [e]
theorem beh_grow {fi : Nat → Option Nat} {cl : Nat → Nat} {k n i most j : Nat} {P : List Nat} {x : Nat} {xs : List Nat} (h : ¬ (cl x = 0 ∨ 3 ≤ n)) (h2 : most < cl x) (h3 : fi (kx k x) = some j) : beh fi cl k n i most P (x :: xs) = beh fi cl (kx k x) (n + 1) j most P xs := by
  have e : (if most < cl x then fi (kx k x) else none) = some j := by rw [if_pos h2, h3]
  rw [beh, if_neg h]
  simp only [e]
theorem kx_pow {k n x : Nat} (h : k < 2097152 ^ n) (hx : x ≤ 1114111) : kx k x < 2097152 ^ (n + 1) := by
  rw [Nat.pow_succ]; unfold kx; omega
theorem pow_le2 {k n : Nat} (h : k < 2097152 ^ n) (hn : n ≤ 2) : k < 4398046511104 := Nat.lt_of_lt_of_le h (Nat.le_trans (Nat.pow_le_pow_right (by decide) hn) (by decide))

set_option maxHeartbeats 4000000 in
set_option maxRecDepth 100000 in
theorem c_Fi_seekBehind (l : Launch) (G : Gx) (x t p c st k0 n0 i0 : Nat) (z0 : LnX) (f g : Nat → Int32) (cl : Nat → Nat) (rem : List Nat) (s nt a b m : Nat) (td : Option Nat) (ks : Nat → Int64) (vs : Nat → Int32) (mf : Nat → Option Nat) (L : List LnX) (hF : FnS cl f g st rem) (hst : st + rem.length ≤ 200) (hz : L[i0]? = some z0) (hk : k0 < 2097152 ^ n0) (hn : n0 ≤ 3) (hcl : ∀ x, x ≤ 1114111 → cl x ≤ 254) (hL : LOk L) (hT : TB ks vs L.length (fun j => (fnd j L).map nI)) (hM : MdS L mf) : CT l G y_Fi_seekBehind b_Fi_seekBehind 4 none ({ frames := 3, cells := 0, slots := 0, locals := 83 } : Room) ([(x, ob 5 [.ref t, .ref s, .ref p, .ref c, .int (nI st), .int (nI (st + rem.length)), .long (lN k0), .int (nI n0), .ref z0.1.1]), (p, aI G 200 f), (c, aI G 200 g), (s, ob 2 [.ref nt, .ref m, .int (nI L.length), va_rf (td)]), (nt, ob 0 [.ref a, .ref b, .int (nI L.length)]), (a, aJ G 500 ks), (b, aI G 500 vs), (m, aL G 500 mf)]) [.ref x] (fun r w' => r = none ∧ ∃ st' kv nv z f' g', w' = [(x, ob 5 [.ref t, .ref s, .ref p, .ref c, .int (nI st'), .int (nI (st + rem.length)), .long kv, .int nv, .ref z.1.1]), (p, aI G 200 f'), (c, aI G 200 g'), (s, ob 2 [.ref nt, .ref m, .int (nI L.length), va_rf (td)]), (nt, ob 0 [.ref a, .ref b, .int (nI L.length)]), (a, aJ G 500 ks), (b, aI G 500 vs), (m, aL G 500 mf)] ∧ L[(beh (fun k => fnd k L) cl k0 n0 i0 0 [] rem).1]? = some z ∧ FnS cl f' g' st' (beh (fun k => fnd k L) cl k0 n0 i0 0 [] rem).2 ∧ st' + (beh (fun k => fnd k L) cl k0 n0 i0 0 [] rem).2.length = st + rem.length) := by
  refine ct_of [(0, .ref x)] (by decide) (Nat.le_of_ble_eq_true rfl) rfl (fun K hKl hNI C X => ?_)
  subst hKl
  refine v_iconst (pc := 0) C (nI 0) d_Fi_seekBehind_0 (by decide +kernel) ?_
  refine v_istore_n (pc := 1) C [(1, .int (nI 0)), (0, .ref x)] d_Fi_seekBehind_1 rfl (by decide) rfl ?_
  refine v_aload_n (pc := 2) C 1 d_Fi_seekBehind_2 rfl rfl ?_
  refine v_get (pc := 3) (Cn := "WeightOrder$Finder") (T := T_Fi) (N := 9) (ci := 5) (v := .int (nI st)) C 0 4 rfl rfl hin_Fi (by decide) rfl k_95 rfl d_Fi_seekBehind_3 ?_
  refine v_istore_n (pc := 6) C [(2, .int (nI st)), (1, .int (nI 0)), (0, .ref x)] d_Fi_seekBehind_6 rfl (by decide) rfl ?_
  have loop : ∀ (d : Nat) (xs : List Nat) (P : List Nat) (ii : Nat) (st1 : Nat) (k : Nat) (n : Nat) (j : Nat) (z : LnX) (mo : Nat) (f1 : Nat → Int32) (g1 : Nat → Int32), xs.length < d → (ii = st1 + P.length) → (FnS cl f1 g1 st1 (P ++ xs)) → (st1 + (P ++ xs).length = st + rem.length) → (L[j]? = some z) → (k < 2097152 ^ n) → (n ≤ 3) → (mo ≤ 254) → (beh (fun k => fnd k L) cl k n j mo P xs = beh (fun k => fnd k L) cl k0 n0 i0 0 [] rem) → vv K ({ frames := 3, cells := 0, slots := 0, locals := 83 } : Room) G 4 0 0 ([(x, ob 5 [.ref t, .ref s, .ref p, .ref c, .int (nI st1), .int (nI (st + rem.length)), .long (lN k), .int (nI n), .ref z.1.1]), (p, aI G 200 f1), (c, aI G 200 g1), (s, ob 2 [.ref nt, .ref m, .int (nI L.length), va_rf (td)]), (nt, ob 0 [.ref a, .ref b, .int (nI L.length)]), (a, aJ G 500 ks), (b, aI G 500 vs), (m, aL G 500 mf)]) 7 [(2, .int (nI ii)), (1, .int (nI mo)), (0, .ref x)] [] := by
    intro d
    induction d with
    | zero => intro xs P ii st1 k n j z mo f1 g1 hm; exact absurd hm (Nat.not_lt_zero _)
    | succ d ih =>
      intro xs P ii st1 k n j z mo f1 g1 hm hii hF1 hen hz1 hk1 hn1 hmo heq
      rw [List.length_append] at hen
      cases xs with
      | nil =>
        rw [beh_nil] at heq
        rw [List.append_nil] at hF1
        have hen : st1 + P.length = st + rem.length := hen
        refine v_iload_n (pc := 7) C 0 d_Fi_seekBehind_7 rfl rfl ?_
        refine v_aload_n (pc := 8) C 2 d_Fi_seekBehind_8 rfl rfl ?_
        refine v_get (pc := 9) (Cn := "WeightOrder$Finder") (T := T_Fi) (N := 9) (ci := 5) (v := .int (nI (st + rem.length))) C 0 5 rfl rfl hin_Fi (by decide) rfl k_96 rfl d_Fi_seekBehind_9 ?_
        refine v_icmpN_ge (pc := 12) C 118 ii (st + rem.length) d_Fi_seekBehind_12 (by decide) (by omega) (by omega) (fun hc => ?_) (fun hc => ?_)
        · exact v_vret (pc := 118) C X d_Fi_seekBehind_118 ⟨rfl, st1, lN k, nI n, z, f1, g1, rfl, by rw [← heq]; exact hz1, by rw [← heq]; exact hF1, by rw [← heq]; exact hen⟩ (by decide) (by decide)
        · omega
      | cons y ys =>
        rw [List.length_cons] at hen hm
        have hy0 : (P ++ y :: ys)[P.length]? = some y := by rw [List.getElem?_append_right (Nat.le_refl _), Nat.sub_self]; rfl
        have hy1 := hF1.1 y (List.mem_of_getElem? hy0)
        have hy2 := hF1.2 P.length y hy0
        rw [← hii] at hy2
        have hcy := hcl y hy1
        refine v_iload_n (pc := 7) C 0 d_Fi_seekBehind_7 rfl rfl ?_
        refine v_aload_n (pc := 8) C 2 d_Fi_seekBehind_8 rfl rfl ?_
        refine v_get (pc := 9) (Cn := "WeightOrder$Finder") (T := T_Fi) (N := 9) (ci := 5) (v := .int (nI (st + rem.length))) C 0 5 rfl rfl hin_Fi (by decide) rfl k_96 rfl d_Fi_seekBehind_9 ?_
        refine v_icmpN_ge (pc := 12) C 118 ii (st + rem.length) d_Fi_seekBehind_12 (by decide) (by omega) (by omega) (fun hc => ?_) (fun hc => ?_)
        · omega
        · refine v_aload_n (pc := 15) C 2 d_Fi_seekBehind_15 rfl rfl ?_
          refine v_get (pc := 16) (Cn := "WeightOrder$Finder") (T := T_Fi) (N := 9) (ci := 5) (v := .ref c) C 0 3 rfl rfl hin_Fi (by decide) rfl k_94 rfl d_Fi_seekBehind_16 ?_
          refine v_iload_n (pc := 19) C 0 d_Fi_seekBehind_19 rfl rfl ?_
          refine v_iald (pc := 20) C 2 rfl ii rfl (by omega) (by decide) d_Fi_seekBehind_20 ?_
          refine v_seti (nI (cl y)) hy2.2 ?_
          refine v_ifN_le (pc := 21) C 118 (cl y) d_Fi_seekBehind_21 (by decide) (by omega) (fun h0 => ?_) (fun h0 => ?_)
          · rw [beh_stop (Or.inl (by omega))] at heq
            exact v_vret (pc := 118) C X d_Fi_seekBehind_118 ⟨rfl, st1, lN k, nI n, z, f1, g1, rfl, by rw [← heq]; exact hz1, by rw [← heq]; exact hF1, by rw [← heq, List.length_append, List.length_cons]; exact hen⟩ (by decide) (by decide)
          · refine v_aload_n (pc := 24) C 2 d_Fi_seekBehind_24 rfl rfl ?_
            refine v_get (pc := 25) (Cn := "WeightOrder$Finder") (T := T_Fi) (N := 9) (ci := 5) (v := .int (nI n)) C 0 7 rfl rfl hin_Fi (by decide) rfl k_98 rfl d_Fi_seekBehind_25 ?_
            refine v_iconst (pc := 28) C (nI 3) d_Fi_seekBehind_28 (by decide +kernel) ?_
            refine v_icmpN_ge (pc := 29) C 118 n 3 d_Fi_seekBehind_29 (by decide) (by omega) (by omega) (fun h3 => ?_) (fun h3 => ?_)
            · rw [beh_stop (Or.inr h3)] at heq
              exact v_vret (pc := 118) C X d_Fi_seekBehind_118 ⟨rfl, st1, lN k, nI n, z, f1, g1, rfl, by rw [← heq]; exact hz1, by rw [← heq]; exact hF1, by rw [← heq, List.length_append, List.length_cons]; exact hen⟩ (by decide) (by decide)
            · refine v_null (pc := 32) C d_Fi_seekBehind_32 ?_
              refine v_astore_nN (pc := 33) C [(3, .null), (2, .int (nI ii)), (1, .int (nI mo)), (0, .ref x)] d_Fi_seekBehind_33 rfl (by decide) rfl ?_
              refine v_aload_n (pc := 34) C 3 d_Fi_seekBehind_34 rfl rfl ?_
              refine v_get (pc := 35) (Cn := "WeightOrder$Finder") (T := T_Fi) (N := 9) (ci := 5) (v := .ref c) C 0 3 rfl rfl hin_Fi (by decide) rfl k_94 rfl d_Fi_seekBehind_35 ?_
              refine v_iload_n (pc := 38) C 1 d_Fi_seekBehind_38 rfl rfl ?_
              refine v_iald (pc := 39) C 2 rfl ii rfl (by omega) (by decide) d_Fi_seekBehind_39 ?_
              refine v_seti (nI (cl y)) hy2.2 ?_
              have hgo : ¬ (cl y = 0 ∨ 3 ≤ n) := by omega
              refine v_iload_n (pc := 40) C 2 d_Fi_seekBehind_40 rfl rfl ?_
              refine v_icmpN_le (pc := 41) C 65 (cl y) mo d_Fi_seekBehind_41 (by decide) (by omega) (by omega) (fun h4 => ?_) (fun h4 => ?_)
              · refine v_aload_nN (pc := 65) C 0 d_Fi_seekBehind_65 rfl rfl ?_
                refine v_ifnonnullN (pc := 66) C d_Fi_seekBehind_66 ?_
                refine v_iload_n (pc := 69) C 2 d_Fi_seekBehind_69 rfl rfl ?_
                refine v_aload_n (pc := 70) C 3 d_Fi_seekBehind_70 rfl rfl ?_
                refine v_get (pc := 71) (Cn := "WeightOrder$Finder") (T := T_Fi) (N := 9) (ci := 5) (v := .ref c) C 0 3 rfl rfl hin_Fi (by decide) rfl k_94 rfl d_Fi_seekBehind_71 ?_
                refine v_iload_n (pc := 74) C 1 d_Fi_seekBehind_74 rfl rfl ?_
                refine v_iald (pc := 75) C 2 rfl ii rfl (by omega) (by decide) d_Fi_seekBehind_75 ?_
                refine v_seti (nI (cl y)) hy2.2 ?_
                refine v_mmax (pc := 76) C mo (cl y) (by omega) (by omega) k_417 (by decide) (by decide) (by decide) (by decide) d_Fi_seekBehind_76 ?_
                refine v_istore_n (pc := 79) C [(1, .int (nI (max mo (cl y)))), (3, .null), (2, .int (nI ii)), (0, .ref x)] d_Fi_seekBehind_79 rfl (by decide) rfl ?_
                refine v_goto (pc := 80) C 112 d_Fi_seekBehind_80 (by decide) ?_
                refine v_iinc (pc := 112) C [(2, .int (nI (ii + 1))), (1, .int (nI (max mo (cl y)))), (3, .null), (0, .ref x)] 2 (nI (ii + 1)) d_Fi_seekBehind_112 rfl (nI_inc1 _) (by decide) rfl ?_
                refine v_goto (pc := 115) C 7 d_Fi_seekBehind_115 (by decide) ?_
                refine v_wsub [0, 1, 2, 3, 4, 5, 6, 7] ([(x, ob 5 [.ref t, .ref s, .ref p, .ref c, .int (nI st1), .int (nI (st + rem.length)), .long (lN k), .int (nI n), .ref z.1.1]), (p, aI G 200 f1), (c, aI G 200 g1), (s, ob 2 [.ref nt, .ref m, .int (nI L.length), va_rf (td)]), (nt, ob 0 [.ref a, .ref b, .int (nI L.length)]), (a, aJ G 500 ks), (b, aI G 500 vs), (m, aL G 500 mf)]) rfl rfl ?_
                refine v_lsub [0, 1, 3] [(2, .int (nI (ii + 1))), (1, .int (nI (max mo (cl y)))), (0, .ref x)] rfl ?_
                rw [beh_pass hgo (Or.inl h4)] at heq
                exact ih ys (P ++ [y]) (ii + 1) st1 k n j z (max mo (cl y)) f1 g1 (by omega) (by rw [List.length_append, List.length_singleton]; omega) (by rw [List.append_assoc]; exact hF1) (by rw [List.append_assoc, List.length_append]; exact hen) hz1 hk1 hn1 (by omega) heq
              · have hk2 := pow_le2 hk1 (show n ≤ 2 by omega)
                refine v_aload_n (pc := 44) C 3 d_Fi_seekBehind_44 rfl rfl ?_
                refine v_get (pc := 45) (Cn := "WeightOrder$Finder") (T := T_Fi) (N := 9) (ci := 5) (v := .ref s) C 0 1 rfl rfl hin_Fi (by decide) rfl k_92 rfl d_Fi_seekBehind_45 ?_
                refine v_aload_n (pc := 48) C 3 d_Fi_seekBehind_48 rfl rfl ?_
                refine v_get (pc := 49) (Cn := "WeightOrder$Finder") (T := T_Fi) (N := 9) (ci := 5) (v := .long (lN k)) C 0 6 rfl rfl hin_Fi (by decide) rfl k_97 rfl d_Fi_seekBehind_49 ?_
                refine v_aload_n (pc := 52) C 3 d_Fi_seekBehind_52 rfl rfl ?_
                refine v_get (pc := 53) (Cn := "WeightOrder$Finder") (T := T_Fi) (N := 9) (ci := 5) (v := .ref p) C 0 2 rfl rfl hin_Fi (by decide) rfl k_93 rfl d_Fi_seekBehind_53 ?_
                refine v_iload_n (pc := 56) C 1 d_Fi_seekBehind_56 rfl rfl ?_
                refine v_iald (pc := 57) C 1 rfl ii rfl (by omega) (by decide) d_Fi_seekBehind_57 ?_
                refine v_seti (nI y) hy2.1 ?_
                refine v_callS (pc := 58) (As := [.long (lN k), .int (nI y)]) (rest := [.ref s]) C (c_Wo_longerKey _ G k y hy1 hk2) l_Fi_80 ([(x, ob 5 [.ref t, .ref s, .ref p, .ref c, .int (nI st1), .int (nI (st + rem.length)), .long (lN k), .int (nI n), .ref z.1.1]), (p, aI G 200 f1), (c, aI G 200 g1), (s, ob 2 [.ref nt, .ref m, .int (nI L.length), va_rf (td)]), (nt, ob 0 [.ref a, .ref b, .int (nI L.length)]), (a, aJ G 500 ks), (b, aI G 500 vs), (m, aL G 500 mf)]) (sp_pos [0, 1, 2, 3, 4, 5, 6, 7] [] rfl rfl rfl) rfl rfl (Nat.le_of_ble_eq_true rfl) (by decide) (by decide) (by decide) (by decide) d_Fi_seekBehind_58 (fun r w' hq => ?_)
                obtain ⟨rfl, rfl⟩ := hq
                show vv K ({ frames := 3, cells := 0, slots := 0, locals := 83 } : Room) G 4 0 0 ([(x, ob 5 [.ref t, .ref s, .ref p, .ref c, .int (nI st1), .int (nI (st + rem.length)), .long (lN k), .int (nI n), .ref z.1.1]), (p, aI G 200 f1), (c, aI G 200 g1), (s, ob 2 [.ref nt, .ref m, .int (nI L.length), va_rf (td)]), (nt, ob 0 [.ref a, .ref b, .int (nI L.length)]), (a, aJ G 500 ks), (b, aI G 500 vs), (m, aL G 500 mf)]) 61 [(3, .null), (2, .int (nI ii)), (1, .int (nI mo)), (0, .ref x)] [.long (lN (kx k y)), .ref s]
                refine v_callV (pc := 61) (As := [.long (lN (kx k y))]) (rest := []) C (c_Ls_find _ G s nt a b m td ks vs mf L (kx k y) hL hT hM (kx_lt hy1 hk2)) l_Fi_84 ([(x, ob 5 [.ref t, .ref s, .ref p, .ref c, .int (nI st1), .int (nI (st + rem.length)), .long (lN k), .int (nI n), .ref z.1.1]), (p, aI G 200 f1), (c, aI G 200 g1)]) (sp_pos [0, 1, 2] [3, 4, 5, 6, 7] rfl rfl rfl) 0 rfl rfl rfl rfl rfl (Nat.le_of_ble_eq_true rfl) (by decide) (by decide) (by decide) (by decide) d_Fi_seekBehind_61 (fun r w' hq => ?_)
                obtain ⟨rfl, rfl⟩ := hq
                show vv K ({ frames := 3, cells := 0, slots := 0, locals := 83 } : Room) G 4 0 0 ([(x, ob 5 [.ref t, .ref s, .ref p, .ref c, .int (nI st1), .int (nI (st + rem.length)), .long (lN k), .int (nI n), .ref z.1.1]), (p, aI G 200 f1), (c, aI G 200 g1), (s, ob 2 [.ref nt, .ref m, .int (nI L.length), va_rf (td)]), (nt, ob 0 [.ref a, .ref b, .int (nI L.length)]), (a, aJ G 500 ks), (b, aI G 500 vs), (m, aL G 500 mf)]) 64 [(3, .null), (2, .int (nI ii)), (1, .int (nI mo)), (0, .ref x)] [va_rf (adr (kx k y) L)]
                cases hf : fnd (kx k y) L with
                | none =>
                  rw [show adr (kx k y) L = none by unfold adr; rw [hf]; rfl]
                  show vv K ({ frames := 3, cells := 0, slots := 0, locals := 83 } : Room) G 4 0 0 ([(x, ob 5 [.ref t, .ref s, .ref p, .ref c, .int (nI st1), .int (nI (st + rem.length)), .long (lN k), .int (nI n), .ref z.1.1]), (p, aI G 200 f1), (c, aI G 200 g1), (s, ob 2 [.ref nt, .ref m, .int (nI L.length), va_rf (td)]), (nt, ob 0 [.ref a, .ref b, .int (nI L.length)]), (a, aJ G 500 ks), (b, aI G 500 vs), (m, aL G 500 mf)]) 64 [(3, .null), (2, .int (nI ii)), (1, .int (nI mo)), (0, .ref x)] [.null]
                  refine v_astore_nN (pc := 64) C [(3, .null), (2, .int (nI ii)), (1, .int (nI mo)), (0, .ref x)] d_Fi_seekBehind_64 rfl (by decide) rfl ?_
                  refine v_aload_nN (pc := 65) C 0 d_Fi_seekBehind_65 rfl rfl ?_
                  refine v_ifnonnullN (pc := 66) C d_Fi_seekBehind_66 ?_
                  refine v_iload_n (pc := 69) C 2 d_Fi_seekBehind_69 rfl rfl ?_
                  refine v_aload_n (pc := 70) C 3 d_Fi_seekBehind_70 rfl rfl ?_
                  refine v_get (pc := 71) (Cn := "WeightOrder$Finder") (T := T_Fi) (N := 9) (ci := 5) (v := .ref c) C 0 3 rfl rfl hin_Fi (by decide) rfl k_94 rfl d_Fi_seekBehind_71 ?_
                  refine v_iload_n (pc := 74) C 1 d_Fi_seekBehind_74 rfl rfl ?_
                  refine v_iald (pc := 75) C 2 rfl ii rfl (by omega) (by decide) d_Fi_seekBehind_75 ?_
                  refine v_seti (nI (cl y)) hy2.2 ?_
                  refine v_mmax (pc := 76) C mo (cl y) (by omega) (by omega) k_417 (by decide) (by decide) (by decide) (by decide) d_Fi_seekBehind_76 ?_
                  refine v_istore_n (pc := 79) C [(1, .int (nI (max mo (cl y)))), (3, .null), (2, .int (nI ii)), (0, .ref x)] d_Fi_seekBehind_79 rfl (by decide) rfl ?_
                  refine v_goto (pc := 80) C 112 d_Fi_seekBehind_80 (by decide) ?_
                  refine v_iinc (pc := 112) C [(2, .int (nI (ii + 1))), (1, .int (nI (max mo (cl y)))), (3, .null), (0, .ref x)] 2 (nI (ii + 1)) d_Fi_seekBehind_112 rfl (nI_inc1 _) (by decide) rfl ?_
                  refine v_goto (pc := 115) C 7 d_Fi_seekBehind_115 (by decide) ?_
                  refine v_wsub [0, 1, 2, 3, 4, 5, 6, 7] ([(x, ob 5 [.ref t, .ref s, .ref p, .ref c, .int (nI st1), .int (nI (st + rem.length)), .long (lN k), .int (nI n), .ref z.1.1]), (p, aI G 200 f1), (c, aI G 200 g1), (s, ob 2 [.ref nt, .ref m, .int (nI L.length), va_rf (td)]), (nt, ob 0 [.ref a, .ref b, .int (nI L.length)]), (a, aJ G 500 ks), (b, aI G 500 vs), (m, aL G 500 mf)]) rfl rfl ?_
                  refine v_lsub [0, 1, 3] [(2, .int (nI (ii + 1))), (1, .int (nI (max mo (cl y)))), (0, .ref x)] rfl ?_
                  rw [beh_pass hgo (Or.inr hf)] at heq
                  exact ih ys (P ++ [y]) (ii + 1) st1 k n j z (max mo (cl y)) f1 g1 (by omega) (by rw [List.length_append, List.length_singleton]; omega) (by rw [List.append_assoc]; exact hF1) (by rw [List.append_assoc, List.length_append]; exact hen) hz1 hk1 hn1 (by omega) heq
                | some j2 =>
                  obtain ⟨z2, hz2, hzk⟩ := fnd_some hf
                  rw [show adr (kx k y) L = some z2.1.1 by unfold adr; rw [hf]; show (L[j2]?.map _) = _; rw [hz2]; rfl]
                  show vv K ({ frames := 3, cells := 0, slots := 0, locals := 83 } : Room) G 4 0 0 ([(x, ob 5 [.ref t, .ref s, .ref p, .ref c, .int (nI st1), .int (nI (st + rem.length)), .long (lN k), .int (nI n), .ref z.1.1]), (p, aI G 200 f1), (c, aI G 200 g1), (s, ob 2 [.ref nt, .ref m, .int (nI L.length), va_rf (td)]), (nt, ob 0 [.ref a, .ref b, .int (nI L.length)]), (a, aJ G 500 ks), (b, aI G 500 vs), (m, aL G 500 mf)]) 64 [(3, .null), (2, .int (nI ii)), (1, .int (nI mo)), (0, .ref x)] [.ref z2.1.1]
                  refine v_astore_n (pc := 64) C [(3, .ref z2.1.1), (2, .int (nI ii)), (1, .int (nI mo)), (0, .ref x)] d_Fi_seekBehind_64 rfl (by decide) rfl ?_
                  refine v_aload_n (pc := 65) C 0 d_Fi_seekBehind_65 rfl rfl ?_
                  refine v_ifnonnull (pc := 66) C 83 d_Fi_seekBehind_66 (by decide) ?_
                  refine v_aload_n (pc := 83) C 3 d_Fi_seekBehind_83 rfl rfl ?_
                  refine v_aload_n (pc := 84) C 3 d_Fi_seekBehind_84 rfl rfl ?_
                  refine v_get (pc := 85) (Cn := "WeightOrder$Finder") (T := T_Fi) (N := 9) (ci := 5) (v := .long (lN k)) C 0 6 rfl rfl hin_Fi (by decide) rfl k_97 rfl d_Fi_seekBehind_85 ?_
                  refine v_aload_n (pc := 88) C 3 d_Fi_seekBehind_88 rfl rfl ?_
                  refine v_get (pc := 89) (Cn := "WeightOrder$Finder") (T := T_Fi) (N := 9) (ci := 5) (v := .ref p) C 0 2 rfl rfl hin_Fi (by decide) rfl k_93 rfl d_Fi_seekBehind_89 ?_
                  refine v_iload_n (pc := 92) C 1 d_Fi_seekBehind_92 rfl rfl ?_
                  refine v_iald (pc := 93) C 1 rfl ii rfl (by omega) (by decide) d_Fi_seekBehind_93 ?_
                  refine v_seti (nI y) hy2.1 ?_
                  refine v_callS (pc := 94) (As := [.long (lN k), .int (nI y)]) (rest := [.ref x]) C (c_Wo_longerKey _ G k y hy1 hk2) l_Fi_80 ([(x, ob 5 [.ref t, .ref s, .ref p, .ref c, .int (nI st1), .int (nI (st + rem.length)), .long (lN k), .int (nI n), .ref z.1.1]), (p, aI G 200 f1), (c, aI G 200 g1), (s, ob 2 [.ref nt, .ref m, .int (nI L.length), va_rf (td)]), (nt, ob 0 [.ref a, .ref b, .int (nI L.length)]), (a, aJ G 500 ks), (b, aI G 500 vs), (m, aL G 500 mf)]) (sp_pos [0, 1, 2, 3, 4, 5, 6, 7] [] rfl rfl rfl) rfl rfl (Nat.le_of_ble_eq_true rfl) (by decide) (by decide) (by decide) (by decide) d_Fi_seekBehind_94 (fun r w' hq => ?_)
                  obtain ⟨rfl, rfl⟩ := hq
                  show vv K ({ frames := 3, cells := 0, slots := 0, locals := 83 } : Room) G 4 0 0 ([(x, ob 5 [.ref t, .ref s, .ref p, .ref c, .int (nI st1), .int (nI (st + rem.length)), .long (lN k), .int (nI n), .ref z.1.1]), (p, aI G 200 f1), (c, aI G 200 g1), (s, ob 2 [.ref nt, .ref m, .int (nI L.length), va_rf (td)]), (nt, ob 0 [.ref a, .ref b, .int (nI L.length)]), (a, aJ G 500 ks), (b, aI G 500 vs), (m, aL G 500 mf)]) 97 [(3, .ref z2.1.1), (2, .int (nI ii)), (1, .int (nI mo)), (0, .ref x)] [.long (lN (kx k y)), .ref x]
                  refine v_aload_n (pc := 97) C 3 d_Fi_seekBehind_97 rfl rfl ?_
                  refine v_get (pc := 98) (Cn := "WeightOrder$Finder") (T := T_Fi) (N := 9) (ci := 5) (v := .int (nI n)) C 0 7 rfl rfl hin_Fi (by decide) rfl k_98 rfl d_Fi_seekBehind_98 ?_
                  refine v_iconst (pc := 101) C (nI 1) d_Fi_seekBehind_101 (by decide +kernel) ?_
                  refine v_iadd (pc := 102) C (nI (n + 1)) d_Fi_seekBehind_102 (nI_add _ _) ?_
                  refine v_aload_n (pc := 103) C 0 d_Fi_seekBehind_103 rfl rfl ?_
                  refine v_callV (pc := 104) (As := [.long (lN (kx k y)), .int (nI (n + 1)), .ref z2.1.1]) (rest := []) C (c_Fi_become _ G x t s p c (nI st1) (nI (st + rem.length)) (nI n) (nI (n + 1)) (lN k) (lN (kx k y)) (some z.1.1) z2.1.1) l_Fi_90 ([(p, aI G 200 f1), (c, aI G 200 g1), (s, ob 2 [.ref nt, .ref m, .int (nI L.length), va_rf (td)]), (nt, ob 0 [.ref a, .ref b, .int (nI L.length)]), (a, aJ G 500 ks), (b, aI G 500 vs), (m, aL G 500 mf)]) (sp_pos [1, 2, 3, 4, 5, 6, 7] [0] rfl rfl rfl) 0 rfl rfl rfl rfl rfl (Nat.le_of_ble_eq_true rfl) (by decide) (by decide) (by decide) (by decide) d_Fi_seekBehind_104 (fun r w' hq => ?_)
                  obtain ⟨rfl, rfl⟩ := hq
                  show vv K ({ frames := 3, cells := 0, slots := 0, locals := 83 } : Room) G 4 0 0 ([(p, aI G 200 f1), (c, aI G 200 g1), (s, ob 2 [.ref nt, .ref m, .int (nI L.length), va_rf (td)]), (nt, ob 0 [.ref a, .ref b, .int (nI L.length)]), (a, aJ G 500 ks), (b, aI G 500 vs), (m, aL G 500 mf), (x, ob 5 [.ref t, .ref s, .ref p, .ref c, .int (nI st1), .int (nI (st + rem.length)), .long (lN (kx k y)), .int (nI (n + 1)), .ref z2.1.1])]) 107 [(3, .ref z2.1.1), (2, .int (nI ii)), (1, .int (nI mo)), (0, .ref x)] []
                  subst hii
                  refine v_aload_n (pc := 107) C 3 d_Fi_seekBehind_107 rfl rfl ?_
                  refine v_iload_n (pc := 108) C 1 d_Fi_seekBehind_108 rfl rfl ?_
                  refine v_callV (pc := 109) (As := [.int (nI (st1 + P.length))]) (rest := []) C (c_Fi_closeGap _ G x t s p c st1 P.length (nI (st + rem.length)) (nI (n + 1)) (lN (kx k y)) (some z2.1.1) f1 g1 (by omega)) l_Fi_104 ([(s, ob 2 [.ref nt, .ref m, .int (nI L.length), va_rf (td)]), (nt, ob 0 [.ref a, .ref b, .int (nI L.length)]), (a, aJ G 500 ks), (b, aI G 500 vs), (m, aL G 500 mf)]) (sp_pos [2, 3, 4, 5, 6] [7, 0, 1] rfl rfl rfl) 0 rfl rfl rfl rfl rfl (Nat.le_of_ble_eq_true rfl) (by decide) (by decide) (by decide) (by decide) d_Fi_seekBehind_109 (fun r w' hq => ?_)
                  obtain ⟨rfl, rfl⟩ := hq
                  show vv K ({ frames := 3, cells := 0, slots := 0, locals := 83 } : Room) G 4 0 0 ([(s, ob 2 [.ref nt, .ref m, .int (nI L.length), va_rf (td)]), (nt, ob 0 [.ref a, .ref b, .int (nI L.length)]), (a, aJ G 500 ks), (b, aI G 500 vs), (m, aL G 500 mf), (x, ob 5 [.ref t, .ref s, .ref p, .ref c, .int (nI (st1 + 1)), .int (nI (st + rem.length)), .long (lN (kx k y)), .int (nI (n + 1)), .ref z2.1.1]), (p, aI G 200 (va_cpy f1 f1 st1 (st1 + 1) P.length)), (c, aI G 200 (va_cpy g1 g1 st1 (st1 + 1) P.length))]) 112 [(3, .ref z2.1.1), (2, .int (nI (st1 + P.length))), (1, .int (nI mo)), (0, .ref x)] []
                  refine v_iinc (pc := 112) C [(2, .int (nI (st1 + P.length + 1))), (3, .ref z2.1.1), (1, .int (nI mo)), (0, .ref x)] 1 (nI (st1 + P.length + 1)) d_Fi_seekBehind_112 rfl (nI_inc1 _) (by decide) rfl ?_
                  refine v_goto (pc := 115) C 7 d_Fi_seekBehind_115 (by decide) ?_
                  refine v_wsub [5, 6, 7, 0, 1, 2, 3, 4] ([(x, ob 5 [.ref t, .ref s, .ref p, .ref c, .int (nI (st1 + 1)), .int (nI (st + rem.length)), .long (lN (kx k y)), .int (nI (n + 1)), .ref z2.1.1]), (p, aI G 200 (va_cpy f1 f1 st1 (st1 + 1) P.length)), (c, aI G 200 (va_cpy g1 g1 st1 (st1 + 1) P.length)), (s, ob 2 [.ref nt, .ref m, .int (nI L.length), va_rf (td)]), (nt, ob 0 [.ref a, .ref b, .int (nI L.length)]), (a, aJ G 500 ks), (b, aI G 500 vs), (m, aL G 500 mf)]) rfl rfl ?_
                  refine v_lsub [0, 2, 3] [(2, .int (nI (st1 + P.length + 1))), (1, .int (nI mo)), (0, .ref x)] rfl ?_
                  rw [beh_grow hgo h4 hf] at heq
                  exact ih ys P (st1 + P.length + 1) (st1 + 1) (kx k y) (n + 1) j2 z2 mo _ _ (by omega) (by omega) (fns_gap hF1) (by rw [List.length_append]; omega) hz2 (kx_pow hk1 hy1) (by omega) hmo heq
  refine v_lsub [0, 1, 2] [(2, .int (nI st)), (1, .int (nI 0)), (0, .ref x)] rfl ?_
  exact loop (rem.length + 1) rem [] st st k0 n0 i0 z0 0 f g (by omega) rfl hF rfl hz hk hn (by omega) rfl
end
section
/-! Finder.takeNext, Finder.findElements -/
def lnE (L : List LnX) (j : Nat) : List E4 := (L[j]?.map (·.2.2.1)).getD []
theorem lnE_at {L : List LnX} {j : Nat} {z : LnX} (h : L[j]? = some z) : lnE L j = z.2.2.1 := by unfold lnE; rw [h]; rfl

set_option maxHeartbeats 4000000 in
set_option maxRecDepth 100000 in
theorem c_Fi_takeNext (l : Launch) (G : Gx) (x t p c e v st sh : Nat) (k0 : Int64) (n0 : Int32) (l0 : Option Nat) (f g : Nat → Int32) (fe : Nat → Int64) (es : List E4) (cl : Nat → Nat) (rem : List Nat) (s nt a b m : Nat) (td : Option Nat) (ks : Nat → Int64) (vs : Nat → Int32) (mf : Nat → Option Nat) (L : List LnX) (hF : FnS cl f g st rem) (hst : st + rem.length ≤ 200) (hne : rem ≠ []) (hsh : sh ≤ 1) (hE : ElS sh es fe) (hes : es.length ≤ 8 * st) (hcl : ∀ x, x ≤ 1114111 → cl x ≤ 254) (hL : LOk L) (hT : TB ks vs L.length (fun j => (fnd j L).map nI)) (hM : MdS L mf) : CT l G y_Fi_takeNext b_Fi_takeNext 2 none ({ frames := 4, cells := 0, slots := 0, locals := 113 } : Room) ([(x, ob 5 [.ref t, .ref s, .ref p, .ref c, .int (nI st), .int (nI (st + rem.length)), .long k0, .int n0, va_rf (l0)]), (p, aI G 200 f), (c, aI G 200 g), (s, ob 2 [.ref nt, .ref m, .int (nI L.length), va_rf (td)]), (nt, ob 0 [.ref a, .ref b, .int (nI L.length)]), (a, aJ G 500 ks), (b, aI G 500 vs), (m, aL G 500 mf), (e, ob 4 [.ref v, .int (nI ((es).length)), .int (nI sh), .int (nI (shF sh 0 (es)))]), (v, aJ G 1600 fe)] ++ lpool G L) [.ref x, .ref e] (fun r w' => r = none ∧ ∃ st' kv nv ld f' g' fe', w' = [(x, ob 5 [.ref t, .ref s, .ref p, .ref c, .int (nI st'), .int (nI (st + rem.length)), .long kv, .int nv, va_rf (ld)]), (p, aI G 200 f'), (c, aI G 200 g'), (s, ob 2 [.ref nt, .ref m, .int (nI L.length), va_rf (td)]), (nt, ob 0 [.ref a, .ref b, .int (nI L.length)]), (a, aJ G 500 ks), (b, aI G 500 vs), (m, aL G 500 mf), (e, ob 4 [.ref v, .int (nI ((es ++ (stepR (fun k => fnd k L) cl (lnE L) rem).1).length)), .int (nI sh), .int (nI (shF sh 0 (es ++ (stepR (fun k => fnd k L) cl (lnE L) rem).1)))]), (v, aJ G 1600 fe')] ++ lpool G L ∧ FnS cl f' g' st' (stepR (fun k => fnd k L) cl (lnE L) rem).2 ∧ st' + (stepR (fun k => fnd k L) cl (lnE L) rem).2.length = st + rem.length ∧ st < st' ∧ ElS sh (es ++ (stepR (fun k => fnd k L) cl (lnE L) rem).1) fe' ∧ (es ++ (stepR (fun k => fnd k L) cl (lnE L) rem).1).length ≤ 8 * st') := by
  refine ct_of [(0, .ref x), (1, .ref e)] (by decide) (Nat.le_of_ble_eq_true rfl) rfl (fun K hKl hNI C X => ?_)
  subst hKl
  have hpos : 0 < rem.length := List.length_pos_iff.mpr hne
  refine v_aload_n (pc := 0) C 0 d_Fi_takeNext_0 rfl rfl ?_
  refine v_callV (pc := 1) (As := []) (rest := []) C (c_Fi_seekBeginning _ G x t p c st k0 n0 l0 f g cl rem s nt a b m td ks vs mf L hF hst hL hT hM) l_Fi_59 ([(c, aI G 200 g), (e, ob 4 [.ref v, .int (nI ((es).length)), .int (nI sh), .int (nI (shF sh 0 (es)))]), (v, aJ G 1600 fe)] ++ lpool G L) (sp_poolR [2, 8, 9] [0, 1, 3, 4, 5, 6, 7] rfl rfl rfl) 0 rfl rfl rfl rfl rfl (Nat.le_of_ble_eq_true rfl) (by decide) (by decide) (by decide) (by decide) d_Fi_takeNext_1 (fun r w' hq => ?_)
  obtain ⟨rfl, kv, nv, ld, rfl, hb⟩ := hq
  refine v_swap ?_
  show vv K ({ frames := 4, cells := 0, slots := 0, locals := 113 } : Room) G 2 0 0 ([(c, aI G 200 g), (e, ob 4 [.ref v, .int (nI ((es).length)), .int (nI sh), .int (nI (shF sh 0 (es)))]), (v, aJ G 1600 fe), (x, ob 5 [.ref t, .ref s, .ref p, .ref c, .int (nI st), .int (nI (st + rem.length)), .long kv, .int nv, va_rf (ld)]), (p, aI G 200 f), (s, ob 2 [.ref nt, .ref m, .int (nI L.length), va_rf (td)]), (nt, ob 0 [.ref a, .ref b, .int (nI L.length)]), (a, aJ G 500 ks), (b, aI G 500 vs), (m, aL G 500 mf)] ++ lpool G L) 4 [(0, .ref x), (1, .ref e)] []
  cases ho : bestN (fun k => fnd k L) rem (min 3 rem.length) with
  | none =>
    rw [ho] at hb
    have hb : ld = none := hb
    subst hb
    show vv K ({ frames := 4, cells := 0, slots := 0, locals := 113 } : Room) G 2 0 0 ([(c, aI G 200 g), (e, ob 4 [.ref v, .int (nI ((es).length)), .int (nI sh), .int (nI (shF sh 0 (es)))]), (v, aJ G 1600 fe), (x, ob 5 [.ref t, .ref s, .ref p, .ref c, .int (nI st), .int (nI (st + rem.length)), .long kv, .int nv, .null]), (p, aI G 200 f), (s, ob 2 [.ref nt, .ref m, .int (nI L.length), va_rf (td)]), (nt, ob 0 [.ref a, .ref b, .int (nI L.length)]), (a, aJ G 500 ks), (b, aI G 500 vs), (m, aL G 500 mf)] ++ lpool G L) 4 [(0, .ref x), (1, .ref e)] []
    obtain ⟨y, ys, rfl⟩ : ∃ y ys, rem = y :: ys := by
      cases rem with
      | nil => exact absurd rfl hne
      | cons y ys => exact ⟨y, ys, rfl⟩
    have hy := hF.2 0 y rfl
    have hy1 := hF.1 y List.mem_cons_self
    have hsr : stepR (fun k => fnd k L) cl (lnE L) (y :: ys) = (impE y, ys) := by unfold stepR; rw [ho]; rfl
    have hlc : (y :: ys).length = ys.length + 1 := List.length_cons
    refine v_aload_n (pc := 4) C 0 d_Fi_takeNext_4 rfl rfl ?_
    refine v_get (pc := 5) (Cn := "WeightOrder$Finder") (T := T_Fi) (N := 9) (ci := 5) (v := .null) C 3 8 rfl rfl hin_Fi (by decide) rfl k_99 rfl d_Fi_takeNext_5 ?_
    refine v_ifnonnullN (pc := 8) C d_Fi_takeNext_8 ?_
    refine v_aload_n (pc := 11) C 1 d_Fi_takeNext_11 rfl rfl ?_
    refine v_aload_n (pc := 12) C 0 d_Fi_takeNext_12 rfl rfl ?_
    refine v_get (pc := 13) (Cn := "WeightOrder$Finder") (T := T_Fi) (N := 9) (ci := 5) (v := .ref p) C 3 2 rfl rfl hin_Fi (by decide) rfl k_93 rfl d_Fi_takeNext_13 ?_
    refine v_aload_n (pc := 16) C 0 d_Fi_takeNext_16 rfl rfl ?_
    refine v_get (pc := 17) (Cn := "WeightOrder$Finder") (T := T_Fi) (N := 9) (ci := 5) (v := .int (nI st)) C 3 4 rfl rfl hin_Fi (by decide) rfl k_95 rfl d_Fi_takeNext_17 ?_
    refine v_iald (pc := 20) C 4 rfl st rfl (by omega) (by decide) d_Fi_takeNext_20 ?_
    refine v_seti (nI y) hy.1 ?_
    refine v_callV (pc := 21) (As := [.int (nI y)]) (rest := []) C (c_El_appendImplicit _ G e v sh es fe y hsh hE hy1 (by omega)) l_Fi_66 ([(c, aI G 200 g), (x, ob 5 [.ref t, .ref s, .ref p, .ref c, .int (nI st), .int (nI (st + (y :: ys).length)), .long kv, .int nv, .null]), (p, aI G 200 f), (s, ob 2 [.ref nt, .ref m, .int (nI L.length), va_rf (td)]), (nt, ob 0 [.ref a, .ref b, .int (nI L.length)]), (a, aJ G 500 ks), (b, aI G 500 vs), (m, aL G 500 mf)] ++ lpool G L) (sp_poolR [0, 3, 4, 5, 6, 7, 8, 9] [1, 2] rfl rfl rfl) 0 rfl rfl rfl rfl rfl (Nat.le_of_ble_eq_true rfl) (by decide) (by decide) (by decide) (by decide) d_Fi_takeNext_21 (fun r w' hq => ?_)
    obtain ⟨rfl, fe2, rfl, hE2⟩ := hq
    refine v_swap ?_
    show vv K ({ frames := 4, cells := 0, slots := 0, locals := 113 } : Room) G 2 0 0 ([(c, aI G 200 g), (x, ob 5 [.ref t, .ref s, .ref p, .ref c, .int (nI st), .int (nI (st + (y :: ys).length)), .long kv, .int nv, .null]), (p, aI G 200 f), (s, ob 2 [.ref nt, .ref m, .int (nI L.length), va_rf (td)]), (nt, ob 0 [.ref a, .ref b, .int (nI L.length)]), (a, aJ G 500 ks), (b, aI G 500 vs), (m, aL G 500 mf), (e, ob 4 [.ref v, .int (nI ((es ++ impE y).length)), .int (nI sh), .int (nI (shF sh 0 (es ++ impE y)))]), (v, aJ G 1600 fe2)] ++ lpool G L) 24 [(0, .ref x), (1, .ref e)] []
    refine v_aload_n (pc := 24) C 0 d_Fi_takeNext_24 rfl rfl ?_
    refine v_dup (pc := 25) C d_Fi_takeNext_25 rfl ?_
    refine v_get (pc := 26) (Cn := "WeightOrder$Finder") (T := T_Fi) (N := 9) (ci := 5) (v := .int (nI st)) C 1 4 rfl rfl hin_Fi (by decide) rfl k_95 rfl d_Fi_takeNext_26 ?_
    refine v_iconst (pc := 29) C (nI 1) d_Fi_takeNext_29 (by decide +kernel) ?_
    refine v_iadd (pc := 30) C (nI (st + 1)) d_Fi_takeNext_30 (nI_add _ _) ?_
    refine v_put (pc := 31) (Cn := "WeightOrder$Finder") (T := T_Fi) (N := 9) (ci := 5) (v := .int (nI (st + 1))) C 1 4 rfl rfl hin_Fi (by decide) rfl ([(c, aI G 200 g), (x, ob 5 [.ref t, .ref s, .ref p, .ref c, .int (nI (st + 1)), .int (nI (st + (y :: ys).length)), .long kv, .int nv, .null]), (p, aI G 200 f), (s, ob 2 [.ref nt, .ref m, .int (nI L.length), va_rf (td)]), (nt, ob 0 [.ref a, .ref b, .int (nI L.length)]), (a, aJ G 500 ks), (b, aI G 500 vs), (m, aL G 500 mf), (e, ob 4 [.ref v, .int (nI ((es ++ impE y).length)), .int (nI sh), .int (nI (shF sh 0 (es ++ impE y)))]), (v, aJ G 1600 fe2)] ++ lpool G L) t_Fi t_Fi_ok n_Fi (.int) rfl rfl rfl (Nat.le_of_ble_eq_true rfl) rfl rfl k_95 d_Fi_takeNext_31 ?_
    refine v_goto (pc := 34) C 62 d_Fi_takeNext_34 (by decide) ?_
    refine v_wsubP [1, 2, 0, 3, 4, 5, 6, 7, 8, 9] ([(x, ob 5 [.ref t, .ref s, .ref p, .ref c, .int (nI (st + 1)), .int (nI (st + (y :: ys).length)), .long kv, .int nv, .null]), (p, aI G 200 f), (c, aI G 200 g), (s, ob 2 [.ref nt, .ref m, .int (nI L.length), va_rf (td)]), (nt, ob 0 [.ref a, .ref b, .int (nI L.length)]), (a, aJ G 500 ks), (b, aI G 500 vs), (m, aL G 500 mf), (e, ob 4 [.ref v, .int (nI ((es ++ impE y).length)), .int (nI sh), .int (nI (shF sh 0 (es ++ impE y)))]), (v, aJ G 1600 fe2)]) rfl rfl ?_
    exact v_vret (pc := 62) C X d_Fi_takeNext_62 ⟨rfl, st + 1, kv, nv, none, f, g, fe2, by rw [hsr]; rfl, by rw [hsr]; exact fns_drop hF 1, by rw [hsr, hlc]; show st + 1 + ys.length = _; omega, by omega, by rw [hsr]; exact hE2, by rw [hsr]; show (es ++ impE y).length ≤ _; rw [List.length_append, show (impE y).length = 2 from rfl]; omega⟩ (by decide) (by decide)
  | some o =>
    obtain ⟨k, n, i⟩ := o
    rw [ho] at hb
    obtain ⟨rfl, rfl, z, hz, rfl⟩ := hb
    have hbl := bestN_len ho
    obtain ⟨hn1, hn2, hk, hfi⟩ := hbl
    have hn3 : n ≤ 3 := by omega
    have hkp : k < 2097152 ^ n := by rw [hk]; exact keyP_lt hF.1 n (by omega)
    show vv K ({ frames := 4, cells := 0, slots := 0, locals := 113 } : Room) G 2 0 0 ([(c, aI G 200 g), (e, ob 4 [.ref v, .int (nI ((es).length)), .int (nI sh), .int (nI (shF sh 0 (es)))]), (v, aJ G 1600 fe), (x, ob 5 [.ref t, .ref s, .ref p, .ref c, .int (nI st), .int (nI (st + rem.length)), .long (lN k), .int (nI n), .ref z.1.1]), (p, aI G 200 f), (s, ob 2 [.ref nt, .ref m, .int (nI L.length), va_rf (td)]), (nt, ob 0 [.ref a, .ref b, .int (nI L.length)]), (a, aJ G 500 ks), (b, aI G 500 vs), (m, aL G 500 mf)] ++ lpool G L) 4 [(0, .ref x), (1, .ref e)] []
    refine v_aload_n (pc := 4) C 0 d_Fi_takeNext_4 rfl rfl ?_
    refine v_get (pc := 5) (Cn := "WeightOrder$Finder") (T := T_Fi) (N := 9) (ci := 5) (v := .ref z.1.1) C 3 8 rfl rfl hin_Fi (by decide) rfl k_99 rfl d_Fi_takeNext_5 ?_
    refine v_ifnonnull (pc := 8) C 37 d_Fi_takeNext_8 (by decide) ?_
    refine v_aload_n (pc := 37) C 0 d_Fi_takeNext_37 rfl rfl ?_
    refine v_dup (pc := 38) C d_Fi_takeNext_38 rfl ?_
    refine v_get (pc := 39) (Cn := "WeightOrder$Finder") (T := T_Fi) (N := 9) (ci := 5) (v := .int (nI st)) C 3 4 rfl rfl hin_Fi (by decide) rfl k_95 rfl d_Fi_takeNext_39 ?_
    refine v_aload_n (pc := 42) C 0 d_Fi_takeNext_42 rfl rfl ?_
    refine v_get (pc := 43) (Cn := "WeightOrder$Finder") (T := T_Fi) (N := 9) (ci := 5) (v := .int (nI n)) C 3 7 rfl rfl hin_Fi (by decide) rfl k_98 rfl d_Fi_takeNext_43 ?_
    refine v_iadd (pc := 46) C (nI (st + n)) d_Fi_takeNext_46 (nI_add _ _) ?_
    refine v_put (pc := 47) (Cn := "WeightOrder$Finder") (T := T_Fi) (N := 9) (ci := 5) (v := .int (nI (st + n))) C 3 4 rfl rfl hin_Fi (by decide) rfl ([(c, aI G 200 g), (e, ob 4 [.ref v, .int (nI ((es).length)), .int (nI sh), .int (nI (shF sh 0 (es)))]), (v, aJ G 1600 fe), (x, ob 5 [.ref t, .ref s, .ref p, .ref c, .int (nI (st + n)), .int (nI (st + rem.length)), .long (lN k), .int (nI n), .ref z.1.1]), (p, aI G 200 f), (s, ob 2 [.ref nt, .ref m, .int (nI L.length), va_rf (td)]), (nt, ob 0 [.ref a, .ref b, .int (nI L.length)]), (a, aJ G 500 ks), (b, aI G 500 vs), (m, aL G 500 mf)] ++ lpool G L) t_Fi t_Fi_ok n_Fi (.int) rfl rfl rfl (Nat.le_of_ble_eq_true rfl) rfl rfl k_95 d_Fi_takeNext_47 ?_
    refine v_aload_n (pc := 50) C 0 d_Fi_takeNext_50 rfl rfl ?_
    have hdl : (rem.drop n).length = rem.length - n := List.length_drop
    have hen : st + rem.length = st + n + (rem.drop n).length := by omega
    rw [hen]
    show vv K ({ frames := 4, cells := 0, slots := 0, locals := 113 } : Room) G 2 0 0 ([(c, aI G 200 g), (e, ob 4 [.ref v, .int (nI ((es).length)), .int (nI sh), .int (nI (shF sh 0 (es)))]), (v, aJ G 1600 fe), (x, ob 5 [.ref t, .ref s, .ref p, .ref c, .int (nI (st + n)), .int (nI (st + n + (rem.drop n).length)), .long (lN k), .int (nI n), .ref z.1.1]), (p, aI G 200 f), (s, ob 2 [.ref nt, .ref m, .int (nI L.length), va_rf (td)]), (nt, ob 0 [.ref a, .ref b, .int (nI L.length)]), (a, aJ G 500 ks), (b, aI G 500 vs), (m, aL G 500 mf)] ++ lpool G L) 51 [(0, .ref x), (1, .ref e)] [.ref x]
    refine v_callV (pc := 51) (As := []) (rest := []) C (c_Fi_seekBehind _ G x t p c (st + n) k n i z f g cl (rem.drop n) s nt a b m td ks vs mf L (fns_drop hF n) (by omega) hz hkp hn3 hcl hL hT hM) l_Fi_73 ([(e, ob 4 [.ref v, .int (nI ((es).length)), .int (nI sh), .int (nI (shF sh 0 (es)))]), (v, aJ G 1600 fe)] ++ lpool G L) (sp_poolR [1, 2] [3, 4, 0, 5, 6, 7, 8, 9] rfl rfl rfl) 0 rfl rfl rfl rfl rfl (Nat.le_of_ble_eq_true rfl) (by decide) (by decide) (by decide) (by decide) d_Fi_takeNext_51 (fun r w' hq => ?_)
    obtain ⟨rfl, st2, kv2, nv2, z2, f2, g2, rfl, hz2, hF2, hst2⟩ := hq
    refine v_swap ?_
    show vv K ({ frames := 4, cells := 0, slots := 0, locals := 113 } : Room) G 2 0 0 ([(e, ob 4 [.ref v, .int (nI ((es).length)), .int (nI sh), .int (nI (shF sh 0 (es)))]), (v, aJ G 1600 fe), (x, ob 5 [.ref t, .ref s, .ref p, .ref c, .int (nI st2), .int (nI (st + n + (rem.drop n).length)), .long kv2, .int nv2, .ref z2.1.1]), (p, aI G 200 f2), (c, aI G 200 g2), (s, ob 2 [.ref nt, .ref m, .int (nI L.length), va_rf (td)]), (nt, ob 0 [.ref a, .ref b, .int (nI L.length)]), (a, aJ G 500 ks), (b, aI G 500 vs), (m, aL G 500 mf)] ++ lpool G L) 54 [(0, .ref x), (1, .ref e)] []
    obtain ⟨res, hres⟩ : ∃ u, u = beh (fun k => fnd k L) cl k n i 0 [] (rem.drop n) := ⟨_, rfl⟩
    rw [← hres] at hz2 hF2 hst2
    have hsr : stepR (fun k => fnd k L) cl (lnE L) rem = (z2.2.2.1, res.2) := by unfold stepR; rw [ho]; simp only [← hres]; rw [lnE_at hz2]
    have hbl2 := beh_len (fun k => fnd k L) cl (rem.drop n) k n i 0 []
    rw [← hres] at hbl2
    have hbl2 : res.2.length ≤ 0 + (rem.drop n).length := hbl2
    obtain ⟨LA, LB, e1, -, -⟩ := lset_split hz2
    have hzo := hL.2 z2 (List.mem_of_getElem? hz2)
    rw [show lpool G L = lpool G (LA ++ z2 :: LB) by rw [← e1]]
    refine v_lout ?_
    show vv K ({ frames := 4, cells := 0, slots := 0, locals := 113 } : Room) G 2 0 0 ([(e, ob 4 [.ref v, .int (nI ((es).length)), .int (nI sh), .int (nI (shF sh 0 (es)))]), (v, aJ G 1600 fe), (x, ob 5 [.ref t, .ref s, .ref p, .ref c, .int (nI st2), .int (nI (st + n + (rem.drop n).length)), .long kv2, .int nv2, .ref z2.1.1]), (p, aI G 200 f2), (c, aI G 200 g2), (s, ob 2 [.ref nt, .ref m, .int (nI L.length), va_rf (td)]), (nt, ob 0 [.ref a, .ref b, .int (nI L.length)]), (a, aJ G 500 ks), (b, aI G 500 vs), (m, aL G 500 mf), (z2.1.1, ob 1 [.ref z2.1.2.1, .ref z2.1.2.2, .int (nI z2.2.2.1.length)]), (z2.1.2.1, aJ G 8 z2.2.2.2.1), (z2.1.2.2, aZ G 8 z2.2.2.2.2)] ++ lpool G (LA ++ LB)) 54 [(0, .ref x), (1, .ref e)] []
    have hlen2 : (es ++ z2.2.2.1).length = es.length + z2.2.2.1.length := List.length_append
    refine v_aload_n (pc := 54) C 1 d_Fi_takeNext_54 rfl rfl ?_
    refine v_aload_n (pc := 55) C 0 d_Fi_takeNext_55 rfl rfl ?_
    refine v_get (pc := 56) (Cn := "WeightOrder$Finder") (T := T_Fi) (N := 9) (ci := 5) (v := .ref z2.1.1) C 2 8 rfl rfl hin_Fi (by decide) rfl k_99 rfl d_Fi_takeNext_56 ?_
    refine v_callV (pc := 59) (As := [.ref z2.1.1]) (rest := []) C (c_El_appendLine _ G e v z2.1.1 z2.1.2.1 z2.1.2.2 sh es z2.2.2.1 fe z2.2.2.2.1 z2.2.2.2.2 hsh hE hzo.2 hzo.1 (by omega)) l_Fi_76 ([(x, ob 5 [.ref t, .ref s, .ref p, .ref c, .int (nI st2), .int (nI (st + n + (rem.drop n).length)), .long kv2, .int nv2, .ref z2.1.1]), (p, aI G 200 f2), (c, aI G 200 g2), (s, ob 2 [.ref nt, .ref m, .int (nI L.length), va_rf (td)]), (nt, ob 0 [.ref a, .ref b, .int (nI L.length)]), (a, aJ G 500 ks), (b, aI G 500 vs), (m, aL G 500 mf)] ++ lpool G (LA ++ LB)) (sp_poolR [2, 3, 4, 5, 6, 7, 8, 9] [0, 1, 10, 11, 12] rfl rfl rfl) 0 rfl rfl rfl rfl rfl (Nat.le_of_ble_eq_true rfl) (by decide) (by decide) (by decide) (by decide) d_Fi_takeNext_59 (fun r w' hq => ?_)
    obtain ⟨rfl, fe2, rfl, hE2⟩ := hq
    refine v_swap ?_
    show vv K ({ frames := 4, cells := 0, slots := 0, locals := 113 } : Room) G 2 0 0 ([(x, ob 5 [.ref t, .ref s, .ref p, .ref c, .int (nI st2), .int (nI (st + n + (rem.drop n).length)), .long kv2, .int nv2, .ref z2.1.1]), (p, aI G 200 f2), (c, aI G 200 g2), (s, ob 2 [.ref nt, .ref m, .int (nI L.length), va_rf (td)]), (nt, ob 0 [.ref a, .ref b, .int (nI L.length)]), (a, aJ G 500 ks), (b, aI G 500 vs), (m, aL G 500 mf), (e, ob 4 [.ref v, .int (nI ((es ++ z2.2.2.1).length)), .int (nI sh), .int (nI (shF sh 0 (es ++ z2.2.2.1)))]), (v, aJ G 1600 fe2), (z2.1.1, ob 1 [.ref z2.1.2.1, .ref z2.1.2.2, .int (nI z2.2.2.1.length)]), (z2.1.2.1, aJ G 8 z2.2.2.2.1), (z2.1.2.2, aZ G 8 z2.2.2.2.2)] ++ lpool G (LA ++ LB)) 62 [(0, .ref x), (1, .ref e)] []
    refine v_wsubP [0, 1, 2, 3, 4, 5, 6, 7, 8, 9, 10, 11, 12] ([(x, ob 5 [.ref t, .ref s, .ref p, .ref c, .int (nI st2), .int (nI (st + n + (rem.drop n).length)), .long kv2, .int nv2, .ref z2.1.1]), (p, aI G 200 f2), (c, aI G 200 g2), (s, ob 2 [.ref nt, .ref m, .int (nI L.length), va_rf (td)]), (nt, ob 0 [.ref a, .ref b, .int (nI L.length)]), (a, aJ G 500 ks), (b, aI G 500 vs), (m, aL G 500 mf), (e, ob 4 [.ref v, .int (nI ((es ++ z2.2.2.1).length)), .int (nI sh), .int (nI (shF sh 0 (es ++ z2.2.2.1)))]), (v, aJ G 1600 fe2), (z2.1.1, ob 1 [.ref z2.1.2.1, .ref z2.1.2.2, .int (nI z2.2.2.1.length)]), (z2.1.2.1, aJ G 8 z2.2.2.2.1), (z2.1.2.2, aZ G 8 z2.2.2.2.2)]) rfl rfl ?_
    refine v_lin (X := [(x, ob 5 [.ref t, .ref s, .ref p, .ref c, .int (nI st2), .int (nI (st + n + (rem.drop n).length)), .long kv2, .int nv2, .ref z2.1.1]), (p, aI G 200 f2), (c, aI G 200 g2), (s, ob 2 [.ref nt, .ref m, .int (nI L.length), va_rf (td)]), (nt, ob 0 [.ref a, .ref b, .int (nI L.length)]), (a, aJ G 500 ks), (b, aI G 500 vs), (m, aL G 500 mf), (e, ob 4 [.ref v, .int (nI ((es ++ z2.2.2.1).length)), .int (nI sh), .int (nI (shF sh 0 (es ++ z2.2.2.1)))]), (v, aJ G 1600 fe2)]) (x := z2) ?_
    rw [← e1, ← hen]
    exact v_vret (pc := 62) C X d_Fi_takeNext_62 ⟨rfl, st2, kv2, nv2, some z2.1.1, f2, g2, fe2, by rw [hsr]; rfl, by rw [hsr]; exact hF2, by rw [hsr]; show st2 + res.2.length = _; omega, by omega, by rw [hsr]; exact hE2, by rw [hsr]; show (es ++ z2.2.2.1).length ≤ _; omega⟩ (by decide) (by decide)

theorem takeR_nil (fi : Nat → Option Nat) (cl : Nat → Nat) (es : Nat → List E4) (n : Nat) : takeR fi cl es n [] = [] := by cases n <;> rfl
theorem takeR_cons {fi : Nat → Option Nat} {cl : Nat → Nat} {es : Nat → List E4} {n : Nat} {row : List Nat} (h : row ≠ []) : takeR fi cl es (n + 1) row = (stepR fi cl es row).1 ++ takeR fi cl es n (stepR fi cl es row).2 := by
  rw [takeR, if_neg h]

set_option maxHeartbeats 4000000 in
set_option maxRecDepth 100000 in
theorem c_Fi_findElements (l : Launch) (G : Gx) (x t p c e v r u ta tb nc sh en0 es0 eb0 : Nat) (st0 : Nat) (en1 : Int32) (k0 : Int64) (n0 : Int32) (l0 : Option Nat) (f g rf vc : Nat → Int32) (fe kc : Nat → Int64) (cl : Nat → Nat) (rw : List Nat) (Fc : Nat → Option Int32) (s nt a b m : Nat) (td : Option Nat) (ks : Nat → Int64) (vs : Nat → Int32) (mf : Nat → Option Nat) (L : List LnX) (hR : RwS rw rf) (hnc : nc ≤ 512) (hTc : TB kc vc nc Fc) (hcl : ClS Fc cl) (hsh : sh ≤ 1) (hL : LOk L) (hT : TB ks vs L.length (fun j => (fnd j L).map nI)) (hM : MdS L mf) : CT l G y_Fi_findElements b_Fi_findElements 5 none ({ frames := 5, cells := 0, slots := 0, locals := 138 } : Room) ([(x, ob 5 [.ref t, .ref s, .ref p, .ref c, .int (nI st0), .int en1, .long k0, .int n0, va_rf (l0)]), (p, aI G 200 f), (c, aI G 200 g), (s, ob 2 [.ref nt, .ref m, .int (nI L.length), va_rf (td)]), (nt, ob 0 [.ref a, .ref b, .int (nI L.length)]), (a, aJ G 500 ks), (b, aI G 500 vs), (m, aL G 500 mf), (e, ob 4 [.ref v, .int (nI en0), .int (nI es0), .int (nI eb0)]), (v, aJ G 1600 fe), (r, ob 3 [.ref u, .int (nI rw.length)]), (u, aI G 200 rf), (t, ob 0 [.ref ta, .ref tb, .int (nI nc)]), (ta, aJ G 512 kc), (tb, aI G 512 vc)] ++ lpool G L) [.ref x, .ref r, .int (nI sh), .ref e] (fun r' w' => r' = none ∧ ∃ st' en' kv nv ld f' g' fe', w' = [(x, ob 5 [.ref t, .ref s, .ref p, .ref c, .int (nI st'), .int en', .long kv, .int nv, va_rf (ld)]), (p, aI G 200 f'), (c, aI G 200 g'), (s, ob 2 [.ref nt, .ref m, .int (nI L.length), va_rf (td)]), (nt, ob 0 [.ref a, .ref b, .int (nI L.length)]), (a, aJ G 500 ks), (b, aI G 500 vs), (m, aL G 500 mf), (e, ob 4 [.ref v, .int (nI ((takeR (fun k => fnd k L) cl (lnE L) 200 rw).length)), .int (nI sh), .int (nI (shF sh 0 (takeR (fun k => fnd k L) cl (lnE L) 200 rw)))]), (v, aJ G 1600 fe'), (r, ob 3 [.ref u, .int (nI rw.length)]), (u, aI G 200 rf), (t, ob 0 [.ref ta, .ref tb, .int (nI nc)]), (ta, aJ G 512 kc), (tb, aI G 512 vc)] ++ lpool G L ∧ ElS sh (takeR (fun k => fnd k L) cl (lnE L) 200 rw) fe' ∧ (takeR (fun k => fnd k L) cl (lnE L) 200 rw).length ≤ 1600) := by
  refine ct_of [(0, .ref x), (1, .ref r), (2, .int (nI sh)), (3, .ref e)] (by decide) (Nat.le_of_ble_eq_true rfl) rfl (fun K hKl hNI C X => ?_)
  subst hKl
  have hr1 := hR.1
  refine v_aload_n (pc := 0) C 0 d_Fi_findElements_0 rfl rfl ?_
  refine v_aload_n (pc := 1) C 1 d_Fi_findElements_1 rfl rfl ?_
  refine v_callV (pc := 2) (As := [.ref r]) (rest := []) C (c_Fi_load _ G x t s p c r u ta tb nc (nI st0) en1 n0 k0 l0 f g rf vc kc rw Fc cl hR hnc hTc hcl) l_Fi_26 ([(s, ob 2 [.ref nt, .ref m, .int (nI L.length), va_rf (td)]), (nt, ob 0 [.ref a, .ref b, .int (nI L.length)]), (a, aJ G 500 ks), (b, aI G 500 vs), (m, aL G 500 mf), (e, ob 4 [.ref v, .int (nI en0), .int (nI es0), .int (nI eb0)]), (v, aJ G 1600 fe)] ++ lpool G L) (sp_poolR [3, 4, 5, 6, 7, 8, 9] [0, 1, 2, 10, 11, 12, 13, 14] rfl rfl rfl) 0 rfl rfl rfl rfl rfl (Nat.le_of_ble_eq_true rfl) (by decide) (by decide) (by decide) (by decide) d_Fi_findElements_2 (fun r w' hq => ?_)
  obtain ⟨rfl, f1, g1, rfl, hF1⟩ := hq
  refine v_swap ?_
  show vv K ({ frames := 5, cells := 0, slots := 0, locals := 138 } : Room) G 5 0 0 ([(s, ob 2 [.ref nt, .ref m, .int (nI L.length), va_rf (td)]), (nt, ob 0 [.ref a, .ref b, .int (nI L.length)]), (a, aJ G 500 ks), (b, aI G 500 vs), (m, aL G 500 mf), (e, ob 4 [.ref v, .int (nI en0), .int (nI es0), .int (nI eb0)]), (v, aJ G 1600 fe), (x, ob 5 [.ref t, .ref s, .ref p, .ref c, .int (nI 0), .int (nI rw.length), .long k0, .int n0, va_rf (l0)]), (p, aI G 200 f1), (c, aI G 200 g1), (r, ob 3 [.ref u, .int (nI rw.length)]), (u, aI G 200 rf), (t, ob 0 [.ref ta, .ref tb, .int (nI nc)]), (ta, aJ G 512 kc), (tb, aI G 512 vc)] ++ lpool G L) 5 [(0, .ref x), (1, .ref r), (2, .int (nI sh)), (3, .ref e)] []
  refine v_aload_n (pc := 5) C 3 d_Fi_findElements_5 rfl rfl ?_
  refine v_iload_n (pc := 6) C 2 d_Fi_findElements_6 rfl rfl ?_
  refine v_callV (pc := 7) (As := [.int (nI sh)]) (rest := []) C (c_El_begin _ G e v en0 es0 eb0 sh fe hsh) l_Fi_30 ([(s, ob 2 [.ref nt, .ref m, .int (nI L.length), va_rf (td)]), (nt, ob 0 [.ref a, .ref b, .int (nI L.length)]), (a, aJ G 500 ks), (b, aI G 500 vs), (m, aL G 500 mf), (x, ob 5 [.ref t, .ref s, .ref p, .ref c, .int (nI 0), .int (nI rw.length), .long k0, .int n0, va_rf (l0)]), (p, aI G 200 f1), (c, aI G 200 g1), (r, ob 3 [.ref u, .int (nI rw.length)]), (u, aI G 200 rf), (t, ob 0 [.ref ta, .ref tb, .int (nI nc)]), (ta, aJ G 512 kc), (tb, aI G 512 vc)] ++ lpool G L) (sp_poolR [0, 1, 2, 3, 4, 7, 8, 9, 10, 11, 12, 13, 14] [5, 6] rfl rfl rfl) 0 rfl rfl rfl rfl rfl (Nat.le_of_ble_eq_true rfl) (by decide) (by decide) (by decide) (by decide) d_Fi_findElements_7 (fun r w' hq => ?_)
  obtain ⟨rfl, rfl⟩ := hq
  refine v_swap ?_
  show vv K ({ frames := 5, cells := 0, slots := 0, locals := 138 } : Room) G 5 0 0 ([(s, ob 2 [.ref nt, .ref m, .int (nI L.length), va_rf (td)]), (nt, ob 0 [.ref a, .ref b, .int (nI L.length)]), (a, aJ G 500 ks), (b, aI G 500 vs), (m, aL G 500 mf), (x, ob 5 [.ref t, .ref s, .ref p, .ref c, .int (nI 0), .int (nI rw.length), .long k0, .int n0, va_rf (l0)]), (p, aI G 200 f1), (c, aI G 200 g1), (r, ob 3 [.ref u, .int (nI rw.length)]), (u, aI G 200 rf), (t, ob 0 [.ref ta, .ref tb, .int (nI nc)]), (ta, aJ G 512 kc), (tb, aI G 512 vc), (e, ob 4 [.ref v, .int (nI 0), .int (nI sh), .int (nI 0)]), (v, aJ G 1600 fe)] ++ lpool G L) 10 [(0, .ref x), (1, .ref r), (2, .int (nI sh)), (3, .ref e)] []
  refine v_iconst (pc := 10) C (nI 0) d_Fi_findElements_10 (by decide +kernel) ?_
  refine v_istore (pc := 11) C [(4, .int (nI 0)), (0, .ref x), (1, .ref r), (2, .int (nI sh)), (3, .ref e)] d_Fi_findElements_11 (by decide) rfl ?_
  refine v_wsubP [5, 6, 7, 0, 1, 2, 3, 4, 13, 14, 8, 9, 10, 11, 12] ([(x, ob 5 [.ref t, .ref s, .ref p, .ref c, .int (nI 0), .int (nI rw.length), .long k0, .int n0, va_rf (l0)]), (p, aI G 200 f1), (c, aI G 200 g1), (s, ob 2 [.ref nt, .ref m, .int (nI L.length), va_rf (td)]), (nt, ob 0 [.ref a, .ref b, .int (nI L.length)]), (a, aJ G 500 ks), (b, aI G 500 vs), (m, aL G 500 mf), (e, ob 4 [.ref v, .int (nI 0), .int (nI sh), .int (nI 0)]), (v, aJ G 1600 fe), (r, ob 3 [.ref u, .int (nI rw.length)]), (u, aI G 200 rf), (t, ob 0 [.ref ta, .ref tb, .int (nI nc)]), (ta, aJ G 512 kc), (tb, aI G 512 vc)]) rfl rfl ?_
  have loop : ∀ (d : Nat) (j : Nat) (st : Nat) (rem : List Nat) (es : List E4) (kv : Int64) (nv : Int32) (ld : Option Nat) (f2 : Nat → Int32) (g2 : Nat → Int32) (fe2 : Nat → Int64), 200 - j < d → (j ≤ st) → (FnS cl f2 g2 st rem) → (st + rem.length = rw.length) → (ElS sh es fe2) → (es.length ≤ 8 * st) → (j ≤ 200) → (es ++ takeR (fun k => fnd k L) cl (lnE L) (200 - j) rem = takeR (fun k => fnd k L) cl (lnE L) 200 rw) → vv K ({ frames := 5, cells := 0, slots := 0, locals := 138 } : Room) G 5 0 0 ([(x, ob 5 [.ref t, .ref s, .ref p, .ref c, .int (nI st), .int (nI rw.length), .long kv, .int nv, va_rf (ld)]), (p, aI G 200 f2), (c, aI G 200 g2), (s, ob 2 [.ref nt, .ref m, .int (nI L.length), va_rf (td)]), (nt, ob 0 [.ref a, .ref b, .int (nI L.length)]), (a, aJ G 500 ks), (b, aI G 500 vs), (m, aL G 500 mf), (e, ob 4 [.ref v, .int (nI ((es).length)), .int (nI sh), .int (nI (shF sh 0 (es)))]), (v, aJ G 1600 fe2), (r, ob 3 [.ref u, .int (nI rw.length)]), (u, aI G 200 rf), (t, ob 0 [.ref ta, .ref tb, .int (nI nc)]), (ta, aJ G 512 kc), (tb, aI G 512 vc)] ++ lpool G L) 13 [(4, .int (nI j)), (0, .ref x), (3, .ref e)] [] := by
    intro d
    induction d with
    | zero => intro j st rem es kv nv ld f2 g2 fe2 hm; exact absurd hm (Nat.not_lt_zero _)
    | succ d ih =>
      intro j st rem es kv nv ld f2 g2 fe2 hm hj hF hst hE hes hj2 heq
      have hdone : rem = [] → es = takeR (fun k => fnd k L) cl (lnE L) 200 rw := fun h => by rw [← heq, h, takeR_nil, List.append_nil]
      refine v_iload (pc := 13) C 0 d_Fi_findElements_13 rfl ?_
      refine v_sipush (pc := 15) C (nI 200) d_Fi_findElements_15 (by decide +kernel) ?_
      refine v_icmpN_ge (pc := 18) C 43 j 200 d_Fi_findElements_18 (by decide) (by omega) (by omega) (fun hc => ?_) (fun hc => ?_)
      · have hd := hdone (List.eq_nil_of_length_eq_zero (by omega))
        exact v_vret (pc := 43) C X d_Fi_findElements_43 ⟨rfl, st, nI rw.length, kv, nv, ld, f2, g2, fe2, by rw [← hd], by rw [← hd]; exact hE, by rw [← hd]; omega⟩ (by decide) (by decide)
      · refine v_aload_n (pc := 21) C 1 d_Fi_findElements_21 rfl rfl ?_
        refine v_get (pc := 22) (Cn := "WeightOrder$Finder") (T := T_Fi) (N := 9) (ci := 5) (v := .int (nI st)) C 0 4 rfl rfl hin_Fi (by decide) rfl k_95 rfl d_Fi_findElements_22 ?_
        refine v_aload_n (pc := 25) C 1 d_Fi_findElements_25 rfl rfl ?_
        refine v_get (pc := 26) (Cn := "WeightOrder$Finder") (T := T_Fi) (N := 9) (ci := 5) (v := .int (nI rw.length)) C 0 5 rfl rfl hin_Fi (by decide) rfl k_96 rfl d_Fi_findElements_26 ?_
        refine v_icmpN_ge (pc := 29) C 43 st rw.length d_Fi_findElements_29 (by decide) (by omega) (by omega) (fun hd => ?_) (fun hd => ?_)
        · have hd := hdone (List.eq_nil_of_length_eq_zero (by omega))
          exact v_vret (pc := 43) C X d_Fi_findElements_43 ⟨rfl, st, nI rw.length, kv, nv, ld, f2, g2, fe2, by rw [← hd], by rw [← hd]; exact hE, by rw [← hd]; omega⟩ (by decide) (by decide)
        · have hne : rem ≠ [] := fun h => by rw [h, List.length_nil] at hst; omega
          rw [← hst]
          refine v_aload_n (pc := 32) C 1 d_Fi_findElements_32 rfl rfl ?_
          refine v_aload_n (pc := 33) C 2 d_Fi_findElements_33 rfl rfl ?_
          show vv K ({ frames := 5, cells := 0, slots := 0, locals := 138 } : Room) G 5 0 0 ([(x, ob 5 [.ref t, .ref s, .ref p, .ref c, .int (nI st), .int (nI (st + rem.length)), .long kv, .int nv, va_rf (ld)]), (p, aI G 200 f2), (c, aI G 200 g2), (s, ob 2 [.ref nt, .ref m, .int (nI L.length), va_rf (td)]), (nt, ob 0 [.ref a, .ref b, .int (nI L.length)]), (a, aJ G 500 ks), (b, aI G 500 vs), (m, aL G 500 mf), (e, ob 4 [.ref v, .int (nI ((es).length)), .int (nI sh), .int (nI (shF sh 0 (es)))]), (v, aJ G 1600 fe2), (r, ob 3 [.ref u, .int (nI (st + rem.length))]), (u, aI G 200 rf), (t, ob 0 [.ref ta, .ref tb, .int (nI nc)]), (ta, aJ G 512 kc), (tb, aI G 512 vc)] ++ lpool G L) 34 [(4, .int (nI j)), (0, .ref x), (3, .ref e)] [.ref e, .ref x]
          refine v_callV (pc := 34) (As := [.ref e]) (rest := []) C (c_Fi_takeNext _ G x t p c e v st sh kv nv ld f2 g2 fe2 es cl rem s nt a b m td ks vs mf L hF (by omega) hne hsh hE hes (fun y hy => (hcl y hy).2) hL hT hM) l_Fi_43 ([(r, ob 3 [.ref u, .int (nI (st + rem.length))]), (u, aI G 200 rf), (t, ob 0 [.ref ta, .ref tb, .int (nI nc)]), (ta, aJ G 512 kc), (tb, aI G 512 vc)]) (sp_poolC [10, 11, 12, 13, 14] [0, 1, 2, 3, 4, 5, 6, 7, 8, 9] rfl rfl rfl) 0 rfl rfl rfl rfl rfl (Nat.le_of_ble_eq_true rfl) (by decide) (by decide) (by decide) (by decide) d_Fi_findElements_34 (fun r w' hq => ?_)
          obtain ⟨rfl, st3, kv3, nv3, ld3, f3, g3, fe3, rfl, hF3, hst3, hlt3, hE3, hes3⟩ := hq
          show vv K ({ frames := 5, cells := 0, slots := 0, locals := 138 } : Room) G 5 0 0 ([(r, ob 3 [.ref u, .int (nI (st + rem.length))]), (u, aI G 200 rf), (t, ob 0 [.ref ta, .ref tb, .int (nI nc)]), (ta, aJ G 512 kc), (tb, aI G 512 vc), (x, ob 5 [.ref t, .ref s, .ref p, .ref c, .int (nI st3), .int (nI (st + rem.length)), .long kv3, .int nv3, va_rf (ld3)]), (p, aI G 200 f3), (c, aI G 200 g3), (s, ob 2 [.ref nt, .ref m, .int (nI L.length), va_rf (td)]), (nt, ob 0 [.ref a, .ref b, .int (nI L.length)]), (a, aJ G 500 ks), (b, aI G 500 vs), (m, aL G 500 mf), (e, ob 4 [.ref v, .int (nI ((es ++ (stepR (fun k => fnd k L) cl (lnE L) rem).1).length)), .int (nI sh), .int (nI (shF sh 0 (es ++ (stepR (fun k => fnd k L) cl (lnE L) rem).1)))]), (v, aJ G 1600 fe3)] ++ lpool G L) 37 [(4, .int (nI j)), (0, .ref x), (3, .ref e)] []
          rw [hst]
          refine v_iinc (pc := 37) C [(4, .int (nI (j + 1))), (0, .ref x), (3, .ref e)] 0 (nI (j + 1)) d_Fi_findElements_37 rfl (nI_inc1 _) (by decide) rfl ?_
          refine v_goto (pc := 40) C 13 d_Fi_findElements_40 (by decide) ?_
          refine v_wsubP [5, 6, 7, 8, 9, 10, 11, 12, 13, 14, 0, 1, 2, 3, 4] ([(x, ob 5 [.ref t, .ref s, .ref p, .ref c, .int (nI st3), .int (nI rw.length), .long kv3, .int nv3, va_rf (ld3)]), (p, aI G 200 f3), (c, aI G 200 g3), (s, ob 2 [.ref nt, .ref m, .int (nI L.length), va_rf (td)]), (nt, ob 0 [.ref a, .ref b, .int (nI L.length)]), (a, aJ G 500 ks), (b, aI G 500 vs), (m, aL G 500 mf), (e, ob 4 [.ref v, .int (nI ((es ++ (stepR (fun k => fnd k L) cl (lnE L) rem).1).length)), .int (nI sh), .int (nI (shF sh 0 (es ++ (stepR (fun k => fnd k L) cl (lnE L) rem).1)))]), (v, aJ G 1600 fe3), (r, ob 3 [.ref u, .int (nI rw.length)]), (u, aI G 200 rf), (t, ob 0 [.ref ta, .ref tb, .int (nI nc)]), (ta, aJ G 512 kc), (tb, aI G 512 vc)]) rfl rfl ?_
          refine v_lsub [0, 1, 2] [(4, .int (nI (j + 1))), (0, .ref x), (3, .ref e)] rfl ?_
          exact ih (j + 1) st3 (stepR (fun k => fnd k L) cl (lnE L) rem).2 (es ++ (stepR (fun k => fnd k L) cl (lnE L) rem).1) kv3 nv3 ld3 f3 g3 fe3 (by omega) (by omega) hF3 (by omega) hE3 hes3 (by omega) (by rw [← heq, show 200 - j = (200 - (j + 1)) + 1 by omega, takeR_cons hne, List.append_assoc])
  refine v_lsub [0, 1, 4] [(4, .int (nI 0)), (0, .ref x), (3, .ref e)] rfl ?_
  exact loop 201 0 0 rw [] k0 n0 l0 f1 g1 fe (by decide) (Nat.le_refl _) hF1 (Nat.zero_add _) (els_nil _ _) (by decide) (by decide) rfl
end
section
/-! comparison at one level -/
def cmpL : List Nat → List Nat → Int32
  | [], [] => nI 0
  | [], _ :: _ => -1
  | _ :: _, [] => nI 1
  | a :: as, b :: bs => if a < b then -1 else if b < a then nI 1 else cmpL as bs
/-- the weights that are not 0, from place i on -/
def nz (h : Nat → Nat) (n i : Nat) : List Nat := ((List.range' i (n - i)).map h).filter (fun v => v ≠ 0)
theorem nz_end {h : Nat → Nat} {n i : Nat} (hi : n ≤ i) : nz h n i = [] := by
  unfold nz
  rw [show n - i = 0 by omega]
  rfl
theorem nz_cons {h : Nat → Nat} {n i : Nat} (hi : i < n) (hh : h i ≠ 0) : nz h n i = h i :: nz h n (i + 1) := by
  unfold nz
  rw [show n - i = (n - (i + 1)) + 1 by omega, List.range'_succ, List.map_cons, List.filter_cons_of_pos (by simpa using hh)]
theorem nz_skip1 {h : Nat → Nat} {n i : Nat} (hi : i < n) (hh : h i = 0) : nz h n i = nz h n (i + 1) := by
  unfold nz
  rw [show n - i = (n - (i + 1)) + 1 by omega, List.range'_succ, List.map_cons, List.filter_cons_of_neg (by simpa using hh)]
theorem nz_skip {h : Nat → Nat} {n i : Nat} : ∀ j, i ≤ j → j ≤ n → (∀ k, i ≤ k → k < j → h k = 0) → nz h n i = nz h n j := by
  intro j
  induction j with
  | zero => intro h1 h2 h3; rw [show i = 0 by omega]
  | succ j ih =>
    intro h1 h2 h3
    rcases Nat.lt_or_ge i (j + 1) with c | c
    · rw [ih (by omega) (by omega) (fun k a b => h3 k a (by omega)), nz_skip1 (by omega) (h3 j (by omega) (by omega))]
    · rw [show i = j + 1 by omega]
def icmp (a b : Nat) : Int32 := if a < b then -1 else if a = b then nI 0 else nI 1
theorem cmpL_cons (a b : Nat) (as bs : List Nat) : cmpL (a :: as) (b :: bs) = if icmp a b = 0 then cmpL as bs else icmp a b := by
  unfold icmp
  show (if a < b then (-1 : Int32) else if b < a then nI 1 else cmpL as bs) = _
  by_cases h1 : a < b
  · rw [if_pos h1, if_pos h1, if_neg (by decide)]
  · rw [if_neg h1, if_neg h1]
    by_cases h2 : a = b
    · rw [if_pos h2, if_neg (by omega), if_pos (by decide)]
    · rw [if_neg h2, if_pos (by omega), if_neg (by decide)]

set_option maxHeartbeats 4000000 in
set_option maxRecDepth 100000 in
theorem c_In_compare (l : Launch) (G : Gx) (a b : Nat) (ha : a < 65536) (hb : b < 65536) : CT l G y_In_compare b_In_compare 2 (some .int) ({ frames := 0, cells := 0, slots := 0, locals := 0 } : Room) ([]) [.int (nI a), .int (nI b)] (fun r w' => w' = [] ∧ r = some (.int (icmp a b))) := by
  refine ct_of [(0, .int (nI a)), (1, .int (nI b))] (by decide) (Nat.le_of_ble_eq_true rfl) rfl (fun K hKl hNI C X => ?_)
  subst hKl
  refine v_iload_n (pc := 0) C 0 d_In_compare_0 rfl rfl ?_
  refine v_iload_n (pc := 1) C 1 d_In_compare_1 rfl rfl ?_
  refine v_icmpN_ge (pc := 2) C 9 a b d_In_compare_2 (by decide) (by omega) (by omega) (fun h => ?_) (fun h => ?_)
  · refine v_iload_n (pc := 9) C 0 d_In_compare_9 rfl rfl ?_
    refine v_iload_n (pc := 10) C 1 d_In_compare_10 rfl rfl ?_
    refine v_icmpN_ne (pc := 11) C 18 a b d_In_compare_11 (by decide) (by omega) (by omega) (fun h2 => ?_) (fun h2 => ?_)
    · refine v_iconst (pc := 18) C (nI 1) d_In_compare_18 (by decide +kernel) ?_
      exact v_iret (pc := 19) C X d_In_compare_19 ⟨rfl, by unfold icmp; rw [if_neg (by omega), if_neg h2]⟩ (by decide) (by decide)
    · refine v_iconst (pc := 14) C (nI 0) d_In_compare_14 (by decide +kernel) ?_
      refine v_goto (pc := 15) C 19 d_In_compare_15 (by decide) ?_
      exact v_iret (pc := 19) C X d_In_compare_19 ⟨rfl, by unfold icmp; rw [if_neg (by omega), if_pos h2]⟩ (by decide) (by decide)
  · refine v_iconst (pc := 5) C (-1) d_In_compare_5 (by decide +kernel) ?_
    refine v_goto (pc := 6) C 19 d_In_compare_6 (by decide) ?_
    exact v_iret (pc := 19) C X d_In_compare_19 ⟨rfl, by unfold icmp; rw [if_pos h]⟩ (by decide) (by decide)

set_option maxHeartbeats 4000000 in
set_option maxRecDepth 100000 in
theorem c_Wo_levelOrder (l : Launch) (G : Gx) (x y z u n1 s1 b1 n2 s2 b2 k : Nat) (f1 f2 : Nat → Int64) (g1 g2 : Nat → Nat) (hn1 : n1 ≤ 1600) (hn2 : n2 ≤ 1600) (hk : k ≤ 3) (hg1 : ∀ i, i < n1 → f1 i = lN (g1 i) ∧ g1 i < 18446744073709551616) (hg2 : ∀ i, i < n2 → f2 i = lN (g2 i) ∧ g2 i < 18446744073709551616) : CT l G y_Wo_levelOrder b_Wo_levelOrder 7 (some .int) ({ frames := 2, cells := 0, slots := 0, locals := 45 } : Room) ([(x, ob 4 [.ref y, .int (nI n1), .int (nI s1), .int (nI b1)]), (y, aJ G 1600 f1), (z, ob 4 [.ref u, .int (nI n2), .int (nI s2), .int (nI b2)]), (u, aJ G 1600 f2)]) [.ref x, .ref z, .int (nI k)] (fun r w' => w' = [(x, ob 4 [.ref y, .int (nI n1), .int (nI s1), .int (nI b1)]), (y, aJ G 1600 f1), (z, ob 4 [.ref u, .int (nI n2), .int (nI s2), .int (nI b2)]), (u, aJ G 1600 f2)] ∧ r = some (.int (cmpL (nz (fun i => wtN (g1 i) k) n1 0) (nz (fun i => wtN (g2 i) k) n2 0)))) := by
  refine ct_of [(0, .ref x), (1, .ref z), (2, .int (nI k))] (by decide) (Nat.le_of_ble_eq_true rfl) rfl (fun K hKl hNI C X => ?_)
  subst hKl
  refine v_aload_n (pc := 0) C 0 d_Wo_levelOrder_0 rfl rfl ?_
  refine v_iconst (pc := 1) C (nI 0) d_Wo_levelOrder_1 (by decide +kernel) ?_
  refine v_iload_n (pc := 2) C 2 d_Wo_levelOrder_2 rfl rfl ?_
  refine v_callV (pc := 3) (As := [.int (nI 0), .int (nI k)]) (rest := []) C (c_El_nextWithWeight _ G x y n1 s1 b1 f1 g1 0 k hn1 (Nat.zero_le _) hk hg1) l_Wo_132 ([(z, ob 4 [.ref u, .int (nI n2), .int (nI s2), .int (nI b2)]), (u, aJ G 1600 f2)]) (sp_pos [2, 3] [0, 1] rfl rfl rfl) 0 rfl rfl rfl rfl rfl (Nat.le_of_ble_eq_true rfl) (by decide) (by decide) (by decide) (by decide) d_Wo_levelOrder_3 (fun r w' hq => ?_)
  obtain ⟨rfl, i0, rfl, i0a, i0b, i0c, i0d⟩ := hq
  show vv K ({ frames := 2, cells := 0, slots := 0, locals := 45 } : Room) G 7 0 0 ([(z, ob 4 [.ref u, .int (nI n2), .int (nI s2), .int (nI b2)]), (u, aJ G 1600 f2), (x, ob 4 [.ref y, .int (nI n1), .int (nI s1), .int (nI b1)]), (y, aJ G 1600 f1)]) 6 [(0, .ref x), (1, .ref z), (2, .int (nI k))] [.int (nI i0)]
  refine v_istore_n (pc := 6) C [(3, .int (nI i0)), (0, .ref x), (1, .ref z), (2, .int (nI k))] d_Wo_levelOrder_6 rfl (by decide) rfl ?_
  refine v_aload_n (pc := 7) C 2 d_Wo_levelOrder_7 rfl rfl ?_
  refine v_iconst (pc := 8) C (nI 0) d_Wo_levelOrder_8 (by decide +kernel) ?_
  refine v_iload_n (pc := 9) C 3 d_Wo_levelOrder_9 rfl rfl ?_
  refine v_callV (pc := 10) (As := [.int (nI 0), .int (nI k)]) (rest := []) C (c_El_nextWithWeight _ G z u n2 s2 b2 f2 g2 0 k hn2 (Nat.zero_le _) hk hg2) l_Wo_132 ([(x, ob 4 [.ref y, .int (nI n1), .int (nI s1), .int (nI b1)]), (y, aJ G 1600 f1)]) (sp_pos [2, 3] [0, 1] rfl rfl rfl) 0 rfl rfl rfl rfl rfl (Nat.le_of_ble_eq_true rfl) (by decide) (by decide) (by decide) (by decide) d_Wo_levelOrder_10 (fun r w' hq => ?_)
  obtain ⟨rfl, j0, rfl, j0a, j0b, j0c, j0d⟩ := hq
  show vv K ({ frames := 2, cells := 0, slots := 0, locals := 45 } : Room) G 7 0 0 ([(x, ob 4 [.ref y, .int (nI n1), .int (nI s1), .int (nI b1)]), (y, aJ G 1600 f1), (z, ob 4 [.ref u, .int (nI n2), .int (nI s2), .int (nI b2)]), (u, aJ G 1600 f2)]) 13 [(3, .int (nI i0)), (0, .ref x), (1, .ref z), (2, .int (nI k))] [.int (nI j0)]
  refine v_istore (pc := 13) C [(4, .int (nI j0)), (3, .int (nI i0)), (0, .ref x), (1, .ref z), (2, .int (nI k))] d_Wo_levelOrder_13 (by decide) rfl ?_
  refine v_iconst (pc := 15) C (nI 0) d_Wo_levelOrder_15 (by decide +kernel) ?_
  refine v_istore (pc := 16) C [(5, .int (nI 0)), (4, .int (nI j0)), (3, .int (nI i0)), (0, .ref x), (1, .ref z), (2, .int (nI k))] d_Wo_levelOrder_16 (by decide) rfl ?_
  refine v_wsub [0, 1, 2, 3] ([(x, ob 4 [.ref y, .int (nI n1), .int (nI s1), .int (nI b1)]), (y, aJ G 1600 f1), (z, ob 4 [.ref u, .int (nI n2), .int (nI s2), .int (nI b2)]), (u, aJ G 1600 f2)]) rfl rfl ?_
  have loop : ∀ (d : Nat) (tn : Nat) (i : Nat) (j : Nat), n1 - tn < d → (tn ≤ i) → (i ≤ n1) → (j ≤ n2) → (i < n1 → wtN (g1 i) k ≠ 0) → (j < n2 → wtN (g2 j) k ≠ 0) → (cmpL (nz (fun i => wtN (g1 i) k) n1 i) (nz (fun i => wtN (g2 i) k) n2 j) = cmpL (nz (fun i => wtN (g1 i) k) n1 0) (nz (fun i => wtN (g2 i) k) n2 0)) → vv K ({ frames := 2, cells := 0, slots := 0, locals := 45 } : Room) G 7 0 0 ([(x, ob 4 [.ref y, .int (nI n1), .int (nI s1), .int (nI b1)]), (y, aJ G 1600 f1), (z, ob 4 [.ref u, .int (nI n2), .int (nI s2), .int (nI b2)]), (u, aJ G 1600 f2)]) 18 [(5, .int (nI tn)), (4, .int (nI j)), (3, .int (nI i)), (0, .ref x), (1, .ref z), (2, .int (nI k))] [] := by
    intro d
    induction d with
    | zero => intro tn i j hm; exact absurd hm (Nat.not_lt_zero _)
    | succ d ih =>
      intro tn i j hm ht hi hj hi2 hj2 heq
      refine v_iload (pc := 18) C 0 d_Wo_levelOrder_18 rfl ?_
      refine v_sipush (pc := 20) C (nI 1600) d_Wo_levelOrder_20 (by decide +kernel) ?_
      refine v_icmpN_ge (pc := 23) C 103 tn 1600 d_Wo_levelOrder_23 (by decide) (by omega) (by omega) (fun hc => ?_) (fun hc => ?_)
      · have hin : n1 ≤ i := by omega
        refine v_iload_n (pc := 103) C 2 d_Wo_levelOrder_103 rfl rfl ?_
        refine v_aload_n (pc := 104) C 3 d_Wo_levelOrder_104 rfl rfl ?_
        refine v_getN (pc := 105) (Cn := "WeightOrder$Elements") (T := T_El) (N := 4) (ci := 4) (v := .int (nI n1)) C 0 1 rfl rfl hin_El (by decide) rfl k_128 rfl d_Wo_levelOrder_105 ?_
        refine v_icmpN_ge (pc := 108) C 113 i n1 d_Wo_levelOrder_108 (by decide) (by omega) (by omega) (fun ha => ?_) (fun ha => ?_)
        · refine v_iload (pc := 113) C 1 d_Wo_levelOrder_113 rfl ?_
          refine v_aload_n (pc := 115) C 4 d_Wo_levelOrder_115 rfl rfl ?_
          refine v_getN (pc := 116) (Cn := "WeightOrder$Elements") (T := T_El) (N := 4) (ci := 4) (v := .int (nI n2)) C 2 1 rfl rfl hin_El (by decide) rfl k_128 rfl d_Wo_levelOrder_116 ?_
          refine v_icmpN_ge (pc := 119) C 126 j n2 d_Wo_levelOrder_119 (by decide) (by omega) (by omega) (fun hb => ?_) (fun hb => ?_)
          · refine v_iconst (pc := 126) C (nI 0) d_Wo_levelOrder_126 (by decide +kernel) ?_
            exact v_iret (pc := 127) C X d_Wo_levelOrder_127 ⟨rfl, by rw [← heq, nz_end ha, nz_end hb]; rfl⟩ (by decide) (by decide)
          · refine v_iconst (pc := 122) C (-1) d_Wo_levelOrder_122 (by decide +kernel) ?_
            refine v_goto (pc := 123) C 127 d_Wo_levelOrder_123 (by decide) ?_
            exact v_iret (pc := 127) C X d_Wo_levelOrder_127 ⟨rfl, by rw [← heq, nz_end ha, nz_cons hb (hj2 hb)]; rfl⟩ (by decide) (by decide)
        · omega
      · refine v_iload_n (pc := 26) C 2 d_Wo_levelOrder_26 rfl rfl ?_
        refine v_aload_n (pc := 27) C 3 d_Wo_levelOrder_27 rfl rfl ?_
        refine v_getN (pc := 28) (Cn := "WeightOrder$Elements") (T := T_El) (N := 4) (ci := 4) (v := .int (nI n1)) C 0 1 rfl rfl hin_El (by decide) rfl k_128 rfl d_Wo_levelOrder_28 ?_
        refine v_icmpN_ge (pc := 31) C 103 i n1 d_Wo_levelOrder_31 (by decide) (by omega) (by omega) (fun hd => ?_) (fun hd => ?_)
        · refine v_iload_n (pc := 103) C 2 d_Wo_levelOrder_103 rfl rfl ?_
          refine v_aload_n (pc := 104) C 3 d_Wo_levelOrder_104 rfl rfl ?_
          refine v_getN (pc := 105) (Cn := "WeightOrder$Elements") (T := T_El) (N := 4) (ci := 4) (v := .int (nI n1)) C 0 1 rfl rfl hin_El (by decide) rfl k_128 rfl d_Wo_levelOrder_105 ?_
          refine v_icmpN_ge (pc := 108) C 113 i n1 d_Wo_levelOrder_108 (by decide) (by omega) (by omega) (fun ha => ?_) (fun ha => ?_)
          · refine v_iload (pc := 113) C 1 d_Wo_levelOrder_113 rfl ?_
            refine v_aload_n (pc := 115) C 4 d_Wo_levelOrder_115 rfl rfl ?_
            refine v_getN (pc := 116) (Cn := "WeightOrder$Elements") (T := T_El) (N := 4) (ci := 4) (v := .int (nI n2)) C 2 1 rfl rfl hin_El (by decide) rfl k_128 rfl d_Wo_levelOrder_116 ?_
            refine v_icmpN_ge (pc := 119) C 126 j n2 d_Wo_levelOrder_119 (by decide) (by omega) (by omega) (fun hb => ?_) (fun hb => ?_)
            · refine v_iconst (pc := 126) C (nI 0) d_Wo_levelOrder_126 (by decide +kernel) ?_
              exact v_iret (pc := 127) C X d_Wo_levelOrder_127 ⟨rfl, by rw [← heq, nz_end ha, nz_end hb]; rfl⟩ (by decide) (by decide)
            · refine v_iconst (pc := 122) C (-1) d_Wo_levelOrder_122 (by decide +kernel) ?_
              refine v_goto (pc := 123) C 127 d_Wo_levelOrder_123 (by decide) ?_
              exact v_iret (pc := 127) C X d_Wo_levelOrder_127 ⟨rfl, by rw [← heq, nz_end ha, nz_cons hb (hj2 hb)]; rfl⟩ (by decide) (by decide)
          · omega
        · refine v_iload (pc := 34) C 1 d_Wo_levelOrder_34 rfl ?_
          refine v_aload_n (pc := 36) C 4 d_Wo_levelOrder_36 rfl rfl ?_
          refine v_getN (pc := 37) (Cn := "WeightOrder$Elements") (T := T_El) (N := 4) (ci := 4) (v := .int (nI n2)) C 2 1 rfl rfl hin_El (by decide) rfl k_128 rfl d_Wo_levelOrder_37 ?_
          refine v_icmpN_ge (pc := 40) C 103 j n2 d_Wo_levelOrder_40 (by decide) (by omega) (by omega) (fun he => ?_) (fun he => ?_)
          · refine v_iload_n (pc := 103) C 2 d_Wo_levelOrder_103 rfl rfl ?_
            refine v_aload_n (pc := 104) C 3 d_Wo_levelOrder_104 rfl rfl ?_
            refine v_getN (pc := 105) (Cn := "WeightOrder$Elements") (T := T_El) (N := 4) (ci := 4) (v := .int (nI n1)) C 0 1 rfl rfl hin_El (by decide) rfl k_128 rfl d_Wo_levelOrder_105 ?_
            refine v_icmpN_ge (pc := 108) C 113 i n1 d_Wo_levelOrder_108 (by decide) (by omega) (by omega) (fun ha => ?_) (fun ha => ?_)
            · omega
            · refine v_iconst (pc := 111) C (nI 1) d_Wo_levelOrder_111 (by decide +kernel) ?_
              exact v_iret (pc := 112) C X d_Wo_levelOrder_112 ⟨rfl, by rw [← heq, nz_cons ha (hi2 ha), nz_end he]; rfl⟩ (by decide) (by decide)
          · refine v_aload_n (pc := 43) C 3 d_Wo_levelOrder_43 rfl rfl ?_
            refine v_getN (pc := 44) (Cn := "WeightOrder$Elements") (T := T_El) (N := 4) (ci := 4) (v := .ref y) C 0 0 rfl rfl hin_El (by decide) rfl k_126 rfl d_Wo_levelOrder_44 ?_
            refine v_iload_n (pc := 47) C 2 d_Wo_levelOrder_47 rfl rfl ?_
            refine v_lald (pc := 48) C 1 rfl i rfl (by omega) (by decide) d_Wo_levelOrder_48 ?_
            refine v_setl (lN (g1 i)) (hg1 i hd).1 ?_
            refine v_iload_n (pc := 49) C 5 d_Wo_levelOrder_49 rfl rfl ?_
            refine v_callS (pc := 50) (As := [.long (lN (g1 i)), .int (nI k)]) (rest := []) C (c_Wo_weightOf _ G (g1 i) k (hg1 i hd).2 hk) l_Wo_120 ([(x, ob 4 [.ref y, .int (nI n1), .int (nI s1), .int (nI b1)]), (y, aJ G 1600 f1), (z, ob 4 [.ref u, .int (nI n2), .int (nI s2), .int (nI b2)]), (u, aJ G 1600 f2)]) (sp_pos [0, 1, 2, 3] [] rfl rfl rfl) rfl rfl (Nat.le_of_ble_eq_true rfl) (by decide) (by decide) (by decide) (by decide) d_Wo_levelOrder_50 (fun r w' hq => ?_)
            obtain ⟨rfl, rfl⟩ := hq
            show vv K ({ frames := 2, cells := 0, slots := 0, locals := 45 } : Room) G 7 0 0 ([(x, ob 4 [.ref y, .int (nI n1), .int (nI s1), .int (nI b1)]), (y, aJ G 1600 f1), (z, ob 4 [.ref u, .int (nI n2), .int (nI s2), .int (nI b2)]), (u, aJ G 1600 f2)]) 53 [(5, .int (nI tn)), (4, .int (nI j)), (3, .int (nI i)), (0, .ref x), (1, .ref z), (2, .int (nI k))] [.int (nI (wtN (g1 i) k))]
            refine v_aload_n (pc := 53) C 4 d_Wo_levelOrder_53 rfl rfl ?_
            refine v_getN (pc := 54) (Cn := "WeightOrder$Elements") (T := T_El) (N := 4) (ci := 4) (v := .ref u) C 2 0 rfl rfl hin_El (by decide) rfl k_126 rfl d_Wo_levelOrder_54 ?_
            refine v_iload (pc := 57) C 1 d_Wo_levelOrder_57 rfl ?_
            refine v_lald (pc := 59) C 3 rfl j rfl (by omega) (by decide) d_Wo_levelOrder_59 ?_
            refine v_setl (lN (g2 j)) (hg2 j he).1 ?_
            refine v_iload_n (pc := 60) C 5 d_Wo_levelOrder_60 rfl rfl ?_
            refine v_callS (pc := 61) (As := [.long (lN (g2 j)), .int (nI k)]) (rest := [.int (nI (wtN (g1 i) k))]) C (c_Wo_weightOf _ G (g2 j) k (hg2 j he).2 hk) l_Wo_120 ([(x, ob 4 [.ref y, .int (nI n1), .int (nI s1), .int (nI b1)]), (y, aJ G 1600 f1), (z, ob 4 [.ref u, .int (nI n2), .int (nI s2), .int (nI b2)]), (u, aJ G 1600 f2)]) (sp_pos [0, 1, 2, 3] [] rfl rfl rfl) rfl rfl (Nat.le_of_ble_eq_true rfl) (by decide) (by decide) (by decide) (by decide) d_Wo_levelOrder_61 (fun r w' hq => ?_)
            obtain ⟨rfl, rfl⟩ := hq
            show vv K ({ frames := 2, cells := 0, slots := 0, locals := 45 } : Room) G 7 0 0 ([(x, ob 4 [.ref y, .int (nI n1), .int (nI s1), .int (nI b1)]), (y, aJ G 1600 f1), (z, ob 4 [.ref u, .int (nI n2), .int (nI s2), .int (nI b2)]), (u, aJ G 1600 f2)]) 64 [(5, .int (nI tn)), (4, .int (nI j)), (3, .int (nI i)), (0, .ref x), (1, .ref z), (2, .int (nI k))] [.int (nI (wtN (g2 j) k)), .int (nI (wtN (g1 i) k))]
            refine v_callS (pc := 64) (As := [.int (nI (wtN (g1 i) k)), .int (nI (wtN (g2 j) k))]) (rest := []) C (c_In_compare _ G (wtN (g1 i) k) (wtN (g2 j) k) (wtN_lt _ _) (wtN_lt _ _)) l_Wo_136 ([(x, ob 4 [.ref y, .int (nI n1), .int (nI s1), .int (nI b1)]), (y, aJ G 1600 f1), (z, ob 4 [.ref u, .int (nI n2), .int (nI s2), .int (nI b2)]), (u, aJ G 1600 f2)]) (sp_pos [0, 1, 2, 3] [] rfl rfl rfl) rfl rfl (Nat.le_of_ble_eq_true rfl) (by decide) (by decide) (by decide) (by decide) d_Wo_levelOrder_64 (fun r w' hq => ?_)
            obtain ⟨rfl, rfl⟩ := hq
            show vv K ({ frames := 2, cells := 0, slots := 0, locals := 45 } : Room) G 7 0 0 ([(x, ob 4 [.ref y, .int (nI n1), .int (nI s1), .int (nI b1)]), (y, aJ G 1600 f1), (z, ob 4 [.ref u, .int (nI n2), .int (nI s2), .int (nI b2)]), (u, aJ G 1600 f2)]) 67 [(5, .int (nI tn)), (4, .int (nI j)), (3, .int (nI i)), (0, .ref x), (1, .ref z), (2, .int (nI k))] [.int (icmp (wtN (g1 i) k) (wtN (g2 j) k))]
            rw [nz_cons hd (hi2 hd), nz_cons he (hj2 he), cmpL_cons] at heq
            refine v_istore (pc := 67) C [(6, .int (icmp (wtN (g1 i) k) (wtN (g2 j) k))), (5, .int (nI tn)), (4, .int (nI j)), (3, .int (nI i)), (0, .ref x), (1, .ref z), (2, .int (nI k))] d_Wo_levelOrder_67 (by decide) rfl ?_
            refine v_iload (pc := 69) C 0 d_Wo_levelOrder_69 rfl ?_
            refine v_if_eq (pc := 71) C 77 d_Wo_levelOrder_71 (by decide) (fun hz => ?_) (fun hz => ?_)
            · rw [if_pos hz] at heq
              refine v_aload_n (pc := 77) C 4 d_Wo_levelOrder_77 rfl rfl ?_
              refine v_iload_n (pc := 78) C 3 d_Wo_levelOrder_78 rfl rfl ?_
              refine v_iconst (pc := 79) C (nI 1) d_Wo_levelOrder_79 (by decide +kernel) ?_
              refine v_iadd (pc := 80) C (nI (i + 1)) d_Wo_levelOrder_80 (nI_add _ _) ?_
              refine v_iload_n (pc := 81) C 6 d_Wo_levelOrder_81 rfl rfl ?_
              refine v_callV (pc := 82) (As := [.int (nI (i + 1)), .int (nI k)]) (rest := []) C (c_El_nextWithWeight _ G x y n1 s1 b1 f1 g1 (i + 1) k hn1 hd hk hg1) l_Wo_132 ([(z, ob 4 [.ref u, .int (nI n2), .int (nI s2), .int (nI b2)]), (u, aJ G 1600 f2)]) (sp_pos [2, 3] [0, 1] rfl rfl rfl) 0 rfl rfl rfl rfl rfl (Nat.le_of_ble_eq_true rfl) (by decide) (by decide) (by decide) (by decide) d_Wo_levelOrder_82 (fun r w' hq => ?_)
              obtain ⟨rfl, i2, rfl, i2a, i2b, i2c, i2d⟩ := hq
              show vv K ({ frames := 2, cells := 0, slots := 0, locals := 45 } : Room) G 7 0 0 ([(z, ob 4 [.ref u, .int (nI n2), .int (nI s2), .int (nI b2)]), (u, aJ G 1600 f2), (x, ob 4 [.ref y, .int (nI n1), .int (nI s1), .int (nI b1)]), (y, aJ G 1600 f1)]) 85 [(6, .int (icmp (wtN (g1 i) k) (wtN (g2 j) k))), (5, .int (nI tn)), (4, .int (nI j)), (3, .int (nI i)), (0, .ref x), (1, .ref z), (2, .int (nI k))] [.int (nI i2)]
              refine v_istore_n (pc := 85) C [(3, .int (nI i2)), (6, .int (icmp (wtN (g1 i) k) (wtN (g2 j) k))), (5, .int (nI tn)), (4, .int (nI j)), (0, .ref x), (1, .ref z), (2, .int (nI k))] d_Wo_levelOrder_85 rfl (by decide) rfl ?_
              refine v_aload_n (pc := 86) C 5 d_Wo_levelOrder_86 rfl rfl ?_
              refine v_iload (pc := 87) C 3 d_Wo_levelOrder_87 rfl ?_
              refine v_iconst (pc := 89) C (nI 1) d_Wo_levelOrder_89 (by decide +kernel) ?_
              refine v_iadd (pc := 90) C (nI (j + 1)) d_Wo_levelOrder_90 (nI_add _ _) ?_
              refine v_iload_n (pc := 91) C 6 d_Wo_levelOrder_91 rfl rfl ?_
              refine v_callV (pc := 92) (As := [.int (nI (j + 1)), .int (nI k)]) (rest := []) C (c_El_nextWithWeight _ G z u n2 s2 b2 f2 g2 (j + 1) k hn2 he hk hg2) l_Wo_132 ([(x, ob 4 [.ref y, .int (nI n1), .int (nI s1), .int (nI b1)]), (y, aJ G 1600 f1)]) (sp_pos [2, 3] [0, 1] rfl rfl rfl) 0 rfl rfl rfl rfl rfl (Nat.le_of_ble_eq_true rfl) (by decide) (by decide) (by decide) (by decide) d_Wo_levelOrder_92 (fun r w' hq => ?_)
              obtain ⟨rfl, j2, rfl, j2a, j2b, j2c, j2d⟩ := hq
              show vv K ({ frames := 2, cells := 0, slots := 0, locals := 45 } : Room) G 7 0 0 ([(x, ob 4 [.ref y, .int (nI n1), .int (nI s1), .int (nI b1)]), (y, aJ G 1600 f1), (z, ob 4 [.ref u, .int (nI n2), .int (nI s2), .int (nI b2)]), (u, aJ G 1600 f2)]) 95 [(3, .int (nI i2)), (6, .int (icmp (wtN (g1 i) k) (wtN (g2 j) k))), (5, .int (nI tn)), (4, .int (nI j)), (0, .ref x), (1, .ref z), (2, .int (nI k))] [.int (nI j2)]
              refine v_istore (pc := 95) C [(4, .int (nI j2)), (3, .int (nI i2)), (6, .int (icmp (wtN (g1 i) k) (wtN (g2 j) k))), (5, .int (nI tn)), (0, .ref x), (1, .ref z), (2, .int (nI k))] d_Wo_levelOrder_95 (by decide) rfl ?_
              refine v_iinc (pc := 97) C [(5, .int (nI (tn + 1))), (4, .int (nI j2)), (3, .int (nI i2)), (6, .int (icmp (wtN (g1 i) k) (wtN (g2 j) k))), (0, .ref x), (1, .ref z), (2, .int (nI k))] 3 (nI (tn + 1)) d_Wo_levelOrder_97 rfl (nI_inc1 _) (by decide) rfl ?_
              refine v_goto (pc := 100) C 18 d_Wo_levelOrder_100 (by decide) ?_
              refine v_wsub [0, 1, 2, 3] ([(x, ob 4 [.ref y, .int (nI n1), .int (nI s1), .int (nI b1)]), (y, aJ G 1600 f1), (z, ob 4 [.ref u, .int (nI n2), .int (nI s2), .int (nI b2)]), (u, aJ G 1600 f2)]) rfl rfl ?_
              refine v_lsub [0, 1, 2, 4, 5, 6] [(5, .int (nI (tn + 1))), (4, .int (nI j2)), (3, .int (nI i2)), (0, .ref x), (1, .ref z), (2, .int (nI k))] rfl ?_
              exact ih (tn + 1) i2 j2 (by omega) (by omega) i2b j2b i2d j2d (by rw [← heq, ← nz_skip (h := (fun i => wtN (g1 i) k)) i2 i2a i2b i2c, ← nz_skip (h := (fun i => wtN (g2 i) k)) j2 j2a j2b j2c])
            · rw [if_neg hz] at heq
              refine v_iload (pc := 74) C 0 d_Wo_levelOrder_74 rfl ?_
              exact v_iret (pc := 76) C X d_Wo_levelOrder_76 ⟨rfl, by rw [← heq]⟩ (by decide) (by decide)
  refine v_lsub [0, 1, 2, 3, 4, 5] [(5, .int (nI 0)), (4, .int (nI j0)), (3, .int (nI i0)), (0, .ref x), (1, .ref z), (2, .int (nI k))] rfl ?_
  exact loop (n1 + 1) 0 i0 j0 (by omega) (Nat.zero_le _) i0b j0b i0d j0d (by rw [← nz_skip (h := (fun i => wtN (g1 i) k)) i0 i0a i0b i0c, ← nz_skip (h := (fun i => wtN (g2 i) k)) j0 j0a j0b j0c])
end
section
/-! Throws, and their catching by name. What is thrown has a cell of its own; the search of the table may link the rows' names (the tables grow warm). -/
section FH
variable {e : Env} {f : JFrame} {a : Addr}
/-- a row whose name links to what the thing is of -/
theorem fh_hit {Q : Handler → Pre} {E : CtlPost} {d : Bool} {acts : List Action} {s : State} {x : ExceptionTableEntry} {t : List ExceptionTableEntry} {c : ClassId} {cell : Cell} (hx : covers x f.pc = true) (h0 : x.catchType ≠ 0)
    (hl : s.vm.ClassLinks e.platform f.method.cls x.catchType c) (hcell : s.heap[a]? = some cell) (hobj : ∀ k, cell.vm ≠ .statics k)
    (hk : ∃ k, s.vm.classes[cell.cls]? = some k) (hc : ∃ k, s.vm.classes[c]? = some k) (hfit : s.vm.assignable cell.cls c = true) :
    wp (findHandler.go f a (x :: t)) Q E e d acts s ↔ Q (.found x.handlerPc) d acts (s.setVm (s.vm.noted f.method.cls x.catchType (.cls c))) := by
  have hx' := hx
  simp only [covers] at hx'
  have hg := (resolveClass_links e.toSetting hl).op (op := VmOp.resolveClass f.method.cls x.catchType) rfl
  have hal : s.vm.Alike (s.vm.noted f.method.cls x.catchType (.cls c)) := (Vm.Alike.refl s.vm).noted _ _ _
  obtain ⟨k1, hk1⟩ := hk
  obtain ⟨k2, hk2⟩ := hc
  obtain ⟨k3, hk3, -⟩ := hal.2.2 _ _ hk1
  obtain ⟨k4, hk4, -⟩ := hal.2.2 _ _ hk2
  have hf2 : (s.vm.noted f.method.cls x.catchType (.cls c)).assignable cell.cls c = true := by rw [hal.assignable]; exact hfit
  simp [findHandler.go, hx', h0, hg.1, hg.2, hcell, hobj, hk3, hk4, hf2, VmOp.dirties, VmOp.acts]
/-- a row whose name links to something else -/
theorem fh_miss {Q : Handler → Pre} {E : CtlPost} {d : Bool} {acts : List Action} {s : State} {x : ExceptionTableEntry} {t : List ExceptionTableEntry} {c : ClassId} {cell : Cell} (hx : covers x f.pc = true) (h0 : x.catchType ≠ 0)
    (hl : s.vm.ClassLinks e.platform f.method.cls x.catchType c) (hcell : s.heap[a]? = some cell) (hobj : ∀ k, cell.vm ≠ .statics k)
    (hk : ∃ k, s.vm.classes[cell.cls]? = some k) (hc : ∃ k, s.vm.classes[c]? = some k) (hno : s.vm.assignable cell.cls c = false) :
    wp (findHandler.go f a (x :: t)) Q E e d acts s ↔ wp (findHandler.go f a t) Q E e d acts (s.setVm (s.vm.noted f.method.cls x.catchType (.cls c))) := by
  have hx' := hx
  simp only [covers] at hx'
  have hg := (resolveClass_links e.toSetting hl).op (op := VmOp.resolveClass f.method.cls x.catchType) rfl
  have hal : s.vm.Alike (s.vm.noted f.method.cls x.catchType (.cls c)) := (Vm.Alike.refl s.vm).noted _ _ _
  obtain ⟨k1, hk1⟩ := hk
  obtain ⟨k2, hk2⟩ := hc
  obtain ⟨k3, hk3, -⟩ := hal.2.2 _ _ hk1
  obtain ⟨k4, hk4, -⟩ := hal.2.2 _ _ hk2
  have hf2 : (s.vm.noted f.method.cls x.catchType (.cls c)).assignable cell.cls c = false := by rw [hal.assignable]; exact hno
  simp [findHandler.go, hx', h0, hg.1, hg.2, hcell, hobj, hk3, hk4, hf2, VmOp.dirties, VmOp.acts]
/-- the search passes the rows 'pre' (their names link to other things) and ends at x -/
theorem fh_rows {s₀ : State} {cell : Cell} (hobj : ∀ k, cell.vm ≠ .statics k) (hk0 : ∃ k, s₀.vm.classes[cell.cls]? = some k) {x : ExceptionTableEntry} {rest : List ExceptionTableEntry} (hx : covers x f.pc = true) (h0 : x.catchType ≠ 0) {c : ClassId}
    (hl : s₀.vm.ClassLinks e.platform f.method.cls x.catchType c) (hfit : s₀.vm.assignable cell.cls c = true) :
    ∀ (pre : List ExceptionTableEntry) (S : State), s₀.WarmedH S.vm → S.heap[a]? = some cell → (∀ y ∈ pre, covers y f.pc = true ∧ y.catchType ≠ 0 ∧ ∃ c, s₀.vm.ClassLinks e.platform f.method.cls y.catchType c ∧ s₀.vm.assignable cell.cls c = false) →
      ∃ vm', s₀.WarmedH vm' ∧ ∀ (Q : Handler → Pre) (E : CtlPost) (d : Bool) (acts : List Action), wp (findHandler.go f a (pre ++ x :: rest)) Q E e d acts S ↔ Q (.found x.handlerPc) d acts (S.setVm vm') := by
  obtain ⟨k0, hk0⟩ := hk0
  intro pre
  induction pre with
  | nil =>
    intro S hW hcell _
    obtain ⟨k1, hk1, -⟩ := hW.alike.2.2 _ _ hk0
    obtain ⟨dk, _, _, kt, hd, _, _, _, _, hkt, _, hopen⟩ := hl.here
    obtain ⟨k2, hk2, -⟩ := hW.alike.2.2 _ _ hkt
    refine ⟨_, hW.noted hd hopen (State.rightAt_cls hl), fun Q E d acts => ?_⟩
    exact fh_hit hx h0 (hW.classLinks hl) hcell hobj ⟨k1, hk1⟩ ⟨k2, hk2⟩ (by rw [hW.alike.assignable]; exact hfit)
  | cons y ys ih =>
    intro S hW hcell hp
    obtain ⟨k1, hk1, -⟩ := hW.alike.2.2 _ _ hk0
    obtain ⟨hy, hy0, c2, hl2, hno⟩ := hp y List.mem_cons_self
    obtain ⟨dk, _, _, kt, hd, _, _, _, _, hkt, _, hopen⟩ := hl2.here
    obtain ⟨k2, hk2, -⟩ := hW.alike.2.2 _ _ hkt
    obtain ⟨vm', hW', hq⟩ := ih (S.setVm (S.vm.noted f.method.cls y.catchType (.cls c2))) (hW.noted hd hopen (State.rightAt_cls hl2)) hcell (fun z hz => hp z (List.mem_cons_of_mem _ hz))
    refine ⟨vm', hW', fun Q E d acts => ?_⟩
    rw [List.cons_append, fh_miss hy hy0 (hW.classLinks hl2) hcell hobj ⟨k1, hk1⟩ ⟨k2, hk2⟩ (by rw [hW.alike.assignable]; exact hno)]
    exact hq Q E d acts
/-- the machine's step out of a throw into its row -/
theorem fh_step {s : State} {r : List Frame} {pc : Nat} {vm' : Vm} (hfind : ∀ (Q : Handler → Pre) (E : CtlPost) (d : Bool) (acts : List Action), wp (findHandler f a) Q E e d acts s ↔ Q (.found pc) d acts (s.setVm vm')) :
    (stepThrowing e s a (.java f :: r)).Is ((s.setVm vm').setFrames (.java { f with pc := pc, stack := [.ref a] } :: r)) [] := by
  simp only [stepThrowing, searchFrame, vmDo]
  generalize hr : Sem.go _ e false [] s = res
  obtain ⟨as, rfl, ha⟩ := Sem.eq_ok_of hr (a := Handler.found pc) (s' := s.setVm vm') (acts' := []) (by simp [hfind])
  exact ⟨rfl, ha⟩
theorem fh_frames (u : State) (vm' : Vm) (F G : List Frame) : ((u.setFrames F).setVm vm').setFrames G = (u.setVm vm').setFrames G := by
  rw [show (u.setFrames F).setVm vm' = (u.setVm vm').setFrames F from rfl, State.setFrames_setFrames]
theorem fh_caught {p : Program} {l : Launch} {R : Room} {s : State} {m : MethodId} {args : Array Value} {below : List Frame} {meth : Method} {c : Code} {T : State} {locs : List Loc} {cells slots : Nat} (X : Stand p l e R s m args below meth c T locs cells slots) {g : JFrame} (hg : g.method = m)
    {cell : Cell} (hcell : T.heap[a]? = some cell) (hobj : cell.vm.isStatics = false) (hk0 : ∃ k, s.vm.classes[cell.cls]? = some k)
    (pre : List ExceptionTableEntry) (x : ExceptionTableEntry) (rest : List ExceptionTableEntry) (hsplit : c.exceptionTable.toList = pre ++ x :: rest)
    (hpass : ∀ y ∈ pre, covers y g.pc = true ∧ y.catchType ≠ 0 ∧ ∃ c, s.vm.ClassLinks e.platform m.cls y.catchType c ∧ s.vm.assignable cell.cls c = false) (hx : covers x g.pc = true) (h0 : x.catchType ≠ 0) {k : ClassId}
    (hl : s.vm.ClassLinks e.platform m.cls x.catchType k) (hfit : s.vm.assignable cell.cls k = true) :
    ∃ vm', Stand p l e R s m args below meth c (T.setVm vm') locs cells slots ∧
      ∀ target, Steps p.tables e below ((T.setVm vm').setTop { g with pc := x.handlerPc, stack := [.ref a] }) target → Steps p.tables e below ((T.setTop g).pushFrame (.throwing a)) target := by
  subst hg
  obtain ⟨vm', hW', hq⟩ := fh_rows (e := e) (f := g) (a := a) (s₀ := s) (VmData.ne_statics_of hobj) hk0 (rest := rest) hx h0 hl hfit pre ((T.setTop g).pushFrame (.throwing a)) X.warmed hcell hpass
  refine ⟨vm', X.noted hW', fun target hrest => ?_⟩
  have h := X.here
  obtain ⟨hgo, hw⟩ := h.throwing a
  refine Steps.head hgo hw ?_
  have hfind : ∀ (Q : Handler → Pre) (E : CtlPost) (d : Bool) (acts : List Action), wp (findHandler g a) Q E e d acts ((T.setTop g).pushFrame (.throwing a)) ↔ Q (.found x.handlerPc) d acts (((T.setTop g).pushFrame (.throwing a)).setVm vm') := by
    intro Q E d acts
    rw [W.findHandler_eq (s := (T.setTop g).pushFrame (.throwing a)) (meth := meth) (code := c) X.method' X.code, hsplit]
    exact hq Q E d acts
  rw [stepThread_throwing (frames_entered h.top _), (fh_step hfind).1]
  obtain ⟨g₀, hg0⟩ := Option.isSome_iff_exists.mp h.top
  obtain ⟨r, hr⟩ := State.topJava?_eq_some.mp hg0
  have hr' : (T.setVm vm').frames = .java g₀ :: r := hr
  rw [State.setTop_of_frames _ hr'] at hrest
  rw [hr, List.tail_cons, State.pushFrame, fh_frames, State.setTop_of_frames _ hr, fh_frames]
  exact hrest
end FH
section CTXS
/-- the two statics that a Throwable's making reads lie outside A -/
def zs (A : Nat → Prop) (U : State) (H : Heap) : Prop := vx_Zq Bundle.tN "UNASSIGNED_STACK" Bundle.steD A U H ∧ vx_Zq Bundle.tN "SUPPRESSED_SENTINEL" Bundle.listD A U H
theorem zs_moved {A : Nat → Prop} {u U : State} {H : Heap} (hvm : u.vm.Alike U.vm) (h : zs A u H) : zs A U H := ⟨h.1.moved hvm, h.2.moved hvm⟩
theorem zs_kept {A : Nat → Prop} {U : State} {H H1 : Heap} (h : zs A U H) (hq : ∀ a : Nat, a < H.size → ¬ A a → H1[a]? = H[a]?) : zs A U H1 := ⟨h.1.kept hq, h.2.kept hq⟩
theorem zs_narrow {A B : Nat → Prop} {U : State} {H : Heap} (h : zs A U H) (hAB : ∀ q, B q → A q) : zs B U H := ⟨h.1.narrow hAB, h.2.narrow hAB⟩
def pcx (G : Gx) (w : va_W) (sz : Nat) (U : State) : Prop := pcn G w sz U ∧ zs (va_A w sz) U U.heap
def xc (G : Gx) (w : va_W) (sz : Nat) (xp : String → va_W → Prop) : String → State → State → Prop := fun E st t => ∃ w', xp E w' ∧ va_P G.1 cls w' t.heap ∧ va_D (va_A w sz) w' ∧ va_F (va_A w sz) st t
/-- the contract of a method that returns or throws -/
def CTX (l : Launch) (G : Gx) (y : MethodName) (cc : ByteArray) (maxL : Nat) (ret : Option FieldType) (rm : Room) (w : va_W) (av : List Value) (post : Option Value → va_W → Prop) (xp : String → va_W → Prop) : Prop :=
  ∀ sz : Nat, vx_Met l y (Cond.code y cc maxL ret :: gwords) rm (va_Pc av (pcx G w sz)) (qc G w sz post) (xc G w sz xp) rm.cells rm.slots (va_A w sz)
/-- how a walk may throw -/
def XX (K : Kx) (R : Room) (G : Gx) (w0 : va_W) (post : Option Value → va_W → Prop) (xp : String → va_W → Prop) : Prop :=
  match K with
  | (_, l, _, s, _, args, below, meth, c, Q, A) => l.stackTraces = false ∧ meth.locks = false ∧ A = va_A w0 s.heap.size ∧ (∀ x ∈ c.exceptionTable.toList, False) ∧ zs A s s.heap ∧ Q = vx_MQ below (qc G w0 s.heap.size post) (xc G w0 s.heap.size xp) args s R.cells R.slots (va_A w0 s.heap.size)
theorem pcx_blind {G : Gx} {w : va_W} {sz : Nat} {av : List Value} : FrameBlind (va_Pc av (pcx G w sz)) := by
  intro a U g mk h
  obtain ⟨h0, ⟨h1, h2, h3, h4, h5⟩, h6⟩ := h
  exact ⟨h0, ⟨h1, h2, va_K.moved (u := U) (U := U.calling g mk a) (Vm.Alike.refl U.vm) h3, h4, nw_same (u := U) (U := U.calling g mk a) rfl h5⟩, zs_moved (u := U) (U := U.calling g mk a) (Vm.Alike.refl U.vm) h6⟩
theorem ctx_of {l : Launch} {G : Gx} {y : MethodName} {cc : ByteArray} {maxL : Nat} {ret : Option FieldType} {rm : Room} {w : va_W} {av : List Value} {post : Option Value → va_W → Prop} {xp : String → va_W → Prop} (htr : l.stackTraces = false) (lv0 : List (Nat × Value)) (hy : plainName y.cls = true) (hlen : (lg_sl av).length ≤ maxL) (hlv : lv_args 0 av = lv0)
    (body : ∀ K : Kx, Kl K = l → CX K G maxL cc y.cls → RX K rm G ret w post → XX K rm G w post xp → vv K rm G maxL 0 0 w 0 lv0 []) : CTX l G y cc maxL ret rm w av post xp := by
  intro sz
  refine vx_ofW (cc := cc) (maxL := maxL) (ret := ret) hy rfl ?_
  intro p e s m args below meth c s₁ B hml htab hv
  obtain ⟨rfl, ⟨rfl, hP, hK, hD, hN⟩, hZ⟩ := hv
  have hts := atoms_spec (ws := Cond.code y cc maxL ret :: gwords) B.pre
  have hown : s.vm.findClass y.cls = some m.cls := findClass_of_methodNamed B.named
  rw [lg_entry_eq]
  have hl := lv_entry av (n := maxL) hlen
  rw [hlv] at hl
  exact body (p, l, e, s, m, av.toArray, below, meth, c, vx_MQ below (qc G w s.heap.size post) (xc G w s.heap.size xp) av.toArray s rm.cells rm.slots (va_A w s.heap.size), va_A w s.heap.size) rfl ⟨B.exec, B.bytes, hml, hown, fun x h => hts x (List.mem_cons_of_mem _ h), hN, hK, fun q h => Or.inr h⟩ ⟨B.returns, B.notSynchronized, rfl, fun H locs cells slots g h => vx_ret h⟩ ⟨htr, B.notSynchronized, rfl, htab, hZ, rfl⟩ s.heap [] _ hP hD.self va_S.rf hl
theorem nw_use {x : Cond} {s : State} {args : Array Value} (hx : x ∈ nwords) (h : va_Nw x s) : x.before args s = true := by
  have hg : nestWord x = true := (List.mem_filter.mp hx).2
  cases x <;> first | exact h.use rfl | exact absurd hg Bool.false_ne_true | skip
  rename_i ty
  cases ty <;> first | exact (va_AO.of h).use | exact absurd hg Bool.false_ne_true
abbrev xnames : List String := ["java/lang/RuntimeException", "java/lang/Exception"]
/-- the words of a throw are there -/
def ThW (own : String) (ik ic : Nat) (E : String) : Prop := Bundle.fit E = true ∧ Cond.classLink own ik E ∈ gwords ∧ Cond.initialized E ∈ gwords ∧ (∀ x ∈ vx_at0 own ic E xnames, (x ∈ lw_tbl ∧ goodWord x = true) ∨ (x ∈ tables_1 ∧ nestWord x = true)) ∧ (∀ x ∈ Cond.classLink own ik E :: Cond.initialized E :: vx_at0 own ic E xnames, vx_ot x = true)
variable {K : Kx} {R : Room} {G : Gx} {nL cells slots : Nat} {w w0 : va_W} {pc : Nat} {lv : List (Nat × Value)} {st : List Value} {cc : ByteArray} {own : String} {post : Option Value → va_W → Prop} {xp : String → va_W → Prop}
theorem v_throw (C : CX K G nL cc own) (X : XX K R G w0 post xp) (E : String) {ik ic : Nat} (hT : ThW own ik ic E) (d0 : decode cc pc = .ok (.new ik, 3)) (d3 : decode cc (pc + 3) = .ok (.dup, 1)) (d4 : decode cc (pc + 4) = .ok (.invokespecial ic, 3)) (d7 : decode cc (pc + 7) = .ok (.athrow, 1))
    (hfr : 5 < R.frames) (hlo : (st.map fun v => v.category).sum + 81 ≤ R.locals) (h1 : cells + 1 ≤ R.cells) (h2 : slots + 6 ≤ R.slots) (hq : xp E w) : vv K R G nL cells slots w pc lv st := by
  obtain ⟨p, l, e, s, m, args, below, meth, c, Q, A⟩ := K
  obtain ⟨htr, hlk, hA, htab, hZ, hQ⟩ := X
  intro H locs ls hP hD hS hl
  subst hA; subst hQ
  refine vx_throw0 (names := xnames) C.1 C.2.1 htr C.2.2.2.1 hT.1 (by decide) (C.2.2.2.2.1 _ hT.2.1) (C.2.2.2.2.1 _ hT.2.2.1) (fun x hx => ?_) hT.2.2.2.2 hZ.1 hZ.2 hS (hl.1.trans C.2.2.1.symm) d0 d3 d4 d7 (fun x hx => (htab x hx).elim) hfr hlo h1 h2 hlk (fun t hvm hz hk => ?_) hS.2.2 h1 h2
  · rcases hT.2.2.2.1 x hx with h | h
    · exact C.2.2.2.2.1 x (List.mem_filter.mpr h)
    · exact nw_use (List.mem_filter.mpr h) (C.2.2.2.2.2.1 x (List.mem_filter.mpr h))
  · refine ⟨w, hq, hP.kept (fun k q hk' => hk q.1 (hP k q hk').lt), hD, Nat.le_trans hS.1 hz, fun q hq2 hn => ?_⟩
    rw [hk q (Nat.lt_of_lt_of_le hq2 hS.1)]
    exact hS.2.1 q hq2 hn
end CTXS
set_option maxRecDepth 100000 in
theorem th_IAE : ThW "WeightOrder" 56 58 "java/lang/IllegalArgumentException" := ⟨by decide +kernel, k_171, k_11, by decide +kernel, by decide +kernel⟩
set_option maxRecDepth 100000 in
theorem th_IOO : ThW "WeightOrder" 79 81 "java/lang/IndexOutOfBoundsException" := ⟨by decide +kernel, k_277, k_13, by decide +kernel, by decide +kernel⟩
end
section
/-! WeightOrder: its state, what each call answers, the calls -/
abbrev RwX : Type := (Nat × Nat) × List Nat × (Nat → Int32)
def rcells (G : Gx) (y : RwX) : va_W := [(y.1.1, ob 3 [.ref y.1.2, .int (nI y.2.1.length)]), (y.1.2, aI G 200 y.2.2)]
def rpool (G : Gx) (RL : List RwX) : va_W := RL.flatMap (rcells G)
theorem rpool_app (G : Gx) (L M : List RwX) : rpool G (L ++ M) = rpool G L ++ rpool G M := List.flatMap_append ..
theorem rpool_cons (G : Gx) (x : RwX) (L : List RwX) : rpool G (x :: L) = rcells G x ++ rpool G L := rfl
section PR2
variable {K : Kx} {R : Room} {G : Gx} {nL cells slots : Nat} {pc : Nat} {lv : List (Nat × Value)} {st : List Value} {X Y P Q : va_W} {A B : List RwX} {y : RwX}
theorem sp_pool2 {Xr Xc : va_W} (isR isC : List Nat) (hR : isR.map (fun i => X[i]?) = Xr.map some) (hC : isC.map (fun i => X[i]?) = Xc.map some) (hn : va_nd (isR ++ isC) = true) : Sp (X ++ (P ++ Q)) (Xr ++ P) (Xc ++ Q) := by
  have gl : ∀ {k : Nat} {z : Nat × va_E}, P[k]? = some z → (X ++ (P ++ Q))[X.length + k]? = some z := fun {k z} h => by rw [List.getElem?_append_right (Nat.le_add_right _ _), Nat.add_sub_cancel_left]; exact sp_get h
  have gr : ∀ {k : Nat} {z : Nat × va_E}, Q[k]? = some z → (X ++ (P ++ Q))[X.length + (P.length + k)]? = some z := fun {k z} h => by rw [List.getElem?_append_right (Nat.le_add_right _ _), Nat.add_sub_cancel_left, List.getElem?_append_right (Nat.le_add_right _ _), Nat.add_sub_cancel_left]; exact h
  refine ⟨fun D H hP => ⟨?_, ?_⟩, fun A hD => ?_⟩
  · exact va_P.app (fun k z hq => by obtain ⟨i, -, h⟩ := sp_at hR hq; exact hP i z (sp_get h)) (fun k z hq => hP _ z (gl hq))
  · exact va_P.app (fun k z hq => by obtain ⟨i, -, h⟩ := sp_at hC hq; exact hP i z (sp_get h)) (fun k z hq => hP _ z (gr hq))
  · have h1 := hD.part (isR ++ isC) hn (cx := Xr ++ Xc) (by rw [List.map_append, List.map_append, hR, hC])
    refine va_D_perm ?_ h1
    rw [List.append_assoc, List.append_assoc]
    refine List.Perm.append_left Xr ?_
    rw [← List.append_assoc, ← List.append_assoc]
    exact List.Perm.append_right Q List.perm_append_comm
theorem v_mix (kk : vv K R G nL cells slots ((X ++ Y) ++ (P ++ Q)) pc lv st) : vv K R G nL cells slots ((X ++ P) ++ (Y ++ Q)) pc lv st := by
  refine v_perm _ ?_ kk
  rw [List.append_assoc, List.append_assoc]
  refine List.Perm.append_left X ?_
  rw [← List.append_assoc, ← List.append_assoc]
  exact List.Perm.append_right Q List.perm_append_comm
theorem rout_perm : (X ++ (rpool G (A ++ y :: B) ++ Q)).Perm ((X ++ rcells G y) ++ (rpool G (A ++ B) ++ Q)) := by
  rw [List.append_assoc]
  refine List.Perm.append_left X ?_
  rw [rpool_app, rpool_app, rpool_cons, ← List.append_assoc, ← List.append_assoc, ← List.append_assoc]
  exact List.Perm.append_right Q (List.Perm.append_right (rpool G B) List.perm_append_comm)
theorem v_rout (kk : vv K R G nL cells slots ((X ++ rcells G y) ++ (rpool G (A ++ B) ++ Q)) pc lv st) : vv K R G nL cells slots (X ++ (rpool G (A ++ y :: B) ++ Q)) pc lv st := v_perm _ rout_perm kk
theorem v_rin (kk : vv K R G nL cells slots (X ++ (rpool G (A ++ y :: B) ++ Q)) pc lv st) : vv K R G nL cells slots ((X ++ rcells G y) ++ (rpool G (A ++ B) ++ Q)) pc lv st := v_perm _ rout_perm.symm kk
/-- one Line out, behind the rows -/
theorem v_lout2 {LA LB : List LnX} {z : LnX} (kk : vv K R G nL cells slots ((X ++ lcells G z) ++ (P ++ lpool G (LA ++ LB))) pc lv st) : vv K R G nL cells slots (X ++ (P ++ lpool G (LA ++ z :: LB))) pc lv st := by
  refine v_perm _ ?_ kk
  rw [← List.append_assoc]
  refine (lpool_out G (X ++ P) LA LB z).trans ?_
  rw [List.append_assoc, List.append_assoc, List.append_assoc, ← List.append_assoc P]
  exact List.Perm.append_left X List.perm_append_comm
theorem v_lin2 {LA LB : List LnX} {z : LnX} (kk : vv K R G nL cells slots (X ++ (P ++ lpool G (LA ++ z :: LB))) pc lv st) : vv K R G nL cells slots ((X ++ lcells G z) ++ (P ++ lpool G (LA ++ LB))) pc lv st := by
  refine v_perm _ ?_ kk
  refine List.Perm.symm ?_
  rw [← List.append_assoc]
  refine (lpool_out G (X ++ P) LA LB z).trans ?_
  rw [List.append_assoc, List.append_assoc, List.append_assoc, ← List.append_assoc P]
  exact List.Perm.append_left X List.perm_append_comm
end PR2
/-- the state as the document has it: classes of points, lines, the one told last, rows -/
abbrev Sg : Type := (Nat → Nat) × List (Nat × List E4) × Option Nat × List (List Nat)
def esA (A : List (Nat × List E4)) (j : Nat) : List E4 := (A[j]?.map (·.2)).getD []
def els (σ : Sg) (j : Nat) : List E4 := takeR (fun k => fndA k σ.2.1) σ.1 (esA σ.2.1) 200 (σ.2.2.2.getD j [])
theorem lnE_abs (L : List LnX) (j : Nat) : lnE L j = esA (absL L) j := by
  unfold lnE esA absL
  rw [List.getElem?_map]
  cases L[j]? <;> rfl
def comp (e : E4) (w : Nat) : Nat := if w = 0 then e.1 else if w = 1 then e.2.1 else if w = 2 then e.2.2.1 else e.2.2.2
def lvlL (q : List E4) (w : Nat) : List Nat := (q.map (comp · w)).filter (fun v => v ≠ 0)
def cmpTo (q r : List E4) : Nat → Int32
  | 0 => nI 0
  | k + 1 => if cmpTo q r k = 0 then cmpL (lvlL q k) (lvlL r k) else cmpTo q r k
abbrev badN (x : Int32) (M : Nat) : Prop := x < 0 ∨ nI M < x
abbrev toN (x : Int32) : Nat := x.toNatClampNeg
abbrev Ans : Type := Nat × Int32 × Sg
def spOrder (σ : Sg) (p c : Int32) : Ans := if badN p 1114111 ∨ badN c 254 then (1, nI 0, σ) else (0, nI 0, (fun x => if x = toN p then toN c else σ.1 x, σ.2))
def spLine (σ : Sg) (n a b c : Int32) : Ans := if n < nI 1 ∨ nI 3 < n ∨ badN a 1114111 ∨ badN b 1114111 ∨ badN c 1114111 then (1, nI 0, σ)
  else if fndA (keyN (toN n) (toN a) (toN b) (toN c)) σ.2.1 = none ∧ σ.2.1.length = 500 then (2, nI 0, σ)
  else (0, nI (tellA (keyN (toN n) (toN a) (toN b) (toN c)) σ.2.1).length, (σ.1, tellA (keyN (toN n) (toN a) (toN b) (toN c)) σ.2.1, some (tellI (keyN (toN n) (toN a) (toN b) (toN c)) σ.2.1), σ.2.2.2))
def spElement (σ : Sg) (p s t : Int32) (v : Nat) : Ans := match σ.2.2.1 with
  | none => (1, nI 0, σ)
  | some i => if badN p 65535 ∨ badN s 65535 ∨ badN t 65535 then (1, nI 0, σ)
    else if (esA σ.2.1 i).length = 8 then (2, nI 0, σ)
    else (0, nI ((esA σ.2.1 i).length + 1), (σ.1, σ.2.1.set i ((σ.2.1.getD i (0, [])).1, esA σ.2.1 i ++ [(toN p, toN s, toN t, v)]), σ.2.2))
def rowA (σ : Sg) (j : Nat) : List Nat := σ.2.2.2.getD j []
def spAdd (σ : Sg) (r p : Int32) : Ans := if badN r 3 ∨ badN p 1114111 then (1, nI 0, σ)
  else if (rowA σ (toN r)).length = 200 then (2, nI 0, σ)
  else (0, nI ((rowA σ (toN r)).length + 1), (σ.1, σ.2.1, σ.2.2.1, σ.2.2.2.set (toN r) (rowA σ (toN r) ++ [toN p])))
def spClear (σ : Sg) (r : Int32) : Ans := if badN r 3 then (1, nI 0, σ) else (0, nI (rowA σ (toN r)).length, (σ.1, σ.2.1, σ.2.2.1, σ.2.2.2.set (toN r) []))
def spCount (σ : Sg) (r : Int32) : Ans := if badN r 3 then (1, nI 0, σ) else (0, nI (els σ (toN r)).length, σ)
def qs (σ : Sg) (j sh : Nat) : List E4 := shL sh 0 (els σ j)
def spWeight (σ : Sg) (r : Int32) (sh : Nat) (i u : Int32) : Ans := if badN r 3 ∨ badN u 3 then (1, nI 0, σ)
  else if i < 0 ∨ nI (qs σ (toN r) sh).length ≤ i then (1, nI 0, σ)
  else (0, nI (comp ((qs σ (toN r) sh).getD (toN i) (0, 0, 0, 0)) (toN u)), σ)
def spCompare (σ : Sg) (r u n : Int32) (sh : Nat) : Ans := if badN r 3 ∨ badN u 3 ∨ n < nI 1 ∨ nI 4 < n then (1, nI 0, σ)
  else (0, cmpTo (qs σ (toN r) sh) (qs σ (toN u) sh) (toN n), σ)
def TdS (L : List LnX) (told td : Option Nat) : Prop := match told with
  | none => td = none
  | some i => ∃ x, L[i]? = some x ∧ td = some x.1.1
def ROk (RL : List RwX) : Prop := RL.length = 4 ∧ ∀ y ∈ RL, RwS y.2.1 y.2.2
def RmS (RL : List RwX) (rmf : Nat → Option Nat) : Prop := ∀ i y, RL[i]? = some y → rmf i = some y.1.1
theorem wi_nat {x : Int32} {M : Nat} (hM : M < 2147483648) (h : ¬ wi x (nI M) = 0) : ∃ j, j ≤ M ∧ x = nI j := by
  obtain ⟨h1, h2⟩ := wi_ne0 h
  exact nI_of2 (nI_toInt hM) h1 (Int32.not_lt.mp h2)
theorem nbad {j M : Nat} (hj : j ≤ M) (hM : M < 2147483648) : ¬ badN (nI j) M := fun h => h.elim (nI_pos (by omega)) (fun z => by have := (nI_ltN hM (by omega)).mp z; omega)
theorem toN_nI {j : Nat} (h : j < 2147483648) : toN (nI j) = j := nI_clamp h

/-- the world w of a WeightOrder at o with the state σ; at most k points got a number -/
def WoI (G : Gx) (o k : Nat) (σ : Sg) (w : va_W) : Prop := ∃ (t ta tb nc s nt a b m ra x p c st e v en1 es1 eb1 e2 v2 en2 es2 eb2 : Nat) (td ld : Option Nat) (mf rmf : Nat → Option Nat) (kc ks fe fe2 : Nat → Int64) (vc vs f g : Nat → Int32) (en n0 : Int32) (k0 : Int64) (Fc : Nat → Option Int32) (L : List LnX) (RL : List RwX), w = [(o, ob 6 [.ref t, .ref s, .ref ra, .ref x, .ref e, .ref e2]), (t, ob 0 [.ref ta, .ref tb, .int (nI nc)]), (ta, aJ G 512 kc), (tb, aI G 512 vc), (s, ob 2 [.ref nt, .ref m, .int (nI L.length), va_rf (td)]), (nt, ob 0 [.ref a, .ref b, .int (nI L.length)]), (a, aJ G 500 ks), (b, aI G 500 vs), (m, aL G 500 mf), (ra, aR G 4 rmf), (x, ob 5 [.ref t, .ref s, .ref p, .ref c, .int (nI st), .int en, .long k0, .int n0, va_rf (ld)]), (p, aI G 200 f), (c, aI G 200 g), (e, ob 4 [.ref v, .int (nI en1), .int (nI es1), .int (nI eb1)]), (v, aJ G 1600 fe), (e2, ob 4 [.ref v2, .int (nI en2), .int (nI es2), .int (nI eb2)]), (v2, aJ G 1600 fe2)] ++ (rpool G RL ++ lpool G L) ∧ nc ≤ k ∧ k ≤ 512 ∧ TB kc vc nc Fc ∧ ClS Fc σ.1 ∧ LOk L ∧ TB ks vs L.length (fun j => (fnd j L).map nI) ∧ MdS L mf ∧ absL L = σ.2.1 ∧ TdS L σ.2.2.1 td ∧ ROk RL ∧ RmS RL rmf ∧ RL.map (·.2.1) = σ.2.2.2

set_option maxHeartbeats 4000000 in
set_option maxRecDepth 100000 in
theorem c_Wo_order (l : Launch) (htr : l.stackTraces = false) (G : Gx) (o k : Nat) (σ : Sg) (w : va_W) (pt cv : Int32) (hw : WoI G o k σ w) (hk : k < 512) : CTX l G y_Wo_order b_Wo_order 3 none ({ frames := 7, cells := 1, slots := 6, locals := 190 } : Room) w [.ref o, .int pt, .int cv] (fun r w' => (spOrder σ pt cv).1 = 0 ∧ r = none ∧ WoI G o (k + 1) (spOrder σ pt cv).2.2 w') (fun E w' => WoI G o (k + 1) σ w' ∧ ((spOrder σ pt cv).1 = 1 ∧ E = "java/lang/IllegalArgumentException" ∨ (spOrder σ pt cv).1 = 2 ∧ E = "java/lang/IndexOutOfBoundsException")) := by
  obtain ⟨t, ta, tb, nc, s, nt, a, b, m, ra, x, p, c, st, e, v, en1, es1, eb1, e2, v2, en2, es2, eb2, td, ld, mf, rmf, kc, ks, fe, fe2, vc, vs, f, g, en, n0, k0, Fc, L, RL, rfl, hnc, hk5, hTc, hcl, hL, hT, hM, hA, htd, hRO, hRm, hRw⟩ := hw
  refine ctx_of htr [(0, .ref o), (1, .int pt), (2, .int cv)] (by decide) (Nat.le_of_ble_eq_true rfl) rfl (fun K hKl C X Y => ?_)
  subst hKl
  refine v_iload_n (pc := 0) C 1 d_Wo_order_0 rfl rfl ?_
  refine v_ldc (pc := 1) C 1114111 k_167 d_Wo_order_1 ?_
  refine v_seti (nI 1114111) (by decide +kernel) ?_
  refine v_callS (pc := 3) (As := [.int pt, .int (nI 1114111)]) (rest := []) C (c_Wo_isWithin _ G pt (nI 1114111)) l_Wo_52 ([(o, ob 6 [.ref t, .ref s, .ref ra, .ref x, .ref e, .ref e2]), (t, ob 0 [.ref ta, .ref tb, .int (nI nc)]), (ta, aJ G 512 kc), (tb, aI G 512 vc), (s, ob 2 [.ref nt, .ref m, .int (nI L.length), va_rf (td)]), (nt, ob 0 [.ref a, .ref b, .int (nI L.length)]), (a, aJ G 500 ks), (b, aI G 500 vs), (m, aL G 500 mf), (ra, aR G 4 rmf), (x, ob 5 [.ref t, .ref s, .ref p, .ref c, .int (nI st), .int en, .long k0, .int n0, va_rf (ld)]), (p, aI G 200 f), (c, aI G 200 g), (e, ob 4 [.ref v, .int (nI en1), .int (nI es1), .int (nI eb1)]), (v, aJ G 1600 fe), (e2, ob 4 [.ref v2, .int (nI en2), .int (nI es2), .int (nI eb2)]), (v2, aJ G 1600 fe2)] ++ (rpool G RL ++ lpool G L)) (sp_poolR [0, 1, 2, 3, 4, 5, 6, 7, 8, 9, 10, 11, 12, 13, 14, 15, 16] [] rfl rfl rfl) rfl rfl (Nat.le_of_ble_eq_true rfl) (by decide) (by decide) (by decide) (by decide) d_Wo_order_3 (fun r w' hq => ?_)
  obtain ⟨rfl, rfl⟩ := hq
  refine v_swap ?_
  show vv K ({ frames := 7, cells := 1, slots := 6, locals := 190 } : Room) G 3 0 0 ([(o, ob 6 [.ref t, .ref s, .ref ra, .ref x, .ref e, .ref e2]), (t, ob 0 [.ref ta, .ref tb, .int (nI nc)]), (ta, aJ G 512 kc), (tb, aI G 512 vc), (s, ob 2 [.ref nt, .ref m, .int (nI L.length), va_rf (td)]), (nt, ob 0 [.ref a, .ref b, .int (nI L.length)]), (a, aJ G 500 ks), (b, aI G 500 vs), (m, aL G 500 mf), (ra, aR G 4 rmf), (x, ob 5 [.ref t, .ref s, .ref p, .ref c, .int (nI st), .int en, .long k0, .int n0, va_rf (ld)]), (p, aI G 200 f), (c, aI G 200 g), (e, ob 4 [.ref v, .int (nI en1), .int (nI es1), .int (nI eb1)]), (v, aJ G 1600 fe), (e2, ob 4 [.ref v2, .int (nI en2), .int (nI es2), .int (nI eb2)]), (v2, aJ G 1600 fe2)] ++ (rpool G RL ++ lpool G L)) 6 [(0, .ref o), (1, .int pt), (2, .int cv)] [.int (wi pt (nI 1114111))]
  refine v_if_eq (pc := 6) C 19 d_Wo_order_6 (by decide) (fun h1 => ?_) (fun h1 => ?_)
  · exact v_throw (pc := 19) C Y _ th_IAE d_Wo_order_19 d_Wo_order_22 d_Wo_order_23 d_Wo_order_26 (by decide) (by decide) (by decide) (by decide) ⟨⟨t, ta, tb, nc, s, nt, a, b, m, ra, x, p, c, st, e, v, en1, es1, eb1, e2, v2, en2, es2, eb2, td, ld, mf, rmf, kc, ks, fe, fe2, vc, vs, f, g, en, n0, k0, Fc, L, RL, rfl, (by omega), (by omega), hTc, hcl, hL, hT, hM, hA, htd, hRO, hRm, hRw⟩, Or.inl ⟨by unfold spOrder; rw [if_pos (Or.inl (wi_eq0 h1))], rfl⟩⟩
  · refine v_iload_n (pc := 9) C 2 d_Wo_order_9 rfl rfl ?_
    refine v_sipush (pc := 10) C (nI 254) d_Wo_order_10 (by decide +kernel) ?_
    refine v_callS (pc := 13) (As := [.int cv, .int (nI 254)]) (rest := []) C (c_Wo_isWithin _ G cv (nI 254)) l_Wo_52 ([(o, ob 6 [.ref t, .ref s, .ref ra, .ref x, .ref e, .ref e2]), (t, ob 0 [.ref ta, .ref tb, .int (nI nc)]), (ta, aJ G 512 kc), (tb, aI G 512 vc), (s, ob 2 [.ref nt, .ref m, .int (nI L.length), va_rf (td)]), (nt, ob 0 [.ref a, .ref b, .int (nI L.length)]), (a, aJ G 500 ks), (b, aI G 500 vs), (m, aL G 500 mf), (ra, aR G 4 rmf), (x, ob 5 [.ref t, .ref s, .ref p, .ref c, .int (nI st), .int en, .long k0, .int n0, va_rf (ld)]), (p, aI G 200 f), (c, aI G 200 g), (e, ob 4 [.ref v, .int (nI en1), .int (nI es1), .int (nI eb1)]), (v, aJ G 1600 fe), (e2, ob 4 [.ref v2, .int (nI en2), .int (nI es2), .int (nI eb2)]), (v2, aJ G 1600 fe2)] ++ (rpool G RL ++ lpool G L)) (sp_poolR [0, 1, 2, 3, 4, 5, 6, 7, 8, 9, 10, 11, 12, 13, 14, 15, 16] [] rfl rfl rfl) rfl rfl (Nat.le_of_ble_eq_true rfl) (by decide) (by decide) (by decide) (by decide) d_Wo_order_13 (fun r w' hq => ?_)
    obtain ⟨rfl, rfl⟩ := hq
    refine v_swap ?_
    show vv K ({ frames := 7, cells := 1, slots := 6, locals := 190 } : Room) G 3 0 0 ([(o, ob 6 [.ref t, .ref s, .ref ra, .ref x, .ref e, .ref e2]), (t, ob 0 [.ref ta, .ref tb, .int (nI nc)]), (ta, aJ G 512 kc), (tb, aI G 512 vc), (s, ob 2 [.ref nt, .ref m, .int (nI L.length), va_rf (td)]), (nt, ob 0 [.ref a, .ref b, .int (nI L.length)]), (a, aJ G 500 ks), (b, aI G 500 vs), (m, aL G 500 mf), (ra, aR G 4 rmf), (x, ob 5 [.ref t, .ref s, .ref p, .ref c, .int (nI st), .int en, .long k0, .int n0, va_rf (ld)]), (p, aI G 200 f), (c, aI G 200 g), (e, ob 4 [.ref v, .int (nI en1), .int (nI es1), .int (nI eb1)]), (v, aJ G 1600 fe), (e2, ob 4 [.ref v2, .int (nI en2), .int (nI es2), .int (nI eb2)]), (v2, aJ G 1600 fe2)] ++ (rpool G RL ++ lpool G L)) 16 [(0, .ref o), (1, .int pt), (2, .int cv)] [.int (wi cv (nI 254))]
    refine v_if_ne (pc := 16) C 27 d_Wo_order_16 (by decide) (fun h2 => ?_) (fun h2 => ?_)
    · obtain ⟨pj, hpj, rfl⟩ := wi_nat (by decide) h1
      obtain ⟨cj, hcj, rfl⟩ := wi_nat (by decide) h2
      refine v_aload_n (pc := 27) C 0 d_Wo_order_27 rfl rfl ?_
      refine v_get (pc := 28) (Cn := "WeightOrder") (T := T_Wo) (N := 6) (ci := 6) (v := .ref t) C 0 0 rfl rfl hin_Wo (by decide) rfl k_140 rfl d_Wo_order_28 ?_
      refine v_iload_n (pc := 31) C 1 d_Wo_order_31 rfl rfl ?_
      refine v_i2l (pc := 32) C (lN pj) d_Wo_order_32 (nI_l (by omega)) ?_
      refine v_iload_n (pc := 33) C 2 d_Wo_order_33 rfl rfl ?_
      refine v_callV (pc := 34) (As := [.long (lN pj), .int (nI cj)]) (rest := []) C (c_Ta_put _ G t ta tb 512 kc vc nc Fc pj (nI cj) (by decide) (by omega) hTc (by omega) (fun _ => by omega)) l_Wo_59 ([(o, ob 6 [.ref t, .ref s, .ref ra, .ref x, .ref e, .ref e2]), (s, ob 2 [.ref nt, .ref m, .int (nI L.length), va_rf (td)]), (nt, ob 0 [.ref a, .ref b, .int (nI L.length)]), (a, aJ G 500 ks), (b, aI G 500 vs), (m, aL G 500 mf), (ra, aR G 4 rmf), (x, ob 5 [.ref t, .ref s, .ref p, .ref c, .int (nI st), .int en, .long k0, .int n0, va_rf (ld)]), (p, aI G 200 f), (c, aI G 200 g), (e, ob 4 [.ref v, .int (nI en1), .int (nI es1), .int (nI eb1)]), (v, aJ G 1600 fe), (e2, ob 4 [.ref v2, .int (nI en2), .int (nI es2), .int (nI eb2)]), (v2, aJ G 1600 fe2)] ++ (rpool G RL ++ lpool G L)) (sp_poolR [0, 4, 5, 6, 7, 8, 9, 10, 11, 12, 13, 14, 15, 16] [1, 2, 3] rfl rfl rfl) 0 rfl rfl rfl rfl rfl (Nat.le_of_ble_eq_true rfl) (by decide) (by decide) (by decide) (by decide) d_Wo_order_34 (fun r w' hq => ?_)
      obtain ⟨rfl, kc9, vc9, nc9, rfl, hT9, hn9⟩ := hq
      refine v_swap ?_
      show vv K ({ frames := 7, cells := 1, slots := 6, locals := 190 } : Room) G 3 0 0 ([(o, ob 6 [.ref t, .ref s, .ref ra, .ref x, .ref e, .ref e2]), (s, ob 2 [.ref nt, .ref m, .int (nI L.length), va_rf (td)]), (nt, ob 0 [.ref a, .ref b, .int (nI L.length)]), (a, aJ G 500 ks), (b, aI G 500 vs), (m, aL G 500 mf), (ra, aR G 4 rmf), (x, ob 5 [.ref t, .ref s, .ref p, .ref c, .int (nI st), .int en, .long k0, .int n0, va_rf (ld)]), (p, aI G 200 f), (c, aI G 200 g), (e, ob 4 [.ref v, .int (nI en1), .int (nI es1), .int (nI eb1)]), (v, aJ G 1600 fe), (e2, ob 4 [.ref v2, .int (nI en2), .int (nI es2), .int (nI eb2)]), (v2, aJ G 1600 fe2), (t, ob 0 [.ref ta, .ref tb, .int (nI nc9)]), (ta, aJ G 512 kc9), (tb, aI G 512 vc9)] ++ (rpool G RL ++ lpool G L)) 37 [(0, .ref o), (1, .int (nI pj)), (2, .int (nI cj))] []
      have hnc9 : nc9 ≤ k + 1 := by rw [hn9]; split <;> omega
      have hsp : spOrder σ (nI pj) (nI cj) = (0, nI 0, (fun x => if x = pj then cj else σ.1 x, σ.2)) := by unfold spOrder; rw [if_neg (fun z => z.elim (nbad hpj (by decide)) (nbad hcj (by decide))), toN_nI (by omega), toN_nI (by omega)]
      have hcl9 : ClS (fun j => if j = pj then some (nI cj) else Fc j) (fun x => if x = pj then cj else σ.1 x) := by
        intro y hy
        by_cases c9 : y = pj
        · simp only [if_pos c9]; exact ⟨rfl, hcj⟩
        · simp only [if_neg c9]; exact hcl y hy
      refine v_wsubP [0, 14, 15, 16, 1, 2, 3, 4, 5, 6, 7, 8, 9, 10, 11, 12, 13] ([(o, ob 6 [.ref t, .ref s, .ref ra, .ref x, .ref e, .ref e2]), (t, ob 0 [.ref ta, .ref tb, .int (nI nc9)]), (ta, aJ G 512 kc9), (tb, aI G 512 vc9), (s, ob 2 [.ref nt, .ref m, .int (nI L.length), va_rf (td)]), (nt, ob 0 [.ref a, .ref b, .int (nI L.length)]), (a, aJ G 500 ks), (b, aI G 500 vs), (m, aL G 500 mf), (ra, aR G 4 rmf), (x, ob 5 [.ref t, .ref s, .ref p, .ref c, .int (nI st), .int en, .long k0, .int n0, va_rf (ld)]), (p, aI G 200 f), (c, aI G 200 g), (e, ob 4 [.ref v, .int (nI en1), .int (nI es1), .int (nI eb1)]), (v, aJ G 1600 fe), (e2, ob 4 [.ref v2, .int (nI en2), .int (nI es2), .int (nI eb2)]), (v2, aJ G 1600 fe2)]) rfl rfl ?_
      exact v_vret (pc := 37) C X d_Wo_order_37 ⟨by rw [hsp], rfl, by rw [hsp]; exact ⟨t, ta, tb, nc9, s, nt, a, b, m, ra, x, p, c, st, e, v, en1, es1, eb1, e2, v2, en2, es2, eb2, td, ld, mf, rmf, kc9, ks, fe, fe2, vc9, vs, f, g, en, n0, k0, _, L, RL, rfl, hnc9, (by omega), hT9, hcl9, hL, hT, hM, hA, htd, hRO, hRm, hRw⟩⟩ (by decide) (by decide)
    · exact v_throw (pc := 19) C Y _ th_IAE d_Wo_order_19 d_Wo_order_22 d_Wo_order_23 d_Wo_order_26 (by decide) (by decide) (by decide) (by decide) ⟨⟨t, ta, tb, nc, s, nt, a, b, m, ra, x, p, c, st, e, v, en1, es1, eb1, e2, v2, en2, es2, eb2, td, ld, mf, rmf, kc, ks, fe, fe2, vc, vs, f, g, en, n0, k0, Fc, L, RL, rfl, (by omega), (by omega), hTc, hcl, hL, hT, hM, hA, htd, hRO, hRm, hRw⟩, Or.inl ⟨by unfold spOrder; rw [if_pos (Or.inr (wi_eq0 h2))], rfl⟩⟩
end
section
/-! WeightOrder.line, element -/
theorem rng {x : Int32} {lo hi : Nat} (hlo : lo < 2147483648) (hhi : hi < 2147483648) (h1 : ¬ x < nI lo) (h2 : ¬ nI hi < x) : ∃ j, lo ≤ j ∧ j ≤ hi ∧ x = nI j := by
  have h3 : ¬ x < 0 := fun z => by
    rw [Int32.lt_iff_toInt_lt, Int32.toInt_zero] at z
    rw [Int32.lt_iff_toInt_lt, nI_toInt hlo] at h1
    omega
  obtain ⟨j, hj, rfl⟩ := nI_of2 (nI_toInt hhi) h3 (Int32.not_lt.mp h2)
  exact ⟨j, Nat.le_of_not_lt (fun z => h1 ((nI_ltN (by omega) hlo).mpr z)), hj, rfl⟩
theorem ap3_0 {a b c : Int32} (h : ap3 a b c = 0) : badN a 1114111 ∨ badN b 1114111 ∨ badN c 1114111 := by
  by_cases q : (a < 0 ∨ nI 1114111 < a) ∨ (b < 0 ∨ nI 1114111 < b) ∨ (c < 0 ∨ nI 1114111 < c)
  · exact q
  · unfold ap3 at h; rw [if_neg q] at h; exact absurd h (by decide)
theorem nb_nat {x : Int32} {M : Nat} (hM : M < 2147483648) (h : ¬ badN x M) : ∃ j, j ≤ M ∧ x = nI j :=
  nI_of2 (nI_toInt hM) (fun z => h (Or.inl z)) (Int32.not_lt.mp (fun z => h (Or.inr z)))
theorem ap3_1 {a b c : Int32} (h : ¬ ap3 a b c = 0) : (∃ j, j ≤ 1114111 ∧ a = nI j) ∧ (∃ j, j ≤ 1114111 ∧ b = nI j) ∧ ∃ j, j ≤ 1114111 ∧ c = nI j := by
  have q : ¬ ((a < 0 ∨ nI 1114111 < a) ∨ (b < 0 ∨ nI 1114111 < b) ∨ (c < 0 ∨ nI 1114111 < c)) := fun q => h (by unfold ap3; rw [if_pos q]; rfl)
  exact ⟨nb_nat (by decide) (fun z => q (Or.inl z)), nb_nat (by decide) (fun z => q (Or.inr (Or.inl z))), nb_nat (by decide) (fun z => q (Or.inr (Or.inr z)))⟩
theorem keyN_lt {n a b c : Nat} (ha : a ≤ 1114111) (hb : b ≤ 1114111) (hc : c ≤ 1114111) : keyN n a b c < 9223372036854775808 := by
  unfold keyN kx
  split
  · omega
  · split <;> omega
theorem nlt_nI {j k : Nat} (h : k ≤ j) (hj : j < 2147483648) : ¬ nI j < nI k := fun z => by have := (nI_ltN hj (by omega)).mp z; omega
theorem abs_len (L : List LnX) : (absL L).length = L.length := List.length_map ..

set_option maxHeartbeats 4000000 in
set_option maxRecDepth 100000 in
theorem c_Wo_line (l : Launch) (htr : l.stackTraces = false) (G : Gx) (o k : Nat) (σ : Sg) (w : va_W) (na pa pb pd : Int32) (hw : WoI G o k σ w)  : CTX l G y_Wo_line b_Wo_line 7 (some .int) ({ frames := 7, cells := 4, slots := 25, locals := 190 } : Room) w [.ref o, .int na, .int pa, .int pb, .int pd] (fun r w' => (spLine σ na pa pb pd).1 = 0 ∧ r = some (.int (spLine σ na pa pb pd).2.1) ∧ WoI G o k (spLine σ na pa pb pd).2.2 w') (fun E w' => WoI G o k σ w' ∧ ((spLine σ na pa pb pd).1 = 1 ∧ E = "java/lang/IllegalArgumentException" ∨ (spLine σ na pa pb pd).1 = 2 ∧ E = "java/lang/IndexOutOfBoundsException")) := by
  obtain ⟨cl, A9, told, rws⟩ := σ
  obtain ⟨t, ta, tb, nc, s, nt, a, b, m, ra, x, p, c, st, e, v, en1, es1, eb1, e2, v2, en2, es2, eb2, td, ld, mf, rmf, kc, ks, fe, fe2, vc, vs, f, g, en, n0, k0, Fc, L, RL, rfl, hnc, hk5, hTc, hcl, hL, hT, hM, hA, htd, hRO, hRm, hRw⟩ := hw
  have hA : absL L = A9 := hA
  have hRw : RL.map (·.2.1) = rws := hRw
  subst hA; subst hRw
  refine ctx_of htr [(0, .ref o), (1, .int na), (2, .int pa), (3, .int pb), (4, .int pd)] (by decide) (Nat.le_of_ble_eq_true rfl) rfl (fun K hKl C X Y => ?_)
  subst hKl
  refine v_iload_n (pc := 0) C 1 d_Wo_line_0 rfl rfl ?_
  refine v_iconst (pc := 1) C (nI 1) d_Wo_line_1 (by decide +kernel) ?_
  refine v_icmp_lt (pc := 2) C 20 d_Wo_line_2 (by decide) (fun h1 => ?_) (fun h1 => ?_)
  · exact v_throw (pc := 20) C Y _ th_IAE d_Wo_line_20 d_Wo_line_23 d_Wo_line_24 d_Wo_line_27 (by decide) (by decide) (by decide) (by decide) ⟨⟨t, ta, tb, nc, s, nt, a, b, m, ra, x, p, c, st, e, v, en1, es1, eb1, e2, v2, en2, es2, eb2, td, ld, mf, rmf, kc, ks, fe, fe2, vc, vs, f, g, en, n0, k0, Fc, L, RL, rfl, hnc, hk5, hTc, hcl, hL, hT, hM, rfl, htd, hRO, hRm, rfl⟩, Or.inl ⟨by unfold spLine; rw [if_pos (Or.inl h1)], rfl⟩⟩
  · refine v_iload_n (pc := 5) C 1 d_Wo_line_5 rfl rfl ?_
    refine v_iconst (pc := 6) C (nI 3) d_Wo_line_6 (by decide +kernel) ?_
    refine v_icmp_gt (pc := 7) C 20 d_Wo_line_7 (by decide) (fun h2 => ?_) (fun h2 => ?_)
    · exact v_throw (pc := 20) C Y _ th_IAE d_Wo_line_20 d_Wo_line_23 d_Wo_line_24 d_Wo_line_27 (by decide) (by decide) (by decide) (by decide) ⟨⟨t, ta, tb, nc, s, nt, a, b, m, ra, x, p, c, st, e, v, en1, es1, eb1, e2, v2, en2, es2, eb2, td, ld, mf, rmf, kc, ks, fe, fe2, vc, vs, f, g, en, n0, k0, Fc, L, RL, rfl, hnc, hk5, hTc, hcl, hL, hT, hM, rfl, htd, hRO, hRm, rfl⟩, Or.inl ⟨by unfold spLine; rw [if_pos (Or.inr (Or.inl h2))], rfl⟩⟩
    · refine v_iload_n (pc := 10) C 2 d_Wo_line_10 rfl rfl ?_
      refine v_iload_n (pc := 11) C 3 d_Wo_line_11 rfl rfl ?_
      refine v_iload (pc := 12) C 4 d_Wo_line_12 rfl ?_
      refine v_callS (pc := 14) (As := [.int pa, .int pb, .int pd]) (rest := []) C (c_Wo_arePoints _ G pa pb pd) l_Wo_63 ([(o, ob 6 [.ref t, .ref s, .ref ra, .ref x, .ref e, .ref e2]), (t, ob 0 [.ref ta, .ref tb, .int (nI nc)]), (ta, aJ G 512 kc), (tb, aI G 512 vc), (s, ob 2 [.ref nt, .ref m, .int (nI L.length), va_rf (td)]), (nt, ob 0 [.ref a, .ref b, .int (nI L.length)]), (a, aJ G 500 ks), (b, aI G 500 vs), (m, aL G 500 mf), (ra, aR G 4 rmf), (x, ob 5 [.ref t, .ref s, .ref p, .ref c, .int (nI st), .int en, .long k0, .int n0, va_rf (ld)]), (p, aI G 200 f), (c, aI G 200 g), (e, ob 4 [.ref v, .int (nI en1), .int (nI es1), .int (nI eb1)]), (v, aJ G 1600 fe), (e2, ob 4 [.ref v2, .int (nI en2), .int (nI es2), .int (nI eb2)]), (v2, aJ G 1600 fe2)] ++ (rpool G RL ++ lpool G L)) (sp_poolR [0, 1, 2, 3, 4, 5, 6, 7, 8, 9, 10, 11, 12, 13, 14, 15, 16] [] rfl rfl rfl) rfl rfl (Nat.le_of_ble_eq_true rfl) (by decide) (by decide) (by decide) (by decide) d_Wo_line_14 (fun r w' hq => ?_)
      obtain ⟨rfl, rfl⟩ := hq
      refine v_swap ?_
      show vv K ({ frames := 7, cells := 4, slots := 25, locals := 190 } : Room) G 7 0 0 ([(o, ob 6 [.ref t, .ref s, .ref ra, .ref x, .ref e, .ref e2]), (t, ob 0 [.ref ta, .ref tb, .int (nI nc)]), (ta, aJ G 512 kc), (tb, aI G 512 vc), (s, ob 2 [.ref nt, .ref m, .int (nI L.length), va_rf (td)]), (nt, ob 0 [.ref a, .ref b, .int (nI L.length)]), (a, aJ G 500 ks), (b, aI G 500 vs), (m, aL G 500 mf), (ra, aR G 4 rmf), (x, ob 5 [.ref t, .ref s, .ref p, .ref c, .int (nI st), .int en, .long k0, .int n0, va_rf (ld)]), (p, aI G 200 f), (c, aI G 200 g), (e, ob 4 [.ref v, .int (nI en1), .int (nI es1), .int (nI eb1)]), (v, aJ G 1600 fe), (e2, ob 4 [.ref v2, .int (nI en2), .int (nI es2), .int (nI eb2)]), (v2, aJ G 1600 fe2)] ++ (rpool G RL ++ lpool G L)) 17 [(0, .ref o), (1, .int na), (2, .int pa), (3, .int pb), (4, .int pd)] [.int (ap3 pa pb pd)]
      refine v_if_ne (pc := 17) C 28 d_Wo_line_17 (by decide) (fun h3 => ?_) (fun h3 => ?_)
      · obtain ⟨nj, hn1, hn3, rfl⟩ := rng (by decide) (by decide) h1 h2
        obtain ⟨⟨aj, haj, rfl⟩, ⟨bj, hbj, rfl⟩, ⟨dj, hdj, rfl⟩⟩ := ap3_1 h3
        have hkl := keyN_lt (n := nj) haj hbj hdj
        have hsp0 : spLine (cl, absL L, told, RL.map (·.2.1)) (nI nj) (nI aj) (nI bj) (nI dj) = if fnd (keyN nj aj bj dj) L = none ∧ L.length = 500 then (2, nI 0, (cl, absL L, told, RL.map (·.2.1))) else (0, nI (tellA (keyN nj aj bj dj) (absL L)).length, (cl, tellA (keyN nj aj bj dj) (absL L), some (tellI (keyN nj aj bj dj) (absL L)), RL.map (·.2.1))) := by
          unfold spLine
          rw [if_neg (fun z => z.elim (nlt_nI hn1 (by omega)) (fun z => z.elim (nlt_nI hn3 (by decide)) (fun z => z.elim (nbad haj (by decide)) (fun z => z.elim (nbad hbj (by decide)) (nbad hdj (by decide)))))), toN_nI (by omega), toN_nI (by omega), toN_nI (by omega), toN_nI (by omega)]
          simp only [fnd_abs, abs_len]
        refine v_iload_n (pc := 28) C 1 d_Wo_line_28 rfl rfl ?_
        refine v_iload_n (pc := 29) C 2 d_Wo_line_29 rfl rfl ?_
        refine v_iload_n (pc := 30) C 3 d_Wo_line_30 rfl rfl ?_
        refine v_iload (pc := 31) C 4 d_Wo_line_31 rfl ?_
        show vv K ({ frames := 7, cells := 4, slots := 25, locals := 190 } : Room) G 7 0 0 ([(o, ob 6 [.ref t, .ref s, .ref ra, .ref x, .ref e, .ref e2]), (t, ob 0 [.ref ta, .ref tb, .int (nI nc)]), (ta, aJ G 512 kc), (tb, aI G 512 vc), (s, ob 2 [.ref nt, .ref m, .int (nI L.length), va_rf (td)]), (nt, ob 0 [.ref a, .ref b, .int (nI L.length)]), (a, aJ G 500 ks), (b, aI G 500 vs), (m, aL G 500 mf), (ra, aR G 4 rmf), (x, ob 5 [.ref t, .ref s, .ref p, .ref c, .int (nI st), .int en, .long k0, .int n0, va_rf (ld)]), (p, aI G 200 f), (c, aI G 200 g), (e, ob 4 [.ref v, .int (nI en1), .int (nI es1), .int (nI eb1)]), (v, aJ G 1600 fe), (e2, ob 4 [.ref v2, .int (nI en2), .int (nI es2), .int (nI eb2)]), (v2, aJ G 1600 fe2)] ++ (rpool G RL ++ lpool G L)) 33 [(0, .ref o), (1, .int (nI nj)), (2, .int (nI aj)), (3, .int (nI bj)), (4, .int (nI dj))] [.int (nI dj), .int (nI bj), .int (nI aj), .int (nI nj)]
        refine v_callS (pc := 33) (As := [.int (nI nj), .int (nI aj), .int (nI bj), .int (nI dj)]) (rest := []) C (c_Wo_keyOf _ G nj aj bj dj hn3 haj hbj hdj) l_Wo_67 ([(o, ob 6 [.ref t, .ref s, .ref ra, .ref x, .ref e, .ref e2]), (t, ob 0 [.ref ta, .ref tb, .int (nI nc)]), (ta, aJ G 512 kc), (tb, aI G 512 vc), (s, ob 2 [.ref nt, .ref m, .int (nI L.length), va_rf (td)]), (nt, ob 0 [.ref a, .ref b, .int (nI L.length)]), (a, aJ G 500 ks), (b, aI G 500 vs), (m, aL G 500 mf), (ra, aR G 4 rmf), (x, ob 5 [.ref t, .ref s, .ref p, .ref c, .int (nI st), .int en, .long k0, .int n0, va_rf (ld)]), (p, aI G 200 f), (c, aI G 200 g), (e, ob 4 [.ref v, .int (nI en1), .int (nI es1), .int (nI eb1)]), (v, aJ G 1600 fe), (e2, ob 4 [.ref v2, .int (nI en2), .int (nI es2), .int (nI eb2)]), (v2, aJ G 1600 fe2)] ++ (rpool G RL ++ lpool G L)) (sp_poolR [0, 1, 2, 3, 4, 5, 6, 7, 8, 9, 10, 11, 12, 13, 14, 15, 16] [] rfl rfl rfl) rfl rfl (Nat.le_of_ble_eq_true rfl) (by decide) (by decide) (by decide) (by decide) d_Wo_line_33 (fun r w' hq => ?_)
        obtain ⟨rfl, rfl⟩ := hq
        refine v_swap ?_
        show vv K ({ frames := 7, cells := 4, slots := 25, locals := 190 } : Room) G 7 0 0 ([(o, ob 6 [.ref t, .ref s, .ref ra, .ref x, .ref e, .ref e2]), (t, ob 0 [.ref ta, .ref tb, .int (nI nc)]), (ta, aJ G 512 kc), (tb, aI G 512 vc), (s, ob 2 [.ref nt, .ref m, .int (nI L.length), va_rf (td)]), (nt, ob 0 [.ref a, .ref b, .int (nI L.length)]), (a, aJ G 500 ks), (b, aI G 500 vs), (m, aL G 500 mf), (ra, aR G 4 rmf), (x, ob 5 [.ref t, .ref s, .ref p, .ref c, .int (nI st), .int en, .long k0, .int n0, va_rf (ld)]), (p, aI G 200 f), (c, aI G 200 g), (e, ob 4 [.ref v, .int (nI en1), .int (nI es1), .int (nI eb1)]), (v, aJ G 1600 fe), (e2, ob 4 [.ref v2, .int (nI en2), .int (nI es2), .int (nI eb2)]), (v2, aJ G 1600 fe2)] ++ (rpool G RL ++ lpool G L)) 36 [(0, .ref o), (1, .int (nI nj)), (2, .int (nI aj)), (3, .int (nI bj)), (4, .int (nI dj))] [.long (lN (keyN nj aj bj dj))]
        generalize keyN nj aj bj dj = key at hkl hsp0 ⊢
        refine v_lstore (pc := 36) C [(5, .long (lN key)), (0, .ref o), (1, .int (nI nj)), (2, .int (nI aj)), (3, .int (nI bj)), (4, .int (nI dj))] d_Wo_line_36 (by decide) rfl ?_
        refine v_aload_n (pc := 38) C 1 d_Wo_line_38 rfl rfl ?_
        refine v_get (pc := 39) (Cn := "WeightOrder") (T := T_Wo) (N := 6) (ci := 6) (v := .ref s) C 0 1 rfl rfl hin_Wo (by decide) rfl k_141 rfl d_Wo_line_39 ?_
        refine v_lload (pc := 42) C 0 d_Wo_line_42 rfl ?_
        refine v_callV (pc := 44) (As := [.long (lN key)]) (rest := []) C (c_Ls_find _ G s nt a b m td ks vs mf L key hL hT hM hkl) l_Wo_71 ([(o, ob 6 [.ref t, .ref s, .ref ra, .ref x, .ref e, .ref e2]), (t, ob 0 [.ref ta, .ref tb, .int (nI nc)]), (ta, aJ G 512 kc), (tb, aI G 512 vc), (ra, aR G 4 rmf), (x, ob 5 [.ref t, .ref s, .ref p, .ref c, .int (nI st), .int en, .long k0, .int n0, va_rf (ld)]), (p, aI G 200 f), (c, aI G 200 g), (e, ob 4 [.ref v, .int (nI en1), .int (nI es1), .int (nI eb1)]), (v, aJ G 1600 fe), (e2, ob 4 [.ref v2, .int (nI en2), .int (nI es2), .int (nI eb2)]), (v2, aJ G 1600 fe2)] ++ (rpool G RL ++ lpool G L)) (sp_poolR [0, 1, 2, 3, 9, 10, 11, 12, 13, 14, 15, 16] [4, 5, 6, 7, 8] rfl rfl rfl) 0 rfl rfl rfl rfl rfl (Nat.le_of_ble_eq_true rfl) (by decide) (by decide) (by decide) (by decide) d_Wo_line_44 (fun r w' hq => ?_)
        obtain ⟨rfl, rfl⟩ := hq
        refine v_swap ?_
        show vv K ({ frames := 7, cells := 4, slots := 25, locals := 190 } : Room) G 7 0 0 ([(o, ob 6 [.ref t, .ref s, .ref ra, .ref x, .ref e, .ref e2]), (t, ob 0 [.ref ta, .ref tb, .int (nI nc)]), (ta, aJ G 512 kc), (tb, aI G 512 vc), (ra, aR G 4 rmf), (x, ob 5 [.ref t, .ref s, .ref p, .ref c, .int (nI st), .int en, .long k0, .int n0, va_rf (ld)]), (p, aI G 200 f), (c, aI G 200 g), (e, ob 4 [.ref v, .int (nI en1), .int (nI es1), .int (nI eb1)]), (v, aJ G 1600 fe), (e2, ob 4 [.ref v2, .int (nI en2), .int (nI es2), .int (nI eb2)]), (v2, aJ G 1600 fe2), (s, ob 2 [.ref nt, .ref m, .int (nI L.length), va_rf (td)]), (nt, ob 0 [.ref a, .ref b, .int (nI L.length)]), (a, aJ G 500 ks), (b, aI G 500 vs), (m, aL G 500 mf)] ++ (rpool G RL ++ lpool G L)) 47 [(5, .long (lN key)), (0, .ref o), (1, .int (nI nj)), (2, .int (nI aj)), (3, .int (nI bj)), (4, .int (nI dj))] [va_rf (adr key L)]
        have hn5 := hL.1
        cases hf : fnd key L with
        | none =>
          rw [show adr key L = none by unfold adr; rw [hf]; rfl]
          show vv K ({ frames := 7, cells := 4, slots := 25, locals := 190 } : Room) G 7 0 0 ([(o, ob 6 [.ref t, .ref s, .ref ra, .ref x, .ref e, .ref e2]), (t, ob 0 [.ref ta, .ref tb, .int (nI nc)]), (ta, aJ G 512 kc), (tb, aI G 512 vc), (ra, aR G 4 rmf), (x, ob 5 [.ref t, .ref s, .ref p, .ref c, .int (nI st), .int en, .long k0, .int n0, va_rf (ld)]), (p, aI G 200 f), (c, aI G 200 g), (e, ob 4 [.ref v, .int (nI en1), .int (nI es1), .int (nI eb1)]), (v, aJ G 1600 fe), (e2, ob 4 [.ref v2, .int (nI en2), .int (nI es2), .int (nI eb2)]), (v2, aJ G 1600 fe2), (s, ob 2 [.ref nt, .ref m, .int (nI L.length), va_rf (td)]), (nt, ob 0 [.ref a, .ref b, .int (nI L.length)]), (a, aJ G 500 ks), (b, aI G 500 vs), (m, aL G 500 mf)] ++ (rpool G RL ++ lpool G L)) 47 [(5, .long (lN key)), (0, .ref o), (1, .int (nI nj)), (2, .int (nI aj)), (3, .int (nI bj)), (4, .int (nI dj))] [.null]
          refine v_ifnonnullN (pc := 47) C d_Wo_line_47 ?_
          refine v_aload_n (pc := 50) C 1 d_Wo_line_50 rfl rfl ?_
          refine v_get (pc := 51) (Cn := "WeightOrder") (T := T_Wo) (N := 6) (ci := 6) (v := .ref s) C 0 1 rfl rfl hin_Wo (by decide) rfl k_141 rfl d_Wo_line_51 ?_
          refine v_callV (pc := 54) (As := []) (rest := []) C (c_Ls_isFull _ G s nt m L.length td mf hn5) l_Wo_75 ([(o, ob 6 [.ref t, .ref s, .ref ra, .ref x, .ref e, .ref e2]), (t, ob 0 [.ref ta, .ref tb, .int (nI nc)]), (ta, aJ G 512 kc), (tb, aI G 512 vc), (ra, aR G 4 rmf), (x, ob 5 [.ref t, .ref s, .ref p, .ref c, .int (nI st), .int en, .long k0, .int n0, va_rf (ld)]), (p, aI G 200 f), (c, aI G 200 g), (e, ob 4 [.ref v, .int (nI en1), .int (nI es1), .int (nI eb1)]), (v, aJ G 1600 fe), (e2, ob 4 [.ref v2, .int (nI en2), .int (nI es2), .int (nI eb2)]), (v2, aJ G 1600 fe2), (nt, ob 0 [.ref a, .ref b, .int (nI L.length)]), (a, aJ G 500 ks), (b, aI G 500 vs)] ++ (rpool G RL ++ lpool G L)) (sp_poolR [0, 1, 2, 3, 4, 5, 6, 7, 8, 9, 10, 11, 13, 14, 15] [12, 16] rfl rfl rfl) 0 rfl rfl rfl rfl rfl (Nat.le_of_ble_eq_true rfl) (by decide) (by decide) (by decide) (by decide) d_Wo_line_54 (fun r w' hq => ?_)
          obtain ⟨rfl, rfl⟩ := hq
          refine v_swap ?_
          show vv K ({ frames := 7, cells := 4, slots := 25, locals := 190 } : Room) G 7 0 0 ([(o, ob 6 [.ref t, .ref s, .ref ra, .ref x, .ref e, .ref e2]), (t, ob 0 [.ref ta, .ref tb, .int (nI nc)]), (ta, aJ G 512 kc), (tb, aI G 512 vc), (ra, aR G 4 rmf), (x, ob 5 [.ref t, .ref s, .ref p, .ref c, .int (nI st), .int en, .long k0, .int n0, va_rf (ld)]), (p, aI G 200 f), (c, aI G 200 g), (e, ob 4 [.ref v, .int (nI en1), .int (nI es1), .int (nI eb1)]), (v, aJ G 1600 fe), (e2, ob 4 [.ref v2, .int (nI en2), .int (nI es2), .int (nI eb2)]), (v2, aJ G 1600 fe2), (nt, ob 0 [.ref a, .ref b, .int (nI L.length)]), (a, aJ G 500 ks), (b, aI G 500 vs), (s, ob 2 [.ref nt, .ref m, .int (nI L.length), va_rf (td)]), (m, aL G 500 mf)] ++ (rpool G RL ++ lpool G L)) 57 [(5, .long (lN key)), (0, .ref o), (1, .int (nI nj)), (2, .int (nI aj)), (3, .int (nI bj)), (4, .int (nI dj))] [.int (if L.length = 500 then nI 1 else nI 0)]
          by_cases h5 : L.length = 500
          · rw [if_pos h5]
            refine v_ifN_eq (pc := 57) C 68 1 d_Wo_line_57 (by decide) (by omega) (fun h6 => ?_) (fun h6 => ?_)
            · omega
            · refine v_wsubP [0, 1, 2, 3, 15, 12, 13, 14, 16, 4, 5, 6, 7, 8, 9, 10, 11] ([(o, ob 6 [.ref t, .ref s, .ref ra, .ref x, .ref e, .ref e2]), (t, ob 0 [.ref ta, .ref tb, .int (nI nc)]), (ta, aJ G 512 kc), (tb, aI G 512 vc), (s, ob 2 [.ref nt, .ref m, .int (nI L.length), va_rf (td)]), (nt, ob 0 [.ref a, .ref b, .int (nI L.length)]), (a, aJ G 500 ks), (b, aI G 500 vs), (m, aL G 500 mf), (ra, aR G 4 rmf), (x, ob 5 [.ref t, .ref s, .ref p, .ref c, .int (nI st), .int en, .long k0, .int n0, va_rf (ld)]), (p, aI G 200 f), (c, aI G 200 g), (e, ob 4 [.ref v, .int (nI en1), .int (nI es1), .int (nI eb1)]), (v, aJ G 1600 fe), (e2, ob 4 [.ref v2, .int (nI en2), .int (nI es2), .int (nI eb2)]), (v2, aJ G 1600 fe2)]) rfl rfl ?_
              exact v_throw (pc := 60) C Y _ th_IOO d_Wo_line_60 d_Wo_line_63 d_Wo_line_64 d_Wo_line_67 (by decide) (by decide) (by decide) (by decide) ⟨⟨t, ta, tb, nc, s, nt, a, b, m, ra, x, p, c, st, e, v, en1, es1, eb1, e2, v2, en2, es2, eb2, td, ld, mf, rmf, kc, ks, fe, fe2, vc, vs, f, g, en, n0, k0, Fc, L, RL, rfl, hnc, hk5, hTc, hcl, hL, hT, hM, rfl, htd, hRO, hRm, rfl⟩, Or.inr ⟨by rw [hsp0, if_pos ⟨hf, h5⟩], rfl⟩⟩
          · rw [if_neg h5]
            refine v_ifN_eq (pc := 57) C 68 0 d_Wo_line_57 (by decide) (by omega) (fun h6 => ?_) (fun h6 => ?_)
            · have hspk : spLine (cl, absL L, told, RL.map (·.2.1)) (nI nj) (nI aj) (nI bj) (nI dj) = (0, nI (tellA key (absL L)).length, (cl, tellA key (absL L), some (tellI key (absL L)), RL.map (·.2.1))) := by rw [hsp0, if_neg (fun z => h5 z.2)]
              refine v_aload_n (pc := 68) C 1 d_Wo_line_68 rfl rfl ?_
              refine v_get (pc := 69) (Cn := "WeightOrder") (T := T_Wo) (N := 6) (ci := 6) (v := .ref s) C 0 1 rfl rfl hin_Wo (by decide) rfl k_141 rfl d_Wo_line_69 ?_
              refine v_lload (pc := 72) C 0 d_Wo_line_72 rfl ?_
              refine v_callV (pc := 74) (As := [.long (lN key)]) (rest := []) C (c_Ls_tell _ G s nt a b m td ks vs mf L key hL hT hM hkl (fun _ => by omega)) l_Wo_82 ([(o, ob 6 [.ref t, .ref s, .ref ra, .ref x, .ref e, .ref e2]), (t, ob 0 [.ref ta, .ref tb, .int (nI nc)]), (ta, aJ G 512 kc), (tb, aI G 512 vc), (ra, aR G 4 rmf), (x, ob 5 [.ref t, .ref s, .ref p, .ref c, .int (nI st), .int en, .long k0, .int n0, va_rf (ld)]), (p, aI G 200 f), (c, aI G 200 g), (e, ob 4 [.ref v, .int (nI en1), .int (nI es1), .int (nI eb1)]), (v, aJ G 1600 fe), (e2, ob 4 [.ref v2, .int (nI en2), .int (nI es2), .int (nI eb2)]), (v2, aJ G 1600 fe2)] ++ rpool G RL) (sp_pool2 [0, 1, 2, 3, 4, 5, 6, 7, 8, 9, 10, 11] [15, 12, 13, 14, 16] rfl rfl rfl) 0 rfl rfl rfl rfl rfl (Nat.le_of_ble_eq_true rfl) (by decide) (by decide) (by decide) (by decide) d_Wo_line_74 (fun r w' hq => ?_)
              obtain ⟨rfl, L2, ks2, vs2, mf2, td2, rfl, hL2, hT2, hM2, hab, htd2⟩ := hq
              refine v_mix ?_
              show vv K ({ frames := 7, cells := 4, slots := 25, locals := 190 } : Room) G 7 3 19 ([(o, ob 6 [.ref t, .ref s, .ref ra, .ref x, .ref e, .ref e2]), (t, ob 0 [.ref ta, .ref tb, .int (nI nc)]), (ta, aJ G 512 kc), (tb, aI G 512 vc), (ra, aR G 4 rmf), (x, ob 5 [.ref t, .ref s, .ref p, .ref c, .int (nI st), .int en, .long k0, .int n0, va_rf (ld)]), (p, aI G 200 f), (c, aI G 200 g), (e, ob 4 [.ref v, .int (nI en1), .int (nI es1), .int (nI eb1)]), (v, aJ G 1600 fe), (e2, ob 4 [.ref v2, .int (nI en2), .int (nI es2), .int (nI eb2)]), (v2, aJ G 1600 fe2), (s, ob 2 [.ref nt, .ref m, .int (nI L2.length), va_rf (td2)]), (nt, ob 0 [.ref a, .ref b, .int (nI L2.length)]), (a, aJ G 500 ks2), (b, aI G 500 vs2), (m, aL G 500 mf2)] ++ (rpool G RL ++ lpool G L2)) 77 [(5, .long (lN key)), (0, .ref o), (1, .int (nI nj)), (2, .int (nI aj)), (3, .int (nI bj)), (4, .int (nI dj))] []
              have hlen : (tellA key (absL L)).length = L2.length := by rw [← hab, abs_len]
              refine v_aload_n (pc := 77) C 1 d_Wo_line_77 rfl rfl ?_
              refine v_get (pc := 78) (Cn := "WeightOrder") (T := T_Wo) (N := 6) (ci := 6) (v := .ref s) C 0 1 rfl rfl hin_Wo (by decide) rfl k_141 rfl d_Wo_line_78 ?_
              refine v_getN (pc := 81) (Cn := "WeightOrder$Lines") (T := T_Ls) (N := 4) (ci := 2) (v := .int (nI L2.length)) C 12 2 rfl rfl hin_Ls (by decide) rfl k_56 rfl d_Wo_line_81 ?_
              refine v_wsubP [0, 1, 2, 3, 12, 13, 14, 15, 16, 4, 5, 6, 7, 8, 9, 10, 11] ([(o, ob 6 [.ref t, .ref s, .ref ra, .ref x, .ref e, .ref e2]), (t, ob 0 [.ref ta, .ref tb, .int (nI nc)]), (ta, aJ G 512 kc), (tb, aI G 512 vc), (s, ob 2 [.ref nt, .ref m, .int (nI L2.length), va_rf (td2)]), (nt, ob 0 [.ref a, .ref b, .int (nI L2.length)]), (a, aJ G 500 ks2), (b, aI G 500 vs2), (m, aL G 500 mf2), (ra, aR G 4 rmf), (x, ob 5 [.ref t, .ref s, .ref p, .ref c, .int (nI st), .int en, .long k0, .int n0, va_rf (ld)]), (p, aI G 200 f), (c, aI G 200 g), (e, ob 4 [.ref v, .int (nI en1), .int (nI es1), .int (nI eb1)]), (v, aJ G 1600 fe), (e2, ob 4 [.ref v2, .int (nI en2), .int (nI es2), .int (nI eb2)]), (v2, aJ G 1600 fe2)]) rfl rfl ?_
              exact v_iret (pc := 84) C X d_Wo_line_84 ⟨by rw [hspk], by rw [hspk, hlen], by rw [hspk]; exact ⟨t, ta, tb, nc, s, nt, a, b, m, ra, x, p, c, st, e, v, en1, es1, eb1, e2, v2, en2, es2, eb2, td2, ld, mf2, rmf, kc, ks2, fe, fe2, vc, vs2, f, g, en, n0, k0, Fc, L2, RL, rfl, hnc, hk5, hTc, hcl, hL2, hT2, hM2, hab, htd2, hRO, hRm, rfl⟩⟩ (by decide) (by decide)
            · omega
        | some i =>
          obtain ⟨z, hz, hzk⟩ := fnd_some hf
          rw [show adr key L = some z.1.1 by unfold adr; rw [hf]; show (L[i]?.map _) = _; rw [hz]; rfl]
          show vv K ({ frames := 7, cells := 4, slots := 25, locals := 190 } : Room) G 7 0 0 ([(o, ob 6 [.ref t, .ref s, .ref ra, .ref x, .ref e, .ref e2]), (t, ob 0 [.ref ta, .ref tb, .int (nI nc)]), (ta, aJ G 512 kc), (tb, aI G 512 vc), (ra, aR G 4 rmf), (x, ob 5 [.ref t, .ref s, .ref p, .ref c, .int (nI st), .int en, .long k0, .int n0, va_rf (ld)]), (p, aI G 200 f), (c, aI G 200 g), (e, ob 4 [.ref v, .int (nI en1), .int (nI es1), .int (nI eb1)]), (v, aJ G 1600 fe), (e2, ob 4 [.ref v2, .int (nI en2), .int (nI es2), .int (nI eb2)]), (v2, aJ G 1600 fe2), (s, ob 2 [.ref nt, .ref m, .int (nI L.length), va_rf (td)]), (nt, ob 0 [.ref a, .ref b, .int (nI L.length)]), (a, aJ G 500 ks), (b, aI G 500 vs), (m, aL G 500 mf)] ++ (rpool G RL ++ lpool G L)) 47 [(5, .long (lN key)), (0, .ref o), (1, .int (nI nj)), (2, .int (nI aj)), (3, .int (nI bj)), (4, .int (nI dj))] [.ref z.1.1]
          refine v_ifnonnull (pc := 47) C 68 d_Wo_line_47 (by decide) ?_
          have hspk : spLine (cl, absL L, told, RL.map (·.2.1)) (nI nj) (nI aj) (nI bj) (nI dj) = (0, nI (tellA key (absL L)).length, (cl, tellA key (absL L), some (tellI key (absL L)), RL.map (·.2.1))) := by rw [hsp0, if_neg (fun z => by rw [hf] at z; cases z.1)]
          refine v_aload_n (pc := 68) C 1 d_Wo_line_68 rfl rfl ?_
          refine v_get (pc := 69) (Cn := "WeightOrder") (T := T_Wo) (N := 6) (ci := 6) (v := .ref s) C 0 1 rfl rfl hin_Wo (by decide) rfl k_141 rfl d_Wo_line_69 ?_
          refine v_lload (pc := 72) C 0 d_Wo_line_72 rfl ?_
          refine v_callV (pc := 74) (As := [.long (lN key)]) (rest := []) C (c_Ls_tell _ G s nt a b m td ks vs mf L key hL hT hM hkl (fun z => by rw [hf] at z; cases z)) l_Wo_82 ([(o, ob 6 [.ref t, .ref s, .ref ra, .ref x, .ref e, .ref e2]), (t, ob 0 [.ref ta, .ref tb, .int (nI nc)]), (ta, aJ G 512 kc), (tb, aI G 512 vc), (ra, aR G 4 rmf), (x, ob 5 [.ref t, .ref s, .ref p, .ref c, .int (nI st), .int en, .long k0, .int n0, va_rf (ld)]), (p, aI G 200 f), (c, aI G 200 g), (e, ob 4 [.ref v, .int (nI en1), .int (nI es1), .int (nI eb1)]), (v, aJ G 1600 fe), (e2, ob 4 [.ref v2, .int (nI en2), .int (nI es2), .int (nI eb2)]), (v2, aJ G 1600 fe2)] ++ rpool G RL) (sp_pool2 [0, 1, 2, 3, 4, 5, 6, 7, 8, 9, 10, 11] [12, 13, 14, 15, 16] rfl rfl rfl) 0 rfl rfl rfl rfl rfl (Nat.le_of_ble_eq_true rfl) (by decide) (by decide) (by decide) (by decide) d_Wo_line_74 (fun r w' hq => ?_)
          obtain ⟨rfl, L2, ks2, vs2, mf2, td2, rfl, hL2, hT2, hM2, hab, htd2⟩ := hq
          refine v_mix ?_
          show vv K ({ frames := 7, cells := 4, slots := 25, locals := 190 } : Room) G 7 3 19 ([(o, ob 6 [.ref t, .ref s, .ref ra, .ref x, .ref e, .ref e2]), (t, ob 0 [.ref ta, .ref tb, .int (nI nc)]), (ta, aJ G 512 kc), (tb, aI G 512 vc), (ra, aR G 4 rmf), (x, ob 5 [.ref t, .ref s, .ref p, .ref c, .int (nI st), .int en, .long k0, .int n0, va_rf (ld)]), (p, aI G 200 f), (c, aI G 200 g), (e, ob 4 [.ref v, .int (nI en1), .int (nI es1), .int (nI eb1)]), (v, aJ G 1600 fe), (e2, ob 4 [.ref v2, .int (nI en2), .int (nI es2), .int (nI eb2)]), (v2, aJ G 1600 fe2), (s, ob 2 [.ref nt, .ref m, .int (nI L2.length), va_rf (td2)]), (nt, ob 0 [.ref a, .ref b, .int (nI L2.length)]), (a, aJ G 500 ks2), (b, aI G 500 vs2), (m, aL G 500 mf2)] ++ (rpool G RL ++ lpool G L2)) 77 [(5, .long (lN key)), (0, .ref o), (1, .int (nI nj)), (2, .int (nI aj)), (3, .int (nI bj)), (4, .int (nI dj))] []
          have hlen : (tellA key (absL L)).length = L2.length := by rw [← hab, abs_len]
          refine v_aload_n (pc := 77) C 1 d_Wo_line_77 rfl rfl ?_
          refine v_get (pc := 78) (Cn := "WeightOrder") (T := T_Wo) (N := 6) (ci := 6) (v := .ref s) C 0 1 rfl rfl hin_Wo (by decide) rfl k_141 rfl d_Wo_line_78 ?_
          refine v_getN (pc := 81) (Cn := "WeightOrder$Lines") (T := T_Ls) (N := 4) (ci := 2) (v := .int (nI L2.length)) C 12 2 rfl rfl hin_Ls (by decide) rfl k_56 rfl d_Wo_line_81 ?_
          refine v_wsubP [0, 1, 2, 3, 12, 13, 14, 15, 16, 4, 5, 6, 7, 8, 9, 10, 11] ([(o, ob 6 [.ref t, .ref s, .ref ra, .ref x, .ref e, .ref e2]), (t, ob 0 [.ref ta, .ref tb, .int (nI nc)]), (ta, aJ G 512 kc), (tb, aI G 512 vc), (s, ob 2 [.ref nt, .ref m, .int (nI L2.length), va_rf (td2)]), (nt, ob 0 [.ref a, .ref b, .int (nI L2.length)]), (a, aJ G 500 ks2), (b, aI G 500 vs2), (m, aL G 500 mf2), (ra, aR G 4 rmf), (x, ob 5 [.ref t, .ref s, .ref p, .ref c, .int (nI st), .int en, .long k0, .int n0, va_rf (ld)]), (p, aI G 200 f), (c, aI G 200 g), (e, ob 4 [.ref v, .int (nI en1), .int (nI es1), .int (nI eb1)]), (v, aJ G 1600 fe), (e2, ob 4 [.ref v2, .int (nI en2), .int (nI es2), .int (nI eb2)]), (v2, aJ G 1600 fe2)]) rfl rfl ?_
          exact v_iret (pc := 84) C X d_Wo_line_84 ⟨by rw [hspk], by rw [hspk, hlen], by rw [hspk]; exact ⟨t, ta, tb, nc, s, nt, a, b, m, ra, x, p, c, st, e, v, en1, es1, eb1, e2, v2, en2, es2, eb2, td2, ld, mf2, rmf, kc, ks2, fe, fe2, vc, vs2, f, g, en, n0, k0, Fc, L2, RL, rfl, hnc, hk5, hTc, hcl, hL2, hT2, hM2, hab, htd2, hRO, hRm, rfl⟩⟩ (by decide) (by decide)
      · exact v_throw (pc := 20) C Y _ th_IAE d_Wo_line_20 d_Wo_line_23 d_Wo_line_24 d_Wo_line_27 (by decide) (by decide) (by decide) (by decide) ⟨⟨t, ta, tb, nc, s, nt, a, b, m, ra, x, p, c, st, e, v, en1, es1, eb1, e2, v2, en2, es2, eb2, td, ld, mf, rmf, kc, ks, fe, fe2, vc, vs, f, g, en, n0, k0, Fc, L, RL, rfl, hnc, hk5, hTc, hcl, hL, hT, hM, rfl, htd, hRO, hRm, rfl⟩, Or.inl ⟨by unfold spLine; rw [if_pos (Or.inr (Or.inr (ap3_0 h3)))], rfl⟩⟩
end
section
/-! WeightOrder.element -/
theorem spElement_bad {σ : Sg} {p s t : Int32} {v : Nat} (h : badN p 65535 ∨ badN s 65535 ∨ badN t 65535) : (spElement σ p s t v).1 = 1 := by
  unfold spElement
  split
  · rfl
  · rw [if_pos h]
theorem lns_add {es : List E4} {fp : Nat → Int64} {fv : Nat → Int32} {e : E4} (h : LnS es fp fv) (he : okR e) : LnS (es ++ [e]) (vp_updL fp es.length (lN (pkN e.1 e.2.1 e.2.2.1 0))) (upd fv es.length (vp_nar .boolean (nI e.2.2.2))) := by
  refine ⟨fun x hx => ?_, fun i x hx => ?_⟩
  · rcases List.mem_append.mp hx with hx | hx
    · exact h.1 x hx
    · rw [List.mem_singleton.mp hx]; exact he
  · rcases Nat.lt_trichotomy i es.length with c | c | c
    · rw [List.getElem?_append_left c] at hx
      rw [pk_uLn (by omega), pk_un (by omega)]
      exact h.2 i x hx
    · rw [c, List.getElem?_append_right (Nat.le_refl _), Nat.sub_self] at hx
      cases hx
      rw [c, pk_uLs, pk_us, vpn_b he.2.2.2]
      exact ⟨rfl, rfl⟩
    · rw [List.getElem?_eq_none (by simp; omega)] at hx
      cases hx
theorem esA_at {L : List LnX} {i : Nat} {z : LnX} (h : L[i]? = some z) : esA (absL L) i = z.2.2.1 := by rw [← lnE_abs, lnE_at h]
theorem absD {L : List LnX} {i : Nat} {z : LnX} (h : L[i]? = some z) : (absL L).getD i (0, []) = (z.2.1, z.2.2.1) := by
  unfold absL
  rw [List.getD_eq_getElem?_getD, List.getElem?_map, h]
  rfl

set_option maxHeartbeats 4000000 in
set_option maxRecDepth 100000 in
theorem c_Wo_element (l : Launch) (htr : l.stackTraces = false) (G : Gx) (o k : Nat) (σ : Sg) (w : va_W) (pw sw tw : Int32) (vb : Nat) (hw : WoI G o k σ w) (hvb : vb ≤ 1) : CTX l G y_Wo_element b_Wo_element 6 (some .int) ({ frames := 7, cells := 1, slots := 6, locals := 190 } : Room) w [.ref o, .int pw, .int sw, .int tw, .int (nI vb)] (fun r w' => (spElement σ pw sw tw vb).1 = 0 ∧ r = some (.int (spElement σ pw sw tw vb).2.1) ∧ WoI G o k (spElement σ pw sw tw vb).2.2 w') (fun E w' => WoI G o k σ w' ∧ ((spElement σ pw sw tw vb).1 = 1 ∧ E = "java/lang/IllegalArgumentException" ∨ (spElement σ pw sw tw vb).1 = 2 ∧ E = "java/lang/IndexOutOfBoundsException")) := by
  obtain ⟨cl, A9, told, rws⟩ := σ
  obtain ⟨t, ta, tb, nc, s, nt, a, b, m, ra, x, p, c, st, e, v, en1, es1, eb1, e2, v2, en2, es2, eb2, td, ld, mf, rmf, kc, ks, fe, fe2, vc, vs, f, g, en, n0, k0, Fc, L, RL, rfl, hnc, hk5, hTc, hcl, hL, hT, hM, hA, htd, hRO, hRm, hRw⟩ := hw
  have hA : absL L = A9 := hA
  have hRw : RL.map (·.2.1) = rws := hRw
  subst hA; subst hRw
  refine ctx_of htr [(0, .ref o), (1, .int pw), (2, .int sw), (3, .int tw), (4, .int (nI vb))] (by decide) (Nat.le_of_ble_eq_true rfl) rfl (fun K hKl C X Y => ?_)
  subst hKl
  refine v_iload_n (pc := 0) C 1 d_Wo_element_0 rfl rfl ?_
  refine v_ldc (pc := 1) C 65535 k_326 d_Wo_element_1 ?_
  refine v_seti (nI 65535) (by decide +kernel) ?_
  refine v_callS (pc := 3) (As := [.int pw, .int (nI 65535)]) (rest := []) C (c_Wo_isWithin _ G pw (nI 65535)) l_Wo_52 ([(o, ob 6 [.ref t, .ref s, .ref ra, .ref x, .ref e, .ref e2]), (t, ob 0 [.ref ta, .ref tb, .int (nI nc)]), (ta, aJ G 512 kc), (tb, aI G 512 vc), (s, ob 2 [.ref nt, .ref m, .int (nI L.length), va_rf (td)]), (nt, ob 0 [.ref a, .ref b, .int (nI L.length)]), (a, aJ G 500 ks), (b, aI G 500 vs), (m, aL G 500 mf), (ra, aR G 4 rmf), (x, ob 5 [.ref t, .ref s, .ref p, .ref c, .int (nI st), .int en, .long k0, .int n0, va_rf (ld)]), (p, aI G 200 f), (c, aI G 200 g), (e, ob 4 [.ref v, .int (nI en1), .int (nI es1), .int (nI eb1)]), (v, aJ G 1600 fe), (e2, ob 4 [.ref v2, .int (nI en2), .int (nI es2), .int (nI eb2)]), (v2, aJ G 1600 fe2)] ++ (rpool G RL ++ lpool G L)) (sp_poolR [0, 1, 2, 3, 4, 5, 6, 7, 8, 9, 10, 11, 12, 13, 14, 15, 16] [] rfl rfl rfl) rfl rfl (Nat.le_of_ble_eq_true rfl) (by decide) (by decide) (by decide) (by decide) d_Wo_element_3 (fun r w' hq => ?_)
  obtain ⟨rfl, rfl⟩ := hq
  refine v_swap ?_
  show vv K ({ frames := 7, cells := 1, slots := 6, locals := 190 } : Room) G 6 0 0 ([(o, ob 6 [.ref t, .ref s, .ref ra, .ref x, .ref e, .ref e2]), (t, ob 0 [.ref ta, .ref tb, .int (nI nc)]), (ta, aJ G 512 kc), (tb, aI G 512 vc), (s, ob 2 [.ref nt, .ref m, .int (nI L.length), va_rf (td)]), (nt, ob 0 [.ref a, .ref b, .int (nI L.length)]), (a, aJ G 500 ks), (b, aI G 500 vs), (m, aL G 500 mf), (ra, aR G 4 rmf), (x, ob 5 [.ref t, .ref s, .ref p, .ref c, .int (nI st), .int en, .long k0, .int n0, va_rf (ld)]), (p, aI G 200 f), (c, aI G 200 g), (e, ob 4 [.ref v, .int (nI en1), .int (nI es1), .int (nI eb1)]), (v, aJ G 1600 fe), (e2, ob 4 [.ref v2, .int (nI en2), .int (nI es2), .int (nI eb2)]), (v2, aJ G 1600 fe2)] ++ (rpool G RL ++ lpool G L)) 6 [(0, .ref o), (1, .int pw), (2, .int sw), (3, .int tw), (4, .int (nI vb))] [.int (wi pw (nI 65535))]
  refine v_if_eq (pc := 6) C 27 d_Wo_element_6 (by decide) (fun h1 => ?_) (fun h1 => ?_)
  · exact v_throw (pc := 27) C Y _ th_IAE d_Wo_element_27 d_Wo_element_30 d_Wo_element_31 d_Wo_element_34 (by decide) (by decide) (by decide) (by decide) ⟨⟨t, ta, tb, nc, s, nt, a, b, m, ra, x, p, c, st, e, v, en1, es1, eb1, e2, v2, en2, es2, eb2, td, ld, mf, rmf, kc, ks, fe, fe2, vc, vs, f, g, en, n0, k0, Fc, L, RL, rfl, hnc, hk5, hTc, hcl, hL, hT, hM, rfl, htd, hRO, hRm, rfl⟩, Or.inl ⟨spElement_bad (Or.inl (wi_eq0 h1)), rfl⟩⟩
  · refine v_iload_n (pc := 9) C 2 d_Wo_element_9 rfl rfl ?_
    refine v_ldc (pc := 10) C 65535 k_326 d_Wo_element_10 ?_
    refine v_seti (nI 65535) (by decide +kernel) ?_
    refine v_callS (pc := 12) (As := [.int sw, .int (nI 65535)]) (rest := []) C (c_Wo_isWithin _ G sw (nI 65535)) l_Wo_52 ([(o, ob 6 [.ref t, .ref s, .ref ra, .ref x, .ref e, .ref e2]), (t, ob 0 [.ref ta, .ref tb, .int (nI nc)]), (ta, aJ G 512 kc), (tb, aI G 512 vc), (s, ob 2 [.ref nt, .ref m, .int (nI L.length), va_rf (td)]), (nt, ob 0 [.ref a, .ref b, .int (nI L.length)]), (a, aJ G 500 ks), (b, aI G 500 vs), (m, aL G 500 mf), (ra, aR G 4 rmf), (x, ob 5 [.ref t, .ref s, .ref p, .ref c, .int (nI st), .int en, .long k0, .int n0, va_rf (ld)]), (p, aI G 200 f), (c, aI G 200 g), (e, ob 4 [.ref v, .int (nI en1), .int (nI es1), .int (nI eb1)]), (v, aJ G 1600 fe), (e2, ob 4 [.ref v2, .int (nI en2), .int (nI es2), .int (nI eb2)]), (v2, aJ G 1600 fe2)] ++ (rpool G RL ++ lpool G L)) (sp_poolR [0, 1, 2, 3, 4, 5, 6, 7, 8, 9, 10, 11, 12, 13, 14, 15, 16] [] rfl rfl rfl) rfl rfl (Nat.le_of_ble_eq_true rfl) (by decide) (by decide) (by decide) (by decide) d_Wo_element_12 (fun r w' hq => ?_)
    obtain ⟨rfl, rfl⟩ := hq
    refine v_swap ?_
    show vv K ({ frames := 7, cells := 1, slots := 6, locals := 190 } : Room) G 6 0 0 ([(o, ob 6 [.ref t, .ref s, .ref ra, .ref x, .ref e, .ref e2]), (t, ob 0 [.ref ta, .ref tb, .int (nI nc)]), (ta, aJ G 512 kc), (tb, aI G 512 vc), (s, ob 2 [.ref nt, .ref m, .int (nI L.length), va_rf (td)]), (nt, ob 0 [.ref a, .ref b, .int (nI L.length)]), (a, aJ G 500 ks), (b, aI G 500 vs), (m, aL G 500 mf), (ra, aR G 4 rmf), (x, ob 5 [.ref t, .ref s, .ref p, .ref c, .int (nI st), .int en, .long k0, .int n0, va_rf (ld)]), (p, aI G 200 f), (c, aI G 200 g), (e, ob 4 [.ref v, .int (nI en1), .int (nI es1), .int (nI eb1)]), (v, aJ G 1600 fe), (e2, ob 4 [.ref v2, .int (nI en2), .int (nI es2), .int (nI eb2)]), (v2, aJ G 1600 fe2)] ++ (rpool G RL ++ lpool G L)) 15 [(0, .ref o), (1, .int pw), (2, .int sw), (3, .int tw), (4, .int (nI vb))] [.int (wi sw (nI 65535))]
    refine v_if_eq (pc := 15) C 27 d_Wo_element_15 (by decide) (fun h2 => ?_) (fun h2 => ?_)
    · exact v_throw (pc := 27) C Y _ th_IAE d_Wo_element_27 d_Wo_element_30 d_Wo_element_31 d_Wo_element_34 (by decide) (by decide) (by decide) (by decide) ⟨⟨t, ta, tb, nc, s, nt, a, b, m, ra, x, p, c, st, e, v, en1, es1, eb1, e2, v2, en2, es2, eb2, td, ld, mf, rmf, kc, ks, fe, fe2, vc, vs, f, g, en, n0, k0, Fc, L, RL, rfl, hnc, hk5, hTc, hcl, hL, hT, hM, rfl, htd, hRO, hRm, rfl⟩, Or.inl ⟨spElement_bad (Or.inr (Or.inl (wi_eq0 h2))), rfl⟩⟩
    · refine v_iload_n (pc := 18) C 3 d_Wo_element_18 rfl rfl ?_
      refine v_ldc (pc := 19) C 65535 k_326 d_Wo_element_19 ?_
      refine v_seti (nI 65535) (by decide +kernel) ?_
      refine v_callS (pc := 21) (As := [.int tw, .int (nI 65535)]) (rest := []) C (c_Wo_isWithin _ G tw (nI 65535)) l_Wo_52 ([(o, ob 6 [.ref t, .ref s, .ref ra, .ref x, .ref e, .ref e2]), (t, ob 0 [.ref ta, .ref tb, .int (nI nc)]), (ta, aJ G 512 kc), (tb, aI G 512 vc), (s, ob 2 [.ref nt, .ref m, .int (nI L.length), va_rf (td)]), (nt, ob 0 [.ref a, .ref b, .int (nI L.length)]), (a, aJ G 500 ks), (b, aI G 500 vs), (m, aL G 500 mf), (ra, aR G 4 rmf), (x, ob 5 [.ref t, .ref s, .ref p, .ref c, .int (nI st), .int en, .long k0, .int n0, va_rf (ld)]), (p, aI G 200 f), (c, aI G 200 g), (e, ob 4 [.ref v, .int (nI en1), .int (nI es1), .int (nI eb1)]), (v, aJ G 1600 fe), (e2, ob 4 [.ref v2, .int (nI en2), .int (nI es2), .int (nI eb2)]), (v2, aJ G 1600 fe2)] ++ (rpool G RL ++ lpool G L)) (sp_poolR [0, 1, 2, 3, 4, 5, 6, 7, 8, 9, 10, 11, 12, 13, 14, 15, 16] [] rfl rfl rfl) rfl rfl (Nat.le_of_ble_eq_true rfl) (by decide) (by decide) (by decide) (by decide) d_Wo_element_21 (fun r w' hq => ?_)
      obtain ⟨rfl, rfl⟩ := hq
      refine v_swap ?_
      show vv K ({ frames := 7, cells := 1, slots := 6, locals := 190 } : Room) G 6 0 0 ([(o, ob 6 [.ref t, .ref s, .ref ra, .ref x, .ref e, .ref e2]), (t, ob 0 [.ref ta, .ref tb, .int (nI nc)]), (ta, aJ G 512 kc), (tb, aI G 512 vc), (s, ob 2 [.ref nt, .ref m, .int (nI L.length), va_rf (td)]), (nt, ob 0 [.ref a, .ref b, .int (nI L.length)]), (a, aJ G 500 ks), (b, aI G 500 vs), (m, aL G 500 mf), (ra, aR G 4 rmf), (x, ob 5 [.ref t, .ref s, .ref p, .ref c, .int (nI st), .int en, .long k0, .int n0, va_rf (ld)]), (p, aI G 200 f), (c, aI G 200 g), (e, ob 4 [.ref v, .int (nI en1), .int (nI es1), .int (nI eb1)]), (v, aJ G 1600 fe), (e2, ob 4 [.ref v2, .int (nI en2), .int (nI es2), .int (nI eb2)]), (v2, aJ G 1600 fe2)] ++ (rpool G RL ++ lpool G L)) 24 [(0, .ref o), (1, .int pw), (2, .int sw), (3, .int tw), (4, .int (nI vb))] [.int (wi tw (nI 65535))]
      refine v_if_ne (pc := 24) C 35 d_Wo_element_24 (by decide) (fun h3 => ?_) (fun h3 => ?_)
      · obtain ⟨pj, hpj, rfl⟩ := wi_nat (by decide) h1
        obtain ⟨sj, hsj, rfl⟩ := wi_nat (by decide) h2
        obtain ⟨tj, htj, rfl⟩ := wi_nat (by decide) h3
        have hnb : ¬ (badN (nI pj) 65535 ∨ badN (nI sj) 65535 ∨ badN (nI tj) 65535) := fun z => z.elim (nbad hpj (by decide)) (fun z => z.elim (nbad hsj (by decide)) (nbad htj (by decide)))
        cases told with
        | none =>
          have htd2 : td = none := htd
          subst htd2
          show vv K ({ frames := 7, cells := 1, slots := 6, locals := 190 } : Room) G 6 0 0 ([(o, ob 6 [.ref t, .ref s, .ref ra, .ref x, .ref e, .ref e2]), (t, ob 0 [.ref ta, .ref tb, .int (nI nc)]), (ta, aJ G 512 kc), (tb, aI G 512 vc), (s, ob 2 [.ref nt, .ref m, .int (nI L.length), .null]), (nt, ob 0 [.ref a, .ref b, .int (nI L.length)]), (a, aJ G 500 ks), (b, aI G 500 vs), (m, aL G 500 mf), (ra, aR G 4 rmf), (x, ob 5 [.ref t, .ref s, .ref p, .ref c, .int (nI st), .int en, .long k0, .int n0, va_rf (ld)]), (p, aI G 200 f), (c, aI G 200 g), (e, ob 4 [.ref v, .int (nI en1), .int (nI es1), .int (nI eb1)]), (v, aJ G 1600 fe), (e2, ob 4 [.ref v2, .int (nI en2), .int (nI es2), .int (nI eb2)]), (v2, aJ G 1600 fe2)] ++ (rpool G RL ++ lpool G L)) 35 [(0, .ref o), (1, .int (nI pj)), (2, .int (nI sj)), (3, .int (nI tj)), (4, .int (nI vb))] []
          refine v_aload_n (pc := 35) C 0 d_Wo_element_35 rfl rfl ?_
          refine v_get (pc := 36) (Cn := "WeightOrder") (T := T_Wo) (N := 6) (ci := 6) (v := .ref s) C 0 1 rfl rfl hin_Wo (by decide) rfl k_141 rfl d_Wo_element_36 ?_
          refine v_getN (pc := 39) (Cn := "WeightOrder$Lines") (T := T_Ls) (N := 4) (ci := 2) (v := .null) C 4 3 rfl rfl hin_Ls (by decide) rfl k_57 rfl d_Wo_element_39 ?_
          refine v_astoreN (pc := 42) C [(5, .null), (0, .ref o), (1, .int (nI pj)), (2, .int (nI sj)), (3, .int (nI tj)), (4, .int (nI vb))] d_Wo_element_42 (by decide) rfl ?_
          refine v_aloadN (pc := 44) C 0 d_Wo_element_44 rfl ?_
          refine v_ifnonnullN (pc := 46) C d_Wo_element_46 ?_
          refine v_wsubP [0, 1, 2, 3, 4, 5, 6, 7, 8, 9, 10, 11, 12, 13, 14, 15, 16] ([(o, ob 6 [.ref t, .ref s, .ref ra, .ref x, .ref e, .ref e2]), (t, ob 0 [.ref ta, .ref tb, .int (nI nc)]), (ta, aJ G 512 kc), (tb, aI G 512 vc), (s, ob 2 [.ref nt, .ref m, .int (nI L.length), .null]), (nt, ob 0 [.ref a, .ref b, .int (nI L.length)]), (a, aJ G 500 ks), (b, aI G 500 vs), (m, aL G 500 mf), (ra, aR G 4 rmf), (x, ob 5 [.ref t, .ref s, .ref p, .ref c, .int (nI st), .int en, .long k0, .int n0, va_rf (ld)]), (p, aI G 200 f), (c, aI G 200 g), (e, ob 4 [.ref v, .int (nI en1), .int (nI es1), .int (nI eb1)]), (v, aJ G 1600 fe), (e2, ob 4 [.ref v2, .int (nI en2), .int (nI es2), .int (nI eb2)]), (v2, aJ G 1600 fe2)]) rfl rfl ?_
          exact v_throw (pc := 49) C Y _ th_IAE d_Wo_element_49 d_Wo_element_52 d_Wo_element_53 d_Wo_element_56 (by decide) (by decide) (by decide) (by decide) ⟨⟨t, ta, tb, nc, s, nt, a, b, m, ra, x, p, c, st, e, v, en1, es1, eb1, e2, v2, en2, es2, eb2, none, ld, mf, rmf, kc, ks, fe, fe2, vc, vs, f, g, en, n0, k0, Fc, L, RL, rfl, hnc, hk5, hTc, hcl, hL, hT, hM, rfl, htd, hRO, hRm, rfl⟩, Or.inl ⟨rfl, rfl⟩⟩
        | some i =>
          obtain ⟨z, hz, htd2⟩ : ∃ z, L[i]? = some z ∧ td = some z.1.1 := htd
          subst htd2
          have hzo := hL.2 z (List.mem_of_getElem? hz)
          obtain ⟨LA, LB, e1, -, e2q⟩ := lset_split hz
          have hsp0 : spElement (cl, absL L, some i, RL.map (·.2.1)) (nI pj) (nI sj) (nI tj) vb = if z.2.2.1.length = 8 then (2, nI 0, (cl, absL L, some i, RL.map (·.2.1))) else (0, nI (z.2.2.1.length + 1), (cl, (absL L).set i (z.2.1, z.2.2.1 ++ [(pj, sj, tj, vb)]), some i, RL.map (·.2.1))) := by
            unfold spElement
            show (if badN (nI pj) 65535 ∨ _ then _ else _) = _
            rw [if_neg hnb, toN_nI (by omega), toN_nI (by omega), toN_nI (by omega)]
            simp only [esA_at hz, absD hz]
          show vv K ({ frames := 7, cells := 1, slots := 6, locals := 190 } : Room) G 6 0 0 ([(o, ob 6 [.ref t, .ref s, .ref ra, .ref x, .ref e, .ref e2]), (t, ob 0 [.ref ta, .ref tb, .int (nI nc)]), (ta, aJ G 512 kc), (tb, aI G 512 vc), (s, ob 2 [.ref nt, .ref m, .int (nI L.length), .ref z.1.1]), (nt, ob 0 [.ref a, .ref b, .int (nI L.length)]), (a, aJ G 500 ks), (b, aI G 500 vs), (m, aL G 500 mf), (ra, aR G 4 rmf), (x, ob 5 [.ref t, .ref s, .ref p, .ref c, .int (nI st), .int en, .long k0, .int n0, va_rf (ld)]), (p, aI G 200 f), (c, aI G 200 g), (e, ob 4 [.ref v, .int (nI en1), .int (nI es1), .int (nI eb1)]), (v, aJ G 1600 fe), (e2, ob 4 [.ref v2, .int (nI en2), .int (nI es2), .int (nI eb2)]), (v2, aJ G 1600 fe2)] ++ (rpool G RL ++ lpool G L)) 35 [(0, .ref o), (1, .int (nI pj)), (2, .int (nI sj)), (3, .int (nI tj)), (4, .int (nI vb))] []
          refine v_aload_n (pc := 35) C 0 d_Wo_element_35 rfl rfl ?_
          refine v_get (pc := 36) (Cn := "WeightOrder") (T := T_Wo) (N := 6) (ci := 6) (v := .ref s) C 0 1 rfl rfl hin_Wo (by decide) rfl k_141 rfl d_Wo_element_36 ?_
          refine v_getN (pc := 39) (Cn := "WeightOrder$Lines") (T := T_Ls) (N := 4) (ci := 2) (v := .ref z.1.1) C 4 3 rfl rfl hin_Ls (by decide) rfl k_57 rfl d_Wo_element_39 ?_
          refine v_astore (pc := 42) C [(5, .ref z.1.1), (0, .ref o), (1, .int (nI pj)), (2, .int (nI sj)), (3, .int (nI tj)), (4, .int (nI vb))] d_Wo_element_42 (by decide) rfl ?_
          refine v_aload (pc := 44) C 0 d_Wo_element_44 rfl ?_
          refine v_ifnonnull (pc := 46) C 57 d_Wo_element_46 (by decide) ?_
          rw [show lpool G L = lpool G (LA ++ z :: LB) by rw [← e1]]
          refine v_lout2 ?_
          show vv K ({ frames := 7, cells := 1, slots := 6, locals := 190 } : Room) G 6 0 0 ([(o, ob 6 [.ref t, .ref s, .ref ra, .ref x, .ref e, .ref e2]), (t, ob 0 [.ref ta, .ref tb, .int (nI nc)]), (ta, aJ G 512 kc), (tb, aI G 512 vc), (s, ob 2 [.ref nt, .ref m, .int (nI L.length), .ref z.1.1]), (nt, ob 0 [.ref a, .ref b, .int (nI L.length)]), (a, aJ G 500 ks), (b, aI G 500 vs), (m, aL G 500 mf), (ra, aR G 4 rmf), (x, ob 5 [.ref t, .ref s, .ref p, .ref c, .int (nI st), .int en, .long k0, .int n0, va_rf (ld)]), (p, aI G 200 f), (c, aI G 200 g), (e, ob 4 [.ref v, .int (nI en1), .int (nI es1), .int (nI eb1)]), (v, aJ G 1600 fe), (e2, ob 4 [.ref v2, .int (nI en2), .int (nI es2), .int (nI eb2)]), (v2, aJ G 1600 fe2), (z.1.1, ob 1 [.ref z.1.2.1, .ref z.1.2.2, .int (nI z.2.2.1.length)]), (z.1.2.1, aJ G 8 z.2.2.2.1), (z.1.2.2, aZ G 8 z.2.2.2.2)] ++ (rpool G RL ++ lpool G (LA ++ LB))) 57 [(5, .ref z.1.1), (0, .ref o), (1, .int (nI pj)), (2, .int (nI sj)), (3, .int (nI tj)), (4, .int (nI vb))] []
          refine v_aload (pc := 57) C 0 d_Wo_element_57 rfl ?_
          refine v_callV (pc := 59) (As := []) (rest := []) C (c_Li_isFull _ G z.1.1 z.1.2.1 z.1.2.2 z.2.2.2.1 z.2.2.2.2 z.2.2.1.length hzo.1) l_Wo_95 ([(o, ob 6 [.ref t, .ref s, .ref ra, .ref x, .ref e, .ref e2]), (t, ob 0 [.ref ta, .ref tb, .int (nI nc)]), (ta, aJ G 512 kc), (tb, aI G 512 vc), (s, ob 2 [.ref nt, .ref m, .int (nI L.length), .ref z.1.1]), (nt, ob 0 [.ref a, .ref b, .int (nI L.length)]), (a, aJ G 500 ks), (b, aI G 500 vs), (m, aL G 500 mf), (ra, aR G 4 rmf), (x, ob 5 [.ref t, .ref s, .ref p, .ref c, .int (nI st), .int en, .long k0, .int n0, va_rf (ld)]), (p, aI G 200 f), (c, aI G 200 g), (e, ob 4 [.ref v, .int (nI en1), .int (nI es1), .int (nI eb1)]), (v, aJ G 1600 fe), (e2, ob 4 [.ref v2, .int (nI en2), .int (nI es2), .int (nI eb2)]), (v2, aJ G 1600 fe2)] ++ (rpool G RL ++ lpool G (LA ++ LB))) (sp_poolR [0, 1, 2, 3, 4, 5, 6, 7, 8, 9, 10, 11, 12, 13, 14, 15, 16] [17, 18, 19] rfl rfl rfl) 0 rfl rfl rfl rfl rfl (Nat.le_of_ble_eq_true rfl) (by decide) (by decide) (by decide) (by decide) d_Wo_element_59 (fun r w' hq => ?_)
          obtain ⟨rfl, rfl⟩ := hq
          refine v_swap ?_
          show vv K ({ frames := 7, cells := 1, slots := 6, locals := 190 } : Room) G 6 0 0 ([(o, ob 6 [.ref t, .ref s, .ref ra, .ref x, .ref e, .ref e2]), (t, ob 0 [.ref ta, .ref tb, .int (nI nc)]), (ta, aJ G 512 kc), (tb, aI G 512 vc), (s, ob 2 [.ref nt, .ref m, .int (nI L.length), .ref z.1.1]), (nt, ob 0 [.ref a, .ref b, .int (nI L.length)]), (a, aJ G 500 ks), (b, aI G 500 vs), (m, aL G 500 mf), (ra, aR G 4 rmf), (x, ob 5 [.ref t, .ref s, .ref p, .ref c, .int (nI st), .int en, .long k0, .int n0, va_rf (ld)]), (p, aI G 200 f), (c, aI G 200 g), (e, ob 4 [.ref v, .int (nI en1), .int (nI es1), .int (nI eb1)]), (v, aJ G 1600 fe), (e2, ob 4 [.ref v2, .int (nI en2), .int (nI es2), .int (nI eb2)]), (v2, aJ G 1600 fe2), (z.1.1, ob 1 [.ref z.1.2.1, .ref z.1.2.2, .int (nI z.2.2.1.length)]), (z.1.2.1, aJ G 8 z.2.2.2.1), (z.1.2.2, aZ G 8 z.2.2.2.2)] ++ (rpool G RL ++ lpool G (LA ++ LB))) 62 [(5, .ref z.1.1), (0, .ref o), (1, .int (nI pj)), (2, .int (nI sj)), (3, .int (nI tj)), (4, .int (nI vb))] [.int (if z.2.2.1.length = 8 then nI 1 else nI 0)]
          by_cases h5 : z.2.2.1.length = 8
          · rw [if_pos h5]
            refine v_ifN_eq (pc := 62) C 73 1 d_Wo_element_62 (by decide) (by omega) (fun h6 => ?_) (fun h6 => ?_)
            · omega
            · refine v_wsubP [0, 1, 2, 3, 4, 5, 6, 7, 8, 9, 10, 11, 12, 13, 14, 15, 16, 17, 18, 19] ([(o, ob 6 [.ref t, .ref s, .ref ra, .ref x, .ref e, .ref e2]), (t, ob 0 [.ref ta, .ref tb, .int (nI nc)]), (ta, aJ G 512 kc), (tb, aI G 512 vc), (s, ob 2 [.ref nt, .ref m, .int (nI L.length), .ref z.1.1]), (nt, ob 0 [.ref a, .ref b, .int (nI L.length)]), (a, aJ G 500 ks), (b, aI G 500 vs), (m, aL G 500 mf), (ra, aR G 4 rmf), (x, ob 5 [.ref t, .ref s, .ref p, .ref c, .int (nI st), .int en, .long k0, .int n0, va_rf (ld)]), (p, aI G 200 f), (c, aI G 200 g), (e, ob 4 [.ref v, .int (nI en1), .int (nI es1), .int (nI eb1)]), (v, aJ G 1600 fe), (e2, ob 4 [.ref v2, .int (nI en2), .int (nI es2), .int (nI eb2)]), (v2, aJ G 1600 fe2), (z.1.1, ob 1 [.ref z.1.2.1, .ref z.1.2.2, .int (nI z.2.2.1.length)]), (z.1.2.1, aJ G 8 z.2.2.2.1), (z.1.2.2, aZ G 8 z.2.2.2.2)]) rfl rfl ?_
              refine v_lin2 (X := [(o, ob 6 [.ref t, .ref s, .ref ra, .ref x, .ref e, .ref e2]), (t, ob 0 [.ref ta, .ref tb, .int (nI nc)]), (ta, aJ G 512 kc), (tb, aI G 512 vc), (s, ob 2 [.ref nt, .ref m, .int (nI L.length), .ref z.1.1]), (nt, ob 0 [.ref a, .ref b, .int (nI L.length)]), (a, aJ G 500 ks), (b, aI G 500 vs), (m, aL G 500 mf), (ra, aR G 4 rmf), (x, ob 5 [.ref t, .ref s, .ref p, .ref c, .int (nI st), .int en, .long k0, .int n0, va_rf (ld)]), (p, aI G 200 f), (c, aI G 200 g), (e, ob 4 [.ref v, .int (nI en1), .int (nI es1), .int (nI eb1)]), (v, aJ G 1600 fe), (e2, ob 4 [.ref v2, .int (nI en2), .int (nI es2), .int (nI eb2)]), (v2, aJ G 1600 fe2)]) (z := z) ?_
              rw [← e1]
              exact v_throw (pc := 65) C Y _ th_IOO d_Wo_element_65 d_Wo_element_68 d_Wo_element_69 d_Wo_element_72 (by decide) (by decide) (by decide) (by decide) ⟨⟨t, ta, tb, nc, s, nt, a, b, m, ra, x, p, c, st, e, v, en1, es1, eb1, e2, v2, en2, es2, eb2, some z.1.1, ld, mf, rmf, kc, ks, fe, fe2, vc, vs, f, g, en, n0, k0, Fc, L, RL, rfl, hnc, hk5, hTc, hcl, hL, hT, hM, rfl, ⟨z, hz, rfl⟩, hRO, hRm, rfl⟩, Or.inr ⟨by rw [hsp0, if_pos h5], rfl⟩⟩
          · rw [if_neg h5]
            refine v_ifN_eq (pc := 62) C 73 0 d_Wo_element_62 (by decide) (by omega) (fun h6 => ?_) (fun h6 => ?_)
            · have hsp : spElement (cl, absL L, some i, RL.map (·.2.1)) (nI pj) (nI sj) (nI tj) vb = (0, nI (z.2.2.1.length + 1), (cl, (absL L).set i (z.2.1, z.2.2.1 ++ [(pj, sj, tj, vb)]), some i, RL.map (·.2.1))) := by rw [hsp0, if_neg h5]
              have hzl := hzo.1
              refine v_aload (pc := 73) C 0 d_Wo_element_73 rfl ?_
              refine v_iload_n (pc := 75) C 2 d_Wo_element_75 rfl rfl ?_
              refine v_iload_n (pc := 76) C 3 d_Wo_element_76 rfl rfl ?_
              refine v_iload_n (pc := 77) C 4 d_Wo_element_77 rfl rfl ?_
              refine v_callS (pc := 78) (As := [.int (nI pj), .int (nI sj), .int (nI tj)]) (rest := [.ref z.1.1]) C (c_Wo_pack _ G pj sj tj (by omega) (by omega) (by omega)) l_Wo_98 ([(o, ob 6 [.ref t, .ref s, .ref ra, .ref x, .ref e, .ref e2]), (t, ob 0 [.ref ta, .ref tb, .int (nI nc)]), (ta, aJ G 512 kc), (tb, aI G 512 vc), (s, ob 2 [.ref nt, .ref m, .int (nI L.length), .ref z.1.1]), (nt, ob 0 [.ref a, .ref b, .int (nI L.length)]), (a, aJ G 500 ks), (b, aI G 500 vs), (m, aL G 500 mf), (ra, aR G 4 rmf), (x, ob 5 [.ref t, .ref s, .ref p, .ref c, .int (nI st), .int en, .long k0, .int n0, va_rf (ld)]), (p, aI G 200 f), (c, aI G 200 g), (e, ob 4 [.ref v, .int (nI en1), .int (nI es1), .int (nI eb1)]), (v, aJ G 1600 fe), (e2, ob 4 [.ref v2, .int (nI en2), .int (nI es2), .int (nI eb2)]), (v2, aJ G 1600 fe2), (z.1.1, ob 1 [.ref z.1.2.1, .ref z.1.2.2, .int (nI z.2.2.1.length)]), (z.1.2.1, aJ G 8 z.2.2.2.1), (z.1.2.2, aZ G 8 z.2.2.2.2)] ++ (rpool G RL ++ lpool G (LA ++ LB))) (sp_poolR [0, 1, 2, 3, 4, 5, 6, 7, 8, 9, 10, 11, 12, 13, 14, 15, 16, 17, 18, 19] [] rfl rfl rfl) rfl rfl (Nat.le_of_ble_eq_true rfl) (by decide) (by decide) (by decide) (by decide) d_Wo_element_78 (fun r w' hq => ?_)
              obtain ⟨rfl, rfl⟩ := hq
              refine v_swap ?_
              show vv K ({ frames := 7, cells := 1, slots := 6, locals := 190 } : Room) G 6 0 0 ([(o, ob 6 [.ref t, .ref s, .ref ra, .ref x, .ref e, .ref e2]), (t, ob 0 [.ref ta, .ref tb, .int (nI nc)]), (ta, aJ G 512 kc), (tb, aI G 512 vc), (s, ob 2 [.ref nt, .ref m, .int (nI L.length), .ref z.1.1]), (nt, ob 0 [.ref a, .ref b, .int (nI L.length)]), (a, aJ G 500 ks), (b, aI G 500 vs), (m, aL G 500 mf), (ra, aR G 4 rmf), (x, ob 5 [.ref t, .ref s, .ref p, .ref c, .int (nI st), .int en, .long k0, .int n0, va_rf (ld)]), (p, aI G 200 f), (c, aI G 200 g), (e, ob 4 [.ref v, .int (nI en1), .int (nI es1), .int (nI eb1)]), (v, aJ G 1600 fe), (e2, ob 4 [.ref v2, .int (nI en2), .int (nI es2), .int (nI eb2)]), (v2, aJ G 1600 fe2), (z.1.1, ob 1 [.ref z.1.2.1, .ref z.1.2.2, .int (nI z.2.2.1.length)]), (z.1.2.1, aJ G 8 z.2.2.2.1), (z.1.2.2, aZ G 8 z.2.2.2.2)] ++ (rpool G RL ++ lpool G (LA ++ LB))) 81 [(5, .ref z.1.1), (0, .ref o), (1, .int (nI pj)), (2, .int (nI sj)), (3, .int (nI tj)), (4, .int (nI vb))] [.long (lN (pkN pj sj tj 0)), .ref z.1.1]
              refine v_iload (pc := 81) C 5 d_Wo_element_81 rfl ?_
              refine v_callV (pc := 83) (As := [.long (lN (pkN pj sj tj 0)), .int (nI vb)]) (rest := []) C (c_Li_append _ G z.1.1 z.1.2.1 z.1.2.2 z.2.2.2.1 z.2.2.2.2 z.2.2.1.length (lN (pkN pj sj tj 0)) (nI vb) (by omega)) l_Wo_102 ([(o, ob 6 [.ref t, .ref s, .ref ra, .ref x, .ref e, .ref e2]), (t, ob 0 [.ref ta, .ref tb, .int (nI nc)]), (ta, aJ G 512 kc), (tb, aI G 512 vc), (s, ob 2 [.ref nt, .ref m, .int (nI L.length), .ref z.1.1]), (nt, ob 0 [.ref a, .ref b, .int (nI L.length)]), (a, aJ G 500 ks), (b, aI G 500 vs), (m, aL G 500 mf), (ra, aR G 4 rmf), (x, ob 5 [.ref t, .ref s, .ref p, .ref c, .int (nI st), .int en, .long k0, .int n0, va_rf (ld)]), (p, aI G 200 f), (c, aI G 200 g), (e, ob 4 [.ref v, .int (nI en1), .int (nI es1), .int (nI eb1)]), (v, aJ G 1600 fe), (e2, ob 4 [.ref v2, .int (nI en2), .int (nI es2), .int (nI eb2)]), (v2, aJ G 1600 fe2)] ++ (rpool G RL ++ lpool G (LA ++ LB))) (sp_poolR [0, 1, 2, 3, 4, 5, 6, 7, 8, 9, 10, 11, 12, 13, 14, 15, 16] [17, 18, 19] rfl rfl rfl) 0 rfl rfl rfl rfl rfl (Nat.le_of_ble_eq_true rfl) (by decide) (by decide) (by decide) (by decide) d_Wo_element_83 (fun r w' hq => ?_)
              obtain ⟨rfl, rfl⟩ := hq
              refine v_swap ?_
              show vv K ({ frames := 7, cells := 1, slots := 6, locals := 190 } : Room) G 6 0 0 ([(o, ob 6 [.ref t, .ref s, .ref ra, .ref x, .ref e, .ref e2]), (t, ob 0 [.ref ta, .ref tb, .int (nI nc)]), (ta, aJ G 512 kc), (tb, aI G 512 vc), (s, ob 2 [.ref nt, .ref m, .int (nI L.length), .ref z.1.1]), (nt, ob 0 [.ref a, .ref b, .int (nI L.length)]), (a, aJ G 500 ks), (b, aI G 500 vs), (m, aL G 500 mf), (ra, aR G 4 rmf), (x, ob 5 [.ref t, .ref s, .ref p, .ref c, .int (nI st), .int en, .long k0, .int n0, va_rf (ld)]), (p, aI G 200 f), (c, aI G 200 g), (e, ob 4 [.ref v, .int (nI en1), .int (nI es1), .int (nI eb1)]), (v, aJ G 1600 fe), (e2, ob 4 [.ref v2, .int (nI en2), .int (nI es2), .int (nI eb2)]), (v2, aJ G 1600 fe2), (z.1.1, ob 1 [.ref z.1.2.1, .ref z.1.2.2, .int (nI (z.2.2.1.length + 1))]), (z.1.2.1, aJ G 8 (vp_updL z.2.2.2.1 z.2.2.1.length (lN (pkN pj sj tj 0)))), (z.1.2.2, aZ G 8 (upd z.2.2.2.2 z.2.2.1.length (vp_nar .boolean (nI vb))))] ++ (rpool G RL ++ lpool G (LA ++ LB))) 86 [(5, .ref z.1.1), (0, .ref o), (1, .int (nI pj)), (2, .int (nI sj)), (3, .int (nI tj)), (4, .int (nI vb))] []
              refine v_aload (pc := 86) C 0 d_Wo_element_86 rfl ?_
              refine v_getN (pc := 88) (Cn := "WeightOrder$Line") (T := T_Li) (N := 3) (ci := 1) (v := .int (nI (z.2.2.1.length + 1))) C 17 2 rfl rfl hin_Li (by decide) rfl k_309 rfl d_Wo_element_88 ?_
              refine v_wsubP [0, 1, 2, 3, 4, 5, 6, 7, 8, 9, 10, 11, 12, 13, 14, 15, 16, 17, 18, 19] ([(o, ob 6 [.ref t, .ref s, .ref ra, .ref x, .ref e, .ref e2]), (t, ob 0 [.ref ta, .ref tb, .int (nI nc)]), (ta, aJ G 512 kc), (tb, aI G 512 vc), (s, ob 2 [.ref nt, .ref m, .int (nI L.length), .ref z.1.1]), (nt, ob 0 [.ref a, .ref b, .int (nI L.length)]), (a, aJ G 500 ks), (b, aI G 500 vs), (m, aL G 500 mf), (ra, aR G 4 rmf), (x, ob 5 [.ref t, .ref s, .ref p, .ref c, .int (nI st), .int en, .long k0, .int n0, va_rf (ld)]), (p, aI G 200 f), (c, aI G 200 g), (e, ob 4 [.ref v, .int (nI en1), .int (nI es1), .int (nI eb1)]), (v, aJ G 1600 fe), (e2, ob 4 [.ref v2, .int (nI en2), .int (nI es2), .int (nI eb2)]), (v2, aJ G 1600 fe2), (z.1.1, ob 1 [.ref z.1.2.1, .ref z.1.2.2, .int (nI (z.2.2.1.length + 1))]), (z.1.2.1, aJ G 8 (vp_updL z.2.2.2.1 z.2.2.1.length (lN (pkN pj sj tj 0)))), (z.1.2.2, aZ G 8 (upd z.2.2.2.2 z.2.2.1.length (vp_nar .boolean (nI vb))))]) rfl rfl ?_
              have hll : z.2.2.1.length + 1 = (z.2.2.1 ++ [(pj, sj, tj, vb)]).length := by simp
              have e3 := e2q (z.1, z.2.1, z.2.2.1 ++ [(pj, sj, tj, vb)], vp_updL z.2.2.2.1 z.2.2.1.length (lN (pkN pj sj tj 0)), upd z.2.2.2.2 z.2.2.1.length (vp_nar .boolean (nI vb)))
              rw [hll] at hsp ⊢
              refine v_lin2 (X := [(o, ob 6 [.ref t, .ref s, .ref ra, .ref x, .ref e, .ref e2]), (t, ob 0 [.ref ta, .ref tb, .int (nI nc)]), (ta, aJ G 512 kc), (tb, aI G 512 vc), (s, ob 2 [.ref nt, .ref m, .int (nI L.length), .ref z.1.1]), (nt, ob 0 [.ref a, .ref b, .int (nI L.length)]), (a, aJ G 500 ks), (b, aI G 500 vs), (m, aL G 500 mf), (ra, aR G 4 rmf), (x, ob 5 [.ref t, .ref s, .ref p, .ref c, .int (nI st), .int en, .long k0, .int n0, va_rf (ld)]), (p, aI G 200 f), (c, aI G 200 g), (e, ob 4 [.ref v, .int (nI en1), .int (nI es1), .int (nI eb1)]), (v, aJ G 1600 fe), (e2, ob 4 [.ref v2, .int (nI en2), .int (nI es2), .int (nI eb2)]), (v2, aJ G 1600 fe2)]) (z := (z.1, z.2.1, z.2.2.1 ++ [(pj, sj, tj, vb)], vp_updL z.2.2.2.1 z.2.2.1.length (lN (pkN pj sj tj 0)), upd z.2.2.2.2 z.2.2.1.length (vp_nar .boolean (nI vb)))) ?_
              rw [← e3]
              have hl1 : (L.set i (z.1, z.2.1, z.2.2.1 ++ [(pj, sj, tj, vb)], vp_updL z.2.2.2.1 z.2.2.1.length (lN (pkN pj sj tj 0)), upd z.2.2.2.2 z.2.2.1.length (vp_nar .boolean (nI vb)))).length = L.length := List.length_set
              have hoe : okR (pj, sj, tj, vb) := ⟨show pj < 65536 by omega, show sj < 65536 by omega, show tj < 65536 by omega, hvb⟩
              exact v_iret (pc := 91) C X d_Wo_element_91 ⟨by rw [hsp], by rw [hsp], by rw [hsp]; exact ⟨t, ta, tb, nc, s, nt, a, b, m, ra, x, p, c, st, e, v, en1, es1, eb1, e2, v2, en2, es2, eb2, some z.1.1, ld, mf, rmf, kc, ks, fe, fe2, vc, vs, f, g, en, n0, k0, Fc, L.set i (z.1, z.2.1, z.2.2.1 ++ [(pj, sj, tj, vb)], vp_updL z.2.2.2.1 z.2.2.1.length (lN (pkN pj sj tj 0)), upd z.2.2.2.2 z.2.2.1.length (vp_nar .boolean (nI vb))), RL, by rw [hl1]; rfl, hnc, hk5, hTc, hcl, lok_set hL ⟨by show (z.2.2.1 ++ [(pj, sj, tj, vb)]).length ≤ 8; omega, lns_add hzo.2 hoe⟩, by rw [hl1, show (fun j => (fnd j (L.set i (z.1, z.2.1, z.2.2.1 ++ [(pj, sj, tj, vb)], vp_updL z.2.2.2.1 z.2.2.1.length (lN (pkN pj sj tj 0)), upd z.2.2.2.2 z.2.2.1.length (vp_nar .boolean (nI vb))))).map nI) = fun j => (fnd j L).map nI from funext (fun j => congrArg (Option.map nI) (fnd_set (y := (z.1, z.2.1, z.2.2.1 ++ [(pj, sj, tj, vb)], vp_updL z.2.2.2.1 z.2.2.1.length (lN (pkN pj sj tj 0)), upd z.2.2.2.2 z.2.2.1.length (vp_nar .boolean (nI vb)))) hz rfl j))]; exact hT, mds_set hM hz rfl, abs_set _, ⟨(z.1, z.2.1, z.2.2.1 ++ [(pj, sj, tj, vb)], vp_updL z.2.2.2.1 z.2.2.1.length (lN (pkN pj sj tj 0)), upd z.2.2.2.2 z.2.2.1.length (vp_nar .boolean (nI vb))), by rw [List.getElem?_set]; simp [(List.getElem?_eq_some_iff.mp hz).1], rfl⟩, hRO, hRm, rfl⟩⟩ (by decide) (by decide)
            · omega
      · exact v_throw (pc := 27) C Y _ th_IAE d_Wo_element_27 d_Wo_element_30 d_Wo_element_31 d_Wo_element_34 (by decide) (by decide) (by decide) (by decide) ⟨⟨t, ta, tb, nc, s, nt, a, b, m, ra, x, p, c, st, e, v, en1, es1, eb1, e2, v2, en2, es2, eb2, td, ld, mf, rmf, kc, ks, fe, fe2, vc, vs, f, g, en, n0, k0, Fc, L, RL, rfl, hnc, hk5, hTc, hcl, hL, hT, hM, rfl, htd, hRO, hRm, rfl⟩, Or.inl ⟨spElement_bad (Or.inr (Or.inr (wi_eq0 h3))), rfl⟩⟩
end
section
/-! WeightOrder.add, clear, count, weight, compare -/
theorem rowA_at {cl : Nat → Nat} {A : List (Nat × List E4)} {told : Option Nat} {RL : List RwX} {j : Nat} {y : RwX} (h : RL[j]? = some y) : rowA (cl, A, told, RL.map (·.2.1)) j = y.2.1 := by
  unfold rowA
  rw [List.getD_eq_getElem?_getD, List.getElem?_map, h]
  rfl
theorem els_at {cl : Nat → Nat} {L : List LnX} {told : Option Nat} {RL : List RwX} {j : Nat} {y : RwX} (h : RL[j]? = some y) : els (cl, absL L, told, RL.map (·.2.1)) j = takeR (fun k => fnd k L) cl (lnE L) 200 y.2.1 := by
  have h1 : (fun k => fndA k (absL L)) = fun k => fnd k L := funext (fun k => fnd_abs k L)
  have h2 : esA (absL L) = lnE L := funext (fun j => (lnE_abs L j).symm)
  unfold els
  show takeR (fun k => fndA k (absL L)) cl (esA (absL L)) 200 ((RL.map (·.2.1)).getD j []) = _
  rw [h1, h2, List.getD_eq_getElem?_getD, List.getElem?_map, h]
  rfl
theorem rows_set {RL : List RwX} {j : Nat} (y : RwX) : (RL.set j y).map (·.2.1) = (RL.map (·.2.1)).set j y.2.1 := List.map_set ..
theorem rok_set {RL : List RwX} {j : Nat} {y : RwX} (h : ROk RL) (hy : RwS y.2.1 y.2.2) : ROk (RL.set j y) := by
  refine ⟨by rw [List.length_set]; exact h.1, fun z hz => ?_⟩
  rcases List.mem_or_eq_of_mem_set hz with hz | rfl
  · exact h.2 z hz
  · exact hy
theorem rms_set {RL : List RwX} {j : Nat} {y z : RwX} {rmf : Nat → Option Nat} (h : RmS RL rmf) (hy : RL[j]? = some y) (e : z.1.1 = y.1.1) : RmS (RL.set j z) rmf := by
  intro i u hu
  rw [List.getElem?_set] at hu
  split at hu
  · rename_i c
    subst c
    split at hu
    · cases hu
      rw [e]; exact h j y hy
    · cases hu
  · exact h i u hu
theorem rws_add {rw : List Nat} {f : Nat → Int32} {x : Nat} (h : RwS rw f) (hl : rw.length < 200) (hx : x ≤ 1114111) : RwS (rw ++ [x]) (upd f rw.length (nI x)) := by
  refine ⟨by simp; omega, fun z hz => ?_, fun i z hz => ?_⟩
  · rcases List.mem_append.mp hz with hz | hz
    · exact h.2.1 z hz
    · rw [List.mem_singleton.mp hz]; exact hx
  · rcases Nat.lt_trichotomy i rw.length with c | c | c
    · rw [List.getElem?_append_left c] at hz
      rw [pk_un (by omega)]
      exact h.2.2 i z hz
    · rw [c, List.getElem?_append_right (Nat.le_refl _), Nat.sub_self] at hz
      cases hz
      rw [c, pk_us]
    · rw [List.getElem?_eq_none (by simp; omega)] at hz
      cases hz
theorem rws_nil {rw : List Nat} {f : Nat → Int32} (h : RwS rw f) : RwS [] f := ⟨by decide, fun _ h => absurd h List.not_mem_nil, fun i z h => by cases h⟩
theorem wt_comp {q : E4} (h : okQ q) {u : Nat} (hu : u ≤ 3) : wtN (pq q) u = comp q u := by
  obtain ⟨h1, h2, h3, h4⟩ := h
  unfold pq comp
  rcases (show u = 0 ∨ u = 1 ∨ u = 2 ∨ u = 3 by omega) with rfl | rfl | rfl | rfl
  · rw [wt_0 h1 h2 h3 h4]; rfl
  · rw [wt_1 h1 h2 h3 h4]; rfl
  · rw [wt_2 h1 h2 h3 h4]; rfl
  · rw [wt_3 h1 h2 h3 h4]; rfl
theorem pq_lt {q : E4} (h : okQ q) : pq q < 18446744073709551616 := pkN_lt h.1 h.2.1 h.2.2.1 h.2.2.2
theorem nz_lvl {q : List E4} (hq : ∀ e ∈ q, okQ e) {k : Nat} (hk : k ≤ 3) : nz (fun i => wtN (pq (q.getD i (0, 0, 0, 0))) k) q.length 0 = lvlL q k := by
  unfold nz lvlL
  congr 1
  rw [Nat.sub_zero]
  refine List.ext_getElem (by simp) (fun i h1 h2 => ?_)
  have hi : i < q.length := by simpa using h2
  simp only [List.getElem_map, List.getElem_range', Nat.zero_add, Nat.one_mul]
  rw [List.getD_eq_getElem?_getD, List.getElem?_eq_getElem hi]
  exact wt_comp (hq _ (List.getElem_mem hi)) hk
theorem cmpTo_stay {q r : List E4} {k : Nat} (h : ¬ cmpTo q r k = 0) : ∀ m, k ≤ m → cmpTo q r m = cmpTo q r k := by
  intro m
  induction m with
  | zero => intro hm; rw [show k = 0 by omega]
  | succ m ih =>
    intro hm
    rcases Nat.lt_or_ge m k with c | c
    · rw [show k = m + 1 by omega]
    · have := ih c
      show (if cmpTo q r m = 0 then _ else cmpTo q r m) = _
      rw [this, if_neg h]
theorem wi_i1 {i : Int32} {n : Nat} (hn : n ≤ 1600) (h : ¬ wi i (nI n - nI 1) = 0) : ∃ j, j < n ∧ i = nI j := by
  obtain ⟨h1, h2⟩ := wi_ne0 h
  obtain ⟨j, hj, rfl⟩ := nI_of h1
  refine ⟨j, ?_, rfl⟩
  rw [Int32.lt_iff_toInt_lt, pk_sub_toInt (by omega) (by decide), nI_toInt hj] at h2
  omega
theorem wi_i0 {i : Int32} {n : Nat} (hn : n ≤ 1600) (h : wi i (nI n - nI 1) = 0) : i < 0 ∨ nI n ≤ i := by
  rcases wi_eq0 h with h | h
  · exact Or.inl h
  · refine Or.inr ?_
    rw [Int32.lt_iff_toInt_lt, pk_sub_toInt (by omega) (by decide)] at h
    rw [Int32.le_iff_toInt_le, nI_toInt (by omega)]
    omega

set_option maxHeartbeats 4000000 in
set_option maxRecDepth 100000 in
theorem c_Wo_add (l : Launch) (htr : l.stackTraces = false) (G : Gx) (o k : Nat) (σ : Sg) (w : va_W) (rr pt : Int32) (hw : WoI G o k σ w)  : CTX l G y_Wo_add b_Wo_add 3 (some .int) ({ frames := 7, cells := 1, slots := 6, locals := 190 } : Room) w [.ref o, .int rr, .int pt] (fun r w' => (spAdd σ rr pt).1 = 0 ∧ r = some (.int (spAdd σ rr pt).2.1) ∧ WoI G o k (spAdd σ rr pt).2.2 w') (fun E w' => WoI G o k σ w' ∧ ((spAdd σ rr pt).1 = 1 ∧ E = "java/lang/IllegalArgumentException" ∨ (spAdd σ rr pt).1 = 2 ∧ E = "java/lang/IndexOutOfBoundsException")) := by
  obtain ⟨cl, A9, told, rws⟩ := σ
  obtain ⟨t, ta, tb, nc, s, nt, a, b, m, ra, x, p, c, st, e, v, en1, es1, eb1, e2, v2, en2, es2, eb2, td, ld, mf, rmf, kc, ks, fe, fe2, vc, vs, f, g, en, n0, k0, Fc, L, RL, rfl, hnc, hk5, hTc, hcl, hL, hT, hM, hA, htd, hRO, hRm, hRw⟩ := hw
  have hA : absL L = A9 := hA
  have hRw : RL.map (·.2.1) = rws := hRw
  subst hA; subst hRw
  refine ctx_of htr [(0, .ref o), (1, .int rr), (2, .int pt)] (by decide) (Nat.le_of_ble_eq_true rfl) rfl (fun K hKl C X Y => ?_)
  subst hKl
  refine v_iload_n (pc := 0) C 1 d_Wo_add_0 rfl rfl ?_
  refine v_iconst (pc := 1) C (nI 3) d_Wo_add_1 (by decide +kernel) ?_
  refine v_callS (pc := 2) (As := [.int rr, .int (nI 3)]) (rest := []) C (c_Wo_isWithin _ G rr (nI 3)) l_Wo_52 ([(o, ob 6 [.ref t, .ref s, .ref ra, .ref x, .ref e, .ref e2]), (t, ob 0 [.ref ta, .ref tb, .int (nI nc)]), (ta, aJ G 512 kc), (tb, aI G 512 vc), (s, ob 2 [.ref nt, .ref m, .int (nI L.length), va_rf (td)]), (nt, ob 0 [.ref a, .ref b, .int (nI L.length)]), (a, aJ G 500 ks), (b, aI G 500 vs), (m, aL G 500 mf), (ra, aR G 4 rmf), (x, ob 5 [.ref t, .ref s, .ref p, .ref c, .int (nI st), .int en, .long k0, .int n0, va_rf (ld)]), (p, aI G 200 f), (c, aI G 200 g), (e, ob 4 [.ref v, .int (nI en1), .int (nI es1), .int (nI eb1)]), (v, aJ G 1600 fe), (e2, ob 4 [.ref v2, .int (nI en2), .int (nI es2), .int (nI eb2)]), (v2, aJ G 1600 fe2)] ++ (rpool G RL ++ lpool G L)) (sp_poolR [0, 1, 2, 3, 4, 5, 6, 7, 8, 9, 10, 11, 12, 13, 14, 15, 16] [] rfl rfl rfl) rfl rfl (Nat.le_of_ble_eq_true rfl) (by decide) (by decide) (by decide) (by decide) d_Wo_add_2 (fun r w' hq => ?_)
  obtain ⟨rfl, rfl⟩ := hq
  refine v_swap ?_
  show vv K ({ frames := 7, cells := 1, slots := 6, locals := 190 } : Room) G 3 0 0 ([(o, ob 6 [.ref t, .ref s, .ref ra, .ref x, .ref e, .ref e2]), (t, ob 0 [.ref ta, .ref tb, .int (nI nc)]), (ta, aJ G 512 kc), (tb, aI G 512 vc), (s, ob 2 [.ref nt, .ref m, .int (nI L.length), va_rf (td)]), (nt, ob 0 [.ref a, .ref b, .int (nI L.length)]), (a, aJ G 500 ks), (b, aI G 500 vs), (m, aL G 500 mf), (ra, aR G 4 rmf), (x, ob 5 [.ref t, .ref s, .ref p, .ref c, .int (nI st), .int en, .long k0, .int n0, va_rf (ld)]), (p, aI G 200 f), (c, aI G 200 g), (e, ob 4 [.ref v, .int (nI en1), .int (nI es1), .int (nI eb1)]), (v, aJ G 1600 fe), (e2, ob 4 [.ref v2, .int (nI en2), .int (nI es2), .int (nI eb2)]), (v2, aJ G 1600 fe2)] ++ (rpool G RL ++ lpool G L)) 5 [(0, .ref o), (1, .int rr), (2, .int pt)] [.int (wi rr (nI 3))]
  refine v_if_eq (pc := 5) C 17 d_Wo_add_5 (by decide) (fun h1 => ?_) (fun h1 => ?_)
  · exact v_throw (pc := 17) C Y _ th_IAE d_Wo_add_17 d_Wo_add_20 d_Wo_add_21 d_Wo_add_24 (by decide) (by decide) (by decide) (by decide) ⟨⟨t, ta, tb, nc, s, nt, a, b, m, ra, x, p, c, st, e, v, en1, es1, eb1, e2, v2, en2, es2, eb2, td, ld, mf, rmf, kc, ks, fe, fe2, vc, vs, f, g, en, n0, k0, Fc, L, RL, rfl, hnc, hk5, hTc, hcl, hL, hT, hM, rfl, htd, hRO, hRm, rfl⟩, Or.inl ⟨by unfold spAdd; rw [if_pos (Or.inl (wi_eq0 h1))], rfl⟩⟩
  · refine v_iload_n (pc := 8) C 2 d_Wo_add_8 rfl rfl ?_
    refine v_ldc (pc := 9) C 1114111 k_167 d_Wo_add_9 ?_
    refine v_seti (nI 1114111) (by decide +kernel) ?_
    refine v_callS (pc := 11) (As := [.int pt, .int (nI 1114111)]) (rest := []) C (c_Wo_isWithin _ G pt (nI 1114111)) l_Wo_52 ([(o, ob 6 [.ref t, .ref s, .ref ra, .ref x, .ref e, .ref e2]), (t, ob 0 [.ref ta, .ref tb, .int (nI nc)]), (ta, aJ G 512 kc), (tb, aI G 512 vc), (s, ob 2 [.ref nt, .ref m, .int (nI L.length), va_rf (td)]), (nt, ob 0 [.ref a, .ref b, .int (nI L.length)]), (a, aJ G 500 ks), (b, aI G 500 vs), (m, aL G 500 mf), (ra, aR G 4 rmf), (x, ob 5 [.ref t, .ref s, .ref p, .ref c, .int (nI st), .int en, .long k0, .int n0, va_rf (ld)]), (p, aI G 200 f), (c, aI G 200 g), (e, ob 4 [.ref v, .int (nI en1), .int (nI es1), .int (nI eb1)]), (v, aJ G 1600 fe), (e2, ob 4 [.ref v2, .int (nI en2), .int (nI es2), .int (nI eb2)]), (v2, aJ G 1600 fe2)] ++ (rpool G RL ++ lpool G L)) (sp_poolR [0, 1, 2, 3, 4, 5, 6, 7, 8, 9, 10, 11, 12, 13, 14, 15, 16] [] rfl rfl rfl) rfl rfl (Nat.le_of_ble_eq_true rfl) (by decide) (by decide) (by decide) (by decide) d_Wo_add_11 (fun r w' hq => ?_)
    obtain ⟨rfl, rfl⟩ := hq
    refine v_swap ?_
    show vv K ({ frames := 7, cells := 1, slots := 6, locals := 190 } : Room) G 3 0 0 ([(o, ob 6 [.ref t, .ref s, .ref ra, .ref x, .ref e, .ref e2]), (t, ob 0 [.ref ta, .ref tb, .int (nI nc)]), (ta, aJ G 512 kc), (tb, aI G 512 vc), (s, ob 2 [.ref nt, .ref m, .int (nI L.length), va_rf (td)]), (nt, ob 0 [.ref a, .ref b, .int (nI L.length)]), (a, aJ G 500 ks), (b, aI G 500 vs), (m, aL G 500 mf), (ra, aR G 4 rmf), (x, ob 5 [.ref t, .ref s, .ref p, .ref c, .int (nI st), .int en, .long k0, .int n0, va_rf (ld)]), (p, aI G 200 f), (c, aI G 200 g), (e, ob 4 [.ref v, .int (nI en1), .int (nI es1), .int (nI eb1)]), (v, aJ G 1600 fe), (e2, ob 4 [.ref v2, .int (nI en2), .int (nI es2), .int (nI eb2)]), (v2, aJ G 1600 fe2)] ++ (rpool G RL ++ lpool G L)) 14 [(0, .ref o), (1, .int rr), (2, .int pt)] [.int (wi pt (nI 1114111))]
    refine v_if_ne (pc := 14) C 25 d_Wo_add_14 (by decide) (fun h2 => ?_) (fun h2 => ?_)
    · obtain ⟨rj, hrj, rfl⟩ := wi_nat (by decide) h1
      obtain ⟨pj, hpj, rfl⟩ := wi_nat (by decide) h2
      obtain ⟨y, hy⟩ : ∃ y, RL[rj]? = some y := ⟨_, List.getElem?_eq_getElem (by rw [hRO.1]; omega)⟩
      have hym := hRm rj y hy
      have hyo := hRO.2 y (List.mem_of_getElem? hy)
      have hsp0 : spAdd (cl, absL L, told, RL.map (·.2.1)) (nI rj) (nI pj) = if y.2.1.length = 200 then (2, nI 0, (cl, absL L, told, RL.map (·.2.1))) else (0, nI (y.2.1.length + 1), (cl, absL L, told, (RL.map (·.2.1)).set rj (y.2.1 ++ [pj]))) := by unfold spAdd; rw [if_neg (fun z => z.elim (nbad hrj (by decide)) (nbad hpj (by decide))), toN_nI (by omega), toN_nI (by omega)]; simp only [rowA_at hy]
      refine v_aload_n (pc := 25) C 0 d_Wo_add_25 rfl rfl ?_
      refine v_get (pc := 26) (Cn := "WeightOrder") (T := T_Wo) (N := 6) (ci := 6) (v := .ref ra) C 0 2 rfl rfl hin_Wo (by decide) rfl k_142 rfl d_Wo_add_26 ?_
      refine v_iload_n (pc := 29) C 1 d_Wo_add_29 rfl rfl ?_
      refine v_aaldR (pc := 30) C 9 rfl rj rfl (by omega) (by decide) d_Wo_add_30 ?_
      rw [hym]
      show vv K ({ frames := 7, cells := 1, slots := 6, locals := 190 } : Room) G 3 0 0 ([(o, ob 6 [.ref t, .ref s, .ref ra, .ref x, .ref e, .ref e2]), (t, ob 0 [.ref ta, .ref tb, .int (nI nc)]), (ta, aJ G 512 kc), (tb, aI G 512 vc), (s, ob 2 [.ref nt, .ref m, .int (nI L.length), va_rf (td)]), (nt, ob 0 [.ref a, .ref b, .int (nI L.length)]), (a, aJ G 500 ks), (b, aI G 500 vs), (m, aL G 500 mf), (ra, aR G 4 rmf), (x, ob 5 [.ref t, .ref s, .ref p, .ref c, .int (nI st), .int en, .long k0, .int n0, va_rf (ld)]), (p, aI G 200 f), (c, aI G 200 g), (e, ob 4 [.ref v, .int (nI en1), .int (nI es1), .int (nI eb1)]), (v, aJ G 1600 fe), (e2, ob 4 [.ref v2, .int (nI en2), .int (nI es2), .int (nI eb2)]), (v2, aJ G 1600 fe2)] ++ (rpool G RL ++ lpool G L)) 31 [(0, .ref o), (1, .int (nI rj)), (2, .int (nI pj))] [.ref y.1.1]
      obtain ⟨RA, RB, e1, -, e2q⟩ := lset_split hy
      rw [show rpool G RL = rpool G (RA ++ y :: RB) by rw [← e1]]
      refine v_rout ?_
      show vv K ({ frames := 7, cells := 1, slots := 6, locals := 190 } : Room) G 3 0 0 ([(o, ob 6 [.ref t, .ref s, .ref ra, .ref x, .ref e, .ref e2]), (t, ob 0 [.ref ta, .ref tb, .int (nI nc)]), (ta, aJ G 512 kc), (tb, aI G 512 vc), (s, ob 2 [.ref nt, .ref m, .int (nI L.length), va_rf (td)]), (nt, ob 0 [.ref a, .ref b, .int (nI L.length)]), (a, aJ G 500 ks), (b, aI G 500 vs), (m, aL G 500 mf), (ra, aR G 4 rmf), (x, ob 5 [.ref t, .ref s, .ref p, .ref c, .int (nI st), .int en, .long k0, .int n0, va_rf (ld)]), (p, aI G 200 f), (c, aI G 200 g), (e, ob 4 [.ref v, .int (nI en1), .int (nI es1), .int (nI eb1)]), (v, aJ G 1600 fe), (e2, ob 4 [.ref v2, .int (nI en2), .int (nI es2), .int (nI eb2)]), (v2, aJ G 1600 fe2), (y.1.1, ob 3 [.ref y.1.2, .int (nI y.2.1.length)]), (y.1.2, aI G 200 y.2.2)] ++ (rpool G (RA ++ RB) ++ lpool G L)) 31 [(0, .ref o), (1, .int (nI rj)), (2, .int (nI pj))] [.ref y.1.1]
      have hyl := hyo.1
      refine v_callV (pc := 31) (As := []) (rest := []) C (c_Ro_isFull _ G y.1.1 y.1.2 y.2.2 y.2.1.length hyo.1) l_Wo_107 ([(o, ob 6 [.ref t, .ref s, .ref ra, .ref x, .ref e, .ref e2]), (t, ob 0 [.ref ta, .ref tb, .int (nI nc)]), (ta, aJ G 512 kc), (tb, aI G 512 vc), (s, ob 2 [.ref nt, .ref m, .int (nI L.length), va_rf (td)]), (nt, ob 0 [.ref a, .ref b, .int (nI L.length)]), (a, aJ G 500 ks), (b, aI G 500 vs), (m, aL G 500 mf), (ra, aR G 4 rmf), (x, ob 5 [.ref t, .ref s, .ref p, .ref c, .int (nI st), .int en, .long k0, .int n0, va_rf (ld)]), (p, aI G 200 f), (c, aI G 200 g), (e, ob 4 [.ref v, .int (nI en1), .int (nI es1), .int (nI eb1)]), (v, aJ G 1600 fe), (e2, ob 4 [.ref v2, .int (nI en2), .int (nI es2), .int (nI eb2)]), (v2, aJ G 1600 fe2)] ++ (rpool G (RA ++ RB) ++ lpool G L)) (sp_poolR [0, 1, 2, 3, 4, 5, 6, 7, 8, 9, 10, 11, 12, 13, 14, 15, 16] [17, 18] rfl rfl rfl) 0 rfl rfl rfl rfl rfl (Nat.le_of_ble_eq_true rfl) (by decide) (by decide) (by decide) (by decide) d_Wo_add_31 (fun r w' hq => ?_)
      obtain ⟨rfl, rfl⟩ := hq
      refine v_swap ?_
      show vv K ({ frames := 7, cells := 1, slots := 6, locals := 190 } : Room) G 3 0 0 ([(o, ob 6 [.ref t, .ref s, .ref ra, .ref x, .ref e, .ref e2]), (t, ob 0 [.ref ta, .ref tb, .int (nI nc)]), (ta, aJ G 512 kc), (tb, aI G 512 vc), (s, ob 2 [.ref nt, .ref m, .int (nI L.length), va_rf (td)]), (nt, ob 0 [.ref a, .ref b, .int (nI L.length)]), (a, aJ G 500 ks), (b, aI G 500 vs), (m, aL G 500 mf), (ra, aR G 4 rmf), (x, ob 5 [.ref t, .ref s, .ref p, .ref c, .int (nI st), .int en, .long k0, .int n0, va_rf (ld)]), (p, aI G 200 f), (c, aI G 200 g), (e, ob 4 [.ref v, .int (nI en1), .int (nI es1), .int (nI eb1)]), (v, aJ G 1600 fe), (e2, ob 4 [.ref v2, .int (nI en2), .int (nI es2), .int (nI eb2)]), (v2, aJ G 1600 fe2), (y.1.1, ob 3 [.ref y.1.2, .int (nI y.2.1.length)]), (y.1.2, aI G 200 y.2.2)] ++ (rpool G (RA ++ RB) ++ lpool G L)) 34 [(0, .ref o), (1, .int (nI rj)), (2, .int (nI pj))] [.int (if y.2.1.length = 200 then nI 1 else nI 0)]
      by_cases h5 : y.2.1.length = 200
      · rw [if_pos h5]
        refine v_ifN_eq (pc := 34) C 45 1 d_Wo_add_34 (by decide) (by omega) (fun h6 => ?_) (fun h6 => ?_)
        · omega
        · refine v_wsubP [0, 1, 2, 3, 4, 5, 6, 7, 8, 9, 10, 11, 12, 13, 14, 15, 16, 17, 18] ([(o, ob 6 [.ref t, .ref s, .ref ra, .ref x, .ref e, .ref e2]), (t, ob 0 [.ref ta, .ref tb, .int (nI nc)]), (ta, aJ G 512 kc), (tb, aI G 512 vc), (s, ob 2 [.ref nt, .ref m, .int (nI L.length), va_rf (td)]), (nt, ob 0 [.ref a, .ref b, .int (nI L.length)]), (a, aJ G 500 ks), (b, aI G 500 vs), (m, aL G 500 mf), (ra, aR G 4 rmf), (x, ob 5 [.ref t, .ref s, .ref p, .ref c, .int (nI st), .int en, .long k0, .int n0, va_rf (ld)]), (p, aI G 200 f), (c, aI G 200 g), (e, ob 4 [.ref v, .int (nI en1), .int (nI es1), .int (nI eb1)]), (v, aJ G 1600 fe), (e2, ob 4 [.ref v2, .int (nI en2), .int (nI es2), .int (nI eb2)]), (v2, aJ G 1600 fe2), (y.1.1, ob 3 [.ref y.1.2, .int (nI y.2.1.length)]), (y.1.2, aI G 200 y.2.2)]) rfl rfl ?_
          refine v_rin (X := [(o, ob 6 [.ref t, .ref s, .ref ra, .ref x, .ref e, .ref e2]), (t, ob 0 [.ref ta, .ref tb, .int (nI nc)]), (ta, aJ G 512 kc), (tb, aI G 512 vc), (s, ob 2 [.ref nt, .ref m, .int (nI L.length), va_rf (td)]), (nt, ob 0 [.ref a, .ref b, .int (nI L.length)]), (a, aJ G 500 ks), (b, aI G 500 vs), (m, aL G 500 mf), (ra, aR G 4 rmf), (x, ob 5 [.ref t, .ref s, .ref p, .ref c, .int (nI st), .int en, .long k0, .int n0, va_rf (ld)]), (p, aI G 200 f), (c, aI G 200 g), (e, ob 4 [.ref v, .int (nI en1), .int (nI es1), .int (nI eb1)]), (v, aJ G 1600 fe), (e2, ob 4 [.ref v2, .int (nI en2), .int (nI es2), .int (nI eb2)]), (v2, aJ G 1600 fe2)]) (y := y) ?_
          rw [← e1]
          exact v_throw (pc := 37) C Y _ th_IOO d_Wo_add_37 d_Wo_add_40 d_Wo_add_41 d_Wo_add_44 (by decide) (by decide) (by decide) (by decide) ⟨⟨t, ta, tb, nc, s, nt, a, b, m, ra, x, p, c, st, e, v, en1, es1, eb1, e2, v2, en2, es2, eb2, td, ld, mf, rmf, kc, ks, fe, fe2, vc, vs, f, g, en, n0, k0, Fc, L, RL, rfl, hnc, hk5, hTc, hcl, hL, hT, hM, rfl, htd, hRO, hRm, rfl⟩, Or.inr ⟨by rw [hsp0, if_pos h5], rfl⟩⟩
      · rw [if_neg h5]
        refine v_ifN_eq (pc := 34) C 45 0 d_Wo_add_34 (by decide) (by omega) (fun h6 => ?_) (fun h6 => ?_)
        · have hsp : spAdd (cl, absL L, told, RL.map (·.2.1)) (nI rj) (nI pj) = (0, nI (y.2.1.length + 1), (cl, absL L, told, (RL.map (·.2.1)).set rj (y.2.1 ++ [pj]))) := by rw [hsp0, if_neg h5]
          refine v_aload_n (pc := 45) C 0 d_Wo_add_45 rfl rfl ?_
          refine v_get (pc := 46) (Cn := "WeightOrder") (T := T_Wo) (N := 6) (ci := 6) (v := .ref ra) C 0 2 rfl rfl hin_Wo (by decide) rfl k_142 rfl d_Wo_add_46 ?_
          refine v_iload_n (pc := 49) C 1 d_Wo_add_49 rfl rfl ?_
          refine v_aaldR (pc := 50) C 9 rfl rj rfl (by omega) (by decide) d_Wo_add_50 ?_
          rw [hym]
          show vv K ({ frames := 7, cells := 1, slots := 6, locals := 190 } : Room) G 3 0 0 ([(o, ob 6 [.ref t, .ref s, .ref ra, .ref x, .ref e, .ref e2]), (t, ob 0 [.ref ta, .ref tb, .int (nI nc)]), (ta, aJ G 512 kc), (tb, aI G 512 vc), (s, ob 2 [.ref nt, .ref m, .int (nI L.length), va_rf (td)]), (nt, ob 0 [.ref a, .ref b, .int (nI L.length)]), (a, aJ G 500 ks), (b, aI G 500 vs), (m, aL G 500 mf), (ra, aR G 4 rmf), (x, ob 5 [.ref t, .ref s, .ref p, .ref c, .int (nI st), .int en, .long k0, .int n0, va_rf (ld)]), (p, aI G 200 f), (c, aI G 200 g), (e, ob 4 [.ref v, .int (nI en1), .int (nI es1), .int (nI eb1)]), (v, aJ G 1600 fe), (e2, ob 4 [.ref v2, .int (nI en2), .int (nI es2), .int (nI eb2)]), (v2, aJ G 1600 fe2), (y.1.1, ob 3 [.ref y.1.2, .int (nI y.2.1.length)]), (y.1.2, aI G 200 y.2.2)] ++ (rpool G (RA ++ RB) ++ lpool G L)) 51 [(0, .ref o), (1, .int (nI rj)), (2, .int (nI pj))] [.ref y.1.1]
          refine v_iload_n (pc := 51) C 2 d_Wo_add_51 rfl rfl ?_
          refine v_callV (pc := 52) (As := [.int (nI pj)]) (rest := []) C (c_Ro_append _ G y.1.1 y.1.2 y.2.2 y.2.1.length (nI pj) (by omega)) l_Wo_108 ([(o, ob 6 [.ref t, .ref s, .ref ra, .ref x, .ref e, .ref e2]), (t, ob 0 [.ref ta, .ref tb, .int (nI nc)]), (ta, aJ G 512 kc), (tb, aI G 512 vc), (s, ob 2 [.ref nt, .ref m, .int (nI L.length), va_rf (td)]), (nt, ob 0 [.ref a, .ref b, .int (nI L.length)]), (a, aJ G 500 ks), (b, aI G 500 vs), (m, aL G 500 mf), (ra, aR G 4 rmf), (x, ob 5 [.ref t, .ref s, .ref p, .ref c, .int (nI st), .int en, .long k0, .int n0, va_rf (ld)]), (p, aI G 200 f), (c, aI G 200 g), (e, ob 4 [.ref v, .int (nI en1), .int (nI es1), .int (nI eb1)]), (v, aJ G 1600 fe), (e2, ob 4 [.ref v2, .int (nI en2), .int (nI es2), .int (nI eb2)]), (v2, aJ G 1600 fe2)] ++ (rpool G (RA ++ RB) ++ lpool G L)) (sp_poolR [0, 1, 2, 3, 4, 5, 6, 7, 8, 9, 10, 11, 12, 13, 14, 15, 16] [17, 18] rfl rfl rfl) 0 rfl rfl rfl rfl rfl (Nat.le_of_ble_eq_true rfl) (by decide) (by decide) (by decide) (by decide) d_Wo_add_52 (fun r w' hq => ?_)
          obtain ⟨rfl, rfl⟩ := hq
          refine v_swap ?_
          show vv K ({ frames := 7, cells := 1, slots := 6, locals := 190 } : Room) G 3 0 0 ([(o, ob 6 [.ref t, .ref s, .ref ra, .ref x, .ref e, .ref e2]), (t, ob 0 [.ref ta, .ref tb, .int (nI nc)]), (ta, aJ G 512 kc), (tb, aI G 512 vc), (s, ob 2 [.ref nt, .ref m, .int (nI L.length), va_rf (td)]), (nt, ob 0 [.ref a, .ref b, .int (nI L.length)]), (a, aJ G 500 ks), (b, aI G 500 vs), (m, aL G 500 mf), (ra, aR G 4 rmf), (x, ob 5 [.ref t, .ref s, .ref p, .ref c, .int (nI st), .int en, .long k0, .int n0, va_rf (ld)]), (p, aI G 200 f), (c, aI G 200 g), (e, ob 4 [.ref v, .int (nI en1), .int (nI es1), .int (nI eb1)]), (v, aJ G 1600 fe), (e2, ob 4 [.ref v2, .int (nI en2), .int (nI es2), .int (nI eb2)]), (v2, aJ G 1600 fe2), (y.1.1, ob 3 [.ref y.1.2, .int (nI (y.2.1.length + 1))]), (y.1.2, aI G 200 (upd y.2.2 y.2.1.length (nI pj)))] ++ (rpool G (RA ++ RB) ++ lpool G L)) 55 [(0, .ref o), (1, .int (nI rj)), (2, .int (nI pj))] []
          refine v_aload_n (pc := 55) C 0 d_Wo_add_55 rfl rfl ?_
          refine v_get (pc := 56) (Cn := "WeightOrder") (T := T_Wo) (N := 6) (ci := 6) (v := .ref ra) C 0 2 rfl rfl hin_Wo (by decide) rfl k_142 rfl d_Wo_add_56 ?_
          refine v_iload_n (pc := 59) C 1 d_Wo_add_59 rfl rfl ?_
          refine v_aaldR (pc := 60) C 9 rfl rj rfl (by omega) (by decide) d_Wo_add_60 ?_
          rw [hym]
          show vv K ({ frames := 7, cells := 1, slots := 6, locals := 190 } : Room) G 3 0 0 ([(o, ob 6 [.ref t, .ref s, .ref ra, .ref x, .ref e, .ref e2]), (t, ob 0 [.ref ta, .ref tb, .int (nI nc)]), (ta, aJ G 512 kc), (tb, aI G 512 vc), (s, ob 2 [.ref nt, .ref m, .int (nI L.length), va_rf (td)]), (nt, ob 0 [.ref a, .ref b, .int (nI L.length)]), (a, aJ G 500 ks), (b, aI G 500 vs), (m, aL G 500 mf), (ra, aR G 4 rmf), (x, ob 5 [.ref t, .ref s, .ref p, .ref c, .int (nI st), .int en, .long k0, .int n0, va_rf (ld)]), (p, aI G 200 f), (c, aI G 200 g), (e, ob 4 [.ref v, .int (nI en1), .int (nI es1), .int (nI eb1)]), (v, aJ G 1600 fe), (e2, ob 4 [.ref v2, .int (nI en2), .int (nI es2), .int (nI eb2)]), (v2, aJ G 1600 fe2), (y.1.1, ob 3 [.ref y.1.2, .int (nI (y.2.1.length + 1))]), (y.1.2, aI G 200 (upd y.2.2 y.2.1.length (nI pj)))] ++ (rpool G (RA ++ RB) ++ lpool G L)) 61 [(0, .ref o), (1, .int (nI rj)), (2, .int (nI pj))] [.ref y.1.1]
          refine v_getN (pc := 61) (Cn := "WeightOrder$Row") (T := T_Ro) (N := 2) (ci := 3) (v := .int (nI (y.2.1.length + 1))) C 17 1 rfl rfl hin_Ro (by decide) rfl k_79 rfl d_Wo_add_61 ?_
          refine v_wsubP [0, 1, 2, 3, 4, 5, 6, 7, 8, 9, 10, 11, 12, 13, 14, 15, 16, 17, 18] ([(o, ob 6 [.ref t, .ref s, .ref ra, .ref x, .ref e, .ref e2]), (t, ob 0 [.ref ta, .ref tb, .int (nI nc)]), (ta, aJ G 512 kc), (tb, aI G 512 vc), (s, ob 2 [.ref nt, .ref m, .int (nI L.length), va_rf (td)]), (nt, ob 0 [.ref a, .ref b, .int (nI L.length)]), (a, aJ G 500 ks), (b, aI G 500 vs), (m, aL G 500 mf), (ra, aR G 4 rmf), (x, ob 5 [.ref t, .ref s, .ref p, .ref c, .int (nI st), .int en, .long k0, .int n0, va_rf (ld)]), (p, aI G 200 f), (c, aI G 200 g), (e, ob 4 [.ref v, .int (nI en1), .int (nI es1), .int (nI eb1)]), (v, aJ G 1600 fe), (e2, ob 4 [.ref v2, .int (nI en2), .int (nI es2), .int (nI eb2)]), (v2, aJ G 1600 fe2), (y.1.1, ob 3 [.ref y.1.2, .int (nI (y.2.1.length + 1))]), (y.1.2, aI G 200 (upd y.2.2 y.2.1.length (nI pj)))]) rfl rfl ?_
          have hll : y.2.1.length + 1 = (y.2.1 ++ [pj]).length := by simp
          have e3 := e2q (y.1, y.2.1 ++ [pj], upd y.2.2 y.2.1.length (nI pj))
          rw [hll] at hsp ⊢
          refine v_rin (X := [(o, ob 6 [.ref t, .ref s, .ref ra, .ref x, .ref e, .ref e2]), (t, ob 0 [.ref ta, .ref tb, .int (nI nc)]), (ta, aJ G 512 kc), (tb, aI G 512 vc), (s, ob 2 [.ref nt, .ref m, .int (nI L.length), va_rf (td)]), (nt, ob 0 [.ref a, .ref b, .int (nI L.length)]), (a, aJ G 500 ks), (b, aI G 500 vs), (m, aL G 500 mf), (ra, aR G 4 rmf), (x, ob 5 [.ref t, .ref s, .ref p, .ref c, .int (nI st), .int en, .long k0, .int n0, va_rf (ld)]), (p, aI G 200 f), (c, aI G 200 g), (e, ob 4 [.ref v, .int (nI en1), .int (nI es1), .int (nI eb1)]), (v, aJ G 1600 fe), (e2, ob 4 [.ref v2, .int (nI en2), .int (nI es2), .int (nI eb2)]), (v2, aJ G 1600 fe2)]) (y := (y.1, y.2.1 ++ [pj], upd y.2.2 y.2.1.length (nI pj))) ?_
          rw [← e3]
          exact v_iret (pc := 64) C X d_Wo_add_64 ⟨by rw [hsp], by rw [hsp], by rw [hsp]; exact ⟨t, ta, tb, nc, s, nt, a, b, m, ra, x, p, c, st, e, v, en1, es1, eb1, e2, v2, en2, es2, eb2, td, ld, mf, rmf, kc, ks, fe, fe2, vc, vs, f, g, en, n0, k0, Fc, L, RL.set rj (y.1, y.2.1 ++ [pj], upd y.2.2 y.2.1.length (nI pj)), rfl, hnc, hk5, hTc, hcl, hL, hT, hM, rfl, htd, rok_set hRO (rws_add hyo (by omega) hpj), rms_set hRm hy rfl, rows_set _⟩⟩ (by decide) (by decide)
        · omega
    · exact v_throw (pc := 17) C Y _ th_IAE d_Wo_add_17 d_Wo_add_20 d_Wo_add_21 d_Wo_add_24 (by decide) (by decide) (by decide) (by decide) ⟨⟨t, ta, tb, nc, s, nt, a, b, m, ra, x, p, c, st, e, v, en1, es1, eb1, e2, v2, en2, es2, eb2, td, ld, mf, rmf, kc, ks, fe, fe2, vc, vs, f, g, en, n0, k0, Fc, L, RL, rfl, hnc, hk5, hTc, hcl, hL, hT, hM, rfl, htd, hRO, hRm, rfl⟩, Or.inl ⟨by unfold spAdd; rw [if_pos (Or.inr (wi_eq0 h2))], rfl⟩⟩

set_option maxHeartbeats 4000000 in
set_option maxRecDepth 100000 in
theorem c_Wo_clear (l : Launch) (htr : l.stackTraces = false) (G : Gx) (o k : Nat) (σ : Sg) (w : va_W) (rr : Int32) (hw : WoI G o k σ w)  : CTX l G y_Wo_clear b_Wo_clear 3 (some .int) ({ frames := 7, cells := 1, slots := 6, locals := 190 } : Room) w [.ref o, .int rr] (fun r w' => (spClear σ rr).1 = 0 ∧ r = some (.int (spClear σ rr).2.1) ∧ WoI G o k (spClear σ rr).2.2 w') (fun E w' => WoI G o k σ w' ∧ ((spClear σ rr).1 = 1 ∧ E = "java/lang/IllegalArgumentException" ∨ (spClear σ rr).1 = 2 ∧ E = "java/lang/IndexOutOfBoundsException")) := by
  obtain ⟨cl, A9, told, rws⟩ := σ
  obtain ⟨t, ta, tb, nc, s, nt, a, b, m, ra, x, p, c, st, e, v, en1, es1, eb1, e2, v2, en2, es2, eb2, td, ld, mf, rmf, kc, ks, fe, fe2, vc, vs, f, g, en, n0, k0, Fc, L, RL, rfl, hnc, hk5, hTc, hcl, hL, hT, hM, hA, htd, hRO, hRm, hRw⟩ := hw
  have hA : absL L = A9 := hA
  have hRw : RL.map (·.2.1) = rws := hRw
  subst hA; subst hRw
  refine ctx_of htr [(0, .ref o), (1, .int rr)] (by decide) (Nat.le_of_ble_eq_true rfl) rfl (fun K hKl C X Y => ?_)
  subst hKl
  refine v_iload_n (pc := 0) C 1 d_Wo_clear_0 rfl rfl ?_
  refine v_iconst (pc := 1) C (nI 3) d_Wo_clear_1 (by decide +kernel) ?_
  refine v_callS (pc := 2) (As := [.int rr, .int (nI 3)]) (rest := []) C (c_Wo_isWithin _ G rr (nI 3)) l_Wo_52 ([(o, ob 6 [.ref t, .ref s, .ref ra, .ref x, .ref e, .ref e2]), (t, ob 0 [.ref ta, .ref tb, .int (nI nc)]), (ta, aJ G 512 kc), (tb, aI G 512 vc), (s, ob 2 [.ref nt, .ref m, .int (nI L.length), va_rf (td)]), (nt, ob 0 [.ref a, .ref b, .int (nI L.length)]), (a, aJ G 500 ks), (b, aI G 500 vs), (m, aL G 500 mf), (ra, aR G 4 rmf), (x, ob 5 [.ref t, .ref s, .ref p, .ref c, .int (nI st), .int en, .long k0, .int n0, va_rf (ld)]), (p, aI G 200 f), (c, aI G 200 g), (e, ob 4 [.ref v, .int (nI en1), .int (nI es1), .int (nI eb1)]), (v, aJ G 1600 fe), (e2, ob 4 [.ref v2, .int (nI en2), .int (nI es2), .int (nI eb2)]), (v2, aJ G 1600 fe2)] ++ (rpool G RL ++ lpool G L)) (sp_poolR [0, 1, 2, 3, 4, 5, 6, 7, 8, 9, 10, 11, 12, 13, 14, 15, 16] [] rfl rfl rfl) rfl rfl (Nat.le_of_ble_eq_true rfl) (by decide) (by decide) (by decide) (by decide) d_Wo_clear_2 (fun r w' hq => ?_)
  obtain ⟨rfl, rfl⟩ := hq
  refine v_swap ?_
  show vv K ({ frames := 7, cells := 1, slots := 6, locals := 190 } : Room) G 3 0 0 ([(o, ob 6 [.ref t, .ref s, .ref ra, .ref x, .ref e, .ref e2]), (t, ob 0 [.ref ta, .ref tb, .int (nI nc)]), (ta, aJ G 512 kc), (tb, aI G 512 vc), (s, ob 2 [.ref nt, .ref m, .int (nI L.length), va_rf (td)]), (nt, ob 0 [.ref a, .ref b, .int (nI L.length)]), (a, aJ G 500 ks), (b, aI G 500 vs), (m, aL G 500 mf), (ra, aR G 4 rmf), (x, ob 5 [.ref t, .ref s, .ref p, .ref c, .int (nI st), .int en, .long k0, .int n0, va_rf (ld)]), (p, aI G 200 f), (c, aI G 200 g), (e, ob 4 [.ref v, .int (nI en1), .int (nI es1), .int (nI eb1)]), (v, aJ G 1600 fe), (e2, ob 4 [.ref v2, .int (nI en2), .int (nI es2), .int (nI eb2)]), (v2, aJ G 1600 fe2)] ++ (rpool G RL ++ lpool G L)) 5 [(0, .ref o), (1, .int rr)] [.int (wi rr (nI 3))]
  refine v_if_ne (pc := 5) C 16 d_Wo_clear_5 (by decide) (fun h1 => ?_) (fun h1 => ?_)
  · obtain ⟨rj, hrj, rfl⟩ := wi_nat (by decide) h1
    obtain ⟨y, hy⟩ : ∃ y, RL[rj]? = some y := ⟨_, List.getElem?_eq_getElem (by rw [hRO.1]; omega)⟩
    have hym := hRm rj y hy
    have hyo := hRO.2 y (List.mem_of_getElem? hy)
    have hsp : spClear (cl, absL L, told, RL.map (·.2.1)) (nI rj) = (0, nI y.2.1.length, (cl, absL L, told, (RL.map (·.2.1)).set rj [])) := by unfold spClear; rw [if_neg (nbad hrj (by decide)), toN_nI (by omega), rowA_at hy]
    refine v_aload_n (pc := 16) C 0 d_Wo_clear_16 rfl rfl ?_
    refine v_get (pc := 17) (Cn := "WeightOrder") (T := T_Wo) (N := 6) (ci := 6) (v := .ref ra) C 0 2 rfl rfl hin_Wo (by decide) rfl k_142 rfl d_Wo_clear_17 ?_
    refine v_iload_n (pc := 20) C 1 d_Wo_clear_20 rfl rfl ?_
    refine v_aaldR (pc := 21) C 9 rfl rj rfl (by omega) (by decide) d_Wo_clear_21 ?_
    rw [hym]
    show vv K ({ frames := 7, cells := 1, slots := 6, locals := 190 } : Room) G 3 0 0 ([(o, ob 6 [.ref t, .ref s, .ref ra, .ref x, .ref e, .ref e2]), (t, ob 0 [.ref ta, .ref tb, .int (nI nc)]), (ta, aJ G 512 kc), (tb, aI G 512 vc), (s, ob 2 [.ref nt, .ref m, .int (nI L.length), va_rf (td)]), (nt, ob 0 [.ref a, .ref b, .int (nI L.length)]), (a, aJ G 500 ks), (b, aI G 500 vs), (m, aL G 500 mf), (ra, aR G 4 rmf), (x, ob 5 [.ref t, .ref s, .ref p, .ref c, .int (nI st), .int en, .long k0, .int n0, va_rf (ld)]), (p, aI G 200 f), (c, aI G 200 g), (e, ob 4 [.ref v, .int (nI en1), .int (nI es1), .int (nI eb1)]), (v, aJ G 1600 fe), (e2, ob 4 [.ref v2, .int (nI en2), .int (nI es2), .int (nI eb2)]), (v2, aJ G 1600 fe2)] ++ (rpool G RL ++ lpool G L)) 22 [(0, .ref o), (1, .int (nI rj))] [.ref y.1.1]
    obtain ⟨RA, RB, e1, -, e2q⟩ := lset_split hy
    rw [show rpool G RL = rpool G (RA ++ y :: RB) by rw [← e1]]
    refine v_rout ?_
    show vv K ({ frames := 7, cells := 1, slots := 6, locals := 190 } : Room) G 3 0 0 ([(o, ob 6 [.ref t, .ref s, .ref ra, .ref x, .ref e, .ref e2]), (t, ob 0 [.ref ta, .ref tb, .int (nI nc)]), (ta, aJ G 512 kc), (tb, aI G 512 vc), (s, ob 2 [.ref nt, .ref m, .int (nI L.length), va_rf (td)]), (nt, ob 0 [.ref a, .ref b, .int (nI L.length)]), (a, aJ G 500 ks), (b, aI G 500 vs), (m, aL G 500 mf), (ra, aR G 4 rmf), (x, ob 5 [.ref t, .ref s, .ref p, .ref c, .int (nI st), .int en, .long k0, .int n0, va_rf (ld)]), (p, aI G 200 f), (c, aI G 200 g), (e, ob 4 [.ref v, .int (nI en1), .int (nI es1), .int (nI eb1)]), (v, aJ G 1600 fe), (e2, ob 4 [.ref v2, .int (nI en2), .int (nI es2), .int (nI eb2)]), (v2, aJ G 1600 fe2), (y.1.1, ob 3 [.ref y.1.2, .int (nI y.2.1.length)]), (y.1.2, aI G 200 y.2.2)] ++ (rpool G (RA ++ RB) ++ lpool G L)) 22 [(0, .ref o), (1, .int (nI rj))] [.ref y.1.1]
    refine v_getN (pc := 22) (Cn := "WeightOrder$Row") (T := T_Ro) (N := 2) (ci := 3) (v := .int (nI y.2.1.length)) C 17 1 rfl rfl hin_Ro (by decide) rfl k_79 rfl d_Wo_clear_22 ?_
    refine v_istore_n (pc := 25) C [(2, .int (nI y.2.1.length)), (0, .ref o), (1, .int (nI rj))] d_Wo_clear_25 rfl (by decide) rfl ?_
    refine v_aload_n (pc := 26) C 1 d_Wo_clear_26 rfl rfl ?_
    refine v_get (pc := 27) (Cn := "WeightOrder") (T := T_Wo) (N := 6) (ci := 6) (v := .ref ra) C 0 2 rfl rfl hin_Wo (by decide) rfl k_142 rfl d_Wo_clear_27 ?_
    refine v_iload_n (pc := 30) C 2 d_Wo_clear_30 rfl rfl ?_
    refine v_aaldR (pc := 31) C 9 rfl rj rfl (by omega) (by decide) d_Wo_clear_31 ?_
    rw [hym]
    show vv K ({ frames := 7, cells := 1, slots := 6, locals := 190 } : Room) G 3 0 0 ([(o, ob 6 [.ref t, .ref s, .ref ra, .ref x, .ref e, .ref e2]), (t, ob 0 [.ref ta, .ref tb, .int (nI nc)]), (ta, aJ G 512 kc), (tb, aI G 512 vc), (s, ob 2 [.ref nt, .ref m, .int (nI L.length), va_rf (td)]), (nt, ob 0 [.ref a, .ref b, .int (nI L.length)]), (a, aJ G 500 ks), (b, aI G 500 vs), (m, aL G 500 mf), (ra, aR G 4 rmf), (x, ob 5 [.ref t, .ref s, .ref p, .ref c, .int (nI st), .int en, .long k0, .int n0, va_rf (ld)]), (p, aI G 200 f), (c, aI G 200 g), (e, ob 4 [.ref v, .int (nI en1), .int (nI es1), .int (nI eb1)]), (v, aJ G 1600 fe), (e2, ob 4 [.ref v2, .int (nI en2), .int (nI es2), .int (nI eb2)]), (v2, aJ G 1600 fe2), (y.1.1, ob 3 [.ref y.1.2, .int (nI y.2.1.length)]), (y.1.2, aI G 200 y.2.2)] ++ (rpool G (RA ++ RB) ++ lpool G L)) 32 [(2, .int (nI y.2.1.length)), (0, .ref o), (1, .int (nI rj))] [.ref y.1.1]
    refine v_iconst (pc := 32) C (nI 0) d_Wo_clear_32 (by decide +kernel) ?_
    refine v_putN (pc := 33) (Cn := "WeightOrder$Row") (T := T_Ro) (N := 2) (ci := 3) (v := .int (nI 0)) C 17 1 rfl rfl hin_Ro (by decide) rfl ([(o, ob 6 [.ref t, .ref s, .ref ra, .ref x, .ref e, .ref e2]), (t, ob 0 [.ref ta, .ref tb, .int (nI nc)]), (ta, aJ G 512 kc), (tb, aI G 512 vc), (s, ob 2 [.ref nt, .ref m, .int (nI L.length), va_rf (td)]), (nt, ob 0 [.ref a, .ref b, .int (nI L.length)]), (a, aJ G 500 ks), (b, aI G 500 vs), (m, aL G 500 mf), (ra, aR G 4 rmf), (x, ob 5 [.ref t, .ref s, .ref p, .ref c, .int (nI st), .int en, .long k0, .int n0, va_rf (ld)]), (p, aI G 200 f), (c, aI G 200 g), (e, ob 4 [.ref v, .int (nI en1), .int (nI es1), .int (nI eb1)]), (v, aJ G 1600 fe), (e2, ob 4 [.ref v2, .int (nI en2), .int (nI es2), .int (nI eb2)]), (v2, aJ G 1600 fe2), (y.1.1, ob 3 [.ref y.1.2, .int (nI 0)]), (y.1.2, aI G 200 y.2.2)] ++ (rpool G (RA ++ RB) ++ lpool G L)) t_Ro t_Ro_ok n_Ro (.int) rfl rfl rfl (Nat.le_of_ble_eq_true rfl) rfl rfl k_79 d_Wo_clear_33 ?_
    refine v_iload_n (pc := 36) C 0 d_Wo_clear_36 rfl rfl ?_
    refine v_wsubP [0, 1, 2, 3, 4, 5, 6, 7, 8, 9, 10, 11, 12, 13, 14, 15, 16, 17, 18] ([(o, ob 6 [.ref t, .ref s, .ref ra, .ref x, .ref e, .ref e2]), (t, ob 0 [.ref ta, .ref tb, .int (nI nc)]), (ta, aJ G 512 kc), (tb, aI G 512 vc), (s, ob 2 [.ref nt, .ref m, .int (nI L.length), va_rf (td)]), (nt, ob 0 [.ref a, .ref b, .int (nI L.length)]), (a, aJ G 500 ks), (b, aI G 500 vs), (m, aL G 500 mf), (ra, aR G 4 rmf), (x, ob 5 [.ref t, .ref s, .ref p, .ref c, .int (nI st), .int en, .long k0, .int n0, va_rf (ld)]), (p, aI G 200 f), (c, aI G 200 g), (e, ob 4 [.ref v, .int (nI en1), .int (nI es1), .int (nI eb1)]), (v, aJ G 1600 fe), (e2, ob 4 [.ref v2, .int (nI en2), .int (nI es2), .int (nI eb2)]), (v2, aJ G 1600 fe2), (y.1.1, ob 3 [.ref y.1.2, .int (nI 0)]), (y.1.2, aI G 200 y.2.2)]) rfl rfl ?_
    have e3 := e2q (y.1, [], y.2.2)
    refine v_rin (X := [(o, ob 6 [.ref t, .ref s, .ref ra, .ref x, .ref e, .ref e2]), (t, ob 0 [.ref ta, .ref tb, .int (nI nc)]), (ta, aJ G 512 kc), (tb, aI G 512 vc), (s, ob 2 [.ref nt, .ref m, .int (nI L.length), va_rf (td)]), (nt, ob 0 [.ref a, .ref b, .int (nI L.length)]), (a, aJ G 500 ks), (b, aI G 500 vs), (m, aL G 500 mf), (ra, aR G 4 rmf), (x, ob 5 [.ref t, .ref s, .ref p, .ref c, .int (nI st), .int en, .long k0, .int n0, va_rf (ld)]), (p, aI G 200 f), (c, aI G 200 g), (e, ob 4 [.ref v, .int (nI en1), .int (nI es1), .int (nI eb1)]), (v, aJ G 1600 fe), (e2, ob 4 [.ref v2, .int (nI en2), .int (nI es2), .int (nI eb2)]), (v2, aJ G 1600 fe2)]) (y := (y.1, [], y.2.2)) ?_
    rw [← e3]
    exact v_iret (pc := 37) C X d_Wo_clear_37 ⟨by rw [hsp], by rw [hsp], by rw [hsp]; exact ⟨t, ta, tb, nc, s, nt, a, b, m, ra, x, p, c, st, e, v, en1, es1, eb1, e2, v2, en2, es2, eb2, td, ld, mf, rmf, kc, ks, fe, fe2, vc, vs, f, g, en, n0, k0, Fc, L, RL.set rj (y.1, [], y.2.2), rfl, hnc, hk5, hTc, hcl, hL, hT, hM, rfl, htd, rok_set hRO (rws_nil hyo), rms_set hRm hy rfl, rows_set _⟩⟩ (by decide) (by decide)
  · exact v_throw (pc := 8) C Y _ th_IAE d_Wo_clear_8 d_Wo_clear_11 d_Wo_clear_12 d_Wo_clear_15 (by decide) (by decide) (by decide) (by decide) ⟨⟨t, ta, tb, nc, s, nt, a, b, m, ra, x, p, c, st, e, v, en1, es1, eb1, e2, v2, en2, es2, eb2, td, ld, mf, rmf, kc, ks, fe, fe2, vc, vs, f, g, en, n0, k0, Fc, L, RL, rfl, hnc, hk5, hTc, hcl, hL, hT, hM, rfl, htd, hRO, hRm, rfl⟩, Or.inl ⟨by unfold spClear; rw [if_pos (wi_eq0 h1)], rfl⟩⟩
end
