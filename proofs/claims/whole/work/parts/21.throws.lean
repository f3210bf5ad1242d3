/-! Throws, and their catching by name. What is thrown has a cell of its own; the search of the table may link the rows' names (the tables grow warm). -/
section FH
variable {e : Env} {f : JFrame} {a : Addr}
/-- a row whose name links to what the thing is of -/
theorem fh_hit {Q : Handler → Pre} {E : CtlPost} {d : Bool} {acts : List Action} {s : State} {x : ExceptionTableEntry} {t : List ExceptionTableEntry} {c : ClassId} {cell : Cell} (hx : covers x f.pc = true) (h0 : x.catchType ≠ 0)
    (hl : s.vm.ClassLinks e.platform f.method.cls x.catchType c) (hcell : s.heap[a]? = some cell) (hobj : ∀ k, cell.vm ≠ .statics k)
    (hk : ∃ k, s.vm.classes[cell.cls]? = some k) (hc : ∃ k, s.vm.classes[c]? = some k) (hfit : s.vm.assignable cell.cls c = true) :
    wp (findHandler.go f a (x :: t)) Q E e d acts s ↔ Q (.found x.handlerPc) d acts (s.setVm (s.vm.noted f.method.cls x.catchType (.cls c))) := by
  have hx' := hx
  simp only [covers] at hx'
  have hg := (resolveClass_links e.toSetting hl).op (op := VmOp.resolveClass f.method.cls x.catchType) rfl
  have hal : s.vm.Alike (s.vm.noted f.method.cls x.catchType (.cls c)) := (Vm.Alike.refl s.vm).noted _ _ _
  obtain ⟨k1, hk1⟩ := hk
  obtain ⟨k2, hk2⟩ := hc
  obtain ⟨k3, hk3, -⟩ := hal.2.2 _ _ hk1
  obtain ⟨k4, hk4, -⟩ := hal.2.2 _ _ hk2
  have hf2 : (s.vm.noted f.method.cls x.catchType (.cls c)).assignable cell.cls c = true := by rw [hal.assignable]; exact hfit
  simp [findHandler.go, hx', h0, hg.1, hg.2, hcell, hobj, hk3, hk4, hf2, VmOp.dirties, VmOp.acts]
/-- a row whose name links to something else -/
theorem fh_miss {Q : Handler → Pre} {E : CtlPost} {d : Bool} {acts : List Action} {s : State} {x : ExceptionTableEntry} {t : List ExceptionTableEntry} {c : ClassId} {cell : Cell} (hx : covers x f.pc = true) (h0 : x.catchType ≠ 0)
    (hl : s.vm.ClassLinks e.platform f.method.cls x.catchType c) (hcell : s.heap[a]? = some cell) (hobj : ∀ k, cell.vm ≠ .statics k)
    (hk : ∃ k, s.vm.classes[cell.cls]? = some k) (hc : ∃ k, s.vm.classes[c]? = some k) (hno : s.vm.assignable cell.cls c = false) :
    wp (findHandler.go f a (x :: t)) Q E e d acts s ↔ wp (findHandler.go f a t) Q E e d acts (s.setVm (s.vm.noted f.method.cls x.catchType (.cls c))) := by
  have hx' := hx
  simp only [covers] at hx'
  have hg := (resolveClass_links e.toSetting hl).op (op := VmOp.resolveClass f.method.cls x.catchType) rfl
  have hal : s.vm.Alike (s.vm.noted f.method.cls x.catchType (.cls c)) := (Vm.Alike.refl s.vm).noted _ _ _
  obtain ⟨k1, hk1⟩ := hk
  obtain ⟨k2, hk2⟩ := hc
  obtain ⟨k3, hk3, -⟩ := hal.2.2 _ _ hk1
  obtain ⟨k4, hk4, -⟩ := hal.2.2 _ _ hk2
  have hf2 : (s.vm.noted f.method.cls x.catchType (.cls c)).assignable cell.cls c = false := by rw [hal.assignable]; exact hno
  simp [findHandler.go, hx', h0, hg.1, hg.2, hcell, hobj, hk3, hk4, hf2, VmOp.dirties, VmOp.acts]
/-- the search passes the rows 'pre' (their names link to other things) and ends at x -/
theorem fh_rows {s₀ : State} {cell : Cell} (hobj : ∀ k, cell.vm ≠ .statics k) (hk0 : ∃ k, s₀.vm.classes[cell.cls]? = some k) {x : ExceptionTableEntry} {rest : List ExceptionTableEntry} (hx : covers x f.pc = true) (h0 : x.catchType ≠ 0) {c : ClassId}
    (hl : s₀.vm.ClassLinks e.platform f.method.cls x.catchType c) (hfit : s₀.vm.assignable cell.cls c = true) :
    ∀ (pre : List ExceptionTableEntry) (S : State), s₀.WarmedH S.vm → S.heap[a]? = some cell → (∀ y ∈ pre, covers y f.pc = true ∧ y.catchType ≠ 0 ∧ ∃ c, s₀.vm.ClassLinks e.platform f.method.cls y.catchType c ∧ s₀.vm.assignable cell.cls c = false) →
      ∃ vm', s₀.WarmedH vm' ∧ ∀ (Q : Handler → Pre) (E : CtlPost) (d : Bool) (acts : List Action), wp (findHandler.go f a (pre ++ x :: rest)) Q E e d acts S ↔ Q (.found x.handlerPc) d acts (S.setVm vm') := by
  obtain ⟨k0, hk0⟩ := hk0
  intro pre
  induction pre with
  | nil =>
    intro S hW hcell _
    obtain ⟨k1, hk1, -⟩ := hW.alike.2.2 _ _ hk0
    obtain ⟨dk, _, _, kt, hd, _, _, _, _, hkt, _, hopen⟩ := hl.here
    obtain ⟨k2, hk2, -⟩ := hW.alike.2.2 _ _ hkt
    refine ⟨_, hW.noted hd hopen (State.rightAt_cls hl), fun Q E d acts => ?_⟩
    exact fh_hit hx h0 (hW.classLinks hl) hcell hobj ⟨k1, hk1⟩ ⟨k2, hk2⟩ (by rw [hW.alike.assignable]; exact hfit)
  | cons y ys ih =>
    intro S hW hcell hp
    obtain ⟨k1, hk1, -⟩ := hW.alike.2.2 _ _ hk0
    obtain ⟨hy, hy0, c2, hl2, hno⟩ := hp y List.mem_cons_self
    obtain ⟨dk, _, _, kt, hd, _, _, _, _, hkt, _, hopen⟩ := hl2.here
    obtain ⟨k2, hk2, -⟩ := hW.alike.2.2 _ _ hkt
    obtain ⟨vm', hW', hq⟩ := ih (S.setVm (S.vm.noted f.method.cls y.catchType (.cls c2))) (hW.noted hd hopen (State.rightAt_cls hl2)) hcell (fun z hz => hp z (List.mem_cons_of_mem _ hz))
    refine ⟨vm', hW', fun Q E d acts => ?_⟩
    rw [List.cons_append, fh_miss hy hy0 (hW.classLinks hl2) hcell hobj ⟨k1, hk1⟩ ⟨k2, hk2⟩ (by rw [hW.alike.assignable]; exact hno)]
    exact hq Q E d acts
/-- the machine's step out of a throw into its row -/
theorem fh_step {s : State} {r : List Frame} {pc : Nat} {vm' : Vm} (hfind : ∀ (Q : Handler → Pre) (E : CtlPost) (d : Bool) (acts : List Action), wp (findHandler f a) Q E e d acts s ↔ Q (.found pc) d acts (s.setVm vm')) :
    (stepThrowing e s a (.java f :: r)).Is ((s.setVm vm').setFrames (.java { f with pc := pc, stack := [.ref a] } :: r)) [] := by
  simp only [stepThrowing, searchFrame, vmDo]
  generalize hr : Sem.go _ e false [] s = res
  obtain ⟨as, rfl, ha⟩ := Sem.eq_ok_of hr (a := Handler.found pc) (s' := s.setVm vm') (acts' := []) (by simp [hfind])
  exact ⟨rfl, ha⟩
theorem fh_frames (u : State) (vm' : Vm) (F G : List Frame) : ((u.setFrames F).setVm vm').setFrames G = (u.setVm vm').setFrames G := by
  rw [show (u.setFrames F).setVm vm' = (u.setVm vm').setFrames F from rfl, State.setFrames_setFrames]
theorem fh_caught {p : Program} {l : Launch} {R : Room} {s : State} {m : MethodId} {args : Array Value} {below : List Frame} {meth : Method} {c : Code} {T : State} {locs : List Loc} {cells slots : Nat} (X : Stand p l e R s m args below meth c T locs cells slots) {g : JFrame} (hg : g.method = m)
    {cell : Cell} (hcell : T.heap[a]? = some cell) (hobj : cell.vm.isStatics = false) (hk0 : ∃ k, s.vm.classes[cell.cls]? = some k)
    (pre : List ExceptionTableEntry) (x : ExceptionTableEntry) (rest : List ExceptionTableEntry) (hsplit : c.exceptionTable.toList = pre ++ x :: rest)
    (hpass : ∀ y ∈ pre, covers y g.pc = true ∧ y.catchType ≠ 0 ∧ ∃ c, s.vm.ClassLinks e.platform m.cls y.catchType c ∧ s.vm.assignable cell.cls c = false) (hx : covers x g.pc = true) (h0 : x.catchType ≠ 0) {k : ClassId}
    (hl : s.vm.ClassLinks e.platform m.cls x.catchType k) (hfit : s.vm.assignable cell.cls k = true) :
    ∃ vm', Stand p l e R s m args below meth c (T.setVm vm') locs cells slots ∧
      ∀ target, Steps p.tables e below ((T.setVm vm').setTop { g with pc := x.handlerPc, stack := [.ref a] }) target → Steps p.tables e below ((T.setTop g).pushFrame (.throwing a)) target := by
  subst hg
  obtain ⟨vm', hW', hq⟩ := fh_rows (e := e) (f := g) (a := a) (s₀ := s) (VmData.ne_statics_of hobj) hk0 (rest := rest) hx h0 hl hfit pre ((T.setTop g).pushFrame (.throwing a)) X.warmed hcell hpass
  refine ⟨vm', X.noted hW', fun target hrest => ?_⟩
  have h := X.here
  obtain ⟨hgo, hw⟩ := h.throwing a
  refine Steps.head hgo hw ?_
  have hfind : ∀ (Q : Handler → Pre) (E : CtlPost) (d : Bool) (acts : List Action), wp (findHandler g a) Q E e d acts ((T.setTop g).pushFrame (.throwing a)) ↔ Q (.found x.handlerPc) d acts (((T.setTop g).pushFrame (.throwing a)).setVm vm') := by
    intro Q E d acts
    rw [W.findHandler_eq (s := (T.setTop g).pushFrame (.throwing a)) (meth := meth) (code := c) X.method' X.code, hsplit]
    exact hq Q E d acts
  rw [stepThread_throwing (frames_entered h.top _), (fh_step hfind).1]
  obtain ⟨g₀, hg0⟩ := Option.isSome_iff_exists.mp h.top
  obtain ⟨r, hr⟩ := State.topJava?_eq_some.mp hg0
  have hr' : (T.setVm vm').frames = .java g₀ :: r := hr
  rw [State.setTop_of_frames _ hr'] at hrest
  rw [hr, List.tail_cons, State.pushFrame, fh_frames, State.setTop_of_frames _ hr, fh_frames]
  exact hrest
end FH
section CTXS
/-- the two statics that a Throwable's making reads lie outside A -/
def zs (A : Nat → Prop) (U : State) (H : Heap) : Prop := vx_Zq Bundle.tN "UNASSIGNED_STACK" Bundle.steD A U H ∧ vx_Zq Bundle.tN "SUPPRESSED_SENTINEL" Bundle.listD A U H
theorem zs_moved {A : Nat → Prop} {u U : State} {H : Heap} (hvm : u.vm.Alike U.vm) (h : zs A u H) : zs A U H := ⟨h.1.moved hvm, h.2.moved hvm⟩
theorem zs_kept {A : Nat → Prop} {U : State} {H H1 : Heap} (h : zs A U H) (hq : ∀ a : Nat, a < H.size → ¬ A a → H1[a]? = H[a]?) : zs A U H1 := ⟨h.1.kept hq, h.2.kept hq⟩
theorem zs_narrow {A B : Nat → Prop} {U : State} {H : Heap} (h : zs A U H) (hAB : ∀ q, B q → A q) : zs B U H := ⟨h.1.narrow hAB, h.2.narrow hAB⟩
def pcx (G : Gx) (w : va_W) (sz : Nat) (U : State) : Prop := pcn G w sz U ∧ zs (va_A w sz) U U.heap
def xc (G : Gx) (w : va_W) (sz : Nat) (xp : String → va_W → Prop) : String → State → State → Prop := fun E st t => ∃ w', xp E w' ∧ va_P G.1 cls w' t.heap ∧ va_D (va_A w sz) w' ∧ va_F (va_A w sz) st t
/-- the contract of a method that returns or throws -/
def CTX (l : Launch) (G : Gx) (y : MethodName) (cc : ByteArray) (maxL : Nat) (ret : Option FieldType) (rm : Room) (w : va_W) (av : List Value) (post : Option Value → va_W → Prop) (xp : String → va_W → Prop) : Prop :=
  ∀ sz : Nat, vx_Met l y (Cond.code y cc maxL ret :: gwords) rm (va_Pc av (pcx G w sz)) (qc G w sz post) (xc G w sz xp) rm.cells rm.slots (va_A w sz)
/-- how a walk may throw -/
def XX (K : Kx) (R : Room) (G : Gx) (w0 : va_W) (post : Option Value → va_W → Prop) (xp : String → va_W → Prop) : Prop :=
  match K with
  | (_, l, _, s, _, args, below, meth, c, Q, A) => l.stackTraces = false ∧ meth.locks = false ∧ A = va_A w0 s.heap.size ∧ (∀ x ∈ c.exceptionTable.toList, False) ∧ zs A s s.heap ∧ Q = vx_MQ below (qc G w0 s.heap.size post) (xc G w0 s.heap.size xp) args s R.cells R.slots (va_A w0 s.heap.size)
theorem pcx_blind {G : Gx} {w : va_W} {sz : Nat} {av : List Value} : FrameBlind (va_Pc av (pcx G w sz)) := by
  intro a U g mk h
  obtain ⟨h0, ⟨h1, h2, h3, h4, h5⟩, h6⟩ := h
  exact ⟨h0, ⟨h1, h2, va_K.moved (u := U) (U := U.calling g mk a) (Vm.Alike.refl U.vm) h3, h4, nw_same (u := U) (U := U.calling g mk a) rfl h5⟩, zs_moved (u := U) (U := U.calling g mk a) (Vm.Alike.refl U.vm) h6⟩
theorem ctx_of {l : Launch} {G : Gx} {y : MethodName} {cc : ByteArray} {maxL : Nat} {ret : Option FieldType} {rm : Room} {w : va_W} {av : List Value} {post : Option Value → va_W → Prop} {xp : String → va_W → Prop} (htr : l.stackTraces = false) (lv0 : List (Nat × Value)) (hy : plainName y.cls = true) (hlen : (lg_sl av).length ≤ maxL) (hlv : lv_args 0 av = lv0)
    (body : ∀ K : Kx, Kl K = l → CX K G maxL cc y.cls → RX K rm G ret w post → XX K rm G w post xp → vv K rm G maxL 0 0 w 0 lv0 []) : CTX l G y cc maxL ret rm w av post xp := by
  intro sz
  refine vx_ofW (cc := cc) (maxL := maxL) (ret := ret) hy rfl ?_
  intro p e s m args below meth c s₁ B hml htab hv
  obtain ⟨rfl, ⟨rfl, hP, hK, hD, hN⟩, hZ⟩ := hv
  have hts := atoms_spec (ws := Cond.code y cc maxL ret :: gwords) B.pre
  have hown : s.vm.findClass y.cls = some m.cls := findClass_of_methodNamed B.named
  rw [lg_entry_eq]
  have hl := lv_entry av (n := maxL) hlen
  rw [hlv] at hl
  exact body (p, l, e, s, m, av.toArray, below, meth, c, vx_MQ below (qc G w s.heap.size post) (xc G w s.heap.size xp) av.toArray s rm.cells rm.slots (va_A w s.heap.size), va_A w s.heap.size) rfl ⟨B.exec, B.bytes, hml, hown, fun x h => hts x (List.mem_cons_of_mem _ h), hN, hK, fun q h => Or.inr h⟩ ⟨B.returns, B.notSynchronized, rfl, fun H locs cells slots g h => vx_ret h⟩ ⟨htr, B.notSynchronized, rfl, htab, hZ, rfl⟩ s.heap [] _ hP hD.self va_S.rf hl
theorem nw_use {x : Cond} {s : State} {args : Array Value} (hx : x ∈ nwords) (h : va_Nw x s) : x.before args s = true := by
  have hg : nestWord x = true := (List.mem_filter.mp hx).2
  cases x <;> first | exact h.use rfl | exact absurd hg Bool.false_ne_true | skip
  rename_i ty
  cases ty <;> first | exact (va_AO.of h).use | exact h | exact absurd hg Bool.false_ne_true
abbrev xnames : List String := ["java/lang/RuntimeException", "java/lang/Exception"]
/-- the words of a throw are there -/
def ThW (own : String) (ik ic : Nat) (E : String) : Prop := Bundle.fit E = true ∧ Cond.classLink own ik E ∈ gwords ∧ Cond.initialized E ∈ gwords ∧ (∀ x ∈ vx_at0 own ic E xnames, (x ∈ lw_tbl ∧ goodWord x = true) ∨ (x ∈ tables_1 ∧ nestWord x = true)) ∧ (∀ x ∈ Cond.classLink own ik E :: Cond.initialized E :: vx_at0 own ic E xnames, vx_ot x = true)
variable {K : Kx} {R : Room} {G : Gx} {nL cells slots : Nat} {w w0 : va_W} {pc : Nat} {lv : List (Nat × Value)} {st : List Value} {cc : ByteArray} {own : String} {post : Option Value → va_W → Prop} {xp : String → va_W → Prop}
theorem v_throw (C : CX K G nL cc own) (X : XX K R G w0 post xp) (E : String) {ik ic : Nat} (hT : ThW own ik ic E) (d0 : decode cc pc = .ok (.new ik, 3)) (d3 : decode cc (pc + 3) = .ok (.dup, 1)) (d4 : decode cc (pc + 4) = .ok (.invokespecial ic, 3)) (d7 : decode cc (pc + 7) = .ok (.athrow, 1))
    (hfr : 5 < R.frames) (hlo : (st.map fun v => v.category).sum + 81 ≤ R.locals) (h1 : cells + 1 ≤ R.cells) (h2 : slots + 6 ≤ R.slots) (hq : xp E w) : vv K R G nL cells slots w pc lv st := by
  obtain ⟨p, l, e, s, m, args, below, meth, c, Q, A⟩ := K
  obtain ⟨htr, hlk, hA, htab, hZ, hQ⟩ := X
  intro H locs ls hP hD hS hl
  subst hA; subst hQ
  refine vx_throw0 (names := xnames) C.1 C.2.1 htr C.2.2.2.1 hT.1 (by decide) (C.2.2.2.2.1 _ hT.2.1) (C.2.2.2.2.1 _ hT.2.2.1) (fun x hx => ?_) hT.2.2.2.2 hZ.1 hZ.2 hS (hl.1.trans C.2.2.1.symm) d0 d3 d4 d7 (fun x hx => (htab x hx).elim) hfr hlo h1 h2 hlk (fun t hvm hz hk => ?_) hS.2.2 h1 h2
  · rcases hT.2.2.2.1 x hx with h | h
    · exact C.2.2.2.2.1 x (List.mem_filter.mpr h)
    · exact nw_use (List.mem_filter.mpr h) (C.2.2.2.2.2.1 x (List.mem_filter.mpr h))
  · refine ⟨w, hq, hP.kept (fun k q hk' => hk q.1 (hP k q hk').lt), hD, Nat.le_trans hS.1 hz, fun q hq2 hn => ?_⟩
    rw [hk q (Nat.lt_of_lt_of_le hq2 hS.1)]
    exact hS.2.1 q hq2 hn
end CTXS
set_option maxRecDepth 100000 in
theorem th_IAE : ThW "WeightOrder" 56 58 "java/lang/IllegalArgumentException" := ⟨by decide +kernel, k_171, k_11, by decide +kernel, by decide +kernel⟩
set_option maxRecDepth 100000 in
theorem th_IOO : ThW "WeightOrder" 79 81 "java/lang/IndexOutOfBoundsException" := ⟨by decide +kernel, k_277, k_13, by decide +kernel, by decide +kernel⟩
