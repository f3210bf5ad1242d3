/-! The V rows: a state of a method is its world w (cells), its place pc, what its locals hold (lv), its stack (st); heap, locations and slots are hidden. -/
section VL
/-- what the tables number: kinds of objects, of arrays of int, long, boolean, Line, Row, int rows -/
abbrev Gx : Type := va_G × ClassId × ClassId × ClassId × ClassId × ClassId × ClassId
abbrev tys (G : Gx) : List (ClassId × FieldType) := [(G.2.1, .int), (G.2.2.1, .long), (G.2.2.2.1, .boolean), (G.2.2.2.2.1, .object "WeightOrder$Line"), (G.2.2.2.2.2.1, .object "WeightOrder$Row"), (G.2.2.2.2.2.2, .array .int)]
abbrev aI (G : Gx) (n : Nat) (f : Nat → Int32) : va_E := .inl (G.2.1, n, .inl f)
abbrev aJ (G : Gx) (n : Nat) (f : Nat → Int64) : va_E := .inl (G.2.2.1, n, .inr (.inl f))
abbrev aZ (G : Gx) (n : Nat) (f : Nat → Int32) : va_E := .inl (G.2.2.2.1, n, .inl f)
abbrev aL (G : Gx) (n : Nat) (f : Nat → Option Nat) : va_E := .inl (G.2.2.2.2.1, n, .inr (.inr (.inr (.inr f))))
abbrev aR (G : Gx) (n : Nat) (f : Nat → Option Nat) : va_E := .inl (G.2.2.2.2.2.1, n, .inr (.inr (.inr (.inr f))))
abbrev aII (G : Gx) (n : Nat) (f : Nat → Option Nat) : va_E := .inl (G.2.2.2.2.2.2, n, .inr (.inr (.inr (.inr f))))
abbrev ob (i : Nat) (fs : List Value) : va_E := .inr (i, fs)
abbrev Kx : Type := Program × Launch × Env × State × MethodId × Array Value × List Frame × Method × Code × (State → Prop) × (Nat → Prop)
/-- the state of a walk -/
def vv (K : Kx) (R : Room) (G : Gx) (nL cells slots : Nat) (w : va_W) (pc : Nat) (lv : List (Nat × Value)) (st : List Value) : Prop :=
  match K with
  | (p, l, e, s, m, args, below, meth, c, Q, A) => ∀ (H : Heap) (locs : List Loc) (ls : Array Slot), va_P G.1 cls w H → va_D A w → va_S A s.heap H locs → lv_has ls nL lv → W p l e R s m args below meth c H locs cells slots Q (F0 m pc ls st)
/-- what stands fast in a walk -/
def CX (K : Kx) (G : Gx) (nL : Nat) (cc : ByteArray) (own : String) : Prop :=
  match K with
  | (p, _, _, s, m, args, _, _, c, _, A) => p.tables.exec = Jvm.exec ∧ c.code = cc ∧ c.maxLocals = nL ∧ s.vm.findClass own = some m.cls ∧ (∀ w ∈ gwords, w.before args s = true) ∧ (∀ w ∈ nwords, va_Nw w s) ∧ va_K G.1 cls (tys G) s ∧ (∀ q, s.heap.size ≤ q → A q)
abbrev Kl (K : Kx) : Launch := K.2.1
/-- a contract's end: the answer r and the world w' hold post; the rest stays -/
def qc (G : Gx) (w : va_W) (sz : Nat) (post : Option Value → va_W → Prop) : Array Value → State → Outcome → State → Prop := fun _ st oc t =>
  (∃ (r : Option Value) (w' : va_W), oc = .returned r ∧ post r w' ∧ va_P G.1 cls w' t.heap ∧ va_D (va_A w sz) w') ∧ va_F (va_A w sz) st t
/-- a contract's start -/
def pcn (G : Gx) (w : va_W) (sz : Nat) (U : State) : Prop := U.heap.size = sz ∧ va_P G.1 cls w U.heap ∧ va_K G.1 cls (tys G) U ∧ va_D (fun _ => True) w ∧ ∀ x ∈ nwords, va_Nw x U
/-- the contract of a method that returns -/
def CT (l : Launch) (G : Gx) (y : MethodName) (cc : ByteArray) (maxL : Nat) (ret : Option FieldType) (rm : Room) (w : va_W) (av : List Value) (post : Option Value → va_W → Prop) : Prop :=
  ∀ sz : Nat, Met l y (Cond.code y cc maxL ret :: gwords) rm (va_Pc av (pcn G w sz)) (qc G w sz post) rm.cells rm.slots (va_A w sz)
/-- how a walk may end -/
def RX (K : Kx) (R : Room) (G : Gx) (ret : Option FieldType) (w0 : va_W) (post : Option Value → va_W → Prop) : Prop :=
  match K with
  | (p, l, e, s, m, args, below, meth, c, Q, A) => meth.sig.returnType = ret ∧ meth.locks = false ∧ A = va_A w0 s.heap.size ∧
    ∀ (H : Heap) (locs : List Loc) (cells slots : Nat) (g : JFrame), W p l e R s m args below meth c H locs cells slots (MQ below (qc G w0 s.heap.size post) args s R.cells R.slots (va_A w0 s.heap.size)) g → W p l e R s m args below meth c H locs cells slots Q g
theorem arrA_spec {t : FieldType} {A : Array Value} {U : State} (h : (Cond.arrayOver (.array t)).before A U = true) : ∃ (comp c : ClassId) (k : Class), U.vm.findClass (FieldType.array t).toString = some comp ∧ (U.vm.classes.findIdx? fun (x : Class) => match x.kind with | .array component _ => component == comp | _ => false) = some c ∧ U.vm.classes[c]? = some k ∧ k.kind = .array comp (.array t) ∧ U.vm.findClass ("[" ++ (FieldType.array t).toString) = some c := by
  unfold Cond.before Cond.holds at h
  simp only [Cond.value, beq_iff_eq] at h
  obtain ⟨comp, h1, h⟩ := Option.bind_eq_some_iff.mp h
  obtain ⟨c, h2, h⟩ := Option.bind_eq_some_iff.mp h
  obtain ⟨k, h3, h⟩ := Option.map_eq_some_iff.mp h
  have hq := (Array.findIdx?_eq_some_iff_getElem.mp h2)
  obtain ⟨hlt, hp, -⟩ := hq
  have e3 : U.vm.classes[c] = k := (Array.getElem?_eq_some_iff.mp h3).2
  rw [e3] at hp
  cases hk : k.kind with
  | array component ty =>
    rw [hk] at h hp
    simp at h hp
    exact ⟨comp, c, k, h1, h2, h3, by rw [hk, hp, h.1], h.2⟩
  | _ => rw [hk] at h; simp at h
theorem arrA_moved {t : FieldType} {u U : State} (hvm : u.vm.Alike U.vm) (h : va_Nw (.arrayOver (.array t)) u) : va_Nw (.arrayOver (.array t)) U := by
  obtain ⟨comp, c, k, h1, h2, h3, h4, h5⟩ := arrA_spec h
  obtain ⟨k', hk', he⟩ := hvm.2.2 _ _ h3
  have hi : (U.vm.classes.findIdx? fun (x : Class) => match x.kind with | .array component _ => component == comp | _ => false) = some c := by
    rw [hvm.findIdx?_eqK _ (fun _ => rfl)]; exact h2
  have hkind : k'.kind = .array comp (.array t) := by rw [he]; exact h4
  have f1 : U.vm.findClass (FieldType.array t).toString = some comp := by rw [hvm.findClass]; exact h1
  have f2 : U.vm.findClass ("[" ++ (FieldType.array t).toString) = some c := by rw [hvm.findClass]; exact h5
  unfold va_Nw Cond.before Cond.holds
  simp only [Cond.value]
  rw [f1, Option.bind_some]
  refine (congrArg (fun o : Option Nat => (o.bind (fun c => (U.vm.classes[c]?).map fun (k : Class) => match k.kind with | .array _ ty => decide (ty = FieldType.array t) && decide (U.vm.findClass ("[" ++ (FieldType.array t).toString) = some c) | _ => false) == some true)) hi).trans ?_
  simp [hk', hkind, f2]
theorem nw_kept {s U : State} (hW : s.WarmedH U.vm) (h : ∀ x ∈ nwords, va_Nw x s) : ∀ x ∈ nwords, va_Nw x U := by
  intro x hx
  have hg : nestWord x = true := (List.mem_filter.mp hx).2
  have h1 := h x hx
  cases x <;> first | exact va_Nw.warmF hW h1 | exact va_Nw.warmM hW h1 | exact va_Nw.warmC hW h1 | exact va_Nw.warmD hW h1 | (exact absurd hg Bool.false_ne_true) | skip
  rename_i ty
  cases ty <;> first | exact (va_AO.moved hW.alike (va_AO.of h1)).use | exact arrA_moved hW.alike h1 | exact absurd hg Bool.false_ne_true
theorem nw_same {u U : State} (h : u.vm = U.vm) (hN : ∀ x ∈ nwords, va_Nw x u) : ∀ x ∈ nwords, va_Nw x U := by
  intro x hx
  have hg : nestWord x = true := (List.mem_filter.mp hx).2
  cases x <;> first | exact va_Nw.same rfl h (hN _ hx) | (exact absurd hg Bool.false_ne_true) | skip
  rename_i ty
  cases ty <;> first | exact (va_AO.moved (h ▸ Vm.Alike.refl u.vm) (va_AO.of (hN _ hx))).use | exact arrA_moved (h ▸ Vm.Alike.refl u.vm) (hN _ hx) | exact absurd hg Bool.false_ne_true
variable {K : Kx} {R : Room} {G : Gx} {nL cells slots : Nat} {w : va_W} {pc : Nat} {lv : List (Nat × Value)} {st : List Value} {cc : ByteArray} {own : String}

theorem v_iconst (C : CX K G nL cc own) {n : Int} (v : Int32) (hd : decode cc pc = .ok (.iconst n, 1)) (hv : Int32.ofInt n = v) (kk : vv K R G nL cells slots w (pc + 1) lv (.int v :: st)) : vv K R G nL cells slots w pc lv st := by
  obtain ⟨p, l, e, s, m, args, below, meth, c, Q, A⟩ := K
  intro H locs ls hP hD hS hl
  exact lv_iconst C.1 C.2.1 hd hv (kk H locs ls hP hD hS hl)
theorem v_bipush (C : CX K G nL cc own) {n : Int} (v : Int32) (hd : decode cc pc = .ok (.bipush n, 2)) (hv : (Int8.ofInt n).toInt32 = v) (kk : vv K R G nL cells slots w (pc + 2) lv (.int v :: st)) : vv K R G nL cells slots w pc lv st := by
  obtain ⟨p, l, e, s, m, args, below, meth, c, Q, A⟩ := K
  intro H locs ls hP hD hS hl
  exact lv_bipush C.1 C.2.1 hd hv (kk H locs ls hP hD hS hl)
theorem v_sipush (C : CX K G nL cc own) {n : Int} (v : Int32) (hd : decode cc pc = .ok (.sipush n, 3)) (hv : (Int16.ofInt n).toInt32 = v) (kk : vv K R G nL cells slots w (pc + 3) lv (.int v :: st)) : vv K R G nL cells slots w pc lv st := by
  obtain ⟨p, l, e, s, m, args, below, meth, c, Q, A⟩ := K
  intro H locs ls hP hD hS hl
  exact lv_sipush C.1 C.2.1 hd hv (kk H locs ls hP hD hS hl)
theorem v_lconst (C : CX K G nL cc own) {n : Fin 2} (v : Int64) (hd : decode cc pc = .ok (.lconst n, 1)) (hv : Int64.ofNat (n : Nat) = v) (kk : vv K R G nL cells slots w (pc + 1) lv (.long v :: st)) : vv K R G nL cells slots w pc lv st := by
  obtain ⟨p, l, e, s, m, args, below, meth, c, Q, A⟩ := K
  intro H locs ls hP hD hS hl
  exact lv_lconst C.1 C.2.1 hd hv (kk H locs ls hP hD hS hl)
theorem v_ldc (C : CX K G nL cc own) {ix : Nat} (v : Int32) (hw : Cond.constant own ix v ∈ gwords) (hd : decode cc pc = .ok (.ldc ix, 2)) (kk : vv K R G nL cells slots w (pc + 2) lv (.int v :: st)) : vv K R G nL cells slots w pc lv st := by
  obtain ⟨p, l, e, s, m, args, below, meth, c, Q, A⟩ := K
  intro H locs ls hP hD hS hl
  exact lv_ldc C.1 C.2.1 C.2.2.2.1 (C.2.2.2.2.1 _ hw) hd (kk H locs ls hP hD hS hl)
theorem v_ldc2 (C : CX K G nL cc own) {ix : Nat} (v : Int64) (hw : Cond.constantLong own ix v ∈ gwords) (hd : decode cc pc = .ok (.ldc2_w ix, 3)) (kk : vv K R G nL cells slots w (pc + 3) lv (.long v :: st)) : vv K R G nL cells slots w pc lv st := by
  obtain ⟨p, l, e, s, m, args, below, meth, c, Q, A⟩ := K
  intro H locs ls hP hD hS hl
  exact lv_ldc2 C.1 C.2.1 C.2.2.2.1 (C.2.2.2.2.1 _ hw) hd (kk H locs ls hP hD hS hl)
theorem v_null (C : CX K G nL cc own) (hd : decode cc pc = .ok (.aconst_null, 1)) (kk : vv K R G nL cells slots w (pc + 1) lv (.null :: st)) : vv K R G nL cells slots w pc lv st := by
  obtain ⟨p, l, e, s, m, args, below, meth, c, Q, A⟩ := K
  intro H locs ls hP hD hS hl
  exact lv_null C.1 C.2.1 hd (kk H locs ls hP hD hS hl)
theorem v_iload_n (C : CX K G nL cc own) (k : Nat) {n : Fin 4} {i : Nat} {x : Int32} (hd : decode cc pc = .ok (.iload_n n, 1)) (hi : (n : Nat) = i) (hk : lv[k]? = some (i, .int x)) (kk : vv K R G nL cells slots w (pc + 1) lv (.int x :: st)) : vv K R G nL cells slots w pc lv st := by
  obtain ⟨p, l, e, s, m, args, below, meth, c, Q, A⟩ := K
  intro H locs ls hP hD hS hl
  exact lv_iload_n C.1 C.2.1 hd hi (lv_at hl k hk) (kk H locs ls hP hD hS hl)
theorem v_iload (C : CX K G nL cc own) (k : Nat) {i : Nat} {x : Int32} (hd : decode cc pc = .ok (.iload i, 2)) (hk : lv[k]? = some (i, .int x)) (kk : vv K R G nL cells slots w (pc + 2) lv (.int x :: st)) : vv K R G nL cells slots w pc lv st := by
  obtain ⟨p, l, e, s, m, args, below, meth, c, Q, A⟩ := K
  intro H locs ls hP hD hS hl
  exact lv_iload C.1 C.2.1 hd (lv_at hl k hk) (kk H locs ls hP hD hS hl)
theorem v_istore_n (C : CX K G nL cc own) (lv' : List (Nat × Value)) {n : Fin 4} {i : Nat} {x : Int32} (hd : decode cc pc = .ok (.istore_n n, 1)) (hi : (n : Nat) = i) (hn : i < nL) (hl' : (i, Value.int x) :: lv.filter (fun q => !(q.1 == i) && !(q.1 + 1 == i && q.2.category == 2)) = lv') (kk : vv K R G nL cells slots w (pc + 1) lv' st) : vv K R G nL cells slots w pc lv (.int x :: st) := by
  obtain ⟨p, l, e, s, m, args, below, meth, c, Q, A⟩ := K
  intro H locs ls hP hD hS hl
  exact lv_istore_n C.1 C.2.1 hd hi hl hn hl' (fun ls' h' => kk H locs ls' hP hD hS h')
theorem v_istore (C : CX K G nL cc own) (lv' : List (Nat × Value)) {i : Nat} {x : Int32} (hd : decode cc pc = .ok (.istore i, 2)) (hn : i < nL) (hl' : (i, Value.int x) :: lv.filter (fun q => !(q.1 == i) && !(q.1 + 1 == i && q.2.category == 2)) = lv') (kk : vv K R G nL cells slots w (pc + 2) lv' st) : vv K R G nL cells slots w pc lv (.int x :: st) := by
  obtain ⟨p, l, e, s, m, args, below, meth, c, Q, A⟩ := K
  intro H locs ls hP hD hS hl
  exact lv_istore C.1 C.2.1 hd hl hn hl' (fun ls' h' => kk H locs ls' hP hD hS h')
theorem v_lload_n (C : CX K G nL cc own) (k : Nat) {n : Fin 4} {i : Nat} {x : Int64} (hd : decode cc pc = .ok (.lload_n n, 1)) (hi : (n : Nat) = i) (hk : lv[k]? = some (i, .long x)) (kk : vv K R G nL cells slots w (pc + 1) lv (.long x :: st)) : vv K R G nL cells slots w pc lv st := by
  obtain ⟨p, l, e, s, m, args, below, meth, c, Q, A⟩ := K
  intro H locs ls hP hD hS hl
  exact lv_lload_n C.1 C.2.1 hd hi (lv_at hl k hk) (kk H locs ls hP hD hS hl)
theorem v_lload (C : CX K G nL cc own) (k : Nat) {i : Nat} {x : Int64} (hd : decode cc pc = .ok (.lload i, 2)) (hk : lv[k]? = some (i, .long x)) (kk : vv K R G nL cells slots w (pc + 2) lv (.long x :: st)) : vv K R G nL cells slots w pc lv st := by
  obtain ⟨p, l, e, s, m, args, below, meth, c, Q, A⟩ := K
  intro H locs ls hP hD hS hl
  exact lv_lload C.1 C.2.1 hd (lv_at hl k hk) (kk H locs ls hP hD hS hl)
theorem v_lstore_n (C : CX K G nL cc own) (lv' : List (Nat × Value)) {n : Fin 4} {i : Nat} {x : Int64} (hd : decode cc pc = .ok (.lstore_n n, 1)) (hi : (n : Nat) = i) (hn : i + 1 < nL) (hl' : (i, Value.long x) :: lv.filter (fun q => !(q.1 == i) && (!(q.1 == i + 1) && !(q.1 + 1 == i && q.2.category == 2))) = lv') (kk : vv K R G nL cells slots w (pc + 1) lv' st) : vv K R G nL cells slots w pc lv (.long x :: st) := by
  obtain ⟨p, l, e, s, m, args, below, meth, c, Q, A⟩ := K
  intro H locs ls hP hD hS hl
  exact lv_lstore_n C.1 C.2.1 hd hi hl hn hl' (fun ls' h' => kk H locs ls' hP hD hS h')
theorem v_lstore (C : CX K G nL cc own) (lv' : List (Nat × Value)) {i : Nat} {x : Int64} (hd : decode cc pc = .ok (.lstore i, 2)) (hn : i + 1 < nL) (hl' : (i, Value.long x) :: lv.filter (fun q => !(q.1 == i) && (!(q.1 == i + 1) && !(q.1 + 1 == i && q.2.category == 2))) = lv') (kk : vv K R G nL cells slots w (pc + 2) lv' st) : vv K R G nL cells slots w pc lv (.long x :: st) := by
  obtain ⟨p, l, e, s, m, args, below, meth, c, Q, A⟩ := K
  intro H locs ls hP hD hS hl
  exact lv_lstore C.1 C.2.1 hd hl hn hl' (fun ls' h' => kk H locs ls' hP hD hS h')
theorem v_aload_n (C : CX K G nL cc own) (k : Nat) {n : Fin 4} {i : Nat} {x : Nat} (hd : decode cc pc = .ok (.aload_n n, 1)) (hi : (n : Nat) = i) (hk : lv[k]? = some (i, .ref x)) (kk : vv K R G nL cells slots w (pc + 1) lv (.ref x :: st)) : vv K R G nL cells slots w pc lv st := by
  obtain ⟨p, l, e, s, m, args, below, meth, c, Q, A⟩ := K
  intro H locs ls hP hD hS hl
  exact lv_aload_n C.1 C.2.1 hd hi (lv_at hl k hk) (kk H locs ls hP hD hS hl)
theorem v_aload (C : CX K G nL cc own) (k : Nat) {i : Nat} {x : Nat} (hd : decode cc pc = .ok (.aload i, 2)) (hk : lv[k]? = some (i, .ref x)) (kk : vv K R G nL cells slots w (pc + 2) lv (.ref x :: st)) : vv K R G nL cells slots w pc lv st := by
  obtain ⟨p, l, e, s, m, args, below, meth, c, Q, A⟩ := K
  intro H locs ls hP hD hS hl
  exact lv_aload C.1 C.2.1 hd (lv_at hl k hk) (kk H locs ls hP hD hS hl)
theorem v_astore_n (C : CX K G nL cc own) (lv' : List (Nat × Value)) {n : Fin 4} {i : Nat} {x : Nat} (hd : decode cc pc = .ok (.astore_n n, 1)) (hi : (n : Nat) = i) (hn : i < nL) (hl' : (i, Value.ref x) :: lv.filter (fun q => !(q.1 == i) && !(q.1 + 1 == i && q.2.category == 2)) = lv') (kk : vv K R G nL cells slots w (pc + 1) lv' st) : vv K R G nL cells slots w pc lv (.ref x :: st) := by
  obtain ⟨p, l, e, s, m, args, below, meth, c, Q, A⟩ := K
  intro H locs ls hP hD hS hl
  exact lv_astore_n C.1 C.2.1 hd hi hl hn hl' (fun ls' h' => kk H locs ls' hP hD hS h')
theorem v_astore (C : CX K G nL cc own) (lv' : List (Nat × Value)) {i : Nat} {x : Nat} (hd : decode cc pc = .ok (.astore i, 2)) (hn : i < nL) (hl' : (i, Value.ref x) :: lv.filter (fun q => !(q.1 == i) && !(q.1 + 1 == i && q.2.category == 2)) = lv') (kk : vv K R G nL cells slots w (pc + 2) lv' st) : vv K R G nL cells slots w pc lv (.ref x :: st) := by
  obtain ⟨p, l, e, s, m, args, below, meth, c, Q, A⟩ := K
  intro H locs ls hP hD hS hl
  exact lv_astore C.1 C.2.1 hd hl hn hl' (fun ls' h' => kk H locs ls' hP hD hS h')
theorem v_aload_nN (C : CX K G nL cc own) (k : Nat) {n : Fin 4} {i : Nat} (hd : decode cc pc = .ok (.aload_n n, 1)) (hi : (n : Nat) = i) (hk : lv[k]? = some (i, .null)) (kk : vv K R G nL cells slots w (pc + 1) lv (.null :: st)) : vv K R G nL cells slots w pc lv st := by
  obtain ⟨p, l, e, s, m, args, below, meth, c, Q, A⟩ := K
  intro H locs ls hP hD hS hl
  exact lv_aload_nN C.1 C.2.1 hd hi (lv_at hl k hk) (kk H locs ls hP hD hS hl)
theorem v_astore_nN (C : CX K G nL cc own) (lv' : List (Nat × Value)) {n : Fin 4} {i : Nat} (hd : decode cc pc = .ok (.astore_n n, 1)) (hi : (n : Nat) = i) (hn : i < nL) (hl' : (i, Value.null) :: lv.filter (fun q => !(q.1 == i) && !(q.1 + 1 == i && q.2.category == 2)) = lv') (kk : vv K R G nL cells slots w (pc + 1) lv' st) : vv K R G nL cells slots w pc lv (.null :: st) := by
  obtain ⟨p, l, e, s, m, args, below, meth, c, Q, A⟩ := K
  intro H locs ls hP hD hS hl
  exact lv_astore_nN C.1 C.2.1 hd hi hl hn hl' (fun ls' h' => kk H locs ls' hP hD hS h')
theorem v_iinc (C : CX K G nL cc own) (lv' : List (Nat × Value)) (k : Nat) {i : Nat} {n : Int} {x : Int32} (v : Int32) (hd : decode cc pc = .ok (.iinc i n, 3)) (hk : lv[k]? = some (i, .int x)) (hv : x + Int32.ofInt n = v) (hn : i < nL) (hl' : (i, Value.int v) :: lv.filter (fun q => !(q.1 == i) && !(q.1 + 1 == i && q.2.category == 2)) = lv') (kk : vv K R G nL cells slots w (pc + 3) lv' st) : vv K R G nL cells slots w pc lv st := by
  obtain ⟨p, l, e, s, m, args, below, meth, c, Q, A⟩ := K
  intro H locs ls hP hD hS hl
  exact lv_iinc C.1 C.2.1 hd hl hk hv hn hl' (fun ls' h' => kk H locs ls' hP hD hS h')
theorem v_iadd (C : CX K G nL cc own) (v : Int32) {x y : Int32} (hd : decode cc pc = .ok (.iadd, 1)) (hv : x + y = v) (kk : vv K R G nL cells slots w (pc + 1) lv (.int v :: st)) : vv K R G nL cells slots w pc lv (.int y :: .int x :: st) := by
  obtain ⟨p, l, e, s, m, args, below, meth, c, Q, A⟩ := K
  intro H locs ls hP hD hS hl
  exact lv_iadd C.1 C.2.1 hd (by rw [hv]; exact kk H locs ls hP hD hS hl)
theorem v_isub (C : CX K G nL cc own) (v : Int32) {x y : Int32} (hd : decode cc pc = .ok (.isub, 1)) (hv : x - y = v) (kk : vv K R G nL cells slots w (pc + 1) lv (.int v :: st)) : vv K R G nL cells slots w pc lv (.int y :: .int x :: st) := by
  obtain ⟨p, l, e, s, m, args, below, meth, c, Q, A⟩ := K
  intro H locs ls hP hD hS hl
  exact lv_isub C.1 C.2.1 hd (by rw [hv]; exact kk H locs ls hP hD hS hl)
theorem v_imul (C : CX K G nL cc own) (v : Int32) {x y : Int32} (hd : decode cc pc = .ok (.imul, 1)) (hv : x * y = v) (kk : vv K R G nL cells slots w (pc + 1) lv (.int v :: st)) : vv K R G nL cells slots w pc lv (.int y :: .int x :: st) := by
  obtain ⟨p, l, e, s, m, args, below, meth, c, Q, A⟩ := K
  intro H locs ls hP hD hS hl
  exact lv_imul C.1 C.2.1 hd (by rw [hv]; exact kk H locs ls hP hD hS hl)
theorem v_iand (C : CX K G nL cc own) (v : Int32) {x y : Int32} (hd : decode cc pc = .ok (.iand, 1)) (hv : x &&& y = v) (kk : vv K R G nL cells slots w (pc + 1) lv (.int v :: st)) : vv K R G nL cells slots w pc lv (.int y :: .int x :: st) := by
  obtain ⟨p, l, e, s, m, args, below, meth, c, Q, A⟩ := K
  intro H locs ls hP hD hS hl
  exact lv_iand C.1 C.2.1 hd (by rw [hv]; exact kk H locs ls hP hD hS hl)
theorem v_lor (C : CX K G nL cc own) (v : Int64) {x y : Int64} (hd : decode cc pc = .ok (.lor, 1)) (hv : x ||| y = v) (kk : vv K R G nL cells slots w (pc + 1) lv (.long v :: st)) : vv K R G nL cells slots w pc lv (.long y :: .long x :: st) := by
  obtain ⟨p, l, e, s, m, args, below, meth, c, Q, A⟩ := K
  intro H locs ls hP hD hS hl
  exact lv_lor C.1 C.2.1 hd (by rw [hv]; exact kk H locs ls hP hD hS hl)
theorem v_idiv (C : CX K G nL cc own) (v : Int32) {x y : Int32} (hd : decode cc pc = .ok (.idiv, 1)) (hne : ¬ y = 0) (hv : x / y = v) (kk : vv K R G nL cells slots w (pc + 1) lv (.int v :: st)) : vv K R G nL cells slots w pc lv (.int y :: .int x :: st) := by
  obtain ⟨p, l, e, s, m, args, below, meth, c, Q, A⟩ := K
  intro H locs ls hP hD hS hl
  exact lv_idiv C.1 C.2.1 hd hne (by rw [hv]; exact kk H locs ls hP hD hS hl)
theorem v_irem (C : CX K G nL cc own) (v : Int32) {x y : Int32} (hd : decode cc pc = .ok (.irem, 1)) (hne : ¬ y = 0) (hv : x - x / y * y = v) (kk : vv K R G nL cells slots w (pc + 1) lv (.int v :: st)) : vv K R G nL cells slots w pc lv (.int y :: .int x :: st) := by
  obtain ⟨p, l, e, s, m, args, below, meth, c, Q, A⟩ := K
  intro H locs ls hP hD hS hl
  exact lv_irem C.1 C.2.1 hd hne (by rw [hv]; exact kk H locs ls hP hD hS hl)
theorem v_iushr (C : CX K G nL cc own) (v : Int32) {x y : Int32} (hd : decode cc pc = .ok (.iushr, 1)) (hv : (x.toUInt32 >>> (y.toUInt32 &&& Int32.toUInt32 31)).toInt32 = v) (kk : vv K R G nL cells slots w (pc + 1) lv (.int v :: st)) : vv K R G nL cells slots w pc lv (.int y :: .int x :: st) := by
  obtain ⟨p, l, e, s, m, args, below, meth, c, Q, A⟩ := K
  intro H locs ls hP hD hS hl
  exact lv_iushr C.1 C.2.1 hd hv (kk H locs ls hP hD hS hl)
theorem v_lushr (C : CX K G nL cc own) (v : Int64) {x : Int64} {y : Int32} (hd : decode cc pc = .ok (.lushr, 1)) (hv : (x.toUInt64 >>> (y.toInt64.toUInt64 &&& Int64.toUInt64 63)).toInt64 = v) (kk : vv K R G nL cells slots w (pc + 1) lv (.long v :: st)) : vv K R G nL cells slots w pc lv (.int y :: .long x :: st) := by
  obtain ⟨p, l, e, s, m, args, below, meth, c, Q, A⟩ := K
  intro H locs ls hP hD hS hl
  exact lv_lushr C.1 C.2.1 hd hv (kk H locs ls hP hD hS hl)
theorem v_lshl (C : CX K G nL cc own) (v : Int64) {x : Int64} {y : Int32} (hd : decode cc pc = .ok (.lshl, 1)) (hv : x <<< (y.toInt64 &&& 63) = v) (kk : vv K R G nL cells slots w (pc + 1) lv (.long v :: st)) : vv K R G nL cells slots w pc lv (.int y :: .long x :: st) := by
  obtain ⟨p, l, e, s, m, args, below, meth, c, Q, A⟩ := K
  intro H locs ls hP hD hS hl
  exact lv_lshl C.1 C.2.1 hd hv (kk H locs ls hP hD hS hl)
theorem v_i2l (C : CX K G nL cc own) (v : Int64) {x : Int32} (hd : decode cc pc = .ok (.i2l, 1)) (hv : x.toInt64 = v) (kk : vv K R G nL cells slots w (pc + 1) lv (.long v :: st)) : vv K R G nL cells slots w pc lv (.int x :: st) := by
  obtain ⟨p, l, e, s, m, args, below, meth, c, Q, A⟩ := K
  intro H locs ls hP hD hS hl
  exact lv_i2l C.1 C.2.1 hd hv (kk H locs ls hP hD hS hl)
theorem v_l2i (C : CX K G nL cc own) (v : Int32) {x : Int64} (hd : decode cc pc = .ok (.l2i, 1)) (hv : x.toInt32 = v) (kk : vv K R G nL cells slots w (pc + 1) lv (.int v :: st)) : vv K R G nL cells slots w pc lv (.long x :: st) := by
  obtain ⟨p, l, e, s, m, args, below, meth, c, Q, A⟩ := K
  intro H locs ls hP hD hS hl
  exact lv_l2i C.1 C.2.1 hd hv (kk H locs ls hP hD hS hl)
theorem v_lcmp (C : CX K G nL cc own) {x y : Int64} (hd : decode cc pc = .ok (.lcmp, 1)) (kk : vv K R G nL cells slots w (pc + 1) lv (.int (lg_cmp x y) :: st)) : vv K R G nL cells slots w pc lv (.long y :: .long x :: st) := by
  obtain ⟨p, l, e, s, m, args, below, meth, c, Q, A⟩ := K
  intro H locs ls hP hD hS hl
  exact W.lcmp C.1 C.2.1 hd (kk H locs ls hP hD hS hl)
theorem v_dup (C : CX K G nL cc own) {va : Value} (hd : decode cc pc = .ok (.dup, 1)) (hva : va.category = 1) (kk : vv K R G nL cells slots w (pc + 1) lv (va :: va :: st)) : vv K R G nL cells slots w pc lv (va :: st) := by
  obtain ⟨p, l, e, s, m, args, below, meth, c, Q, A⟩ := K
  intro H locs ls hP hD hS hl
  exact lv_dup C.1 C.2.1 hd hva (kk H locs ls hP hD hS hl)
theorem v_pop (C : CX K G nL cc own) {va : Value} (hd : decode cc pc = .ok (.pop, 1)) (hva : va.category = 1) (kk : vv K R G nL cells slots w (pc + 1) lv st) : vv K R G nL cells slots w pc lv (va :: st) := by
  obtain ⟨p, l, e, s, m, args, below, meth, c, Q, A⟩ := K
  intro H locs ls hP hD hS hl
  exact lv_pop C.1 C.2.1 hd hva (kk H locs ls hP hD hS hl)
theorem v_dup2 (C : CX K G nL cc own) {va vb : Value} (hd : decode cc pc = .ok (.dup2, 1)) (hva : va.category = 1) (hvb : vb.category = 1) (kk : vv K R G nL cells slots w (pc + 1) lv (va :: vb :: va :: vb :: st)) : vv K R G nL cells slots w pc lv (va :: vb :: st) := by
  obtain ⟨p, l, e, s, m, args, below, meth, c, Q, A⟩ := K
  intro H locs ls hP hD hS hl
  exact lv_dup2_11 C.1 C.2.1 hd hva hvb (kk H locs ls hP hD hS hl)
theorem v_if_eq (C : CX K G nL cc own) (tgt : Nat) {x : Int32} {off : Int} (hd : decode cc pc = .ok (.ifCond .eq off, 3)) (ht : (pc : Int) + off = (tgt : Int)) (kt : x = 0 → vv K R G nL cells slots w tgt lv st) (kf : ¬ x = 0 → vv K R G nL cells slots w (pc + 3) lv st) : vv K R G nL cells slots w pc lv (.int x :: st) := by
  obtain ⟨p, l, e, s, m, args, below, meth, c, Q, A⟩ := K
  intro H locs ls hP hD hS hl
  exact lv_if_eq C.1 C.2.1 hd ht (fun q => kt q H locs ls hP hD hS hl) (fun q => kf q H locs ls hP hD hS hl)
theorem v_icmp_eq (C : CX K G nL cc own) (tgt : Nat) {x y : Int32} {off : Int} (hd : decode cc pc = .ok (.if_icmp .eq off, 3)) (ht : (pc : Int) + off = (tgt : Int)) (kt : x = y → vv K R G nL cells slots w tgt lv st) (kf : ¬ x = y → vv K R G nL cells slots w (pc + 3) lv st) : vv K R G nL cells slots w pc lv (.int y :: .int x :: st) := by
  obtain ⟨p, l, e, s, m, args, below, meth, c, Q, A⟩ := K
  intro H locs ls hP hD hS hl
  exact lv_icmp_eq C.1 C.2.1 hd ht (fun q => kt q H locs ls hP hD hS hl) (fun q => kf q H locs ls hP hD hS hl)
theorem v_if_ne (C : CX K G nL cc own) (tgt : Nat) {x : Int32} {off : Int} (hd : decode cc pc = .ok (.ifCond .ne off, 3)) (ht : (pc : Int) + off = (tgt : Int)) (kt : ¬ x = 0 → vv K R G nL cells slots w tgt lv st) (kf : x = 0 → vv K R G nL cells slots w (pc + 3) lv st) : vv K R G nL cells slots w pc lv (.int x :: st) := by
  obtain ⟨p, l, e, s, m, args, below, meth, c, Q, A⟩ := K
  intro H locs ls hP hD hS hl
  exact lv_if_ne C.1 C.2.1 hd ht (fun q => kt q H locs ls hP hD hS hl) (fun q => kf q H locs ls hP hD hS hl)
theorem v_icmp_ne (C : CX K G nL cc own) (tgt : Nat) {x y : Int32} {off : Int} (hd : decode cc pc = .ok (.if_icmp .ne off, 3)) (ht : (pc : Int) + off = (tgt : Int)) (kt : ¬ x = y → vv K R G nL cells slots w tgt lv st) (kf : x = y → vv K R G nL cells slots w (pc + 3) lv st) : vv K R G nL cells slots w pc lv (.int y :: .int x :: st) := by
  obtain ⟨p, l, e, s, m, args, below, meth, c, Q, A⟩ := K
  intro H locs ls hP hD hS hl
  exact lv_icmp_ne C.1 C.2.1 hd ht (fun q => kt q H locs ls hP hD hS hl) (fun q => kf q H locs ls hP hD hS hl)
theorem v_if_lt (C : CX K G nL cc own) (tgt : Nat) {x : Int32} {off : Int} (hd : decode cc pc = .ok (.ifCond .lt off, 3)) (ht : (pc : Int) + off = (tgt : Int)) (kt : x < 0 → vv K R G nL cells slots w tgt lv st) (kf : ¬ x < 0 → vv K R G nL cells slots w (pc + 3) lv st) : vv K R G nL cells slots w pc lv (.int x :: st) := by
  obtain ⟨p, l, e, s, m, args, below, meth, c, Q, A⟩ := K
  intro H locs ls hP hD hS hl
  exact lv_if_lt C.1 C.2.1 hd ht (fun q => kt q H locs ls hP hD hS hl) (fun q => kf q H locs ls hP hD hS hl)
theorem v_icmp_lt (C : CX K G nL cc own) (tgt : Nat) {x y : Int32} {off : Int} (hd : decode cc pc = .ok (.if_icmp .lt off, 3)) (ht : (pc : Int) + off = (tgt : Int)) (kt : x < y → vv K R G nL cells slots w tgt lv st) (kf : ¬ x < y → vv K R G nL cells slots w (pc + 3) lv st) : vv K R G nL cells slots w pc lv (.int y :: .int x :: st) := by
  obtain ⟨p, l, e, s, m, args, below, meth, c, Q, A⟩ := K
  intro H locs ls hP hD hS hl
  exact lv_icmp_lt C.1 C.2.1 hd ht (fun q => kt q H locs ls hP hD hS hl) (fun q => kf q H locs ls hP hD hS hl)
theorem v_if_ge (C : CX K G nL cc own) (tgt : Nat) {x : Int32} {off : Int} (hd : decode cc pc = .ok (.ifCond .ge off, 3)) (ht : (pc : Int) + off = (tgt : Int)) (kt : 0 ≤ x → vv K R G nL cells slots w tgt lv st) (kf : ¬ 0 ≤ x → vv K R G nL cells slots w (pc + 3) lv st) : vv K R G nL cells slots w pc lv (.int x :: st) := by
  obtain ⟨p, l, e, s, m, args, below, meth, c, Q, A⟩ := K
  intro H locs ls hP hD hS hl
  exact lv_if_ge C.1 C.2.1 hd ht (fun q => kt q H locs ls hP hD hS hl) (fun q => kf q H locs ls hP hD hS hl)
theorem v_icmp_ge (C : CX K G nL cc own) (tgt : Nat) {x y : Int32} {off : Int} (hd : decode cc pc = .ok (.if_icmp .ge off, 3)) (ht : (pc : Int) + off = (tgt : Int)) (kt : y ≤ x → vv K R G nL cells slots w tgt lv st) (kf : ¬ y ≤ x → vv K R G nL cells slots w (pc + 3) lv st) : vv K R G nL cells slots w pc lv (.int y :: .int x :: st) := by
  obtain ⟨p, l, e, s, m, args, below, meth, c, Q, A⟩ := K
  intro H locs ls hP hD hS hl
  exact lv_icmp_ge C.1 C.2.1 hd ht (fun q => kt q H locs ls hP hD hS hl) (fun q => kf q H locs ls hP hD hS hl)
theorem v_if_gt (C : CX K G nL cc own) (tgt : Nat) {x : Int32} {off : Int} (hd : decode cc pc = .ok (.ifCond .gt off, 3)) (ht : (pc : Int) + off = (tgt : Int)) (kt : 0 < x → vv K R G nL cells slots w tgt lv st) (kf : ¬ 0 < x → vv K R G nL cells slots w (pc + 3) lv st) : vv K R G nL cells slots w pc lv (.int x :: st) := by
  obtain ⟨p, l, e, s, m, args, below, meth, c, Q, A⟩ := K
  intro H locs ls hP hD hS hl
  exact lv_if_gt C.1 C.2.1 hd ht (fun q => kt q H locs ls hP hD hS hl) (fun q => kf q H locs ls hP hD hS hl)
theorem v_icmp_gt (C : CX K G nL cc own) (tgt : Nat) {x y : Int32} {off : Int} (hd : decode cc pc = .ok (.if_icmp .gt off, 3)) (ht : (pc : Int) + off = (tgt : Int)) (kt : y < x → vv K R G nL cells slots w tgt lv st) (kf : ¬ y < x → vv K R G nL cells slots w (pc + 3) lv st) : vv K R G nL cells slots w pc lv (.int y :: .int x :: st) := by
  obtain ⟨p, l, e, s, m, args, below, meth, c, Q, A⟩ := K
  intro H locs ls hP hD hS hl
  exact lv_icmp_gt C.1 C.2.1 hd ht (fun q => kt q H locs ls hP hD hS hl) (fun q => kf q H locs ls hP hD hS hl)
theorem v_if_le (C : CX K G nL cc own) (tgt : Nat) {x : Int32} {off : Int} (hd : decode cc pc = .ok (.ifCond .le off, 3)) (ht : (pc : Int) + off = (tgt : Int)) (kt : x ≤ 0 → vv K R G nL cells slots w tgt lv st) (kf : ¬ x ≤ 0 → vv K R G nL cells slots w (pc + 3) lv st) : vv K R G nL cells slots w pc lv (.int x :: st) := by
  obtain ⟨p, l, e, s, m, args, below, meth, c, Q, A⟩ := K
  intro H locs ls hP hD hS hl
  exact lv_if_le C.1 C.2.1 hd ht (fun q => kt q H locs ls hP hD hS hl) (fun q => kf q H locs ls hP hD hS hl)
theorem v_icmp_le (C : CX K G nL cc own) (tgt : Nat) {x y : Int32} {off : Int} (hd : decode cc pc = .ok (.if_icmp .le off, 3)) (ht : (pc : Int) + off = (tgt : Int)) (kt : x ≤ y → vv K R G nL cells slots w tgt lv st) (kf : ¬ x ≤ y → vv K R G nL cells slots w (pc + 3) lv st) : vv K R G nL cells slots w pc lv (.int y :: .int x :: st) := by
  obtain ⟨p, l, e, s, m, args, below, meth, c, Q, A⟩ := K
  intro H locs ls hP hD hS hl
  exact lv_icmp_le C.1 C.2.1 hd ht (fun q => kt q H locs ls hP hD hS hl) (fun q => kf q H locs ls hP hD hS hl)
theorem nI_eqN {a b : Nat} (ha : a < 2147483648) (hb : b < 2147483648) : nI a = nI b ↔ a = b := nI_eq ha hb
theorem nI_leN {a b : Nat} (ha : a < 2147483648) (hb : b < 2147483648) : nI a ≤ nI b ↔ a ≤ b := nI_leI ha hb
theorem nI_ltN {a b : Nat} (ha : a < 2147483648) (hb : b < 2147483648) : nI a < nI b ↔ a < b := nI_ltI ha hb
theorem v_icmpN_eq (C : CX K G nL cc own) (tgt a b : Nat) {off : Int} (hd : decode cc pc = .ok (.if_icmp .eq off, 3)) (ht : (pc : Int) + off = (tgt : Int)) (ha : a < 2147483648) (hb : b < 2147483648) (kt : a = b → vv K R G nL cells slots w tgt lv st) (kf : a ≠ b → vv K R G nL cells slots w (pc + 3) lv st) : vv K R G nL cells slots w pc lv (.int (nI b) :: .int (nI a) :: st) :=
  v_icmp_eq C tgt hd ht (fun q => kt ((nI_eqN ha hb).mp q)) (fun q => kf (fun z => q ((nI_eqN ha hb).mpr z)))
theorem v_ifN_eq (C : CX K G nL cc own) (tgt a : Nat) {off : Int} (hd : decode cc pc = .ok (.ifCond .eq off, 3)) (ht : (pc : Int) + off = (tgt : Int)) (ha : a < 2147483648) (kt : a = 0 → vv K R G nL cells slots w tgt lv st) (kf : a ≠ 0 → vv K R G nL cells slots w (pc + 3) lv st) : vv K R G nL cells slots w pc lv (.int (nI a) :: st) := by
  have hz : 0 < 2147483648 := by decide
  refine v_if_eq C tgt hd ht (fun q => kt ?_) (fun q => kf ?_)
  · rw [← nI_0] at q; exact (nI_eqN ha hz).mp q
  · rw [← nI_0] at q; exact fun z => q ((nI_eqN ha hz).mpr z)
theorem v_icmpN_ne (C : CX K G nL cc own) (tgt a b : Nat) {off : Int} (hd : decode cc pc = .ok (.if_icmp .ne off, 3)) (ht : (pc : Int) + off = (tgt : Int)) (ha : a < 2147483648) (hb : b < 2147483648) (kt : a ≠ b → vv K R G nL cells slots w tgt lv st) (kf : a = b → vv K R G nL cells slots w (pc + 3) lv st) : vv K R G nL cells slots w pc lv (.int (nI b) :: .int (nI a) :: st) :=
  v_icmp_ne C tgt hd ht (fun q => kt (fun z => q ((nI_eqN ha hb).mpr z))) (fun q => kf ((nI_eqN ha hb).mp q))
theorem v_ifN_ne (C : CX K G nL cc own) (tgt a : Nat) {off : Int} (hd : decode cc pc = .ok (.ifCond .ne off, 3)) (ht : (pc : Int) + off = (tgt : Int)) (ha : a < 2147483648) (kt : a ≠ 0 → vv K R G nL cells slots w tgt lv st) (kf : a = 0 → vv K R G nL cells slots w (pc + 3) lv st) : vv K R G nL cells slots w pc lv (.int (nI a) :: st) := by
  have hz : 0 < 2147483648 := by decide
  refine v_if_ne C tgt hd ht (fun q => kt ?_) (fun q => kf ?_)
  · rw [← nI_0] at q; exact fun z => q ((nI_eqN ha hz).mpr z)
  · rw [← nI_0] at q; exact (nI_eqN ha hz).mp q
theorem v_icmpN_lt (C : CX K G nL cc own) (tgt a b : Nat) {off : Int} (hd : decode cc pc = .ok (.if_icmp .lt off, 3)) (ht : (pc : Int) + off = (tgt : Int)) (ha : a < 2147483648) (hb : b < 2147483648) (kt : a < b → vv K R G nL cells slots w tgt lv st) (kf : b ≤ a → vv K R G nL cells slots w (pc + 3) lv st) : vv K R G nL cells slots w pc lv (.int (nI b) :: .int (nI a) :: st) :=
  v_icmp_lt C tgt hd ht (fun q => kt ((nI_ltN ha hb).mp q)) (fun q => kf (Nat.le_of_not_lt (fun z => q ((nI_ltN ha hb).mpr z))))
theorem v_ifN_lt (C : CX K G nL cc own) (tgt a : Nat) {off : Int} (hd : decode cc pc = .ok (.ifCond .lt off, 3)) (ht : (pc : Int) + off = (tgt : Int)) (ha : a < 2147483648) (kt : a < 0 → vv K R G nL cells slots w tgt lv st) (kf : 0 ≤ a → vv K R G nL cells slots w (pc + 3) lv st) : vv K R G nL cells slots w pc lv (.int (nI a) :: st) := by
  have hz : 0 < 2147483648 := by decide
  refine v_if_lt C tgt hd ht (fun q => kt ?_) (fun q => kf ?_)
  · rw [← nI_0] at q; exact (nI_ltN ha hz).mp q
  · rw [← nI_0] at q; exact Nat.le_of_not_lt (fun z => q ((nI_ltN ha hz).mpr z))
theorem v_icmpN_ge (C : CX K G nL cc own) (tgt a b : Nat) {off : Int} (hd : decode cc pc = .ok (.if_icmp .ge off, 3)) (ht : (pc : Int) + off = (tgt : Int)) (ha : a < 2147483648) (hb : b < 2147483648) (kt : b ≤ a → vv K R G nL cells slots w tgt lv st) (kf : a < b → vv K R G nL cells slots w (pc + 3) lv st) : vv K R G nL cells slots w pc lv (.int (nI b) :: .int (nI a) :: st) :=
  v_icmp_ge C tgt hd ht (fun q => kt ((nI_leN hb ha).mp q)) (fun q => kf (Nat.lt_of_not_le (fun z => q ((nI_leN hb ha).mpr z))))
theorem v_ifN_ge (C : CX K G nL cc own) (tgt a : Nat) {off : Int} (hd : decode cc pc = .ok (.ifCond .ge off, 3)) (ht : (pc : Int) + off = (tgt : Int)) (ha : a < 2147483648) (kt : 0 ≤ a → vv K R G nL cells slots w tgt lv st) (kf : a < 0 → vv K R G nL cells slots w (pc + 3) lv st) : vv K R G nL cells slots w pc lv (.int (nI a) :: st) := by
  have hz : 0 < 2147483648 := by decide
  refine v_if_ge C tgt hd ht (fun q => kt ?_) (fun q => kf ?_)
  · rw [← nI_0] at q; exact (nI_leN hz ha).mp q
  · rw [← nI_0] at q; exact Nat.lt_of_not_le (fun z => q ((nI_leN hz ha).mpr z))
theorem v_icmpN_gt (C : CX K G nL cc own) (tgt a b : Nat) {off : Int} (hd : decode cc pc = .ok (.if_icmp .gt off, 3)) (ht : (pc : Int) + off = (tgt : Int)) (ha : a < 2147483648) (hb : b < 2147483648) (kt : b < a → vv K R G nL cells slots w tgt lv st) (kf : a ≤ b → vv K R G nL cells slots w (pc + 3) lv st) : vv K R G nL cells slots w pc lv (.int (nI b) :: .int (nI a) :: st) :=
  v_icmp_gt C tgt hd ht (fun q => kt ((nI_ltN hb ha).mp q)) (fun q => kf (Nat.le_of_not_lt (fun z => q ((nI_ltN hb ha).mpr z))))
theorem v_ifN_gt (C : CX K G nL cc own) (tgt a : Nat) {off : Int} (hd : decode cc pc = .ok (.ifCond .gt off, 3)) (ht : (pc : Int) + off = (tgt : Int)) (ha : a < 2147483648) (kt : 0 < a → vv K R G nL cells slots w tgt lv st) (kf : a ≤ 0 → vv K R G nL cells slots w (pc + 3) lv st) : vv K R G nL cells slots w pc lv (.int (nI a) :: st) := by
  have hz : 0 < 2147483648 := by decide
  refine v_if_gt C tgt hd ht (fun q => kt ?_) (fun q => kf ?_)
  · rw [← nI_0] at q; exact (nI_ltN hz ha).mp q
  · rw [← nI_0] at q; exact Nat.le_of_not_lt (fun z => q ((nI_ltN hz ha).mpr z))
theorem v_icmpN_le (C : CX K G nL cc own) (tgt a b : Nat) {off : Int} (hd : decode cc pc = .ok (.if_icmp .le off, 3)) (ht : (pc : Int) + off = (tgt : Int)) (ha : a < 2147483648) (hb : b < 2147483648) (kt : a ≤ b → vv K R G nL cells slots w tgt lv st) (kf : b < a → vv K R G nL cells slots w (pc + 3) lv st) : vv K R G nL cells slots w pc lv (.int (nI b) :: .int (nI a) :: st) :=
  v_icmp_le C tgt hd ht (fun q => kt ((nI_leN ha hb).mp q)) (fun q => kf (Nat.lt_of_not_le (fun z => q ((nI_leN ha hb).mpr z))))
theorem v_ifN_le (C : CX K G nL cc own) (tgt a : Nat) {off : Int} (hd : decode cc pc = .ok (.ifCond .le off, 3)) (ht : (pc : Int) + off = (tgt : Int)) (ha : a < 2147483648) (kt : a ≤ 0 → vv K R G nL cells slots w tgt lv st) (kf : 0 < a → vv K R G nL cells slots w (pc + 3) lv st) : vv K R G nL cells slots w pc lv (.int (nI a) :: st) := by
  have hz : 0 < 2147483648 := by decide
  refine v_if_le C tgt hd ht (fun q => kt ?_) (fun q => kf ?_)
  · rw [← nI_0] at q; exact (nI_leN ha hz).mp q
  · rw [← nI_0] at q; exact Nat.lt_of_not_le (fun z => q ((nI_leN ha hz).mpr z))
theorem v_goto (C : CX K G nL cc own) (tgt : Nat) {off : Int} (hd : decode cc pc = .ok (.goto off, 3)) (ht : (pc : Int) + off = (tgt : Int)) (kk : vv K R G nL cells slots w tgt lv st) : vv K R G nL cells slots w pc lv st := by
  obtain ⟨p, l, e, s, m, args, below, meth, c, Q, A⟩ := K
  intro H locs ls hP hD hS hl
  exact lv_goto C.1 C.2.1 hd ht (kk H locs ls hP hD hS hl)
theorem v_ifnonnull (C : CX K G nL cc own) (tgt : Nat) {x : Nat} {off : Int} (hd : decode cc pc = .ok (.ifnonnull off, 3)) (ht : (pc : Int) + off = (tgt : Int)) (kk : vv K R G nL cells slots w tgt lv st) : vv K R G nL cells slots w pc lv (.ref x :: st) := by
  obtain ⟨p, l, e, s, m, args, below, meth, c, Q, A⟩ := K
  intro H locs ls hP hD hS hl
  exact lv_ifnonnull C.1 C.2.1 hd ht (kk H locs ls hP hD hS hl)
theorem v_ifnullN (C : CX K G nL cc own) (tgt : Nat) {off : Int} (hd : decode cc pc = .ok (.ifnull off, 3)) (ht : (pc : Int) + off = (tgt : Int)) (kk : vv K R G nL cells slots w tgt lv st) : vv K R G nL cells slots w pc lv (.null :: st) := by
  obtain ⟨p, l, e, s, m, args, below, meth, c, Q, A⟩ := K
  intro H locs ls hP hD hS hl
  exact lv_ifnullN C.1 C.2.1 hd ht (kk H locs ls hP hD hS hl)
theorem v_ifnull (C : CX K G nL cc own) {x : Nat} {off : Int} (hd : decode cc pc = .ok (.ifnull off, 3)) (kk : vv K R G nL cells slots w (pc + 3) lv st) : vv K R G nL cells slots w pc lv (.ref x :: st) := by
  obtain ⟨p, l, e, s, m, args, below, meth, c, Q, A⟩ := K
  intro H locs ls hP hD hS hl
  exact lv_ifnull C.1 C.2.1 hd (kk H locs ls hP hD hS hl)
theorem v_ifnonnullN (C : CX K G nL cc own) {off : Int} (hd : decode cc pc = .ok (.ifnonnull off, 3)) (kk : vv K R G nL cells slots w (pc + 3) lv st) : vv K R G nL cells slots w pc lv (.null :: st) := by
  obtain ⟨p, l, e, s, m, args, below, meth, c, Q, A⟩ := K
  intro H locs ls hP hD hS hl
  exact lv_ifnonnullN C.1 C.2.1 hd (kk H locs ls hP hD hS hl)
theorem v_topi {x : Int32} (kk : ∀ y : Int32, y = x → vv K R G nL cells slots w pc lv (.int y :: st)) : vv K R G nL cells slots w pc lv (.int x :: st) := kk x rfl
theorem v_topl {x : Int64} (kk : ∀ y : Int64, y = x → vv K R G nL cells slots w pc lv (.long y :: st)) : vv K R G nL cells slots w pc lv (.long x :: st) := kk x rfl
theorem v_seti {x : Int32} (y : Int32) (h : x = y) (kk : vv K R G nL cells slots w pc lv (.int y :: st)) : vv K R G nL cells slots w pc lv (.int x :: st) := by rw [h]; exact kk
theorem v_setl {x : Int64} (y : Int64) (h : x = y) (kk : vv K R G nL cells slots w pc lv (.long y :: st)) : vv K R G nL cells slots w pc lv (.long x :: st) := by rw [h]; exact kk
theorem v_lsub (ks : List Nat) (lv' : List (Nat × Value)) (h : lv_pick lv ks = lv') (kk : vv K R G nL cells slots w pc lv' st) : vv K R G nL cells slots w pc lv st := by
  obtain ⟨p, l, e, s, m, args, below, meth, c, Q, A⟩ := K
  intro H locs ls hP hD hS hl
  exact kk H locs ls hP hD hS (lv_sub hl ks h)
theorem v_wsub (is : List Nat) (w' : va_W) (hn : va_nd is = true) (h : is.map (fun i => w[i]?) = w'.map some) (kk : vv K R G nL cells slots w' pc lv st) : vv K R G nL cells slots w pc lv st := by
  obtain ⟨p, l, e, s, m, args, below, meth, c, Q, A⟩ := K
  intro H locs ls hP hD hS hl
  refine kk H locs ls ?_ (hD.sub is hn h) hS hl
  intro k q hk
  have h1 : (is.map (fun i => w[i]?))[k]? = some (some q) := by rw [h, List.getElem?_map, hk]; rfl
  rw [List.getElem?_map] at h1
  cases hi : is[k]? with
  | none => rw [hi] at h1; cases h1
  | some i => rw [hi] at h1; exact hP i q (Option.some.inj h1)
theorem v_widen {c1 s1 : Nat} (h1 : cells ≤ c1) (h2 : slots ≤ s1) (kk : vv K R G nL c1 s1 w pc lv st) : vv K R G nL cells slots w pc lv st := by
  obtain ⟨p, l, e, s, m, args, below, meth, c, Q, A⟩ := K
  intro H locs ls hP hD hS hl
  exact W.widen h1 h2 (kk H locs ls hP hD hS hl)
theorem v_weq {w' : va_W} (h : w = w') (kk : vv K R G nL cells slots w' pc lv st) : vv K R G nL cells slots w pc lv st := by rw [h]; exact kk
/-- the addresses of a world lie apart -/
theorem v_apart (i j : Nat) {a b : Nat} {ea eb : va_E} (hi : w[i]? = some (a, ea)) (hj : w[j]? = some (b, eb)) (hij : i ≠ j) (kk : a ≠ b → vv K R G nL cells slots w pc lv st) : vv K R G nL cells slots w pc lv st := by
  obtain ⟨p, l, e, s, m, args, below, meth, c, Q, A⟩ := K
  intro H locs ls hP hD hS hl
  exact kk (fun h => hij (hD.1 i j _ _ hi hj h)) H locs ls hP hD hS hl
theorem v_get (C : CX K G nL cc own) {Cn : String} {T : u_T} {N ci ix : Nat} (q0 k : Nat) {a : Nat} {fs : List Value} {v : Value} (he : w[q0]? = some (a, .inr (ci, fs))) (hc : cls[ci]? = some (Cn, T, N)) (hin : ∀ x ∈ u_ws Cn T N, x ∈ gwords) (hk : k < N) (hs : (T k).1 = Cn) (hw : Cond.fieldLink own ix Cn (T k).2.1 (T k).2.2.1 ∈ gwords) (hv : fs[k]? = some v) (hd : decode cc pc = .ok (.getfield ix, 3)) (kk : vv K R G nL cells slots w (pc + 3) lv (v :: st)) : vv K R G nL cells slots w pc lv (.ref a :: st) := by
  obtain ⟨p, l, e, s, m, args, below, meth, c, Q, A⟩ := K
  intro H locs ls hP hD hS hl
  exact va_get C.1 C.2.1 C.2.2.2.2.1 hin C.2.2.2.1 C.2.2.2.2.2.2.1 hP q0 he hc k hk (C.2.2.2.2.1 _ hw) (fun x h => by rw [hs] at h; exact h) hv hd (kk H locs ls hP hD hS hl)
theorem v_getN (C : CX K G nL cc own) {Cn : String} {T : u_T} {N ci ix : Nat} (q0 k : Nat) {a : Nat} {fs : List Value} {v : Value} (he : w[q0]? = some (a, .inr (ci, fs))) (hc : cls[ci]? = some (Cn, T, N)) (hin : ∀ x ∈ u_ws Cn T N, x ∈ gwords) (hk : k < N) (hs : (T k).1 = Cn) {host : String} (hw : Cond.fieldLinkNest own ix Cn (T k).2.1 (T k).2.2.1 host ∈ nwords) (hv : fs[k]? = some v) (hd : decode cc pc = .ok (.getfield ix, 3)) (kk : vv K R G nL cells slots w (pc + 3) lv (v :: st)) : vv K R G nL cells slots w pc lv (.ref a :: st) := by
  obtain ⟨p, l, e, s, m, args, below, meth, c, Q, A⟩ := K
  intro H locs ls hP hD hS hl
  exact va_getN C.1 C.2.1 C.2.2.2.2.1 hin C.2.2.2.1 C.2.2.2.2.2.2.1 hP q0 he hc k hk ((C.2.2.2.2.2.1 _ hw).use rfl) (fun x h => by rw [hs] at h; exact h) hv hd (kk H locs ls hP hD hS hl)
theorem v_put (C : CX K G nL cc own) {Cn : String} {T : u_T} {N ci ix : Nat} (q0 k : Nat) {a : Nat} {fs : List Value} {v : Value} (he : w[q0]? = some (a, .inr (ci, fs))) (hc : cls[ci]? = some (Cn, T, N)) (hin : ∀ x ∈ u_ws Cn T N, x ∈ gwords) (hk : k < N) (hs : (T k).1 = Cn) (w' : va_W) (ty0 : Nat → FieldType) (hty : ∀ k, k < N → parseFieldDescriptor (T k).2.2.1 = some (ty0 k)) (hnm : ∀ a, a < N → ∀ b, b < N → a ≠ b → (T a).2.1 ≠ (T b).2.1) (ty : FieldType) (hte : ty0 k = ty) (hn : narrow ty v = v) (hft : fits ty v = true) (hlf : k < fs.length) (hw' : w.set q0 (a, .inr (ci, fs.set k v)) = w') (hfin : (T k).2.2.2 = false) (hw : Cond.fieldLink own ix Cn (T k).2.1 (T k).2.2.1 ∈ gwords) (hd : decode cc pc = .ok (.putfield ix, 3)) (kk : vv K R G nL cells slots w' (pc + 3) lv st) : vv K R G nL cells slots w pc lv (v :: .ref a :: st) := by
  obtain ⟨p, l, e, s, m, args, below, meth, c, Q, A⟩ := K
  intro H locs ls hP hD hS hl
  subst hw'; subst hte
  exact va_put C.1 C.2.1 C.2.2.2.2.1 hin ty0 hty hnm C.2.2.2.1 C.2.2.2.2.2.2.1 hP hD hS q0 he hc k hk (C.2.2.2.2.1 _ hw) (fun x h => by rw [hs] at h; exact h) hfin (hty k hk) hn hft hlf hd (fun H1 locs1 hP1 hD1 hS1 => kk H1 locs1 ls hP1 hD1 hS1 hl)
theorem v_putN (C : CX K G nL cc own) {Cn : String} {T : u_T} {N ci ix : Nat} (q0 k : Nat) {a : Nat} {fs : List Value} {v : Value} (he : w[q0]? = some (a, .inr (ci, fs))) (hc : cls[ci]? = some (Cn, T, N)) (hin : ∀ x ∈ u_ws Cn T N, x ∈ gwords) (hk : k < N) (hs : (T k).1 = Cn) (w' : va_W) (ty0 : Nat → FieldType) (hty : ∀ k, k < N → parseFieldDescriptor (T k).2.2.1 = some (ty0 k)) (hnm : ∀ a, a < N → ∀ b, b < N → a ≠ b → (T a).2.1 ≠ (T b).2.1) (ty : FieldType) (hte : ty0 k = ty) (hn : narrow ty v = v) (hft : fits ty v = true) (hlf : k < fs.length) (hw' : w.set q0 (a, .inr (ci, fs.set k v)) = w') (hfin : (T k).2.2.2 = false) {host : String} (hw : Cond.fieldLinkNest own ix Cn (T k).2.1 (T k).2.2.1 host ∈ nwords) (hd : decode cc pc = .ok (.putfield ix, 3)) (kk : vv K R G nL cells slots w' (pc + 3) lv st) : vv K R G nL cells slots w pc lv (v :: .ref a :: st) := by
  obtain ⟨p, l, e, s, m, args, below, meth, c, Q, A⟩ := K
  intro H locs ls hP hD hS hl
  subst hw'; subst hte
  exact va_putN C.1 C.2.1 C.2.2.2.2.1 hin ty0 hty hnm C.2.2.2.1 C.2.2.2.2.2.2.1 hP hD hS q0 he hc k hk ((C.2.2.2.2.2.1 _ hw).use rfl) (fun x h => by rw [hs] at h; exact h) hfin (hty k hk) hn hft hlf hd (fun H1 locs1 hP1 hD1 hS1 => kk H1 locs1 ls hP1 hD1 hS1 hl)
/-- the walk is that of a constructor -/
def NX (K : Kx) : Prop := K.2.2.2.2.2.2.2.1.name = "<init>"
theorem v_putF (C : CX K G nL cc own) (hinit : NX K) {Cn : String} {T : u_T} {N ci ix : Nat} (q0 k : Nat) {a : Nat} {fs : List Value} {v : Value} (he : w[q0]? = some (a, .inr (ci, fs))) (hc : cls[ci]? = some (Cn, T, N)) (hin : ∀ x ∈ u_ws Cn T N, x ∈ gwords) (hk : k < N) (hs : (T k).1 = Cn) (w' : va_W) (ty0 : Nat → FieldType) (hty : ∀ k, k < N → parseFieldDescriptor (T k).2.2.1 = some (ty0 k)) (hnm : ∀ a, a < N → ∀ b, b < N → a ≠ b → (T a).2.1 ≠ (T b).2.1) (ty : FieldType) (hte : ty0 k = ty) (hn : narrow ty v = v) (hft : fits ty v = true) (hlf : k < fs.length) (hw' : w.set q0 (a, .inr (ci, fs.set k v)) = w') (hfin : (T k).2.2.2 = true) (hown : own = Cn) (hw : Cond.fieldLink own ix Cn (T k).2.1 (T k).2.2.1 ∈ gwords) (hd : decode cc pc = .ok (.putfield ix, 3)) (kk : vv K R G nL cells slots w' (pc + 3) lv st) : vv K R G nL cells slots w pc lv (v :: .ref a :: st) := by
  obtain ⟨p, l, e, s, m, args, below, meth, c, Q, A⟩ := K
  intro H locs ls hP hD hS hl
  subst hw'; subst hte
  exact va_putF C.1 C.2.1 C.2.2.2.2.1 hin ty0 hty hnm C.2.2.2.1 C.2.2.2.2.2.2.1 hP hD hS q0 he hc k hk (C.2.2.2.2.1 _ hw) (fun x h => by rw [hs] at h; exact h) hfin hinit (hs.trans hown.symm) (hty k hk) hn hft hlf hd (fun H1 locs1 hP1 hD1 hS1 => kk H1 locs1 ls hP1 hD1 hS1 hl)
theorem v_iald (C : CX K G nL cc own) (q0 : Nat) {a n : Nat} {f : Nat → Int32} (ha : w[q0]? = some (a, aI G n f)) (j : Nat) {i : Int32} (hi : i = nI j) (hj : j < n) (hb : n < 2147483648) (hd : decode cc pc = .ok (.iaload, 1)) (kk : vv K R G nL cells slots w (pc + 1) lv (.int (f j) :: st)) : vv K R G nL cells slots w pc lv (.int i :: .ref a :: st) := by
  obtain ⟨p, l, e, s, m, args, below, meth, c, Q, A⟩ := K
  intro H locs ls hP hD hS hl
  subst hi
  have hc : (nI j).toNatClampNeg = j := nI_clamp (Nat.lt_trans hj hb)
  have kk := kk H locs ls hP hD hS hl
  refine va_iald C.1 C.2.1 C.2.2.2.2.2.2.1 hP q0 0 ha rfl (vp_in_nI hj hb) hd ?_
  rw [hc]; exact kk
theorem v_lald (C : CX K G nL cc own) (q0 : Nat) {a n : Nat} {f : Nat → Int64} (ha : w[q0]? = some (a, aJ G n f)) (j : Nat) {i : Int32} (hi : i = nI j) (hj : j < n) (hb : n < 2147483648) (hd : decode cc pc = .ok (.laload, 1)) (kk : vv K R G nL cells slots w (pc + 1) lv (.long (f j) :: st)) : vv K R G nL cells slots w pc lv (.int i :: .ref a :: st) := by
  obtain ⟨p, l, e, s, m, args, below, meth, c, Q, A⟩ := K
  intro H locs ls hP hD hS hl
  subst hi
  have hc : (nI j).toNatClampNeg = j := nI_clamp (Nat.lt_trans hj hb)
  have kk := kk H locs ls hP hD hS hl
  refine va_lald C.1 C.2.1 C.2.2.2.2.2.2.1 hP q0 1 ha rfl (vp_in_nI hj hb) hd ?_
  rw [hc]; exact kk
theorem v_zald (C : CX K G nL cc own) (q0 : Nat) {a n : Nat} {f : Nat → Int32} (ha : w[q0]? = some (a, aZ G n f)) (j : Nat) {i : Int32} (hi : i = nI j) (hj : j < n) (hb : n < 2147483648) (hd : decode cc pc = .ok (.baload, 1)) (kk : vv K R G nL cells slots w (pc + 1) lv (.int (f j) :: st)) : vv K R G nL cells slots w pc lv (.int i :: .ref a :: st) := by
  obtain ⟨p, l, e, s, m, args, below, meth, c, Q, A⟩ := K
  intro H locs ls hP hD hS hl
  subst hi
  have hc : (nI j).toNatClampNeg = j := nI_clamp (Nat.lt_trans hj hb)
  have kk := kk H locs ls hP hD hS hl
  refine va_zald C.1 C.2.1 C.2.2.2.2.2.2.1 hP q0 2 ha rfl (vp_in_nI hj hb) hd ?_
  rw [hc]; exact kk
theorem v_aaldL (C : CX K G nL cc own) (q0 : Nat) {a n : Nat} {f : Nat → Option Nat} (ha : w[q0]? = some (a, aL G n f)) (j : Nat) {i : Int32} (hi : i = nI j) (hj : j < n) (hb : n < 2147483648) (hd : decode cc pc = .ok (.aaload, 1)) (kk : vv K R G nL cells slots w (pc + 1) lv (va_rf (f j) :: st)) : vv K R G nL cells slots w pc lv (.int i :: .ref a :: st) := by
  obtain ⟨p, l, e, s, m, args, below, meth, c, Q, A⟩ := K
  intro H locs ls hP hD hS hl
  subst hi
  have hc : (nI j).toNatClampNeg = j := nI_clamp (Nat.lt_trans hj hb)
  have kk := kk H locs ls hP hD hS hl
  refine va_aldq C.1 C.2.1 C.2.2.2.2.2.2.1 hP q0 3 ha rfl (vp_in_nI hj hb) hd ?_
  rw [hc]; exact kk
theorem v_aaldR (C : CX K G nL cc own) (q0 : Nat) {a n : Nat} {f : Nat → Option Nat} (ha : w[q0]? = some (a, aR G n f)) (j : Nat) {i : Int32} (hi : i = nI j) (hj : j < n) (hb : n < 2147483648) (hd : decode cc pc = .ok (.aaload, 1)) (kk : vv K R G nL cells slots w (pc + 1) lv (va_rf (f j) :: st)) : vv K R G nL cells slots w pc lv (.int i :: .ref a :: st) := by
  obtain ⟨p, l, e, s, m, args, below, meth, c, Q, A⟩ := K
  intro H locs ls hP hD hS hl
  subst hi
  have hc : (nI j).toNatClampNeg = j := nI_clamp (Nat.lt_trans hj hb)
  have kk := kk H locs ls hP hD hS hl
  refine va_aldq C.1 C.2.1 C.2.2.2.2.2.2.1 hP q0 4 ha rfl (vp_in_nI hj hb) hd ?_
  rw [hc]; exact kk
theorem v_iast (C : CX K G nL cc own) (q0 : Nat) (w' : va_W) {a n : Nat} {f : Nat → Int32} {x : Int32} (ha : w[q0]? = some (a, aI G n f)) (j : Nat) {i : Int32} (hi : i = nI j) (hj : j < n) (hb : n < 2147483648) (hw' : w.set q0 (a, aI G n (upd f j x)) = w') (hd : decode cc pc = .ok (.iastore, 1)) (kk : vv K R G nL cells slots w' (pc + 1) lv st) : vv K R G nL cells slots w pc lv (.int x :: .int i :: .ref a :: st) := by
  obtain ⟨p, l, e, s, m, args, below, meth, c, Q, A⟩ := K
  intro H locs ls hP hD hS hl
  subst hi; subst hw'
  have hc : (nI j).toNatClampNeg = j := nI_clamp (Nat.lt_trans hj hb)
  refine va_iast C.1 C.2.1 C.2.2.2.2.2.2.1 hP hD hS q0 0 ha rfl (vp_in_nI hj hb) hd (fun H1 locs1 hP1 hD1 hS1 => ?_)
  rw [hc] at hP1 hD1
  exact kk H1 locs1 ls hP1 hD1 hS1 hl
theorem v_last (C : CX K G nL cc own) (q0 : Nat) (w' : va_W) {a n : Nat} {f : Nat → Int64} {x : Int64} (ha : w[q0]? = some (a, aJ G n f)) (j : Nat) {i : Int32} (hi : i = nI j) (hj : j < n) (hb : n < 2147483648) (hw' : w.set q0 (a, aJ G n (vp_updL f j x)) = w') (hd : decode cc pc = .ok (.lastore, 1)) (kk : vv K R G nL cells slots w' (pc + 1) lv st) : vv K R G nL cells slots w pc lv (.long x :: .int i :: .ref a :: st) := by
  obtain ⟨p, l, e, s, m, args, below, meth, c, Q, A⟩ := K
  intro H locs ls hP hD hS hl
  subst hi; subst hw'
  have hc : (nI j).toNatClampNeg = j := nI_clamp (Nat.lt_trans hj hb)
  refine va_last C.1 C.2.1 C.2.2.2.2.2.2.1 hP hD hS q0 1 ha rfl (vp_in_nI hj hb) hd (fun H1 locs1 hP1 hD1 hS1 => ?_)
  rw [hc] at hP1 hD1
  exact kk H1 locs1 ls hP1 hD1 hS1 hl
theorem v_zast (C : CX K G nL cc own) (q0 : Nat) (w' : va_W) {a n : Nat} {f : Nat → Int32} {x : Int32} (ha : w[q0]? = some (a, aZ G n f)) (j : Nat) {i : Int32} (hi : i = nI j) (hj : j < n) (hb : n < 2147483648) (hw' : w.set q0 (a, aZ G n (upd f j (vp_nar .boolean x))) = w') (hd : decode cc pc = .ok (.bastore, 1)) (kk : vv K R G nL cells slots w' (pc + 1) lv st) : vv K R G nL cells slots w pc lv (.int x :: .int i :: .ref a :: st) := by
  obtain ⟨p, l, e, s, m, args, below, meth, c, Q, A⟩ := K
  intro H locs ls hP hD hS hl
  subst hi; subst hw'
  have hc : (nI j).toNatClampNeg = j := nI_clamp (Nat.lt_trans hj hb)
  refine va_zast C.1 C.2.1 C.2.2.2.2.2.2.1 hP hD hS q0 2 ha rfl (vp_in_nI hj hb) hd (fun H1 locs1 hP1 hD1 hS1 => ?_)
  rw [hc] at hP1 hD1
  exact kk H1 locs1 ls hP1 hD1 hS1 hl
theorem v_aastL (C : CX K G nL cc own) (q0 qk : Nat) (w' : va_W) {a n v ci : Nat} {r : vw_C} {vs : List Value} {f : Nat → Option Nat} (ha : w[q0]? = some (a, aL G n f)) (hv : w[qk]? = some (v, .inr (ci, vs))) (hc : cls[ci]? = some r) (hr : (tys G)[3]? = some ((tys G)[3].1, .object r.1)) (j : Nat) {i : Int32} (hi : i = nI j) (hj : j < n) (hb : n < 2147483648) (hw' : w.set q0 (a, aL G n (va_up f j (some v))) = w') (hd : decode cc pc = .ok (.aastore, 1)) (kk : vv K R G nL cells slots w' (pc + 1) lv st) : vv K R G nL cells slots w pc lv (.ref v :: .int i :: .ref a :: st) := by
  obtain ⟨p, l, e, s, m, args, below, meth, c, Q, A⟩ := K
  intro H locs ls hP hD hS hl
  subst hi; subst hw'
  have hcl : (nI j).toNatClampNeg = j := nI_clamp (Nat.lt_trans hj hb)
  refine va_astq C.1 C.2.1 C.2.2.2.2.2.2.1 hP hD hS q0 3 qk ci ha hr hv hc (vp_in_nI hj hb) hd (fun H1 locs1 hP1 hD1 hS1 => ?_)
  rw [hcl] at hP1 hD1
  exact kk H1 locs1 ls hP1 hD1 hS1 hl
theorem v_aastR (C : CX K G nL cc own) (q0 qk : Nat) (w' : va_W) {a n v ci : Nat} {r : vw_C} {vs : List Value} {f : Nat → Option Nat} (ha : w[q0]? = some (a, aR G n f)) (hv : w[qk]? = some (v, .inr (ci, vs))) (hc : cls[ci]? = some r) (hr : (tys G)[4]? = some ((tys G)[4].1, .object r.1)) (j : Nat) {i : Int32} (hi : i = nI j) (hj : j < n) (hb : n < 2147483648) (hw' : w.set q0 (a, aR G n (va_up f j (some v))) = w') (hd : decode cc pc = .ok (.aastore, 1)) (kk : vv K R G nL cells slots w' (pc + 1) lv st) : vv K R G nL cells slots w pc lv (.ref v :: .int i :: .ref a :: st) := by
  obtain ⟨p, l, e, s, m, args, below, meth, c, Q, A⟩ := K
  intro H locs ls hP hD hS hl
  subst hi; subst hw'
  have hcl : (nI j).toNatClampNeg = j := nI_clamp (Nat.lt_trans hj hb)
  refine va_astq C.1 C.2.1 C.2.2.2.2.2.2.1 hP hD hS q0 4 qk ci ha hr hv hc (vp_in_nI hj hb) hd (fun H1 locs1 hP1 hD1 hS1 => ?_)
  rw [hcl] at hP1 hD1
  exact kk H1 locs1 ls hP1 hD1 hS1 hl
theorem v_alenI (C : CX K G nL cc own) (q0 : Nat) {a n : Nat} {f : Nat → Int32} (ha : w[q0]? = some (a, aI G n f)) (hd : decode cc pc = .ok (.arraylength, 1)) (kk : vv K R G nL cells slots w (pc + 1) lv (.int (nI n) :: st)) : vv K R G nL cells slots w pc lv (.ref a :: st) := by
  obtain ⟨p, l, e, s, m, args, below, meth, c, Q, A⟩ := K
  intro H locs ls hP hD hS hl
  exact va_alen C.1 C.2.1 C.2.2.2.2.2.2.1 hP q0 0 ha rfl rfl hd (kk H locs ls hP hD hS hl)
theorem v_alenJ (C : CX K G nL cc own) (q0 : Nat) {a n : Nat} {f : Nat → Int64} (ha : w[q0]? = some (a, aJ G n f)) (hd : decode cc pc = .ok (.arraylength, 1)) (kk : vv K R G nL cells slots w (pc + 1) lv (.int (nI n) :: st)) : vv K R G nL cells slots w pc lv (.ref a :: st) := by
  obtain ⟨p, l, e, s, m, args, below, meth, c, Q, A⟩ := K
  intro H locs ls hP hD hS hl
  exact va_alen C.1 C.2.1 C.2.2.2.2.2.2.1 hP q0 1 ha rfl rfl hd (kk H locs ls hP hD hS hl)
theorem v_alenZ (C : CX K G nL cc own) (q0 : Nat) {a n : Nat} {f : Nat → Int32} (ha : w[q0]? = some (a, aZ G n f)) (hd : decode cc pc = .ok (.arraylength, 1)) (kk : vv K R G nL cells slots w (pc + 1) lv (.int (nI n) :: st)) : vv K R G nL cells slots w pc lv (.ref a :: st) := by
  obtain ⟨p, l, e, s, m, args, below, meth, c, Q, A⟩ := K
  intro H locs ls hP hD hS hl
  exact va_alen C.1 C.2.1 C.2.2.2.2.2.2.1 hP q0 2 ha rfl rfl hd (kk H locs ls hP hD hS hl)
theorem v_alenL (C : CX K G nL cc own) (q0 : Nat) {a n : Nat} {f : Nat → Option Nat} (ha : w[q0]? = some (a, aL G n f)) (hd : decode cc pc = .ok (.arraylength, 1)) (kk : vv K R G nL cells slots w (pc + 1) lv (.int (nI n) :: st)) : vv K R G nL cells slots w pc lv (.ref a :: st) := by
  obtain ⟨p, l, e, s, m, args, below, meth, c, Q, A⟩ := K
  intro H locs ls hP hD hS hl
  exact va_alen C.1 C.2.1 C.2.2.2.2.2.2.1 hP q0 3 ha rfl rfl hd (kk H locs ls hP hD hS hl)
theorem v_copyI (C : CX K G nL cc own) (q0 q1 : Nat) (w' : va_W) {a0 a n0 n1 : Nat} {f g : Nat → Int32} {ix : Nat} (ha0 : w[q0]? = some (a0, aI G n0 f)) (ha1 : w[q1]? = some (a, aI G n1 g)) (sp dp n : Nat) (h4 : sp + n ≤ n0) (h5 : dp + n ≤ n1) (hb0 : n0 < 2147483648) (hb1 : n1 < 2147483648) (hw : Cond.methodLink own ix arraycopyName ∈ gwords) (hw' : w.set q1 (a, aI G n1 (va_cpy f g sp dp n)) = w') (hfr : 1 ≤ R.frames) (hlo : (st.map fun v => v.category).sum + (nativeFrameWords "java/lang/System" "arraycopy" 5 + 11) ≤ R.locals) (hd : decode cc pc = .ok (.invokestatic ix, 3)) (kk : vv K R G nL cells slots w' (pc + 3) lv st) : vv K R G nL cells slots w pc lv (.int (nI n) :: .int (nI dp) :: .ref a :: .int (nI sp) :: .ref a0 :: st) := by
  obtain ⟨p, l, e, s, m, args, below, meth, c, Q, A⟩ := K
  intro H locs ls hP hD hS hl
  subst hw'
  have e1 : (nI sp).toNatClampNeg = sp := nI_clamp (by omega)
  have e2 : (nI dp).toNatClampNeg = dp := nI_clamp (by omega)
  have e3 : (nI n).toNatClampNeg = n := nI_clamp (by omega)
  refine va_copyi C.1 C.2.1 (C.2.2.1.trans hl.1.symm) C.2.2.2.1 (C.2.2.2.2.1 _ hw) (C.2.2.2.2.1 _ k_247) (C.2.2.2.2.1 _ k_246) (C.2.2.2.2.1 _ k_12) C.2.2.2.2.2.2.1 hP hD hS q0 q1 0 0 ha0 ha1 rfl rfl rfl (nI_pos (by omega)) (nI_pos (by omega)) (nI_pos (by omega)) (by rw [e1, e3]; exact h4) (by rw [e2, e3]; exact h5) (fun _ _ => rfl) hfr hlo hd (fun H1 locs1 hP1 hD1 hS1 => ?_)
  rw [e1, e2, e3] at hP1 hD1
  exact kk H1 locs1 ls hP1 hD1 hS1 hl
theorem v_copyJ (C : CX K G nL cc own) (q0 q1 : Nat) (w' : va_W) {a0 a n0 n1 : Nat} {f g : Nat → Int64} {ix : Nat} (ha0 : w[q0]? = some (a0, aJ G n0 f)) (ha1 : w[q1]? = some (a, aJ G n1 g)) (sp dp n : Nat) (h4 : sp + n ≤ n0) (h5 : dp + n ≤ n1) (hb0 : n0 < 2147483648) (hb1 : n1 < 2147483648) (hw : Cond.methodLink own ix arraycopyName ∈ gwords) (hw' : w.set q1 (a, aJ G n1 (va_cpy f g sp dp n)) = w') (hfr : 1 ≤ R.frames) (hlo : (st.map fun v => v.category).sum + (nativeFrameWords "java/lang/System" "arraycopy" 5 + 11) ≤ R.locals) (hd : decode cc pc = .ok (.invokestatic ix, 3)) (kk : vv K R G nL cells slots w' (pc + 3) lv st) : vv K R G nL cells slots w pc lv (.int (nI n) :: .int (nI dp) :: .ref a :: .int (nI sp) :: .ref a0 :: st) := by
  obtain ⟨p, l, e, s, m, args, below, meth, c, Q, A⟩ := K
  intro H locs ls hP hD hS hl
  subst hw'
  have e1 : (nI sp).toNatClampNeg = sp := nI_clamp (by omega)
  have e2 : (nI dp).toNatClampNeg = dp := nI_clamp (by omega)
  have e3 : (nI n).toNatClampNeg = n := nI_clamp (by omega)
  refine va_copyl C.1 C.2.1 (C.2.2.1.trans hl.1.symm) C.2.2.2.1 (C.2.2.2.2.1 _ hw) (C.2.2.2.2.1 _ k_247) (C.2.2.2.2.1 _ k_246) (C.2.2.2.2.1 _ k_12) C.2.2.2.2.2.2.1 hP hD hS q0 q1 1 1 ha0 ha1 rfl rfl rfl (nI_pos (by omega)) (nI_pos (by omega)) (nI_pos (by omega)) (by rw [e1, e3]; exact h4) (by rw [e2, e3]; exact h5) (fun _ _ => rfl) hfr hlo hd (fun H1 locs1 hP1 hD1 hS1 => ?_)
  rw [e1, e2, e3] at hP1 hD1
  exact kk H1 locs1 ls hP1 hD1 hS1 hl
theorem v_new (C : CX K G nL cc own) {Cn : String} {T : u_T} {N ci ix : Nat} (fs : List Value) (ty : Nat → FieldType) (hty : ∀ k, k < N → parseFieldDescriptor (T k).2.2.1 = some (ty k)) (hin : ∀ x ∈ u_ws Cn T N, x ∈ gwords) (hc : cls[ci]? = some (Cn, T, N)) (hw : Cond.classLink own ix Cn ∈ gwords) (hi : Cond.instantiable Cn N ∈ gwords) (hz : Cond.initialized Cn ∈ gwords) (hfs : ∀ j, j < N → defaultValue (ty j) = vp_V fs j) (h1 : cells + 1 ≤ R.cells) (h2 : slots + N ≤ R.slots) (hd : decode cc pc = .ok (.new ix, 3)) (kk : ∀ q : Nat, vv K R G nL (cells + 1) (slots + N) (w ++ [(q, .inr (ci, fs))]) (pc + 3) lv (.ref q :: st)) : vv K R G nL cells slots w pc lv st := by
  obtain ⟨p, l, e, s, m, args, below, meth, c, Q, A⟩ := K
  intro H locs ls hP hD hS hl
  exact va_new C.1 C.2.1 C.2.2.2.2.1 hin ty hty C.2.2.2.1 (C.2.2.2.2.1 _ hw) (C.2.2.2.2.1 _ hi) (C.2.2.2.2.1 _ hz) C.2.2.2.2.2.2.1 hP hD hS C.2.2.2.2.2.2.2 hc hfs h1 h2 hd (fun q H1 hP1 hD1 hS1 => kk q H1 locs ls hP1 hD1 hS1 hl)
theorem v_newaI (C : CX K G nL cc own) (n : Nat) (hb : n < 67108864) (h1 : cells + 1 ≤ R.cells) (h2 : slots + n ≤ R.slots) (hd : decode cc pc = .ok (.newarray .int, 2)) (kk : ∀ q : Nat, vv K R G nL (cells + 1) (slots + n) (w ++ [(q, aI G n (fun _ => 0))]) (pc + 2) lv (.ref q :: st)) : vv K R G nL cells slots w pc lv (.int (nI n) :: st) := by
  obtain ⟨p, l, e, s, m, args, below, meth, c, Q, A⟩ := K
  intro H locs ls hP hD hS hl
  refine va_newa (atype := .int) (ty := .int) (N' := n) (a0 := (aI G n (fun _ => 0)).elim (fun z => z.2) (fun _ => (0, .inl fun _ => 0))) C.1 C.2.1 (C.2.2.2.2.1 _ k_42) rfl C.2.2.2.2.2.2.1 hP hD hS C.2.2.2.2.2.2.2 (fun _ => rfl) (nI_pos (by omega)) (nI_clamp (by omega)) ?_ h1 h2 hd (fun q cA H1 hK1 hP1 hD1 hS1 => ?_)
  · show n * _ ≤ 536870912
    simp only [componentBytes]; omega
  · have hA : cA = (tys G)[0].1 := by
      have r1 := (hK1.2 0 _ rfl).2
      have r2 := (hK1.2 6 _ rfl).2
      exact Option.some.inj (r2.symm.trans r1)
    subst hA
    exact kk q H1 locs ls hP1 hD1 hS1 hl
theorem v_newaJ (C : CX K G nL cc own) (n : Nat) (hb : n < 67108864) (h1 : cells + 1 ≤ R.cells) (h2 : slots + n ≤ R.slots) (hd : decode cc pc = .ok (.newarray .long, 2)) (kk : ∀ q : Nat, vv K R G nL (cells + 1) (slots + n) (w ++ [(q, aJ G n (fun _ => 0))]) (pc + 2) lv (.ref q :: st)) : vv K R G nL cells slots w pc lv (.int (nI n) :: st) := by
  obtain ⟨p, l, e, s, m, args, below, meth, c, Q, A⟩ := K
  intro H locs ls hP hD hS hl
  refine va_newa (atype := .long) (ty := .long) (N' := n) (a0 := (aJ G n (fun _ => 0)).elim (fun z => z.2) (fun _ => (0, .inl fun _ => 0))) C.1 C.2.1 (C.2.2.2.2.1 _ k_41) rfl C.2.2.2.2.2.2.1 hP hD hS C.2.2.2.2.2.2.2 (fun _ => rfl) (nI_pos (by omega)) (nI_clamp (by omega)) ?_ h1 h2 hd (fun q cA H1 hK1 hP1 hD1 hS1 => ?_)
  · show n * _ ≤ 536870912
    simp only [componentBytes]; omega
  · have hA : cA = (tys G)[1].1 := by
      have r1 := (hK1.2 1 _ rfl).2
      have r2 := (hK1.2 6 _ rfl).2
      exact Option.some.inj (r2.symm.trans r1)
    subst hA
    exact kk q H1 locs ls hP1 hD1 hS1 hl
theorem v_newaZ (C : CX K G nL cc own) (n : Nat) (hb : n < 67108864) (h1 : cells + 1 ≤ R.cells) (h2 : slots + n ≤ R.slots) (hd : decode cc pc = .ok (.newarray .boolean, 2)) (kk : ∀ q : Nat, vv K R G nL (cells + 1) (slots + n) (w ++ [(q, aZ G n (fun _ => 0))]) (pc + 2) lv (.ref q :: st)) : vv K R G nL cells slots w pc lv (.int (nI n) :: st) := by
  obtain ⟨p, l, e, s, m, args, below, meth, c, Q, A⟩ := K
  intro H locs ls hP hD hS hl
  refine va_newa (atype := .boolean) (ty := .boolean) (N' := n) (a0 := (aZ G n (fun _ => 0)).elim (fun z => z.2) (fun _ => (0, .inl fun _ => 0))) C.1 C.2.1 (C.2.2.2.2.1 _ k_317) rfl C.2.2.2.2.2.2.1 hP hD hS C.2.2.2.2.2.2.2 (fun _ => rfl) (nI_pos (by omega)) (nI_clamp (by omega)) ?_ h1 h2 hd (fun q cA H1 hK1 hP1 hD1 hS1 => ?_)
  · show n * _ ≤ 536870912
    simp only [componentBytes]; omega
  · have hA : cA = (tys G)[2].1 := by
      have r1 := (hK1.2 2 _ rfl).2
      have r2 := (hK1.2 6 _ rfl).2
      exact Option.some.inj (r2.symm.trans r1)
    subst hA
    exact kk q H1 locs ls hP1 hD1 hS1 hl
theorem v_newqL (C : CX K G nL cc own) (n : Nat) {ix : Nat} (hw : Cond.classLink own ix "WeightOrder$Line" ∈ gwords) (hb : n < 67108864) (h1 : cells + 1 ≤ R.cells) (h2 : slots + n ≤ R.slots) (hd : decode cc pc = .ok (.anewarray ix, 3)) (kk : ∀ q : Nat, vv K R G nL (cells + 1) (slots + n) (w ++ [(q, aL G n (fun _ => none))]) (pc + 3) lv (.ref q :: st)) : vv K R G nL cells slots w pc lv (.int (nI n) :: st) := by
  obtain ⟨p, l, e, s, m, args, below, meth, c, Q, A⟩ := K
  intro H locs ls hP hD hS hl
  refine va_newq (N' := n) C.1 C.2.1 C.2.2.2.1 (C.2.2.2.2.1 _ hw) (va_AO.of (C.2.2.2.2.2.1 _ k_52)) C.2.2.2.2.2.2.1 hP hD hS C.2.2.2.2.2.2.2 (nI_pos (by omega)) (nI_clamp (by omega)) (by omega) h1 h2 hd (fun q cA H1 hK1 hP1 hD1 hS1 => ?_)
  have hA : cA = (tys G)[3].1 := by
    obtain ⟨_, _, _, _, _, r1⟩ := (hK1.2 3 _ rfl).2
    obtain ⟨_, _, _, _, _, r2⟩ := (hK1.2 6 _ rfl).2
    exact Option.some.inj (r2.symm.trans r1)
  subst hA
  exact kk q H1 locs ls hP1 hD1 hS1 hl
theorem v_newqR (C : CX K G nL cc own) (n : Nat) {ix : Nat} (hw : Cond.classLink own ix "WeightOrder$Row" ∈ gwords) (hb : n < 67108864) (h1 : cells + 1 ≤ R.cells) (h2 : slots + n ≤ R.slots) (hd : decode cc pc = .ok (.anewarray ix, 3)) (kk : ∀ q : Nat, vv K R G nL (cells + 1) (slots + n) (w ++ [(q, aR G n (fun _ => none))]) (pc + 3) lv (.ref q :: st)) : vv K R G nL cells slots w pc lv (.int (nI n) :: st) := by
  obtain ⟨p, l, e, s, m, args, below, meth, c, Q, A⟩ := K
  intro H locs ls hP hD hS hl
  refine va_newq (N' := n) C.1 C.2.1 C.2.2.2.1 (C.2.2.2.2.1 _ hw) (va_AO.of (C.2.2.2.2.2.1 _ k_69)) C.2.2.2.2.2.2.1 hP hD hS C.2.2.2.2.2.2.2 (nI_pos (by omega)) (nI_clamp (by omega)) (by omega) h1 h2 hd (fun q cA H1 hK1 hP1 hD1 hS1 => ?_)
  have hA : cA = (tys G)[4].1 := by
    obtain ⟨_, _, _, _, _, r1⟩ := (hK1.2 4 _ rfl).2
    obtain ⟨_, _, _, _, _, r2⟩ := (hK1.2 6 _ rfl).2
    exact Option.some.inj (r2.symm.trans r1)
  subst hA
  exact kk q H1 locs ls hP1 hD1 hS1 hl
theorem v_objInit (C : CX K G nL cc own) {ix a : Nat} (hw : Cond.methodLink own ix objectInit ∈ gwords) (hfr : 1 ≤ R.frames) (hlo : (st.map fun v => v.category).sum + 12 ≤ R.locals) (hd : decode cc pc = .ok (.invokespecial ix, 3)) (kk : vv K R G nL cells slots w (pc + 3) lv st) : vv K R G nL cells slots w pc lv (.ref a :: st) := by
  obtain ⟨p, l, e, s, m, args, below, meth, c, Q, A⟩ := K
  intro H locs ls hP hD hS hl
  exact W.objInit C.1 C.2.1 C.2.2.2.1 (C.2.2.2.2.1 _ hw) (C.2.2.2.2.1 _ k_23) (C.2.2.2.2.1 _ k_24) rfl (by rw [C.2.2.1]; exact hl.1) rfl hd hfr (by simpa using hlo) (kk H locs ls hP hD hS hl)
section Ret
variable {post : Option Value → va_W → Prop} {w0 : va_W}
theorem v_ret_in {r : Option Value} {t s : State} {H : Heap} {locs : List Loc} (hq : post r w) (hP : va_P G.1 cls w H) (hD : va_D (va_A w0 s.heap.size) w) (hS : va_S (va_A w0 s.heap.size) s.heap H locs) (ht : t.heap = H) (args : Array Value) : qc G w0 s.heap.size post args s (.returned r) t :=
  ⟨⟨r, w, rfl, hq, by rw [ht]; exact hP, hD⟩, hS.F ht⟩
theorem v_iret (C : CX K G nL cc own) (X : RX K R G (some .int) w0 post) {v : Int32} (hd : decode cc pc = .ok (.ireturn, 1)) (hq : post (some (.int v)) w) (h1 : cells ≤ R.cells) (h2 : slots ≤ R.slots) : vv K R G nL cells slots w pc lv [.int v] := by
  obtain ⟨p, l, e, s, m, args, below, meth, c, Q, A⟩ := K
  obtain ⟨hr, hlk, hA, hend⟩ := X
  intro H locs ls hP hD hS hl
  subst hA
  refine hend H locs cells slots _ (W.widen h1 h2 ?_)
  exact W.iret C.1 C.2.1 hr (fun t ht hW => v_ret_in hq hP hD hS ht args) hS.2.2 hd hlk
theorem v_lret (C : CX K G nL cc own) (X : RX K R G (some .long) w0 post) {v : Int64} (hd : decode cc pc = .ok (.lreturn, 1)) (hq : post (some (.long v)) w) (h1 : cells ≤ R.cells) (h2 : slots ≤ R.slots) : vv K R G nL cells slots w pc lv [.long v] := by
  obtain ⟨p, l, e, s, m, args, below, meth, c, Q, A⟩ := K
  obtain ⟨hr, hlk, hA, hend⟩ := X
  intro H locs ls hP hD hS hl
  subst hA
  refine hend H locs cells slots _ (W.widen h1 h2 ?_)
  exact W.lret C.1 C.2.1 hr (fun t ht hW => v_ret_in hq hP hD hS ht args) hS.2.2 hd hlk
theorem v_vret (C : CX K G nL cc own) (X : RX K R G none w0 post) (hd : decode cc pc = .ok (.return_, 1)) (hq : post none w) (h1 : cells ≤ R.cells) (h2 : slots ≤ R.slots) : vv K R G nL cells slots w pc lv [] := by
  obtain ⟨p, l, e, s, m, args, below, meth, c, Q, A⟩ := K
  obtain ⟨hr, hlk, hA, hend⟩ := X
  intro H locs ls hP hD hS hl
  subst hA
  refine hend H locs cells slots _ (W.widen h1 h2 ?_)
  exact W.vret C.1 C.2.1 hr (fun t ht hW => v_ret_in hq hP hD hS ht args) hS.2.2 hd hlk
theorem v_zret (C : CX K G nL cc own) (X : RX K R G (some .boolean) w0 post) {v : Int32} (hz : narrow .boolean (.int v) = .int v) (hd : decode cc pc = .ok (.ireturn, 1)) (hq : post (some (.int v)) w) (h1 : cells ≤ R.cells) (h2 : slots ≤ R.slots) : vv K R G nL cells slots w pc lv [.int v] := by
  obtain ⟨p, l, e, s, m, args, below, meth, c, Q, A⟩ := K
  obtain ⟨hr, hlk, hA, hend⟩ := X
  intro H locs ls hP hD hS hl
  subst hA
  refine hend H locs cells slots _ (W.widen h1 h2 ?_)
  exact W.zret C.1 C.2.1 hr hz (fun t ht hW => v_ret_in hq hP hD hS ht args) hS.2.2 hd hlk
theorem v_aret (C : CX K G nL cc own) {Cn : String} (X : RX K R G (some (.object Cn)) w0 post) {v : Value} (hv : v = .null ∨ ∃ a, v = .ref a) (hd : decode cc pc = .ok (.areturn, 1)) (hq : post (some v) w) (h1 : cells ≤ R.cells) (h2 : slots ≤ R.slots) : vv K R G nL cells slots w pc lv [v] := by
  obtain ⟨p, l, e, s, m, args, below, meth, c, Q, A⟩ := K
  obtain ⟨hr, hlk, hA, hend⟩ := X
  intro H locs ls hP hD hS hl
  subst hA
  refine hend H locs cells slots _ (W.widen h1 h2 ?_)
  exact W.aret C.1 C.2.1 hr (Or.inl ⟨_, rfl⟩) hv (fun t ht hW => v_ret_in hq hP hD hS ht args) hS.2.2 hd hlk
end Ret
end VL
