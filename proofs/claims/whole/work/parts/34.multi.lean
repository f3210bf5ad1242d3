/-! multianewarray of two dimensions of int -/
section MU
/-- the outer row once i of its N places are filled -/
def mu_o (cA : ClassId) (h0 N i : Nat) : Cell := arrV cA N (fun j => if j < i then .ref (h0 + 1 + j) else .null)
def mu_i (comp : ClassId) (M : Nat) : Cell := arrV comp M (fun _ => .int 0)
def mu_s (s : State) (cA comp : ClassId) (N M : Nat) : Nat → State
  | 0 => s.pushCell (mu_o cA s.heap.size N 0)
  | i + 1 => ((mu_s s cA comp N M i).pushCell (mu_i comp M)).setCell s.heap.size (mu_o cA s.heap.size N (i + 1))
theorem mu_o0 (cA : ClassId) (h0 N : Nat) : ({ cls := cA, slots := Array.replicate N .null, vm := .none } : Cell) = mu_o cA h0 N 0 := by
  rw [arrV_new]; unfold mu_o; congr 1
theorem mu_oS (cA : ClassId) (h0 N i : Nat) : (mu_o cA h0 N i).setSlot i (.ref (h0 + 1 + i)) = mu_o cA h0 N (i + 1) := by
  unfold mu_o
  rw [arrV_store]
  congr 1
  funext j
  unfold updV
  by_cases c : j = i
  · rw [if_pos c, if_pos (by omega), c]
  · rw [if_neg c]
    show (if j < i then Value.ref (h0 + 1 + j) else Value.null) = _
    by_cases d : j < i
    · rw [if_pos d, if_pos (by omega)]
    · rw [if_neg d, if_neg (by omega)]
theorem mu_facts (s : State) (cA comp : ClassId) (N M : Nat) : ∀ i, (mu_s s cA comp N M i).heap.size = s.heap.size + 1 + i ∧ (mu_s s cA comp N M i).heap[s.heap.size]? = some (mu_o cA s.heap.size N i) ∧ (mu_s s cA comp N M i).vm = s.vm ∧ (mu_s s cA comp N M i).slotsUsed = s.slotsUsed + N + i * M ∧ (∀ a, a < s.heap.size → (mu_s s cA comp N M i).heap[a]? = s.heap[a]?) ∧ ∀ j, j < i → (mu_s s cA comp N M i).heap[s.heap.size + 1 + j]? = some (mu_i comp M) := by
  intro i
  induction i with
  | zero =>
    refine ⟨by simp [mu_s], by simp [mu_s], rfl, by simp [mu_s, mu_o, arrV_size], fun a ha => State.heap_pushCell_of_lt _ _ ha, fun j hj => absurd hj (Nat.not_lt_zero _)⟩
  | succ i ih =>
    obtain ⟨a1, a2, a3, a4, a5, a6⟩ := ih
    have hlt : s.heap.size < (mu_s s cA comp N M i).heap.size := by omega
    have hb : ((mu_s s cA comp N M i).pushCell (mu_i comp M)).heap[s.heap.size]? = some (mu_o cA s.heap.size N i) := by rw [State.heap_pushCell_of_lt (h := hlt)]; exact a2
    refine ⟨?_, State.heap_setCell_self hb, by simp [mu_s, a3], ?_, fun a ha => ?_, fun j hj => ?_⟩
    · simp [mu_s, State.setCell, a1]; omega
    · simp [mu_s, a4, mu_i, arrV_size, Nat.succ_mul]; omega
    · show (((mu_s s cA comp N M i).pushCell (mu_i comp M)).setCell s.heap.size _).heap[a]? = _
      have hl2 : a < (mu_s s cA comp N M i).heap.size := by rw [a1]; omega
      rw [State.heap_setCell_other (Nat.ne_of_gt ha), State.heap_pushCell_of_lt (h := hl2)]
      exact a5 a ha
    · show (((mu_s s cA comp N M i).pushCell (mu_i comp M)).setCell s.heap.size _).heap[_]? = _
      rw [State.heap_setCell_other (show s.heap.size ≠ s.heap.size + 1 + j by omega)]
      rcases Nat.lt_or_ge j i with c | c
      · have hl2 : s.heap.size + 1 + j < (mu_s s cA comp N M i).heap.size := by rw [a1]; omega
        rw [State.heap_pushCell_of_lt (h := hl2)]
        exact a6 j c
      · rw [show j = i by omega, ← a1]
        exact State.heap_pushCell_size _ _
theorem mu_top (s : State) (f : JFrame) (cA comp : ClassId) (N M : Nat) : ∀ i, mu_s (s.setTop f) cA comp N M i = (mu_s s cA comp N M i).setTop f := by
  intro i
  induction i with
  | zero => rfl
  | succ i ih => simp only [mu_s, ih, State.heap_setTop, State.pushCell_setTop, State.setCell_setTop]
variable {p : Program} {l : Launch} {e : Env} {R : Room} {s : State} {m : MethodId} {args : Array Value} {below : List Frame} {meth : Method} {c : Code} {locs : List Loc} {cells slots : Nat}
theorem mu_stand {T : State} (X : Stand p l e R s m args below meth c T locs cells slots) (cA comp : ClassId) (N M : Nat) : ∀ i, Stand p l e R s m args below meth c (mu_s T cA comp N M i) (locs ++ (List.range i).map fun j => ⟨T.heap.size, j⟩) (cells + 1 + i) (slots + N + i * M) := by
  intro i
  induction i with
  | zero =>
    have h := X.pushed (mu_o cA T.heap.size N 0)
    rw [show (mu_o cA T.heap.size N 0).slots.size = N from arrV_size _ _ _] at h
    simpa [mu_s] using h
  | succ i ih =>
    obtain ⟨a1, a2, -⟩ := mu_facts T cA comp N M i
    have hl2 : T.heap.size < (mu_s T cA comp N M i).heap.size := by rw [a1]; omega
    have hb : ((mu_s T cA comp N M i).pushCell (mu_i comp M)).heap[T.heap.size]? = some (mu_o cA T.heap.size N i) := by rw [State.heap_pushCell_of_lt (h := hl2)]; exact a2
    have h := (ih.pushed (mu_i comp M)).stored hb i (.ref (T.heap.size + 1 + i))
    rw [show (mu_i comp M).slots.size = M from arrV_size _ _ _, mu_oS] at h
    have e2 : (locs ++ (List.range (i + 1)).map fun j => (⟨T.heap.size, j⟩ : Loc)) = (locs ++ (List.range i).map fun j => (⟨T.heap.size, j⟩ : Loc)) ++ [⟨T.heap.size, i⟩] := by simp [List.range_succ]
    have e3 : slots + N + (i + 1) * M = slots + N + i * M + M := by rw [Nat.succ_mul]; omega
    rw [e2, e3]
    exact h
section
variable {E : CtlPost} {d : Bool} {acts : List Action}
/-- a new array of the machine -/
theorem mu_new {cA comp : ClassId} {k : Class} {ty : FieldType} {len : Nat} {v : Value} (hk : s.vm.classes[cA]? = some k) (hkind : k.kind = .array comp ty) (hl : ¬ len > e.platform.arrayLengthLimit) (hh : ¬ len * componentBytes ty > e.platform.maxHeapBytes) (hf : fits ty v = true) (hd : v.isDefault = true) {Q : Addr → Pre} (h1 : s.heap.size < e.platform.maxCells) (h2 : s.slotsUsed + len ≤ e.platform.maxSlots) (hq : Q s.heap.size d acts (s.pushCell { cls := cA, slots := Array.replicate len v, vm := .none })) : wp (Jvm.newArray cA len v) Q E e d acts s := by
  have ha : allocActs (Array.replicate len v) s.heap.size acts = acts := by
    have : ((Array.replicate len v).all (·.isDefault)) = true := by rw [Array.all_replicate]; split <;> simp [hd]
    unfold allocActs
    rw [if_pos this]
  have hfit : ∀ i x, (Array.replicate len v)[i]? = some x → s.fitsSlot cA .none i x = true := by
    intro i x hx
    rw [Array.getElem?_replicate] at hx
    split at hx
    · cases hx
      simp [State.fitsSlot, State.slotType?, hk, hkind, hf]
    · cases hx
  simp only [Jvm.newArray, Jvm.arrayFits, wp_bind', W.ask, W.ite, hl, if_false, wp_pure', W.theClass, hk, hkind, hh, W.alloc, W.stop, Option.some.injEq, exists_eq_left', Array.size_replicate, ha]
  rw [if_neg (by omega)]
  exact ⟨h1, h2, hfit, hq⟩
theorem mu_make {cA comp cc : ClassId} {k kc : Class} {n m' : Int32} {N M : Nat} (hk : s.vm.classes[cA]? = some k) (hkind : k.kind = .array comp (.array .int)) (hkc : s.vm.classes[comp]? = some kc) (hkindc : kc.kind = .array cc .int) (hn : ¬ n < 0) (hm : ¬ m' < 0) (hN : n.toNatClampNeg = N) (hM : m'.toNatClampNeg = M)
    (hl1 : ¬ N > e.platform.arrayLengthLimit) (hh1 : ¬ N * 4 > e.platform.maxHeapBytes) (hl2 : ¬ M > e.platform.arrayLengthLimit) (hh2 : ¬ M * 4 > e.platform.maxHeapBytes)
    (hc : s.heap.size + 1 + N ≤ e.platform.maxCells) (hs : s.slotsUsed + N + N * M ≤ e.platform.maxSlots) {Q : Addr → Pre} (hq : ∀ d' acts', Q s.heap.size d' acts' (mu_s s cA comp N M N)) : wp (multianewarray.make cA [n, m']) Q E e d acts s := by
  have hfind : ([m'].find? (· < 0)) = none := by simp [hm]
  rw [multianewarray.make]
  simp only [wp_bind', W.ite, hn, if_false, wp_pure', W.theClass, hk, hkind, Option.some.injEq, exists_eq_left', hN]
  refine mu_new hk hkind hl1 hh1 rfl rfl (by omega) (by omega) ?_
  rw [mu_o0 cA s.heap.size N]
  simp only [hfind]
  rw [ite_self, wp_bind', Std.Legacy.Range.forIn_eq_forIn_range']
  have hsz : ([:N] : Std.Legacy.Range).size = N := by simp [Std.Legacy.Range.size]
  rw [hsz]
  show wp (forIn (List.range' 0 N 1) PUnit.unit _) _ E e d acts _
  refine wp_forIn_inv (fun rest s' => ∃ i, i ≤ N ∧ rest = List.range' i (N - i) ∧ s' = mu_s s cA comp N M i) _ _ ⟨0, Nat.zero_le _, rfl, rfl⟩ ?_ ?_
  · rintro x rest s' d' acts' Q' ⟨i, hi, hl, rfl⟩ hnext
    have hlt : i < N := by
      rcases Nat.lt_or_ge i N with h | h
      · exact h
      · rw [show N - i = 0 by omega] at hl; cases hl
    rw [show N - i = (N - (i + 1)) + 1 by omega, List.range'_succ] at hl
    obtain ⟨rfl, hrest⟩ := List.cons.inj hl
    obtain ⟨a1, a2, a3, a4, -, -⟩ := mu_facts s cA comp N M x
    have hmul : x * M + M ≤ N * M := by
      have := Nat.mul_le_mul_right M (show x + 1 ≤ N from hlt)
      rw [Nat.succ_mul] at this
      exact this
    simp only [wp_bind']
    rw [multianewarray.make]
    simp only [wp_bind', W.ite, hm, if_false, wp_pure', W.theClass, a3, hkc, hkindc, Option.some.injEq, exists_eq_left', hM]
    refine mu_new (by rw [a3]; exact hkc) hkindc hl2 hh2 rfl rfl (by rw [a1]; omega) (by rw [a4]; omega) ?_
    have hl9 : s.heap.size < (mu_s s cA comp N M x).heap.size := by rw [a1]; omega
    have ei : ({ cls := comp, slots := Array.replicate M (defaultValue .int), vm := .none } : Cell) = mu_i comp M := arrV_new _ _ _
    rw [ei]
    simp only [wp_bind', W.writeLoc, wp_pure']
    refine ⟨mu_o cA s.heap.size N x, by rw [State.heap_pushCell_of_lt (h := hl9)]; exact a2, by unfold mu_o arrV; simp, by rw [show (mu_o cA s.heap.size N x).slots.size = N from arrV_size _ _ _]; exact hlt, ?_, hnext _ _ _ ⟨x + 1, hlt, hrest, ?_⟩⟩
    · simp [State.fitsSlot, State.slotType?, mu_o, arrV, a3, hk, hkind, fits]
    · rw [a1, mu_oS]; rfl
  · rintro s' d' acts' ⟨i, hi, hl, rfl⟩
    have hiN : i = N := by
      rcases Nat.lt_or_ge i N with h | h
      · rw [show N - i = (N - (i + 1)) + 1 by omega, List.range'_succ] at hl; cases hl
      · omega
    subst hiN
    simp only [wp_pure']
    exact hq _ _
end
theorem mu_step {T : State} (X : Stand p l e R s m args below meth c T locs cells slots) (hexec : p.tables.exec = Jvm.exec) {own : String} {index : Nat} (hown : s.vm.findClass own = some m.cls) (hclink : (Cond.classLink own index "[[I").before args s = true) (hover : va_Nw (.arrayOver (.array .int)) s) (harr : (Cond.arrayClass .int).before args s = true)
    {g : JFrame} (hg : g.method = m) (hdg : decode c.code g.pc = .ok (.multianewarray index 2, 4)) {n k : Int32} {N M : Nat} {rest : List Value} (hstack : g.stack = .int k :: .int n :: rest) (hn : ¬ n < 0) (hk : ¬ k < 0) (hN : n.toNatClampNeg = N) (hM : k.toNatClampNeg = M) (hb1 : N * 4 ≤ 536870912) (hb2 : M * 4 ≤ 536870912) (hcells : cells + (1 + N) ≤ R.cells) (hslots : slots + (N + N * M) ≤ R.slots) :
    ∃ (vm₁ : Vm) (cA comp : ClassId), s.vm.findClass "[[I" = some cA ∧ s.vm.findClass "[I" = some comp ∧
      Stand p l e R s m args below meth c (mu_s (T.setVm vm₁) cA comp N M N) (locs ++ (List.range N).map fun j => ⟨T.heap.size, j⟩) (cells + 1 + N) (slots + N + N * M) ∧
      ∀ target, Steps p.tables e below ((mu_s (T.setVm vm₁) cA comp N M N).setTop { g with pc := g.pc + 4, stack := .ref T.heap.size :: rest }) target → Steps p.tables e below (T.setTop g) target := by
  subst hg
  have hpl : e.platform.magicAccessors = ({} : Platform).magicAccessors := by rw [X.admits.platform]
  obtain ⟨comp, cA, kA, f1, -, f3, f4, f5⟩ := arrA_spec hover
  obtain ⟨comp', kC, cc, g1, g2, g3⟩ := Cond.arrayClass_spec harr
  have f1 : s.vm.findClass "[I" = some comp := f1
  have f5 : s.vm.findClass "[[I" = some cA := f5
  cases Option.some.inj (f1.symm.trans g1)
  obtain ⟨c0, hfc0, hcl⟩ := Cond.classLink_spec hown hclink e.platform hpl
  cases Option.some.inj (f5.symm.trans hfc0)
  obtain ⟨hg₁, hwarm₁, hready₁⟩ := State.classEntry (e := e) X.warmed hcl
  generalize T.vm.noted g.method.cls index (.cls cA) = vm₁ at hg₁ hwarm₁ hready₁
  have hal : s.vm.Alike vm₁ := hwarm₁.alike
  obtain ⟨kA₁, hkA₁, heA⟩ := hal.2.2 _ _ f3
  obtain ⟨kC₁, hkC₁, heC⟩ := hal.2.2 _ _ g2
  have hkindA₁ : kA₁.kind = .array comp (.array .int) := by rw [heA]; exact f4
  have hkindC₁ : kC₁.kind = .array cc .int := by rw [heC]; exact g3
  have X₁ := X.noted hwarm₁
  obtain ⟨hr1, hr2⟩ := X.roomAbove hcells hslots
  refine ⟨vm₁, cA, comp, f5, f1, mu_stand X₁ cA comp _ _ _, fun target hrest => ?_⟩
  have hl1 : ¬ N > e.platform.arrayLengthLimit := by rw [Launch.admits_arrayLengthLimit X.admits]; omega
  have hh1 : ¬ N * 4 > e.platform.maxHeapBytes := by rw [Launch.admits_maxHeapBytes X.admits]; omega
  have hl2 : ¬ M > e.platform.arrayLengthLimit := by rw [Launch.admits_arrayLengthLimit X.admits]; omega
  have hh2 : ¬ M * 4 > e.platform.maxHeapBytes := by rw [Launch.admits_maxHeapBytes X.admits]; omega
  jvm_step X.here [hexec, hdg]
  simp only [multianewarray.sem, wp_bind', W.resolveClassAt_links (State.method?_setTop g X.here.top) hg₁]
  rw [W.popN, if_neg (by decide)]
  refine ⟨g, State.topJava?_setTop' (s := T.setVm vm₁) g X.here.top, [.int n, .int k], rest, rfl, hstack, ?_⟩
  simp only [List.mapM_cons, List.mapM_nil, wp_bind', wp_pure']
  refine mu_make (k := kA₁) (kc := kC₁) hkA₁ hkindA₁ hkC₁ hkindC₁ hn hk hN hM hl1 hh1 hl2 hh2 (by show T.heap.size + 1 + _ ≤ _; omega) (by show T.slotsUsed + _ + _ ≤ _; omega) (fun d' acts' => ?_)
  have XF := mu_stand X₁ cA comp N M N
  have eS : ((T.setTop g).setVm vm₁).setTop { g with stack := rest } = (T.setVm vm₁).setTop { g with stack := rest } := by
    show ((T.setVm vm₁).setTop g).setTop _ = _
    rw [State.setTop_setTop]
  rw [eS, mu_top]
  simp only [wp_bind', W.mark, W.pushRef, State.topJava?_setTop' _ XF.here.top, Option.some.injEq, exists_eq_left', State.setTop_setTop, State.heap_setTop]
  intro acts
  simp [jvm, XF.here.top]
  exact hrest
end MU
theorem va_D_grow {A : Nat → Prop} {w nw : va_W} {D : va_G} {H : Heap} (hP : va_P D cls w H) (hD : va_D A w) (hA : ∀ q, H.size ≤ q → A q) (hn : ∀ (t : Nat) (p : Nat × va_E), nw[t]? = some p → p.1 = H.size + t) : va_D A (w ++ nw) := by
  have key : ∀ (i : Nat) (p : Nat × va_E), (w ++ nw)[i]? = some p → (i < w.length ∧ w[i]? = some p ∧ p.1 < H.size) ∨ (w.length ≤ i ∧ p.1 = H.size + (i - w.length)) := by
    intro i p h
    rcases Nat.lt_or_ge i w.length with c | c
    · rw [List.getElem?_append_left c] at h
      exact Or.inl ⟨c, h, (hP i p h).lt⟩
    · rw [List.getElem?_append_right c] at h
      exact Or.inr ⟨c, hn _ _ h⟩
  refine ⟨fun i j p q hp hq e => ?_, fun k q hq => ?_⟩
  · rcases key i p hp with ⟨a1, a2, a3⟩ | ⟨a1, a2⟩ <;> rcases key j q hq with ⟨b1, b2, b3⟩ | ⟨b1, b2⟩
    · exact hD.1 i j p q a2 b2 e
    · omega
    · omega
    · omega
  · rcases key k q hq with ⟨a1, a2, a3⟩ | ⟨a1, a2⟩
    · exact hD.2 k q a2
    · exact hA _ (by omega)
theorem v_multi {K : Kx} {R : Room} {G : Gx} {nL cells slots : Nat} {w : va_W} {pc : Nat} {lv : List (Nat × Value)} {st : List Value} {cc : ByteArray} {own : String} (C : CX K G nL cc own) (N M : Nat) {ix : Nat} (hw : Cond.classLink own ix "[[I" ∈ gwords) (hAO : Cond.arrayOver (.array .int) ∈ nwords) (hbN : N < 67108864) (hbM : M < 67108864) (h1 : cells + (1 + N) ≤ R.cells) (h2 : slots + (N + N * M) ≤ R.slots) (hd : decode cc pc = .ok (.multianewarray ix 2, 4))
    (kk : ∀ q : Nat, vv K R G nL (cells + 1 + N) (slots + N + N * M) (w ++ ((q, aII G N (fun j => if j < N then some (q + 1 + j) else none)) :: (List.range N).map (fun j => (q + 1 + j, aI G M (fun _ => 0))))) (pc + 4) lv (.ref q :: st)) : vv K R G nL cells slots w pc lv (.int (nI M) :: .int (nI N) :: st) := by
  obtain ⟨p, l, e, s, m, args, below, meth, c, Q, A⟩ := K
  intro H locs ls hP hD hS hl T hT X
  have hb : c.code = cc := C.2.1
  have hA : ∀ q, s.heap.size ≤ q → A q := C.2.2.2.2.2.2.2
  have hK : va_K G.1 cls (tys G) s := C.2.2.2.2.2.2.1
  obtain ⟨vm₁, cA, comp, f5, f1, X', st'⟩ := mu_step X C.1 C.2.2.2.1 (C.2.2.2.2.1 _ hw) (C.2.2.2.2.2.1 _ hAO) (C.2.2.2.2.1 _ k_42) (g := F0 m pc ls (.int (nI M) :: .int (nI N) :: st)) rfl (by rw [hb]; exact hd) (N := N) (M := M) rfl (nI_pos (by omega)) (nI_pos (by omega)) (nI_clamp (by omega)) (nI_clamp (by omega)) (by omega) (by omega) h1 h2
  have eA : cA = G.2.2.2.2.2.2 := Option.some.inj (f5.symm.trans (hK.2 5 _ rfl).2)
  have eC : comp = G.2.1 := Option.some.inj (f1.symm.trans (hK.2 0 _ rfl).2)
  obtain ⟨a1, a2, -, -, a5, a6⟩ := mu_facts (T.setVm vm₁) cA comp N M N
  have hT1 : (T.setVm vm₁).heap = H := hT
  rw [hT1] at a1 a2 a5 a6
  subst hT
  have hn : ∀ (t : Nat) (p : Nat × va_E), ((T.heap.size, aII G N (fun j => if j < N then some (T.heap.size + 1 + j) else none)) :: (List.range N).map (fun j => (T.heap.size + 1 + j, aI G M (fun _ => 0))))[t]? = some p → p.1 = T.heap.size + t ∧ va_at G.1 cls p (mu_s (T.setVm vm₁) cA comp N M N).heap := by
    intro t p hp
    cases t with
    | zero =>
      cases hp
      refine ⟨rfl, ?_⟩
      show (mu_s (T.setVm vm₁) cA comp N M N).heap[T.heap.size]? = some (vp_cell _ _)
      rw [a2, vp_cell_q, ← eA]
      unfold mu_o
      congr 2
      funext j
      by_cases c : j < N
      · rw [if_pos c, if_pos c]; rfl
      · rw [if_neg c, if_neg c]; rfl
    | succ t =>
      rw [List.getElem?_cons_succ, List.getElem?_map] at hp
      rcases Nat.lt_or_ge t N with c | c
      · rw [List.getElem?_range c] at hp
        cases hp
        refine ⟨by show T.heap.size + 1 + t = _; omega, ?_⟩
        show (mu_s (T.setVm vm₁) cA comp N M N).heap[T.heap.size + 1 + t]? = some (vp_cell _ _)
        rw [a6 t c, vp_cell_i, ← eC]
        rfl
      · rw [List.getElem?_eq_none (by simpa using c)] at hp
        cases hp
  have hP1 : va_P G.1 cls (w ++ ((T.heap.size, aII G N (fun j => if j < N then some (T.heap.size + 1 + j) else none)) :: (List.range N).map (fun j => (T.heap.size + 1 + j, aI G M (fun _ => 0))))) (mu_s (T.setVm vm₁) cA comp N M N).heap := (hP.kept (fun k q hq => a5 q.1 (hP k q hq).lt)).app (fun k q hq => (hn k q hq).2)
  have hS1 : va_S A s.heap (mu_s (T.setVm vm₁) cA comp N M N).heap (locs ++ (List.range N).map fun j => ⟨T.heap.size, j⟩) := by
    refine ⟨by rw [a1]; have := hS.1; omega, fun q g1 g2 => (a5 q (Nat.lt_of_lt_of_le g1 hS.1)).trans (hS.2.1 q g1 g2), fun x hx => ?_⟩
    rcases List.mem_append.mp hx with hx | hx
    · exact hS.2.2 x hx
    · obtain ⟨j, -, rfl⟩ := List.mem_map.mp hx
      exact hA _ hS.1
  obtain ⟨t, b1, b2⟩ := kk T.heap.size (mu_s (T.setVm vm₁) cA comp N M N).heap _ ls hP1 (va_D_grow hP hD (fun q g => hA q (Nat.le_trans hS.1 g)) (fun t p hp => (hn t p hp).1)) hS1 hl _ rfl X'
  exact ⟨t, st' t b1, b2⟩
