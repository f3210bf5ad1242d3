/-! The V rows of calls, of entries, of throws -/
section VC
/-- w is wr and wc, in some order -/
def Sp (w wr wc : va_W) : Prop := (∀ (D : va_G) (H : Heap), va_P D cls w H → va_P D cls wr H ∧ va_P D cls wc H) ∧ ∀ A : Nat → Prop, va_D A w → va_D A (wr ++ wc)
theorem sp_at {w v : va_W} {is : List Nat} (hs : is.map (fun i => w[i]?) = v.map some) {k : Nat} {q : Nat × va_E} (hq : v[k]? = some q) : ∃ i, is[k]? = some i ∧ w[i]? = some q := by
  have h1 : (is.map (fun i => w[i]?))[k]? = some (some q) := by rw [hs, List.getElem?_map, hq]; rfl
  rw [List.getElem?_map] at h1
  cases hi : is[k]? with
  | none => rw [hi] at h1; cases h1
  | some i => rw [hi] at h1; exact ⟨i, rfl, Option.some.inj h1⟩
theorem sp_pos {w wr wc : va_W} (isR isC : List Nat) (hR : isR.map (fun i => w[i]?) = wr.map some) (hC : isC.map (fun i => w[i]?) = wc.map some) (hn : va_nd (isR ++ isC) = true) : Sp w wr wc := by
  refine ⟨fun D H hP => ⟨fun k q hq => ?_, fun k q hq => ?_⟩, fun A hD => hD.sub (isR ++ isC) hn (by rw [List.map_append, List.map_append, hR, hC])⟩
  · obtain ⟨i, -, h⟩ := sp_at hR hq
    exact hP i q h
  · obtain ⟨i, -, h⟩ := sp_at hC hq
    exact hP i q h
theorem sp_join {D : va_G} {A : Nat → Prop} {wr wc w' : va_W} {H H1 : Heap} (hP : va_P D cls wr H) (hD : va_D A (wr ++ wc)) (hk : ∀ q : Nat, q < H.size → ¬ va_A wc H.size q → H1[q]? = H[q]?) (hF : ∀ q, va_A wc H.size q → A q) (hP1 : va_P D cls w' H1) (hD1 : va_D (va_A wc H.size) w') : va_P D cls (wr ++ w') H1 ∧ va_D A (wr ++ w') := by
  have apart : ∀ (k : Nat) (q : Nat × va_E), wr[k]? = some q → q.1 < H.size ∧ ¬ va_A wc H.size q.1 := by
    intro k q hq
    refine ⟨(hP k q hq).lt, fun h => ?_⟩
    have hlt : k < wr.length := (List.getElem?_eq_some_iff.mp hq).1
    rcases h with ⟨k2, e, h⟩ | h
    · have h1 : (wr ++ wc)[k]? = some q := by rw [List.getElem?_append_left hlt]; exact hq
      have h2 : (wr ++ wc)[wr.length + k2]? = some (q.1, e) := by rw [List.getElem?_append_right (Nat.le_add_right _ _), Nat.add_sub_cancel_left]; exact h
      have := hD.1 _ _ _ _ h1 h2 rfl
      omega
    · have := (hP k q hq).lt
      omega
  have hDr : va_D A wr := by
    refine ⟨fun i j x y hx hy hxy => ?_, fun k q hq => ?_⟩
    · have li := (List.getElem?_eq_some_iff.mp hx).1
      have lj := (List.getElem?_eq_some_iff.mp hy).1
      exact hD.1 i j x y (by rw [List.getElem?_append_left li]; exact hx) (by rw [List.getElem?_append_left lj]; exact hy) hxy
    · have lk := (List.getElem?_eq_some_iff.mp hq).1
      exact hD.2 k q (by rw [List.getElem?_append_left lk]; exact hq)
  refine ⟨va_P.app (fun k q hq => ?_) hP1, va_D.app hDr (hD1.weaken (fun k q _ h => hF q.1 h)) (fun i j x y hx hy hxy => ?_)⟩
  · obtain ⟨g1, g2⟩ := apart k q hq
    exact (hP k q hq).kept (hk q.1 g1 g2)
  · exact (apart i x hx).2 (by rw [hxy]; exact hD1.2 j y hy)
theorem sp_free {A : Nat → Prop} {wr wc : va_W} {H0 H : Heap} {locs : List Loc} (hD : va_D A (wr ++ wc)) (hS : va_S A H0 H locs) (hA : ∀ q, H0.size ≤ q → A q) : ∀ q, va_A wc H.size q → A q := by
  intro q h
  rcases h with ⟨k, e, h⟩ | h
  · exact hD.2 (wr.length + k) (q, e) (by rw [List.getElem?_append_right (Nat.le_add_right _ _), Nat.add_sub_cancel_left]; exact h)
  · exact hA q (Nat.le_trans hS.1 h)
theorem sp_Dc {A : Nat → Prop} {wr wc : va_W} (hD : va_D A (wr ++ wc)) : va_D (fun _ => True) wc := by
  refine ⟨fun i j x y hx hy hxy => ?_, fun _ _ _ => trivial⟩
  have := hD.1 (wr.length + i) (wr.length + j) x y (by rw [List.getElem?_append_right (Nat.le_add_right _ _), Nat.add_sub_cancel_left]; exact hx) (by rw [List.getElem?_append_right (Nat.le_add_right _ _), Nat.add_sub_cancel_left]; exact hy) hxy
  omega
theorem pcn_blind {G : Gx} {w : va_W} {sz : Nat} {av : List Value} : FrameBlind (va_Pc av (pcn G w sz)) := by
  intro a U g mk h
  obtain ⟨h0, h1, h2, h3, h4, h5⟩ := h
  exact ⟨h0, h1, h2, va_K.moved (u := U) (U := U.calling g mk a) (Vm.Alike.refl U.vm) h3, h4, nw_same (u := U) (U := U.calling g mk a) rfl h5⟩
/-- entry of a method that returns -/
theorem ct_of {l : Launch} {G : Gx} {y : MethodName} {cc : ByteArray} {maxL : Nat} {ret : Option FieldType} {rm : Room} {w : va_W} {av : List Value} {post : Option Value → va_W → Prop} (lv0 : List (Nat × Value)) (hy : plainName y.cls = true) (hlen : (lg_sl av).length ≤ maxL) (hlv : lv_args 0 av = lv0)
    (body : ∀ K : Kx, Kl K = l → (y.name = "<init>" → NX K) → CX K G maxL cc y.cls → RX K rm G ret w post → vv K rm G maxL 0 0 w 0 lv0 []) : CT l G y cc maxL ret rm w av post := by
  intro sz
  refine Met.ofW (cc := cc) (maxL := maxL) (ret := ret) hy rfl ?_
  intro p e s m args below meth c s₁ B hml hv
  obtain ⟨rfl, rfl, hP, hK, hD, hN⟩ := hv
  have hts := atoms_spec (ws := Cond.code y cc maxL ret :: gwords) B.pre
  have hown : s.vm.findClass y.cls = some m.cls := findClass_of_methodNamed B.named
  have hnm := (name_of_methodNamed B.named B.method).1
  rw [lg_entry_eq]
  have hl := lv_entry av (n := maxL) hlen
  rw [hlv] at hl
  exact body (p, l, e, s, m, av.toArray, below, meth, c, MQ below (qc G w s.heap.size post) av.toArray s rm.cells rm.slots (va_A w s.heap.size), va_A w s.heap.size) rfl (fun h => hnm.trans h) ⟨B.exec, B.bytes, hml, hown, fun x h => hts x (List.mem_cons_of_mem _ h), hN, hK, fun q h => Or.inr h⟩ ⟨B.returns, B.notSynchronized, rfl, fun H locs cells slots g h => h⟩ s.heap [] _ hP hD.self va_S.rf hl
theorem w_call {p : Program} {l : Launch} {e : Env} {R : Room} {s : State} {m : MethodId} {args a : Array Value} {below : List Frame} {meth : Method} {c : Code} {H : Heap} {locs : List Loc} {cells slots mc ms pc : Nat} {ls : Array Slot} {st0 rest : List Value} {Q : State → Prop} {G : Gx} {wc : va_W} {post : Option Value → va_W → Prop} {A : Nat → Prop}
    (hr : va_Run p l e R s m args below meth c H locs cells slots mc ms (F0 m pc ls st0) rest (qc G wc H.size post a) (va_A wc H.size)) (hS : va_S A s.heap H locs) (hf : ∀ q, va_A wc H.size q → A q)
    (kk : ∀ (r : Option Value) (w' : va_W) (H1 : Heap) (locs1 : List Loc), post r w' → va_P G.1 cls w' H1 → va_D (va_A wc H.size) w' → (∀ q : Nat, q < H.size → ¬ va_A wc H.size q → H1[q]? = H[q]?) → va_S A s.heap H1 locs1 → W p l e R s m args below meth c H1 locs1 (cells + mc) (slots + ms) Q (F0 m (pc + 3) ls (r.toList ++ rest))) : W p l e R s m args below meth c H locs cells slots Q (F0 m pc ls st0) := by
  intro T hT X
  obtain ⟨v, st₀, t, T', L, h0, X', hL, e1, e2, ⟨⟨r, w', hv, hp, hP1, hD1⟩, hz, hk⟩, st⟩ := hr T hT X
  cases hv
  rw [h0] at hz hk
  obtain ⟨t2, a1, b1⟩ := kk _ w' T'.heap (locs ++ L) hp (by rw [e1]; exact hP1) hD1 (fun q h1 h2 => by rw [e1]; exact hk q h1 h2)
    ⟨Nat.le_trans hS.1 (by rw [e1]; exact hz), fun q h1 h2 => by rw [e1, hk q (Nat.lt_of_lt_of_le h1 hS.1) (fun z => h2 (hf q z))]; exact hS.2.1 q h1 h2, fun q hq => by
      rcases List.mem_append.mp hq with h | h
      · exact hS.2.2 q h
      · exact hf _ (hL q h)⟩ T' rfl X'
  exact ⟨t2, st t2 a1, b1⟩
abbrev Hdn (y : MethodName) (n : Nat) : Prop := y.cls ≠ "java/lang/invoke/MethodHandle" ∧ y.cls ≠ "java/lang/invoke/VarHandle" ∧ (parseMethodDescriptor y.desc).map (fun d => d.parameters.length) = some n
abbrev Lnk (own : String) (ix : Nat) (y : MethodName) : Prop := Cond.methodLink own ix y ∈ gwords ∨ ∃ host, Cond.methodLinkNest own ix y host ∈ nwords
def LkV (own : String) (ix : Nat) (y : MethodName) (cc : ByteArray) (maxL : Nat) (ret : Option FieldType) (n : Nat) : Prop := Lnk own ix y ∧ Cond.instanceMethod y ∈ gwords ∧ Cond.selects y.cls y y ∈ gwords ∧ Cond.initialized y.cls ∈ gwords ∧ Cond.code y cc maxL ret ∈ gwords ∧ Hdn y n
def LkS (own : String) (ix : Nat) (y : MethodName) (cc : ByteArray) (maxL : Nat) (ret : Option FieldType) (n : Nat) : Prop := Lnk own ix y ∧ Cond.static y ∈ gwords ∧ Cond.initialized y.cls ∈ gwords ∧ Cond.code y cc maxL ret ∈ gwords ∧ Hdn y n
def LkI (own : String) (ix : Nat) (y : MethodName) (cc : ByteArray) (maxL : Nat) (n : Nat) : Prop := Lnk own ix y ∧ Cond.instanceMethod y ∈ gwords ∧ y.name = "<init>" ∧ Cond.initialized y.cls ∈ gwords ∧ Cond.code y cc maxL none ∈ gwords ∧ Hdn y n
theorem gw_good {x : Cond} (h : x ∈ gwords) : (x.onTables && x.keeps) = true ∨ ∃ ty, x = .arrayClass ty := good_of_word (List.mem_filter.mp h).2
theorem good_code {y : MethodName} {cc : ByteArray} {maxL : Nat} {ret : Option FieldType} (h : Cond.code y cc maxL ret ∈ gwords) : GoodIn gwords (Cond.code y cc maxL ret :: gwords) := by
  intro x hx
  rcases List.mem_cons.mp hx with rfl | hx
  · exact ⟨h, gw_good h⟩
  · exact ⟨hx, gw_good hx⟩
variable {K : Kx} {R : Room} {G : Gx} {nL cells slots : Nat} {w : va_W} {pc : Nat} {lv : List (Nat × Value)} {st : List Value} {cc : ByteArray} {own : String}
variable {y : MethodName} {bc : ByteArray} {mL : Nat} {rt : Option FieldType} {rm : Room} {wc : va_W} {As rest : List Value} {post : Option Value → va_W → Prop} {n ix b : Nat}
theorem v_callV (C : CX K G nL cc own) (hT : CT (Kl K) G y bc mL rt rm wc (.ref b :: As) post) (hL : LkV own ix y bc mL rt n) (wr : va_W) (hsp : Sp w wr wc) (q0 : Nat) {ci : Nat} {fs : List Value} {r : vw_C} (hq : wc[q0]? = some (b, .inr (ci, fs))) (hci : cls[ci]? = some r) (hcl : r.1 = y.cls) (hst : st = As.reverse ++ .ref b :: rest) (hn : As.length = n) (hcat : (rest.map fun v => v.category).sum ≤ 8) (hfr : rm.frames + 1 ≤ R.frames) (hlo : 8 + (mL + 11) + rm.locals ≤ R.locals) (h1 : cells + rm.cells ≤ R.cells) (h2 : slots + rm.slots ≤ R.slots) (hd : decode cc pc = .ok (.invokevirtual ix, 3))
    (kk : ∀ (r : Option Value) (w' : va_W), post r w' → vv K R G nL (cells + rm.cells) (slots + rm.slots) (wr ++ w') (pc + 3) lv (r.toList ++ rest)) : vv K R G nL cells slots w pc lv st := by
  obtain ⟨p, l, e, s, m, args, below, meth, c, Q, A⟩ := K
  intro H locs ls hP hD hS hl
  obtain ⟨hPr, hPc⟩ := hsp.1 _ _ hP
  have hD2 := hsp.2 _ hD
  have hF := sp_free hD2 hS C.2.2.2.2.2.2.2
  have hpre : PreV s H y.cls b (va_Pc (.ref b :: As) (pcn G wc H.size)) As := ⟨pcn_blind, by rw [← hcl]; exact va_recv C.2.2.2.2.2.2.1 hPc hci hq, fun U hU hW => ⟨rfl, by rw [hU], by rw [hU]; exact hPc, va_K.moved hW.alike C.2.2.2.2.2.2.1, sp_Dc hD2, nw_kept hW C.2.2.2.2.2.1⟩⟩
  have hrun : va_Run p l e R s m args below meth c H locs cells slots rm.cells rm.slots (F0 m pc ls st) rest (qc G wc H.size post (Value.ref b :: As).toArray) (va_A wc H.size) := by
    rcases hL.1 with hk | ⟨host, hk⟩
    · exact va_runV (Ts := gwords) ⟨C.1, C.2.1, C.2.2.1, C.2.2.2.1, C.2.2.2.2.1⟩ (hT H.size) ⟨callB_of n C.2.2.2.2.1 (good_code hL.2.2.2.2.1) rfl rfl rfl (C.2.2.2.2.1 _ hL.2.2.2.1) (C.2.2.2.2.1 _ hk) hL.2.2.2.2.2 ⟨hfr, hlo⟩, C.2.2.2.2.1 _ hL.2.1, C.2.2.2.2.1 _ hL.2.2.1⟩ hpre rfl hn hl.1 hst (lv_room hcat) hd ⟨h1, h2⟩
    · exact va_runVN (Ts := gwords) ⟨C.1, C.2.1, C.2.2.1, C.2.2.2.1, C.2.2.2.2.1⟩ (hT H.size) ⟨va_cnB n C.2.2.2.2.1 (good_code hL.2.2.2.2.1) rfl rfl rfl (C.2.2.2.2.2.1 _ hk) (C.2.2.2.2.1 _ hL.2.2.2.1) hL.2.2.2.2.2 ⟨hfr, hlo⟩, C.2.2.2.2.1 _ hL.2.1, C.2.2.2.2.1 _ hL.2.2.1⟩ hpre rfl hn hl.1 hst (lv_room hcat) hd ⟨h1, h2⟩
  refine w_call hrun hS hF (fun r w' H1 locs1 hp hP1 hD1 hk1 hS1 => ?_)
  obtain ⟨hP9, hD9⟩ := sp_join hPr hD2 hk1 hF hP1 hD1
  exact kk r w' hp H1 locs1 ls hP9 hD9 hS1 hl
theorem v_callS (C : CX K G nL cc own) (hT : CT (Kl K) G y bc mL rt rm wc As post) (hL : LkS own ix y bc mL rt n) (wr : va_W) (hsp : Sp w wr wc) (hst : st = As.reverse ++ rest) (hn : As.length = n) (hcat : (rest.map fun v => v.category).sum ≤ 8) (hfr : rm.frames + 1 ≤ R.frames) (hlo : 8 + (mL + 11) + rm.locals ≤ R.locals) (h1 : cells + rm.cells ≤ R.cells) (h2 : slots + rm.slots ≤ R.slots) (hd : decode cc pc = .ok (.invokestatic ix, 3))
    (kk : ∀ (r : Option Value) (w' : va_W), post r w' → vv K R G nL (cells + rm.cells) (slots + rm.slots) (wr ++ w') (pc + 3) lv (r.toList ++ rest)) : vv K R G nL cells slots w pc lv st := by
  obtain ⟨p, l, e, s, m, args, below, meth, c, Q, A⟩ := K
  intro H locs ls hP hD hS hl
  obtain ⟨hPr, hPc⟩ := hsp.1 _ _ hP
  have hD2 := hsp.2 _ hD
  have hF := sp_free hD2 hS C.2.2.2.2.2.2.2
  have hpre : PreS s H (va_Pc As (pcn G wc H.size)) As := ⟨pcn_blind, fun U hU hW => ⟨rfl, by rw [hU], by rw [hU]; exact hPc, va_K.moved hW.alike C.2.2.2.2.2.2.1, sp_Dc hD2, nw_kept hW C.2.2.2.2.2.1⟩⟩
  have hrun : va_Run p l e R s m args below meth c H locs cells slots rm.cells rm.slots (F0 m pc ls st) rest (qc G wc H.size post As.toArray) (va_A wc H.size) := by
    rcases hL.1 with hk | ⟨host, hk⟩
    · exact va_runS (Ts := gwords) ⟨C.1, C.2.1, C.2.2.1, C.2.2.2.1, C.2.2.2.2.1⟩ (hT H.size) ⟨callB_of n C.2.2.2.2.1 (good_code hL.2.2.2.1) rfl rfl rfl (C.2.2.2.2.1 _ hL.2.2.1) (C.2.2.2.2.1 _ hk) hL.2.2.2.2 ⟨hfr, hlo⟩, C.2.2.2.2.1 _ hL.2.1⟩ hpre rfl hn hl.1 hst (lv_room hcat) hd ⟨h1, h2⟩
    · exact va_runSN (Ts := gwords) ⟨C.1, C.2.1, C.2.2.1, C.2.2.2.1, C.2.2.2.2.1⟩ (hT H.size) ⟨va_cnB n C.2.2.2.2.1 (good_code hL.2.2.2.1) rfl rfl rfl (C.2.2.2.2.2.1 _ hk) (C.2.2.2.2.1 _ hL.2.2.1) hL.2.2.2.2 ⟨hfr, hlo⟩, C.2.2.2.2.1 _ hL.2.1, trivial⟩ hpre rfl hn hl.1 hst (lv_room hcat) hd ⟨h1, h2⟩
  refine w_call hrun hS hF (fun r w' H1 locs1 hp hP1 hD1 hk1 hS1 => ?_)
  obtain ⟨hP9, hD9⟩ := sp_join hPr hD2 hk1 hF hP1 hD1
  exact kk r w' hp H1 locs1 ls hP9 hD9 hS1 hl
theorem v_callI (C : CX K G nL cc own) (hT : CT (Kl K) G y bc mL none rm wc (.ref b :: As) post) (hL : LkI own ix y bc mL n) (wr : va_W) (hsp : Sp w wr wc) (hst : st = As.reverse ++ .ref b :: rest) (hn : As.length = n) (hcat : (rest.map fun v => v.category).sum ≤ 8) (hfr : rm.frames + 1 ≤ R.frames) (hlo : 8 + (mL + 11) + rm.locals ≤ R.locals) (h1 : cells + rm.cells ≤ R.cells) (h2 : slots + rm.slots ≤ R.slots) (hd : decode cc pc = .ok (.invokespecial ix, 3))
    (kk : ∀ (r : Option Value) (w' : va_W), post r w' → vv K R G nL (cells + rm.cells) (slots + rm.slots) (wr ++ w') (pc + 3) lv (r.toList ++ rest)) : vv K R G nL cells slots w pc lv st := by
  obtain ⟨p, l, e, s, m, args, below, meth, c, Q, A⟩ := K
  intro H locs ls hP hD hS hl
  obtain ⟨hPr, hPc⟩ := hsp.1 _ _ hP
  have hD2 := hsp.2 _ hD
  have hF := sp_free hD2 hS C.2.2.2.2.2.2.2
  have hpre : PreS s H (va_Pc (.ref b :: As) (pcn G wc H.size)) (.ref b :: As) := ⟨pcn_blind, fun U hU hW => ⟨rfl, by rw [hU], by rw [hU]; exact hPc, va_K.moved hW.alike C.2.2.2.2.2.2.1, sp_Dc hD2, nw_kept hW C.2.2.2.2.2.1⟩⟩
  have hrun : va_Run p l e R s m args below meth c H locs cells slots rm.cells rm.slots (F0 m pc ls st) rest (qc G wc H.size post (Value.ref b :: As).toArray) (va_A wc H.size) := by
    rcases hL.1 with hk | ⟨host, hk⟩
    · exact va_runI (Ts := gwords) ⟨C.1, C.2.1, C.2.2.1, C.2.2.2.1, C.2.2.2.2.1⟩ (hT H.size) ⟨callB_of n C.2.2.2.2.1 (good_code hL.2.2.2.2.1) rfl rfl rfl (C.2.2.2.2.1 _ hL.2.2.2.1) (C.2.2.2.2.1 _ hk) hL.2.2.2.2.2 ⟨hfr, hlo⟩, hL.2.2.1, C.2.2.2.2.1 _ hL.2.1⟩ hpre rfl hn hl.1 hst (lv_room hcat) hd ⟨h1, h2⟩
    · exact va_runIN (Ts := gwords) ⟨C.1, C.2.1, C.2.2.1, C.2.2.2.1, C.2.2.2.2.1⟩ (hT H.size) ⟨va_cnB n C.2.2.2.2.1 (good_code hL.2.2.2.2.1) rfl rfl rfl (C.2.2.2.2.2.1 _ hk) (C.2.2.2.2.1 _ hL.2.2.2.1) hL.2.2.2.2.2 ⟨hfr, hlo⟩, hL.2.2.1, C.2.2.2.2.1 _ hL.2.1⟩ hpre rfl hn hl.1 hst (lv_room hcat) hd ⟨h1, h2⟩
  refine w_call hrun hS hF (fun r w' H1 locs1 hp hP1 hD1 hk1 hS1 => ?_)
  obtain ⟨hP9, hD9⟩ := sp_join hPr hD2 hk1 hF hP1 hD1
  exact kk r w' hp H1 locs1 ls hP9 hD9 hS1 hl
end VC
