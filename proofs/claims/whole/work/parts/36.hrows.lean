/-! The law's helpers: methods with a table of their own, that catch what the class throws -/
section HLP
abbrev nIAE : String := "java/lang/IllegalArgumentException"
abbrev nIOO : String := "java/lang/IndexOutOfBoundsException"
/-- an IndexOutOfBoundsException is no IllegalArgumentException -/
def noC (U : State) : Prop := ∀ c t : ClassId, U.vm.findClass nIOO = some c → U.vm.findClass nIAE = some t → U.vm.assignable c t = false
theorem noC_moved {u U : State} (h : u.vm.Alike U.vm) (H : noC u) : noC U := fun c t h1 h2 => by
  rw [h.assignable]
  exact H c t (by rw [← h.findClass]; exact h1) (by rw [← h.findClass]; exact h2)
theorem noC_of {args : Array Value} {s : State} (h : (Cond.not (Cond.castable nIOO nIAE)).before args s = true) : noC s := by
  intro c t h1 h2
  cases hq : s.vm.assignable c t with
  | false => rfl
  | true => simp [Cond.before, Cond.holds, Cond.value, h1, h2, hq] at h
def pch (G : Gx) (w : va_W) (sz : Nat) (U : State) : Prop := pcx G w sz U ∧ noC U
theorem pch_blind {G : Gx} {w : va_W} {sz : Nat} {av : List Value} : FrameBlind (va_Pc av (pch G w sz)) := by
  intro a U g mk h
  obtain ⟨h0, h1, h2⟩ := h
  have h3 := pcx_blind (G := G) (w := w) (sz := sz) (av := av) a U g mk ⟨h0, h1⟩
  exact ⟨h3.1, h3.2, noC_moved (u := U) (U := U.calling g mk a) (Vm.Alike.refl U.vm) h2⟩
def CTH (l : Launch) (G : Gx) (y : MethodName) (cc : ByteArray) (maxL : Nat) (ret : Option FieldType) (hh : List (Nat × Nat × Nat × Nat)) (rm : Room) (w : va_W) (av : List Value) (post : Option Value → va_W → Prop) : Prop :=
  ∀ sz : Nat, Met l y (Cond.codeWith y cc maxL ret hh :: gwords) rm (va_Pc av (pch G w sz)) (qc G w sz post) rm.cells rm.slots (va_A w sz)
def HX (K : Kx) (hh : List (Nat × Nat × Nat × Nat)) : Prop :=
  match K with
  | (_, _, _, s, _, _, _, _, c, _, A) => c.exceptionTable.toList = tableOf hh ∧ zs A s s.heap ∧ noC s
theorem th_of {l : Launch} {G : Gx} {y : MethodName} {cc : ByteArray} {maxL : Nat} {ret : Option FieldType} {hh : List (Nat × Nat × Nat × Nat)} {rm : Room} {w : va_W} {av : List Value} {post : Option Value → va_W → Prop} (lv0 : List (Nat × Value)) (hy : plainName y.cls = true) (hlen : (lg_sl av).length ≤ maxL) (hlv : lv_args 0 av = lv0)
    (body : ∀ K : Kx, Kl K = l → CX K G maxL cc y.cls → RX K rm G ret w post → HX K hh → vv K rm G maxL 0 0 w 0 lv0 []) : CTH l G y cc maxL ret hh rm w av post := by
  intro sz
  refine va_MetW (cc := cc) (maxL := maxL) (ret := ret) (hh := hh) hy rfl ?_
  intro p e s m args below meth c s₁ B hml hv
  obtain ⟨rfl, ⟨⟨rfl, hP, hK, hD, hN⟩, hZ⟩, hC⟩ := hv
  have hts := atoms_spec (ws := Cond.codeWith y cc maxL ret hh :: gwords) B.pre
  have hown : s.vm.findClass y.cls = some m.cls := findClass_of_methodNamed B.named
  have htab := vx_table (x := y) B (hts _ List.mem_cons_self)
  rw [lg_entry_eq]
  have hl := lv_entry av (n := maxL) hlen
  rw [hlv] at hl
  exact body (p, l, e, s, m, av.toArray, below, meth, c, MQ below (qc G w s.heap.size post) av.toArray s rm.cells rm.slots (va_A w s.heap.size), va_A w s.heap.size) rfl ⟨B.exec, B.bytes, hml, hown, fun x h => hts x (List.mem_cons_of_mem _ h), hN, hK, fun q h => Or.inr h⟩ ⟨B.returns, B.notSynchronized, rfl, fun H locs cells slots g h => h⟩ ⟨htab, hZ, hC⟩ s.heap [] _ hP hD.self va_S.rf hl
theorem w_callX {p : Program} {l : Launch} {e : Env} {R : Room} {s : State} {m : MethodId} {args a : Array Value} {below : List Frame} {meth : Method} {c : Code} {H : Heap} {locs : List Loc} {cells slots mc ms pc : Nat} {ls : Array Slot} {st0 rest : List Value} {Q : State → Prop} {G : Gx} {wc : va_W} {post : Option Value → va_W → Prop} {xp : String → va_W → Prop} {A : Nat → Prop}
    (hr : vx_Run p l e R s m args below meth c H locs cells slots mc ms (F0 m pc ls st0) rest (qc G wc H.size post a) (xc G wc H.size xp) (va_A wc H.size)) (hS : va_S A s.heap H locs) (hf : ∀ q, va_A wc H.size q → A q)
    (kk : ∀ (r : Option Value) (w' : va_W) (H1 : Heap) (locs1 : List Loc), post r w' → va_P G.1 cls w' H1 → va_D (va_A wc H.size) w' → (∀ q : Nat, q < H.size → ¬ va_A wc H.size q → H1[q]? = H[q]?) → va_S A s.heap H1 locs1 → W p l e R s m args below meth c H1 locs1 (cells + mc) (slots + ms) Q (F0 m (pc + 3) ls (r.toList ++ rest)))
    (kx : ∀ (E : String) (ce : Cell) (q9 : Addr) (w' : va_W) (H1 : Heap) (locs1 : List Loc), xp E w' → va_P G.1 cls w' H1 → va_D (va_A wc H.size) w' → (∀ q : Nat, q < H.size → ¬ va_A wc H.size q → H1[q]? = H[q]?) → va_S A s.heap H1 locs1 → H1[q9]? = some ce → ce.vm = .none → s.vm.findClass E = some ce.cls → vx_W p l e R s m args below meth c H1 locs1 (cells + mc) (slots + ms) Q (F0 m pc ls rest) q9) : W p l e R s m args below meth c H locs cells slots Q (F0 m pc ls st0) := by
  intro T hT X
  rcases hr T hT X with ⟨v, st₀, t, T', L, h0, X', hL, e1, e2, ⟨⟨r, w', hv, hp, hP1, hD1⟩, hF⟩, st⟩ | ⟨q, st₀, t, T', L, E, ce, h0, X', hL, e1, e2, ⟨w', hp, hP1, hD1, hF⟩, hce, hcv, hcl, st⟩
  · cases hv
    obtain ⟨k1, k2, k3⟩ := vx_keep h0 e1 hS (fun q _ h => hf q h) hf hL hF
    obtain ⟨t2, a1, b1⟩ := kk _ w' T'.heap (locs ++ L) hp (by rw [e1]; exact hP1) hD1 k2 k3 T' rfl X'
    exact ⟨t2, st t2 a1, b1⟩
  · obtain ⟨k1, k2, k3⟩ := vx_keep h0 e1 hS (fun q _ h => hf q h) hf hL hF
    obtain ⟨t2, a1, b1⟩ := kx E ce q w' T'.heap (locs ++ L) hp (by rw [e1]; exact hP1) hD1 k2 k3 (by rw [e1]; exact hce) hcv hcl T' rfl X'
    exact ⟨t2, st.trans a1, b1⟩
/-- a row of the table that takes what is thrown, behind rows that don't -/
def Cat (own : String) (hh : List (Nat × Nat × Nat × Nat)) (pc : Nat) (E : String) (hpc : Nat) : Prop :=
  ∃ (pre : List ExceptionTableEntry) (x : ExceptionTableEntry) (rest : List ExceptionTableEntry), tableOf hh = pre ++ x :: rest ∧ (∀ y ∈ pre, covers y pc = true ∧ y.catchType ≠ 0 ∧ E = nIOO ∧ Cond.classLink own y.catchType nIAE ∈ gwords) ∧ covers x pc = true ∧ x.catchType ≠ 0 ∧ Cond.classLink own x.catchType E ∈ gwords ∧ Cond.castable E E ∈ nwords ∧ x.handlerPc = hpc
variable {K : Kx} {R : Room} {G : Gx} {nL cells slots : Nat} {w : va_W} {pc : Nat} {lv : List (Nat × Value)} {st : List Value} {cc : ByteArray} {own : String}
variable {y : MethodName} {bc : ByteArray} {mL : Nat} {rt : Option FieldType} {rm : Room} {wc : va_W} {As rest : List Value} {post : Option Value → va_W → Prop} {xp : String → va_W → Prop} {n ix b : Nat} {hh : List (Nat × Nat × Nat × Nat)}
theorem v_callX (C : CX K G nL cc own) (Z : HX K hh) (hT : CTX (Kl K) G y bc mL rt rm wc (.ref b :: As) post xp) (hL : LkV own ix y bc mL rt n) (hLm : Cond.methodLink own ix y ∈ gwords) (wr : va_W) (hsp : Sp w wr wc) (q0 : Nat) {ci : Nat} {fs : List Value} {r : vw_C} (hq : wc[q0]? = some (b, .inr (ci, fs))) (hci : cls[ci]? = some r) (hcl : r.1 = y.cls) (hst : st = As.reverse ++ .ref b :: rest) (hn : As.length = n) (hcat : (rest.map fun v => v.category).sum ≤ 8) (hfr : rm.frames + 1 ≤ R.frames) (hlo : 8 + (mL + 11) + rm.locals ≤ R.locals) (h1 : cells + rm.cells ≤ R.cells) (h2 : slots + rm.slots ≤ R.slots) (hd : decode cc pc = .ok (.invokevirtual ix, 3))
    (kk : ∀ (r : Option Value) (w' : va_W), post r w' → vv K R G nL (cells + rm.cells) (slots + rm.slots) (wr ++ w') (pc + 3) lv (r.toList ++ rest))
    (kx : ∀ (E : String) (w' : va_W), xp E w' → ∃ hpc, Cat own hh pc E hpc ∧ ∀ q, vv K R G nL (cells + rm.cells) (slots + rm.slots) (wr ++ w') hpc lv [.ref q]) : vv K R G nL cells slots w pc lv st := by
  obtain ⟨p, l, e, s, m, args, below, meth, c, Q, A⟩ := K
  obtain ⟨htab, hZ, hnc⟩ := Z
  intro H locs ls hP hD hS hl
  obtain ⟨hPr, hPc⟩ := hsp.1 _ _ hP
  have hD2 := hsp.2 _ hD
  have hF := sp_free hD2 hS C.2.2.2.2.2.2.2
  have hZ1 : zs (va_A wc H.size) s H := zs_narrow (zs_kept hZ (fun a ha hna => hS.2.1 a ha hna)) hF
  have hpre : PreV s H y.cls b (va_Pc (.ref b :: As) (pcx G wc H.size)) As := ⟨pcx_blind, by rw [← hcl]; exact va_recv C.2.2.2.2.2.2.1 hPc hci hq, fun U hU hW => ⟨rfl, ⟨by rw [hU], by rw [hU]; exact hPc, va_K.moved hW.alike C.2.2.2.2.2.2.1, sp_Dc hD2, nw_kept hW C.2.2.2.2.2.1⟩, by rw [hU]; exact zs_moved hW.alike hZ1⟩⟩
  have hrun : vx_Run p l e R s m args below meth c H locs cells slots rm.cells rm.slots (F0 m pc ls st) rest (qc G wc H.size post (Value.ref b :: As).toArray) (xc G wc H.size xp) (va_A wc H.size) :=
    vx_runV (Ts := gwords) ⟨C.1, C.2.1, C.2.2.1, C.2.2.2.1, C.2.2.2.2.1⟩ (hT H.size) ⟨callB_of n C.2.2.2.2.1 (good_code hL.2.2.2.2.1) rfl rfl rfl (C.2.2.2.2.1 _ hL.2.2.2.1) (C.2.2.2.2.1 _ hLm) hL.2.2.2.2.2 ⟨hfr, hlo⟩, C.2.2.2.2.1 _ hL.2.1, C.2.2.2.2.1 _ hL.2.2.1⟩ hpre rfl hn hl.1 hst (lv_room hcat) hd ⟨h1, h2⟩
  refine w_callX hrun hS hF (fun r w' H1 locs1 hp hP1 hD1 hk1 hS1 => ?_) (fun E ce q9 w' H1 locs1 hp hP1 hD1 hk1 hS1 hce hcv hcl9 => ?_)
  · obtain ⟨hP9, hD9⟩ := sp_join hPr hD2 hk1 hF hP1 hD1
    exact kk r w' hp H1 locs1 ls hP9 hD9 hS1 hl
  · obtain ⟨hP9, hD9⟩ := sp_join hPr hD2 hk1 hF hP1 hD1
    obtain ⟨hpc, ⟨pre, x, rs, t1, t2, t3, t4, t5, t6, t7⟩, k9⟩ := kx E w' hp
    intro T hT9 X
    have hpl : e.platform.magicAccessors = ({} : Platform).magicAccessors := by rw [X.admits.platform]
    obtain ⟨kE, hkE, -⟩ := Vm.findClass_spec hcl9
    obtain ⟨cc9, f1, f2⟩ := Cond.classLink_spec C.2.2.2.1 (C.2.2.2.2.1 _ t5) e.platform hpl
    obtain ⟨c0, c1, g1, g2, g3⟩ := Cond.castable_spec (va_Nw.use (A := args) rfl (C.2.2.2.2.2.1 _ t6))
    cases Option.some.inj (g1.symm.trans hcl9)
    cases Option.some.inj (g2.symm.trans hcl9)
    cases Option.some.inj (f1.symm.trans hcl9)
    obtain ⟨vm', X', st'⟩ := fh_caught X (g := F0 m pc ls rest) rfl (a := q9) (cell := ce) (by rw [hT9]; exact hce) (by rw [hcv]; rfl) ⟨kE, hkE⟩ pre x rs (htab.trans t1) (fun z hz => by
      obtain ⟨z1, z2, z3, z4⟩ := t2 z hz
      obtain ⟨c5, f5, f6⟩ := Cond.classLink_spec C.2.2.2.1 (C.2.2.2.2.1 _ z4) e.platform hpl
      exact ⟨z1, z2, c5, f6, hnc _ _ (by rw [← z3]; exact hcl9) f5⟩) t3 t4 f2 g3
    rw [t7] at st'
    obtain ⟨t, b1, b2⟩ := k9 q9 H1 locs1 ls hP9 hD9 hS1 hl (T.setVm vm') hT9 X'
    exact ⟨t, st' t b1, b2⟩
/-- the words of a static call of a method with a table -/
def LkH (own : String) (ix : Nat) (y : MethodName) (cc : ByteArray) (maxL : Nat) (ret : Option FieldType) (hh : List (Nat × Nat × Nat × Nat)) (n : Nat) : Prop := Cond.methodLink own ix y ∈ gwords ∧ Cond.static y ∈ gwords ∧ Cond.initialized y.cls ∈ gwords ∧ Cond.codeWith y cc maxL ret hh ∈ gwords ∧ Hdn y n
theorem v_callH (C : CX K G nL cc own) (hZ0 : zs K.2.2.2.2.2.2.2.2.2.2 K.2.2.2.1 K.2.2.2.1.heap) (hnc : noC K.2.2.2.1) (hT : CTH (Kl K) G y bc mL rt hh rm wc As post) (hL : LkH own ix y bc mL rt hh n) (wr : va_W) (hsp : Sp w wr wc) (hst : st = As.reverse ++ rest) (hn : As.length = n) (hcat : (rest.map fun v => v.category).sum ≤ 8) (hfr : rm.frames + 1 ≤ R.frames) (hlo : 8 + (mL + 11) + rm.locals ≤ R.locals) (h1 : cells + rm.cells ≤ R.cells) (h2 : slots + rm.slots ≤ R.slots) (hd : decode cc pc = .ok (.invokestatic ix, 3))
    (kk : ∀ (r : Option Value) (w' : va_W), post r w' → vv K R G nL (cells + rm.cells) (slots + rm.slots) (wr ++ w') (pc + 3) lv (r.toList ++ rest)) : vv K R G nL cells slots w pc lv st := by
  obtain ⟨p, l, e, s, m, args, below, meth, c, Q, A⟩ := K
  have hZ : zs A s s.heap := hZ0
  have hnc : noC s := hnc
  intro H locs ls hP hD hS hl
  obtain ⟨hPr, hPc⟩ := hsp.1 _ _ hP
  have hD2 := hsp.2 _ hD
  have hF := sp_free hD2 hS C.2.2.2.2.2.2.2
  have hZ1 : zs (va_A wc H.size) s H := zs_narrow (zs_kept hZ (fun a ha hna => hS.2.1 a ha hna)) hF
  have hpre : PreS s H (va_Pc As (pch G wc H.size)) As := ⟨pch_blind, fun U hU hW => ⟨rfl, ⟨⟨by rw [hU], by rw [hU]; exact hPc, va_K.moved hW.alike C.2.2.2.2.2.2.1, sp_Dc hD2, nw_kept hW C.2.2.2.2.2.1⟩, by rw [hU]; exact zs_moved hW.alike hZ1⟩, noC_moved hW.alike hnc⟩⟩
  have hG : GoodIn gwords (va_wsS own ix y (Cond.codeWith y bc mL rt hh :: gwords)) := by
    intro x hx
    have hin : x ∈ gwords := by
      unfold va_wsS at hx
      rcases List.mem_append.mp hx with hx | hx
      · rcases List.mem_cons.mp hx with rfl | hx
        · exact hL.1
        rcases List.mem_cons.mp hx with rfl | hx
        · exact hL.2.1
        · rw [List.mem_singleton.mp hx]; exact hL.2.2.1
      · rcases List.mem_cons.mp hx with rfl | hx
        · exact hL.2.2.2.1
        · exact hx
    exact ⟨hin, gw_good hin⟩
  have hrun : va_Run p l e R s m args below meth c H locs cells slots rm.cells rm.slots (F0 m pc ls st) rest (qc G wc H.size post As.toArray) (va_A wc H.size) :=
    vx_runSW (Ts := gwords) ⟨C.1, C.2.1, C.2.2.1, C.2.2.2.1, C.2.2.2.2.1⟩ (hT H.size) (vx_cwSW n C.2.2.2.2.1 hG rfl rfl rfl hL.2.2.2.2 ⟨hfr, hlo⟩) hpre rfl hn hl.1 hst (lv_room hcat) hd ⟨h1, h2⟩
  refine w_call hrun hS hF (fun r w' H1 locs1 hp hP1 hD1 hk1 hS1 => ?_)
  obtain ⟨hP9, hD9⟩ := sp_join hPr hD2 hk1 hF hP1 hD1
  exact kk r w' hp H1 locs1 ls hP9 hD9 hS1 hl
end HLP
