/-! WeightOrder: its state, what each call answers, the calls -/
abbrev RwX : Type := (Nat × Nat) × List Nat × (Nat → Int32)
def rcells (G : Gx) (y : RwX) : va_W := [(y.1.1, ob 3 [.ref y.1.2, .int (nI y.2.1.length)]), (y.1.2, aI G 200 y.2.2)]
def rpool (G : Gx) (RL : List RwX) : va_W := RL.flatMap (rcells G)
theorem rpool_app (G : Gx) (L M : List RwX) : rpool G (L ++ M) = rpool G L ++ rpool G M := List.flatMap_append ..
theorem rpool_cons (G : Gx) (x : RwX) (L : List RwX) : rpool G (x :: L) = rcells G x ++ rpool G L := rfl
section PR2
variable {K : Kx} {R : Room} {G : Gx} {nL cells slots : Nat} {pc : Nat} {lv : List (Nat × Value)} {st : List Value} {X Y P Q : va_W} {A B : List RwX} {y : RwX}
theorem sp_pool2 {Xr Xc : va_W} (isR isC : List Nat) (hR : isR.map (fun i => X[i]?) = Xr.map some) (hC : isC.map (fun i => X[i]?) = Xc.map some) (hn : va_nd (isR ++ isC) = true) : Sp (X ++ (P ++ Q)) (Xr ++ P) (Xc ++ Q) := by
  have gl : ∀ {k : Nat} {z : Nat × va_E}, P[k]? = some z → (X ++ (P ++ Q))[X.length + k]? = some z := fun {k z} h => by rw [List.getElem?_append_right (Nat.le_add_right _ _), Nat.add_sub_cancel_left]; exact sp_get h
  have gr : ∀ {k : Nat} {z : Nat × va_E}, Q[k]? = some z → (X ++ (P ++ Q))[X.length + (P.length + k)]? = some z := fun {k z} h => by rw [List.getElem?_append_right (Nat.le_add_right _ _), Nat.add_sub_cancel_left, List.getElem?_append_right (Nat.le_add_right _ _), Nat.add_sub_cancel_left]; exact h
  refine ⟨fun D H hP => ⟨?_, ?_⟩, fun A hD => ?_⟩
  · exact va_P.app (fun k z hq => by obtain ⟨i, -, h⟩ := sp_at hR hq; exact hP i z (sp_get h)) (fun k z hq => hP _ z (gl hq))
  · exact va_P.app (fun k z hq => by obtain ⟨i, -, h⟩ := sp_at hC hq; exact hP i z (sp_get h)) (fun k z hq => hP _ z (gr hq))
  · have h1 := hD.part (isR ++ isC) hn (cx := Xr ++ Xc) (by rw [List.map_append, List.map_append, hR, hC])
    refine va_D_perm ?_ h1
    rw [List.append_assoc, List.append_assoc]
    refine List.Perm.append_left Xr ?_
    rw [← List.append_assoc, ← List.append_assoc]
    exact List.Perm.append_right Q List.perm_append_comm
theorem v_mix (kk : vv K R G nL cells slots ((X ++ Y) ++ (P ++ Q)) pc lv st) : vv K R G nL cells slots ((X ++ P) ++ (Y ++ Q)) pc lv st := by
  refine v_perm _ ?_ kk
  rw [List.append_assoc, List.append_assoc]
  refine List.Perm.append_left X ?_
  rw [← List.append_assoc, ← List.append_assoc]
  exact List.Perm.append_right Q List.perm_append_comm
theorem rout_perm : (X ++ (rpool G (A ++ y :: B) ++ Q)).Perm ((X ++ rcells G y) ++ (rpool G (A ++ B) ++ Q)) := by
  rw [List.append_assoc]
  refine List.Perm.append_left X ?_
  rw [rpool_app, rpool_app, rpool_cons, ← List.append_assoc, ← List.append_assoc, ← List.append_assoc]
  exact List.Perm.append_right Q (List.Perm.append_right (rpool G B) List.perm_append_comm)
theorem v_rout (kk : vv K R G nL cells slots ((X ++ rcells G y) ++ (rpool G (A ++ B) ++ Q)) pc lv st) : vv K R G nL cells slots (X ++ (rpool G (A ++ y :: B) ++ Q)) pc lv st := v_perm _ rout_perm kk
theorem v_rin (kk : vv K R G nL cells slots (X ++ (rpool G (A ++ y :: B) ++ Q)) pc lv st) : vv K R G nL cells slots ((X ++ rcells G y) ++ (rpool G (A ++ B) ++ Q)) pc lv st := v_perm _ rout_perm.symm kk
/-- one Line out, behind the rows -/
theorem v_lout2 {LA LB : List LnX} {z : LnX} (kk : vv K R G nL cells slots ((X ++ lcells G z) ++ (P ++ lpool G (LA ++ LB))) pc lv st) : vv K R G nL cells slots (X ++ (P ++ lpool G (LA ++ z :: LB))) pc lv st := by
  refine v_perm _ ?_ kk
  rw [← List.append_assoc]
  refine (lpool_out G (X ++ P) LA LB z).trans ?_
  rw [List.append_assoc, List.append_assoc, List.append_assoc, ← List.append_assoc P]
  exact List.Perm.append_left X List.perm_append_comm
theorem v_lin2 {LA LB : List LnX} {z : LnX} (kk : vv K R G nL cells slots (X ++ (P ++ lpool G (LA ++ z :: LB))) pc lv st) : vv K R G nL cells slots ((X ++ lcells G z) ++ (P ++ lpool G (LA ++ LB))) pc lv st := by
  refine v_perm _ ?_ kk
  refine List.Perm.symm ?_
  rw [← List.append_assoc]
  refine (lpool_out G (X ++ P) LA LB z).trans ?_
  rw [List.append_assoc, List.append_assoc, List.append_assoc, ← List.append_assoc P]
  exact List.Perm.append_left X List.perm_append_comm
end PR2
/-- the state as the document has it: classes of points, lines, the one told last, rows -/
abbrev Sg : Type := (Nat → Nat) × List (Nat × List E4) × Option Nat × List (List Nat)
def esA (A : List (Nat × List E4)) (j : Nat) : List E4 := (A[j]?.map (·.2)).getD []
def els (σ : Sg) (j : Nat) : List E4 := takeR (fun k => fndA k σ.2.1) σ.1 (esA σ.2.1) 200 (σ.2.2.2.getD j [])
theorem lnE_abs (L : List LnX) (j : Nat) : lnE L j = esA (absL L) j := by
  unfold lnE esA absL
  rw [List.getElem?_map]
  cases L[j]? <;> rfl
def comp (e : E4) (w : Nat) : Nat := if w = 0 then e.1 else if w = 1 then e.2.1 else if w = 2 then e.2.2.1 else e.2.2.2
def lvlL (q : List E4) (w : Nat) : List Nat := (q.map (comp · w)).filter (fun v => v ≠ 0)
def cmpTo (q r : List E4) : Nat → Int32
  | 0 => nI 0
  | k + 1 => if cmpTo q r k = 0 then cmpL (lvlL q k) (lvlL r k) else cmpTo q r k
abbrev badN (x : Int32) (M : Nat) : Prop := x < 0 ∨ nI M < x
abbrev toN (x : Int32) : Nat := x.toNatClampNeg
abbrev Ans : Type := Nat × Int32 × Sg
def spOrder (σ : Sg) (p c : Int32) : Ans := if badN p 1114111 ∨ badN c 254 then (1, nI 0, σ) else (0, nI 0, (fun x => if x = toN p then toN c else σ.1 x, σ.2))
def spLine (σ : Sg) (n a b c : Int32) : Ans := if n < nI 1 ∨ nI 3 < n ∨ badN a 1114111 ∨ badN b 1114111 ∨ badN c 1114111 then (1, nI 0, σ)
  else if fndA (keyN (toN n) (toN a) (toN b) (toN c)) σ.2.1 = none ∧ σ.2.1.length = 500 then (2, nI 0, σ)
  else (0, nI (tellA (keyN (toN n) (toN a) (toN b) (toN c)) σ.2.1).length, (σ.1, tellA (keyN (toN n) (toN a) (toN b) (toN c)) σ.2.1, some (tellI (keyN (toN n) (toN a) (toN b) (toN c)) σ.2.1), σ.2.2.2))
def spElement (σ : Sg) (p s t : Int32) (v : Nat) : Ans := match σ.2.2.1 with
  | none => (1, nI 0, σ)
  | some i => if badN p 65535 ∨ badN s 65535 ∨ badN t 65535 then (1, nI 0, σ)
    else if (esA σ.2.1 i).length = 8 then (2, nI 0, σ)
    else (0, nI ((esA σ.2.1 i).length + 1), (σ.1, σ.2.1.set i ((σ.2.1.getD i (0, [])).1, esA σ.2.1 i ++ [(toN p, toN s, toN t, v)]), σ.2.2))
def rowA (σ : Sg) (j : Nat) : List Nat := σ.2.2.2.getD j []
def spAdd (σ : Sg) (r p : Int32) : Ans := if badN r 3 ∨ badN p 1114111 then (1, nI 0, σ)
  else if (rowA σ (toN r)).length = 200 then (2, nI 0, σ)
  else (0, nI ((rowA σ (toN r)).length + 1), (σ.1, σ.2.1, σ.2.2.1, σ.2.2.2.set (toN r) (rowA σ (toN r) ++ [toN p])))
def spClear (σ : Sg) (r : Int32) : Ans := if badN r 3 then (1, nI 0, σ) else (0, nI (rowA σ (toN r)).length, (σ.1, σ.2.1, σ.2.2.1, σ.2.2.2.set (toN r) []))
def spCount (σ : Sg) (r : Int32) : Ans := if badN r 3 then (1, nI 0, σ) else (0, nI (els σ (toN r)).length, σ)
def qs (σ : Sg) (j sh : Nat) : List E4 := shL sh 0 (els σ j)
def spWeight (σ : Sg) (r : Int32) (sh : Nat) (i u : Int32) : Ans := if badN r 3 ∨ badN u 3 then (1, nI 0, σ)
  else if i < 0 ∨ nI (qs σ (toN r) sh).length ≤ i then (1, nI 0, σ)
  else (0, nI (comp ((qs σ (toN r) sh).getD (toN i) (0, 0, 0, 0)) (toN u)), σ)
def spCompare (σ : Sg) (r u n : Int32) (sh : Nat) : Ans := if badN r 3 ∨ badN u 3 ∨ n < nI 1 ∨ nI 4 < n then (1, nI 0, σ)
  else (0, cmpTo (qs σ (toN r) sh) (qs σ (toN u) sh) (toN n), σ)
def TdS (L : List LnX) (told td : Option Nat) : Prop := match told with
  | none => td = none
  | some i => ∃ x, L[i]? = some x ∧ td = some x.1.1
def ROk (RL : List RwX) : Prop := RL.length = 4 ∧ ∀ y ∈ RL, RwS y.2.1 y.2.2
def RmS (RL : List RwX) (rmf : Nat → Option Nat) : Prop := ∀ i y, RL[i]? = some y → rmf i = some y.1.1
theorem wi_nat {x : Int32} {M : Nat} (hM : M < 2147483648) (h : ¬ wi x (nI M) = 0) : ∃ j, j ≤ M ∧ x = nI j := by
  obtain ⟨h1, h2⟩ := wi_ne0 h
  exact nI_of2 (nI_toInt hM) h1 (Int32.not_lt.mp h2)
theorem nbad {j M : Nat} (hj : j ≤ M) (hM : M < 2147483648) : ¬ badN (nI j) M := fun h => h.elim (nI_pos (by omega)) (fun z => by have := (nI_ltN hM (by omega)).mp z; omega)
theorem toN_nI {j : Nat} (h : j < 2147483648) : toN (nI j) = j := nI_clamp h

/-- the world w of a WeightOrder at o with the state σ; at most k points got a number -/
def WoI (G : Gx) (o k : Nat) (σ : Sg) (w : va_W) : Prop := ∃ (t ta tb nc s nt a b m ra x p c st e v en1 es1 eb1 e2 v2 en2 es2 eb2 : Nat) (td ld : Option Nat) (mf rmf : Nat → Option Nat) (kc ks fe fe2 : Nat → Int64) (vc vs f g : Nat → Int32) (en n0 : Int32) (k0 : Int64) (Fc : Nat → Option Int32) (L : List LnX) (RL : List RwX), w = [(o, ob 6 [.ref t, .ref s, .ref ra, .ref x, .ref e, .ref e2]), (t, ob 0 [.ref ta, .ref tb, .int (nI nc)]), (ta, aJ G 512 kc), (tb, aI G 512 vc), (s, ob 2 [.ref nt, .ref m, .int (nI L.length), va_rf (td)]), (nt, ob 0 [.ref a, .ref b, .int (nI L.length)]), (a, aJ G 500 ks), (b, aI G 500 vs), (m, aL G 500 mf), (ra, aR G 4 rmf), (x, ob 5 [.ref t, .ref s, .ref p, .ref c, .int (nI st), .int en, .long k0, .int n0, va_rf (ld)]), (p, aI G 200 f), (c, aI G 200 g), (e, ob 4 [.ref v, .int (nI en1), .int (nI es1), .int (nI eb1)]), (v, aJ G 1600 fe), (e2, ob 4 [.ref v2, .int (nI en2), .int (nI es2), .int (nI eb2)]), (v2, aJ G 1600 fe2)] ++ (rpool G RL ++ lpool G L) ∧ nc ≤ k ∧ k ≤ 512 ∧ TB kc vc nc Fc ∧ ClS Fc σ.1 ∧ LOk L ∧ TB ks vs L.length (fun j => (fnd j L).map nI) ∧ MdS L mf ∧ absL L = σ.2.1 ∧ TdS L σ.2.2.1 td ∧ ROk RL ∧ RmS RL rmf ∧ RL.map (·.2.1) = σ.2.2.2

set_option maxHeartbeats 4000000 in
set_option maxRecDepth 100000 in
theorem c_Wo_order (l : Launch) (htr : l.stackTraces = false) (G : Gx) (o k : Nat) (σ : Sg) (w : va_W) (pt cv : Int32) (hw : WoI G o k σ w) (hk : k < 512) : CTX l G y_Wo_order b_Wo_order 3 none ({ frames := 7, cells := 1, slots := 6, locals := 190 } : Room) w [.ref o, .int pt, .int cv] (fun r w' => (spOrder σ pt cv).1 = 0 ∧ r = none ∧ WoI G o (k + 1) (spOrder σ pt cv).2.2 w') (fun E w' => WoI G o (k + 1) σ w' ∧ ((spOrder σ pt cv).1 = 1 ∧ E = "java/lang/IllegalArgumentException" ∨ (spOrder σ pt cv).1 = 2 ∧ E = "java/lang/IndexOutOfBoundsException")) := by
  obtain ⟨t, ta, tb, nc, s, nt, a, b, m, ra, x, p, c, st, e, v, en1, es1, eb1, e2, v2, en2, es2, eb2, td, ld, mf, rmf, kc, ks, fe, fe2, vc, vs, f, g, en, n0, k0, Fc, L, RL, rfl, hnc, hk5, hTc, hcl, hL, hT, hM, hA, htd, hRO, hRm, hRw⟩ := hw
  refine ctx_of htr [(0, .ref o), (1, .int pt), (2, .int cv)] (by decide) (Nat.le_of_ble_eq_true rfl) rfl (fun K hKl C X Y => ?_)
  subst hKl
  refine v_iload_n (pc := 0) C 1 d_Wo_order_0 rfl rfl ?_
  refine v_ldc (pc := 1) C 1114111 k_167 d_Wo_order_1 ?_
  refine v_seti (nI 1114111) (by decide +kernel) ?_
  refine v_callS (pc := 3) (As := [.int pt, .int (nI 1114111)]) (rest := []) C (c_Wo_isWithin _ G pt (nI 1114111)) l_Wo_52 ([(o, ob 6 [.ref t, .ref s, .ref ra, .ref x, .ref e, .ref e2]), (t, ob 0 [.ref ta, .ref tb, .int (nI nc)]), (ta, aJ G 512 kc), (tb, aI G 512 vc), (s, ob 2 [.ref nt, .ref m, .int (nI L.length), va_rf (td)]), (nt, ob 0 [.ref a, .ref b, .int (nI L.length)]), (a, aJ G 500 ks), (b, aI G 500 vs), (m, aL G 500 mf), (ra, aR G 4 rmf), (x, ob 5 [.ref t, .ref s, .ref p, .ref c, .int (nI st), .int en, .long k0, .int n0, va_rf (ld)]), (p, aI G 200 f), (c, aI G 200 g), (e, ob 4 [.ref v, .int (nI en1), .int (nI es1), .int (nI eb1)]), (v, aJ G 1600 fe), (e2, ob 4 [.ref v2, .int (nI en2), .int (nI es2), .int (nI eb2)]), (v2, aJ G 1600 fe2)] ++ (rpool G RL ++ lpool G L)) (sp_poolR [0, 1, 2, 3, 4, 5, 6, 7, 8, 9, 10, 11, 12, 13, 14, 15, 16] [] rfl rfl rfl) rfl rfl (Nat.le_of_ble_eq_true rfl) (by decide) (by decide) (by decide) (by decide) d_Wo_order_3 (fun r w' hq => ?_)
  obtain ⟨rfl, rfl⟩ := hq
  refine v_swap ?_
  show vv K ({ frames := 7, cells := 1, slots := 6, locals := 190 } : Room) G 3 0 0 ([(o, ob 6 [.ref t, .ref s, .ref ra, .ref x, .ref e, .ref e2]), (t, ob 0 [.ref ta, .ref tb, .int (nI nc)]), (ta, aJ G 512 kc), (tb, aI G 512 vc), (s, ob 2 [.ref nt, .ref m, .int (nI L.length), va_rf (td)]), (nt, ob 0 [.ref a, .ref b, .int (nI L.length)]), (a, aJ G 500 ks), (b, aI G 500 vs), (m, aL G 500 mf), (ra, aR G 4 rmf), (x, ob 5 [.ref t, .ref s, .ref p, .ref c, .int (nI st), .int en, .long k0, .int n0, va_rf (ld)]), (p, aI G 200 f), (c, aI G 200 g), (e, ob 4 [.ref v, .int (nI en1), .int (nI es1), .int (nI eb1)]), (v, aJ G 1600 fe), (e2, ob 4 [.ref v2, .int (nI en2), .int (nI es2), .int (nI eb2)]), (v2, aJ G 1600 fe2)] ++ (rpool G RL ++ lpool G L)) 6 [(0, .ref o), (1, .int pt), (2, .int cv)] [.int (wi pt (nI 1114111))]
  refine v_if_eq (pc := 6) C 19 d_Wo_order_6 (by decide) (fun h1 => ?_) (fun h1 => ?_)
  · exact v_throw (pc := 19) C Y _ th_IAE d_Wo_order_19 d_Wo_order_22 d_Wo_order_23 d_Wo_order_26 (by decide) (by decide) (by decide) (by decide) ⟨⟨t, ta, tb, nc, s, nt, a, b, m, ra, x, p, c, st, e, v, en1, es1, eb1, e2, v2, en2, es2, eb2, td, ld, mf, rmf, kc, ks, fe, fe2, vc, vs, f, g, en, n0, k0, Fc, L, RL, rfl, (by omega), (by omega), hTc, hcl, hL, hT, hM, hA, htd, hRO, hRm, hRw⟩, Or.inl ⟨by unfold spOrder; rw [if_pos (Or.inl (wi_eq0 h1))], rfl⟩⟩
  · refine v_iload_n (pc := 9) C 2 d_Wo_order_9 rfl rfl ?_
    refine v_sipush (pc := 10) C (nI 254) d_Wo_order_10 (by decide +kernel) ?_
    refine v_callS (pc := 13) (As := [.int cv, .int (nI 254)]) (rest := []) C (c_Wo_isWithin _ G cv (nI 254)) l_Wo_52 ([(o, ob 6 [.ref t, .ref s, .ref ra, .ref x, .ref e, .ref e2]), (t, ob 0 [.ref ta, .ref tb, .int (nI nc)]), (ta, aJ G 512 kc), (tb, aI G 512 vc), (s, ob 2 [.ref nt, .ref m, .int (nI L.length), va_rf (td)]), (nt, ob 0 [.ref a, .ref b, .int (nI L.length)]), (a, aJ G 500 ks), (b, aI G 500 vs), (m, aL G 500 mf), (ra, aR G 4 rmf), (x, ob 5 [.ref t, .ref s, .ref p, .ref c, .int (nI st), .int en, .long k0, .int n0, va_rf (ld)]), (p, aI G 200 f), (c, aI G 200 g), (e, ob 4 [.ref v, .int (nI en1), .int (nI es1), .int (nI eb1)]), (v, aJ G 1600 fe), (e2, ob 4 [.ref v2, .int (nI en2), .int (nI es2), .int (nI eb2)]), (v2, aJ G 1600 fe2)] ++ (rpool G RL ++ lpool G L)) (sp_poolR [0, 1, 2, 3, 4, 5, 6, 7, 8, 9, 10, 11, 12, 13, 14, 15, 16] [] rfl rfl rfl) rfl rfl (Nat.le_of_ble_eq_true rfl) (by decide) (by decide) (by decide) (by decide) d_Wo_order_13 (fun r w' hq => ?_)
    obtain ⟨rfl, rfl⟩ := hq
    refine v_swap ?_
    show vv K ({ frames := 7, cells := 1, slots := 6, locals := 190 } : Room) G 3 0 0 ([(o, ob 6 [.ref t, .ref s, .ref ra, .ref x, .ref e, .ref e2]), (t, ob 0 [.ref ta, .ref tb, .int (nI nc)]), (ta, aJ G 512 kc), (tb, aI G 512 vc), (s, ob 2 [.ref nt, .ref m, .int (nI L.length), va_rf (td)]), (nt, ob 0 [.ref a, .ref b, .int (nI L.length)]), (a, aJ G 500 ks), (b, aI G 500 vs), (m, aL G 500 mf), (ra, aR G 4 rmf), (x, ob 5 [.ref t, .ref s, .ref p, .ref c, .int (nI st), .int en, .long k0, .int n0, va_rf (ld)]), (p, aI G 200 f), (c, aI G 200 g), (e, ob 4 [.ref v, .int (nI en1), .int (nI es1), .int (nI eb1)]), (v, aJ G 1600 fe), (e2, ob 4 [.ref v2, .int (nI en2), .int (nI es2), .int (nI eb2)]), (v2, aJ G 1600 fe2)] ++ (rpool G RL ++ lpool G L)) 16 [(0, .ref o), (1, .int pt), (2, .int cv)] [.int (wi cv (nI 254))]
    refine v_if_ne (pc := 16) C 27 d_Wo_order_16 (by decide) (fun h2 => ?_) (fun h2 => ?_)
    · obtain ⟨pj, hpj, rfl⟩ := wi_nat (by decide) h1
      obtain ⟨cj, hcj, rfl⟩ := wi_nat (by decide) h2
      refine v_aload_n (pc := 27) C 0 d_Wo_order_27 rfl rfl ?_
      refine v_get (pc := 28) (Cn := "WeightOrder") (T := T_Wo) (N := 6) (ci := 6) (v := .ref t) C 0 0 rfl rfl hin_Wo (by decide) rfl k_140 rfl d_Wo_order_28 ?_
      refine v_iload_n (pc := 31) C 1 d_Wo_order_31 rfl rfl ?_
      refine v_i2l (pc := 32) C (lN pj) d_Wo_order_32 (nI_l (by omega)) ?_
      refine v_iload_n (pc := 33) C 2 d_Wo_order_33 rfl rfl ?_
      refine v_callV (pc := 34) (As := [.long (lN pj), .int (nI cj)]) (rest := []) C (c_Ta_put _ G t ta tb 512 kc vc nc Fc pj (nI cj) (by decide) (by omega) hTc (by omega) (fun _ => by omega)) l_Wo_59 ([(o, ob 6 [.ref t, .ref s, .ref ra, .ref x, .ref e, .ref e2]), (s, ob 2 [.ref nt, .ref m, .int (nI L.length), va_rf (td)]), (nt, ob 0 [.ref a, .ref b, .int (nI L.length)]), (a, aJ G 500 ks), (b, aI G 500 vs), (m, aL G 500 mf), (ra, aR G 4 rmf), (x, ob 5 [.ref t, .ref s, .ref p, .ref c, .int (nI st), .int en, .long k0, .int n0, va_rf (ld)]), (p, aI G 200 f), (c, aI G 200 g), (e, ob 4 [.ref v, .int (nI en1), .int (nI es1), .int (nI eb1)]), (v, aJ G 1600 fe), (e2, ob 4 [.ref v2, .int (nI en2), .int (nI es2), .int (nI eb2)]), (v2, aJ G 1600 fe2)] ++ (rpool G RL ++ lpool G L)) (sp_poolR [0, 4, 5, 6, 7, 8, 9, 10, 11, 12, 13, 14, 15, 16] [1, 2, 3] rfl rfl rfl) 0 rfl rfl rfl rfl rfl (Nat.le_of_ble_eq_true rfl) (by decide) (by decide) (by decide) (by decide) d_Wo_order_34 (fun r w' hq => ?_)
      obtain ⟨rfl, kc9, vc9, nc9, rfl, hT9, hn9⟩ := hq
      refine v_swap ?_
      show vv K ({ frames := 7, cells := 1, slots := 6, locals := 190 } : Room) G 3 0 0 ([(o, ob 6 [.ref t, .ref s, .ref ra, .ref x, .ref e, .ref e2]), (s, ob 2 [.ref nt, .ref m, .int (nI L.length), va_rf (td)]), (nt, ob 0 [.ref a, .ref b, .int (nI L.length)]), (a, aJ G 500 ks), (b, aI G 500 vs), (m, aL G 500 mf), (ra, aR G 4 rmf), (x, ob 5 [.ref t, .ref s, .ref p, .ref c, .int (nI st), .int en, .long k0, .int n0, va_rf (ld)]), (p, aI G 200 f), (c, aI G 200 g), (e, ob 4 [.ref v, .int (nI en1), .int (nI es1), .int (nI eb1)]), (v, aJ G 1600 fe), (e2, ob 4 [.ref v2, .int (nI en2), .int (nI es2), .int (nI eb2)]), (v2, aJ G 1600 fe2), (t, ob 0 [.ref ta, .ref tb, .int (nI nc9)]), (ta, aJ G 512 kc9), (tb, aI G 512 vc9)] ++ (rpool G RL ++ lpool G L)) 37 [(0, .ref o), (1, .int (nI pj)), (2, .int (nI cj))] []
      have hnc9 : nc9 ≤ k + 1 := by rw [hn9]; split <;> omega
      have hsp : spOrder σ (nI pj) (nI cj) = (0, nI 0, (fun x => if x = pj then cj else σ.1 x, σ.2)) := by unfold spOrder; rw [if_neg (fun z => z.elim (nbad hpj (by decide)) (nbad hcj (by decide))), toN_nI (by omega), toN_nI (by omega)]
      have hcl9 : ClS (fun j => if j = pj then some (nI cj) else Fc j) (fun x => if x = pj then cj else σ.1 x) := by
        intro y hy
        by_cases c9 : y = pj
        · simp only [if_pos c9]; exact ⟨rfl, hcj⟩
        · simp only [if_neg c9]; exact hcl y hy
      refine v_wsubP [0, 14, 15, 16, 1, 2, 3, 4, 5, 6, 7, 8, 9, 10, 11, 12, 13] ([(o, ob 6 [.ref t, .ref s, .ref ra, .ref x, .ref e, .ref e2]), (t, ob 0 [.ref ta, .ref tb, .int (nI nc9)]), (ta, aJ G 512 kc9), (tb, aI G 512 vc9), (s, ob 2 [.ref nt, .ref m, .int (nI L.length), va_rf (td)]), (nt, ob 0 [.ref a, .ref b, .int (nI L.length)]), (a, aJ G 500 ks), (b, aI G 500 vs), (m, aL G 500 mf), (ra, aR G 4 rmf), (x, ob 5 [.ref t, .ref s, .ref p, .ref c, .int (nI st), .int en, .long k0, .int n0, va_rf (ld)]), (p, aI G 200 f), (c, aI G 200 g), (e, ob 4 [.ref v, .int (nI en1), .int (nI es1), .int (nI eb1)]), (v, aJ G 1600 fe), (e2, ob 4 [.ref v2, .int (nI en2), .int (nI es2), .int (nI eb2)]), (v2, aJ G 1600 fe2)]) rfl rfl ?_
      exact v_vret (pc := 37) C X d_Wo_order_37 ⟨by rw [hsp], rfl, by rw [hsp]; exact ⟨t, ta, tb, nc9, s, nt, a, b, m, ra, x, p, c, st, e, v, en1, es1, eb1, e2, v2, en2, es2, eb2, td, ld, mf, rmf, kc9, ks, fe, fe2, vc9, vs, f, g, en, n0, k0, _, L, RL, rfl, hnc9, (by omega), hT9, hcl9, hL, hT, hM, hA, htd, hRO, hRm, hRw⟩⟩ (by decide) (by decide)
    · exact v_throw (pc := 19) C Y _ th_IAE d_Wo_order_19 d_Wo_order_22 d_Wo_order_23 d_Wo_order_26 (by decide) (by decide) (by decide) (by decide) ⟨⟨t, ta, tb, nc, s, nt, a, b, m, ra, x, p, c, st, e, v, en1, es1, eb1, e2, v2, en2, es2, eb2, td, ld, mf, rmf, kc, ks, fe, fe2, vc, vs, f, g, en, n0, k0, Fc, L, RL, rfl, (by omega), (by omega), hTc, hcl, hL, hT, hM, hA, htd, hRO, hRm, hRw⟩, Or.inl ⟨by unfold spOrder; rw [if_pos (Or.inr (wi_eq0 h2))], rfl⟩⟩
