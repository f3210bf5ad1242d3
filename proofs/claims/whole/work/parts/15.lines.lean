/-! Line objects in a pool; Lines -/
/-- a Line: its three addresses, its key, its elements, what its arrays hold -/
abbrev LnX : Type := (Nat × Nat × Nat) × Nat × List E4 × (Nat → Int64) × (Nat → Int32)
def lcells (G : Gx) (x : LnX) : va_W := [(x.1.1, ob 1 [.ref x.1.2.1, .ref x.1.2.2, .int (nI x.2.2.1.length)]), (x.1.2.1, aJ G 8 x.2.2.2.1), (x.1.2.2, aZ G 8 x.2.2.2.2)]
def lpool (G : Gx) (L : List LnX) : va_W := L.flatMap (lcells G)
theorem lpool_nil (G : Gx) : lpool G [] = [] := rfl
theorem lpool_app (G : Gx) (L M : List LnX) : lpool G (L ++ M) = lpool G L ++ lpool G M := List.flatMap_append ..
theorem lpool_one (G : Gx) (x : LnX) : lpool G [x] = lcells G x := by simp [lpool]
theorem lpool_cons (G : Gx) (x : LnX) (L : List LnX) : lpool G (x :: L) = lcells G x ++ lpool G L := rfl
/-- one Line out of the pool -/
theorem lpool_out (G : Gx) (X : va_W) (L M : List LnX) (x : LnX) : (X ++ lpool G (L ++ x :: M)).Perm ((X ++ lpool G (L ++ M)) ++ lcells G x) := by
  rw [lpool_app, lpool_app, lpool_cons, List.append_assoc, List.append_assoc]
  refine List.Perm.append_left X (List.Perm.append_left (lpool G L) ?_)
  exact List.perm_append_comm
theorem lset_split {α : Type} {L : List α} {i : Nat} {x : α} (h : L[i]? = some x) : ∃ A B, L = A ++ x :: B ∧ A.length = i ∧ ∀ y, L.set i y = A ++ y :: B := by
  refine ⟨L.take i, L.drop (i + 1), ?_, ?_, fun y => ?_⟩
  · have hi := (List.getElem?_eq_some_iff.mp h).1
    have := List.getElem_cons_drop hi
    rw [(List.getElem?_eq_some_iff.mp h).2] at this
    rw [this, List.take_append_drop]
  · have hi := (List.getElem?_eq_some_iff.mp h).1
    rw [List.length_take]; omega
  · have hi := (List.getElem?_eq_some_iff.mp h).1
    rw [List.set_eq_take_append_cons_drop, if_pos hi]
/-- where a key stands -/
def fnd (k : Nat) (L : List LnX) : Option Nat := L.findIdx? (fun x => x.2.1 == k)
def adr (k : Nat) (L : List LnX) : Option Nat := (fnd k L).bind (fun i => L[i]?.map (·.1.1))
theorem fnd_some {k i : Nat} {L : List LnX} (h : fnd k L = some i) : ∃ x, L[i]? = some x ∧ x.2.1 = k := by
  obtain ⟨hi, h1, -⟩ := List.findIdx?_eq_some_iff_getElem.mp h
  exact ⟨L[i], List.getElem?_eq_getElem hi, by simpa using h1⟩
theorem fnd_lt {k i : Nat} {L : List LnX} (h : fnd k L = some i) : i < L.length := by
  obtain ⟨x, hx, -⟩ := fnd_some h
  exact (List.getElem?_eq_some_iff.mp hx).1
theorem fnd_none {k : Nat} {L : List LnX} (h : fnd k L = none) : ∀ x ∈ L, x.2.1 ≠ k := by
  intro x hx e
  have := List.findIdx?_eq_none_iff.mp h x hx
  simp [e] at this
/-- what stands fast of the Lines -/
def LOk (L : List LnX) : Prop := L.length ≤ 500 ∧ ∀ x ∈ L, x.2.2.1.length ≤ 8 ∧ LnS x.2.2.1 x.2.2.2.1 x.2.2.2.2
def MdS (L : List LnX) (mf : Nat → Option Nat) : Prop := ∀ i x, L[i]? = some x → mf i = some x.1.1
/-- as the document sees them: keys and elements -/
def absL (L : List LnX) : List (Nat × List E4) := L.map (fun x => (x.2.1, x.2.2.1))
def fndA (k : Nat) (A : List (Nat × List E4)) : Option Nat := A.findIdx? (fun x => x.1 == k)
theorem fnd_abs (k : Nat) (L : List LnX) : fndA k (absL L) = fnd k L := by
  unfold fndA fnd absL
  rw [List.findIdx?_map]
  rfl
def tellA (k : Nat) (A : List (Nat × List E4)) : List (Nat × List E4) := match fndA k A with
  | some i => A.set i (k, [])
  | none => A ++ [(k, [])]
def tellI (k : Nat) (A : List (Nat × List E4)) : Nat := (fndA k A).getD A.length

set_option maxHeartbeats 4000000 in
set_option maxRecDepth 100000 in
theorem c_Li_init (l : Launch) (G : Gx) (a : Nat)  : CT l G y_Li_init b_Li_init 1 none ({ frames := 1, cells := 2, slots := 16, locals := 30 } : Room) ([(a, ob 1 [.null, .null, .int (nI 0)])]) [.ref a] (fun r w' => r = none ∧ ∃ p q, w' = [(a, ob 1 [.ref p, .ref q, .int (nI 0)]), (p, aJ G 8 (fun _ => 0)), (q, aZ G 8 (fun _ => 0))]) := by
  refine ct_of [(0, .ref a)] (by decide) (Nat.le_of_ble_eq_true rfl) rfl (fun K hKl hNI C X => ?_)
  subst hKl
  have NI := hNI rfl
  refine v_aload_n (pc := 0) C 0 d_Li_init_0 rfl rfl ?_
  refine v_objInit (pc := 1) C k_301 (by decide) (by decide) d_Li_init_1 ?_
  refine v_aload_n (pc := 4) C 0 d_Li_init_4 rfl rfl ?_
  refine v_bipush (pc := 5) C (nI 8) d_Li_init_5 (by decide +kernel) ?_
  refine v_newaJ (pc := 7) C 8 (by decide) (by decide) (by decide) d_Li_init_7 (fun q1 => ?_)
  show vv K ({ frames := 1, cells := 2, slots := 16, locals := 30 } : Room) G 1 1 8 ([(a, ob 1 [.null, .null, .int (nI 0)]), (q1, aJ G 8 (fun _ => 0))]) 9 [(0, .ref a)] [.ref q1, .ref a]
  refine v_putF (pc := 9) (Cn := "WeightOrder$Line") (T := T_Li) (N := 3) (ci := 1) (v := .ref q1) C NI 0 0 rfl rfl hin_Li (by decide) rfl ([(a, ob 1 [.ref q1, .null, .int (nI 0)]), (q1, aJ G 8 (fun _ => 0))]) t_Li t_Li_ok n_Li (.array .long) rfl rfl rfl (Nat.le_of_ble_eq_true rfl) rfl rfl rfl k_302 d_Li_init_9 ?_
  refine v_aload_n (pc := 12) C 0 d_Li_init_12 rfl rfl ?_
  refine v_bipush (pc := 13) C (nI 8) d_Li_init_13 (by decide +kernel) ?_
  refine v_newaZ (pc := 15) C 8 (by decide) (by decide) (by decide) d_Li_init_15 (fun q2 => ?_)
  show vv K ({ frames := 1, cells := 2, slots := 16, locals := 30 } : Room) G 1 2 16 ([(a, ob 1 [.ref q1, .null, .int (nI 0)]), (q1, aJ G 8 (fun _ => 0)), (q2, aZ G 8 (fun _ => 0))]) 17 [(0, .ref a)] [.ref q2, .ref a]
  refine v_putF (pc := 17) (Cn := "WeightOrder$Line") (T := T_Li) (N := 3) (ci := 1) (v := .ref q2) C NI 0 1 rfl rfl hin_Li (by decide) rfl ([(a, ob 1 [.ref q1, .ref q2, .int (nI 0)]), (q1, aJ G 8 (fun _ => 0)), (q2, aZ G 8 (fun _ => 0))]) t_Li t_Li_ok n_Li (.array .boolean) rfl rfl rfl (Nat.le_of_ble_eq_true rfl) rfl rfl rfl k_304 d_Li_init_17 ?_
  exact v_vret (pc := 20) C X d_Li_init_20 ⟨rfl, _, _, rfl⟩ (by decide) (by decide)

set_option maxHeartbeats 4000000 in
set_option maxRecDepth 100000 in
theorem c_Ls_isFull (l : Launch) (G : Gx) (s t m n : Nat) (td : Option Nat) (mf : Nat → Option Nat) (hn : n ≤ 500) : CT l G y_Ls_isFull b_Ls_isFull 1 (some .boolean) ({ frames := 0, cells := 0, slots := 0, locals := 0 } : Room) ([(s, ob 2 [.ref t, .ref m, .int (nI n), va_rf (td)]), (m, aL G 500 mf)]) [.ref s] (fun r w' => w' = [(s, ob 2 [.ref t, .ref m, .int (nI n), va_rf (td)]), (m, aL G 500 mf)] ∧ r = some (.int (if n = 500 then nI 1 else nI 0))) := by
  refine ct_of [(0, .ref s)] (by decide) (Nat.le_of_ble_eq_true rfl) rfl (fun K hKl hNI C X => ?_)
  subst hKl
  refine v_aload_n (pc := 0) C 0 d_Ls_isFull_0 rfl rfl ?_
  refine v_get (pc := 1) (Cn := "WeightOrder$Lines") (T := T_Ls) (N := 4) (ci := 2) (v := .int (nI n)) C 0 2 rfl rfl hin_Ls (by decide) rfl k_55 rfl d_Ls_isFull_1 ?_
  refine v_aload_n (pc := 4) C 0 d_Ls_isFull_4 rfl rfl ?_
  refine v_get (pc := 5) (Cn := "WeightOrder$Lines") (T := T_Ls) (N := 4) (ci := 2) (v := .ref m) C 0 1 rfl rfl hin_Ls (by decide) rfl k_54 rfl d_Ls_isFull_5 ?_
  refine v_alenL (pc := 8) C 1 rfl d_Ls_isFull_8 ?_
  refine v_icmpN_ne (pc := 9) C 16 n 500 d_Ls_isFull_9 (by decide) (by omega) (by omega) (fun hc => ?_) (fun hc => ?_)
  · refine v_iconst (pc := 16) C (nI 0) d_Ls_isFull_16 (by decide +kernel) ?_
    exact v_zret (pc := 17) C X rfl d_Ls_isFull_17 ⟨rfl, by rw [if_neg hc]⟩ (by decide) (by decide)
  · refine v_iconst (pc := 12) C (nI 1) d_Ls_isFull_12 (by decide +kernel) ?_
    refine v_goto (pc := 13) C 17 d_Ls_isFull_13 (by decide) ?_
    exact v_zret (pc := 17) C X rfl d_Ls_isFull_17 ⟨rfl, by rw [if_pos hc]⟩ (by decide) (by decide)

set_option maxHeartbeats 4000000 in
set_option maxRecDepth 100000 in
theorem c_Ls_find (l : Launch) (G : Gx) (s t a b m : Nat) (td : Option Nat) (ks : Nat → Int64) (vs : Nat → Int32) (mf : Nat → Option Nat) (L : List LnX) (k : Nat) (hL : LOk L) (hT : TB ks vs L.length (fun j => (fnd j L).map nI)) (hM : MdS L mf) (hk : k < 9223372036854775808) : CT l G y_Ls_find b_Ls_find 4 (some (.object "WeightOrder$Line")) ({ frames := 2, cells := 0, slots := 0, locals := 49 } : Room) ([(s, ob 2 [.ref t, .ref m, .int (nI L.length), va_rf (td)]), (t, ob 0 [.ref a, .ref b, .int (nI L.length)]), (a, aJ G 500 ks), (b, aI G 500 vs), (m, aL G 500 mf)]) [.ref s, .long (lN k)] (fun r w' => w' = [(s, ob 2 [.ref t, .ref m, .int (nI L.length), va_rf (td)]), (t, ob 0 [.ref a, .ref b, .int (nI L.length)]), (a, aJ G 500 ks), (b, aI G 500 vs), (m, aL G 500 mf)] ∧ r = some (va_rf (adr k L))) := by
  refine ct_of [(0, .ref s), (1, .long (lN k))] (by decide) (Nat.le_of_ble_eq_true rfl) rfl (fun K hKl hNI C X => ?_)
  subst hKl
  have hn := hL.1
  refine v_aload_n (pc := 0) C 0 d_Ls_find_0 rfl rfl ?_
  refine v_get (pc := 1) (Cn := "WeightOrder$Lines") (T := T_Ls) (N := 4) (ci := 2) (v := .ref t) C 0 0 rfl rfl hin_Ls (by decide) rfl k_53 rfl d_Ls_find_1 ?_
  refine v_lload_n (pc := 4) C 1 d_Ls_find_4 rfl rfl ?_
  refine v_iconst (pc := 5) C (-1) d_Ls_find_5 (by decide +kernel) ?_
  refine v_callV (pc := 6) (As := [.long (lN k), .int (-1)]) (rest := []) C (c_Ta_valueOf _ G t a b 500 ks vs L.length _ k (-1) (by decide) hn hT hk) l_Ls_30 ([(s, ob 2 [.ref t, .ref m, .int (nI L.length), va_rf (td)]), (m, aL G 500 mf)]) (sp_pos [0, 4] [1, 2, 3] rfl rfl rfl) 0 rfl rfl rfl rfl rfl (Nat.le_of_ble_eq_true rfl) (by decide) (by decide) (by decide) (by decide) d_Ls_find_6 (fun r w' hq => ?_)
  obtain ⟨rfl, rfl⟩ := hq
  show vv K ({ frames := 2, cells := 0, slots := 0, locals := 49 } : Room) G 4 0 0 ([(s, ob 2 [.ref t, .ref m, .int (nI L.length), va_rf (td)]), (m, aL G 500 mf), (t, ob 0 [.ref a, .ref b, .int (nI L.length)]), (a, aJ G 500 ks), (b, aI G 500 vs)]) 9 [(0, .ref s), (1, .long (lN k))] [.int (((fnd k L).map nI).getD (-1))]
  cases hf : fnd k L with
  | none =>
    rw [show adr k L = none by unfold adr; rw [hf]; rfl] at X
    show vv K ({ frames := 2, cells := 0, slots := 0, locals := 49 } : Room) G 4 0 0 ([(s, ob 2 [.ref t, .ref m, .int (nI L.length), va_rf (td)]), (m, aL G 500 mf), (t, ob 0 [.ref a, .ref b, .int (nI L.length)]), (a, aJ G 500 ks), (b, aI G 500 vs)]) 9 [(0, .ref s), (1, .long (lN k))] [.int (-1)]
    refine v_istore_n (pc := 9) C [(3, .int (-1)), (0, .ref s), (1, .long (lN k))] d_Ls_find_9 rfl (by decide) rfl ?_
    refine v_iload_n (pc := 10) C 0 d_Ls_find_10 rfl rfl ?_
    refine v_iconst (pc := 11) C (-1) d_Ls_find_11 (by decide +kernel) ?_
    refine v_icmp_ne (pc := 12) C 19 d_Ls_find_12 (by decide) (fun hc => ?_) (fun hc => ?_)
    · exact absurd rfl hc
    · refine v_null (pc := 15) C d_Ls_find_15 ?_
      refine v_goto (pc := 16) C 25 d_Ls_find_16 (by decide) ?_
      refine v_wsub [0, 2, 3, 4, 1] ([(s, ob 2 [.ref t, .ref m, .int (nI L.length), va_rf (td)]), (t, ob 0 [.ref a, .ref b, .int (nI L.length)]), (a, aJ G 500 ks), (b, aI G 500 vs), (m, aL G 500 mf)]) rfl rfl ?_
      exact v_aret (pc := 25) C X (Or.inl rfl) d_Ls_find_25 ⟨rfl, rfl⟩ (by decide) (by decide)
  | some i =>
    obtain ⟨x, hx, hxk⟩ := fnd_some hf
    have hi := fnd_lt hf
    rw [show adr k L = some x.1.1 by unfold adr; rw [hf]; show (L[i]?.map _) = _; rw [hx]; rfl] at X
    show vv K ({ frames := 2, cells := 0, slots := 0, locals := 49 } : Room) G 4 0 0 ([(s, ob 2 [.ref t, .ref m, .int (nI L.length), va_rf (td)]), (m, aL G 500 mf), (t, ob 0 [.ref a, .ref b, .int (nI L.length)]), (a, aJ G 500 ks), (b, aI G 500 vs)]) 9 [(0, .ref s), (1, .long (lN k))] [.int (nI i)]
    refine v_istore_n (pc := 9) C [(3, .int (nI i)), (0, .ref s), (1, .long (lN k))] d_Ls_find_9 rfl (by decide) rfl ?_
    refine v_iload_n (pc := 10) C 0 d_Ls_find_10 rfl rfl ?_
    refine v_iconst (pc := 11) C (-1) d_Ls_find_11 (by decide +kernel) ?_
    refine v_icmp_ne (pc := 12) C 19 d_Ls_find_12 (by decide) (fun hc => ?_) (fun hc => ?_)
    · refine v_aload_n (pc := 19) C 1 d_Ls_find_19 rfl rfl ?_
      refine v_get (pc := 20) (Cn := "WeightOrder$Lines") (T := T_Ls) (N := 4) (ci := 2) (v := .ref m) C 0 1 rfl rfl hin_Ls (by decide) rfl k_54 rfl d_Ls_find_20 ?_
      refine v_iload_n (pc := 23) C 0 d_Ls_find_23 rfl rfl ?_
      refine v_aaldL (pc := 24) C 1 rfl i rfl (by omega) (by decide) d_Ls_find_24 ?_
      rw [hM i x hx]
      show vv K ({ frames := 2, cells := 0, slots := 0, locals := 49 } : Room) G 4 0 0 ([(s, ob 2 [.ref t, .ref m, .int (nI L.length), va_rf (td)]), (m, aL G 500 mf), (t, ob 0 [.ref a, .ref b, .int (nI L.length)]), (a, aJ G 500 ks), (b, aI G 500 vs)]) 25 [(3, .int (nI i)), (0, .ref s), (1, .long (lN k))] [.ref x.1.1]
      refine v_wsub [0, 2, 3, 4, 1] ([(s, ob 2 [.ref t, .ref m, .int (nI L.length), va_rf (td)]), (t, ob 0 [.ref a, .ref b, .int (nI L.length)]), (a, aJ G 500 ks), (b, aI G 500 vs), (m, aL G 500 mf)]) rfl rfl ?_
      exact v_aret (pc := 25) C X (Or.inr ⟨_, rfl⟩) d_Ls_find_25 ⟨rfl, rfl⟩ (by decide) (by decide)
    · exact absurd hc (by intro z; have h1 := congrArg Int32.toInt z; rw [nI_toInt (by omega)] at h1; have h2 : (-1 : Int32).toInt = -1 := rfl; omega)

section PR
variable {K : Kx} {R : Room} {G : Gx} {nL cells slots : Nat} {pc : Nat} {lv : List (Nat × Value)} {st : List Value} {X Y P : va_W} {A B L : List LnX} {x : LnX}
theorem v_swap (kk : vv K R G nL cells slots ((X ++ Y) ++ P) pc lv st) : vv K R G nL cells slots ((X ++ P) ++ Y) pc lv st := by
  refine v_perm _ ?_ kk
  rw [List.append_assoc, List.append_assoc]
  exact List.Perm.append_left X List.perm_append_comm
theorem sp_poolR {Xr wc : va_W} (isR isC : List Nat) (hR : isR.map (fun i => X[i]?) = Xr.map some) (hC : isC.map (fun i => X[i]?) = wc.map some) (hn : va_nd (isR ++ isC) = true) : Sp (X ++ P) (Xr ++ P) wc := by
  refine ⟨fun D H hP => ⟨?_, fun k q hq => ?_⟩, fun A hD => ?_⟩
  · exact va_P.app (fun k q hq => by obtain ⟨i, -, h⟩ := sp_at hR hq; exact hP i q (sp_get h)) (fun k q hq => hP (X.length + k) q (by rw [List.getElem?_append_right (Nat.le_add_right _ _), Nat.add_sub_cancel_left]; exact hq))
  · obtain ⟨i, -, h⟩ := sp_at hC hq
    exact hP i q (sp_get h)
  · exact (hD.part (isR ++ isC) hn (by rw [List.map_append, List.map_append, hR, hC])).swap
theorem sp_poolC {Xr Xc : va_W} (isR isC : List Nat) (hR : isR.map (fun i => X[i]?) = Xr.map some) (hC : isC.map (fun i => X[i]?) = Xc.map some) (hn : va_nd (isR ++ isC) = true) : Sp (X ++ P) Xr (Xc ++ P) := by
  refine ⟨fun D H hP => ⟨fun k q hq => ?_, ?_⟩, fun A hD => ?_⟩
  · obtain ⟨i, -, h⟩ := sp_at hR hq
    exact hP i q (sp_get h)
  · exact va_P.app (fun k q hq => by obtain ⟨i, -, h⟩ := sp_at hC hq; exact hP i q (sp_get h)) (fun k q hq => hP (X.length + k) q (by rw [List.getElem?_append_right (Nat.le_add_right _ _), Nat.add_sub_cancel_left]; exact hq))
  · rw [← List.append_assoc]
    exact hD.part (isR ++ isC) hn (by rw [List.map_append, List.map_append, hR, hC])
theorem v_wsubP (is : List Nat) (X' : va_W) (hn : va_nd is = true) (h : is.map (fun i => X[i]?) = X'.map some) (kk : vv K R G nL cells slots (X' ++ P) pc lv st) : vv K R G nL cells slots (X ++ P) pc lv st := by
  obtain ⟨p, l, e, s, m, args, below, meth, c, Q, A⟩ := K
  intro H locs ls hP hD hS hl
  refine kk H locs ls ?_ (hD.part is hn h) hS hl
  exact va_P.app (fun k q hq => by obtain ⟨i, -, h⟩ := sp_at h hq; exact hP i q (sp_get h)) (fun k q hq => hP (X.length + k) q (by rw [List.getElem?_append_right (Nat.le_add_right _ _), Nat.add_sub_cancel_left]; exact hq))
theorem lout_perm : (X ++ lpool G (A ++ x :: B)).Perm ((X ++ lcells G x) ++ lpool G (A ++ B)) := by
  refine (lpool_out G X A B x).trans ?_
  rw [List.append_assoc, List.append_assoc]
  exact List.Perm.append_left X List.perm_append_comm
theorem v_lout (kk : vv K R G nL cells slots ((X ++ lcells G x) ++ lpool G (A ++ B)) pc lv st) : vv K R G nL cells slots (X ++ lpool G (A ++ x :: B)) pc lv st := v_perm _ lout_perm kk
theorem v_lin (kk : vv K R G nL cells slots (X ++ lpool G (A ++ x :: B)) pc lv st) : vv K R G nL cells slots ((X ++ lcells G x) ++ lpool G (A ++ B)) pc lv st := v_perm _ lout_perm.symm kk
theorem v_lnew (kk : vv K R G nL cells slots (X ++ lpool G (L ++ [x])) pc lv st) : vv K R G nL cells slots ((X ++ lcells G x) ++ lpool G L) pc lv st := by
  refine v_perm _ ?_ kk
  rw [lpool_app, lpool_one, List.append_assoc]
  exact List.Perm.append_left X List.perm_append_comm
end PR
theorem fnd_keys (j : Nat) (L : List LnX) : fnd j L = (L.map (·.2.1)).findIdx? (· == j) := by
  unfold fnd
  rw [List.findIdx?_map]
  rfl
theorem map_set_same {α β : Type} (f : α → β) {L : List α} {i : Nat} {x y : α} (h : L[i]? = some x) (e : f y = f x) : (L.set i y).map f = L.map f := by
  rw [List.map_set, e]
  refine List.ext_getElem? (fun j => ?_)
  rw [List.getElem?_set]
  split
  · rename_i c
    subst c
    rw [List.getElem?_map, h]
    have := (List.getElem?_eq_some_iff.mp h).1
    simp [this]
  · rfl
theorem fnd_set {L : List LnX} {i : Nat} {x y : LnX} (h : L[i]? = some x) (e : y.2.1 = x.2.1) (j : Nat) : fnd j (L.set i y) = fnd j L := by
  rw [fnd_keys, fnd_keys, map_set_same (·.2.1) h e]
theorem fnd_new {L : List LnX} {x : LnX} {k : Nat} (h : fnd k L = none) (e : x.2.1 = k) (j : Nat) : (fnd j (L ++ [x])).map nI = if j = k then some (nI L.length) else (fnd j L).map nI := by
  unfold fnd at h ⊢
  rw [List.findIdx?_append]
  by_cases c : j = k
  · subst c
    rw [if_pos rfl, h]
    simp [e]
  · rw [if_neg c]
    have : ((fun x : LnX => x.2.1 == j) x) = false := by simp [e]; exact fun z => c z.symm
    cases hj : List.findIdx? (fun x : LnX => x.2.1 == j) L with
    | none => simp [this]
    | some i => simp
theorem abs_set {L : List LnX} {i : Nat} (y : LnX) : absL (L.set i y) = (absL L).set i (y.2.1, y.2.2.1) := by unfold absL; rw [List.map_set]
theorem lok_set {L : List LnX} {i : Nat} {y : LnX} (h : LOk L) (hy : y.2.2.1.length ≤ 8 ∧ LnS y.2.2.1 y.2.2.2.1 y.2.2.2.2) : LOk (L.set i y) := by
  refine ⟨by rw [List.length_set]; exact h.1, fun x hx => ?_⟩
  rcases List.mem_or_eq_of_mem_set hx with hx | rfl
  · exact h.2 x hx
  · exact hy
theorem mds_set {L : List LnX} {i : Nat} {x y : LnX} {mf : Nat → Option Nat} (h : MdS L mf) (hx : L[i]? = some x) (e : y.1.1 = x.1.1) : MdS (L.set i y) mf := by
  intro j z hz
  rw [List.getElem?_set] at hz
  split at hz
  · rename_i c
    subst c
    split at hz
    · cases hz
      rw [e]; exact h i x hx
    · cases hz
  · exact h j z hz
theorem lns_nil (fp : Nat → Int64) (fv : Nat → Int32) : LnS [] fp fv := ⟨fun _ h => absurd h List.not_mem_nil, fun i e h => by cases h⟩
theorem lok_new {L : List LnX} {x : LnX} (h : LOk L) (hl : L.length < 500) (e : x.2.2.1 = []) : LOk (L ++ [x]) := by
  refine ⟨by simp; omega, fun y hy => ?_⟩
  rcases List.mem_append.mp hy with hy | hy
  · exact h.2 y hy
  · rw [List.mem_singleton.mp hy, e]
    exact ⟨by decide, lns_nil _ _⟩
theorem mds_new {L : List LnX} {x : LnX} {mf : Nat → Option Nat} (h : MdS L mf) : MdS (L ++ [x]) (va_up mf L.length (some x.1.1)) := by
  intro j z hz
  rcases Nat.lt_trichotomy j L.length with c | c | c
  · rw [List.getElem?_append_left c] at hz
    rw [va_up_ne _ _ (by omega)]
    exact h j z hz
  · subst c
    rw [List.getElem?_append_right (Nat.le_refl _), Nat.sub_self] at hz
    cases hz
    rw [va_up_self]
  · rw [List.getElem?_eq_none (by simp; omega)] at hz
    cases hz

set_option maxHeartbeats 4000000 in
set_option maxRecDepth 100000 in
theorem c_Ls_tell (l : Launch) (G : Gx) (s t a b m : Nat) (td : Option Nat) (ks : Nat → Int64) (vs : Nat → Int32) (mf : Nat → Option Nat) (L : List LnX) (k : Nat) (hL : LOk L) (hT : TB ks vs L.length (fun j => (fnd j L).map nI)) (hM : MdS L mf) (hk : k < 9223372036854775808) (hroom : fnd k L = none → L.length < 500) : CT l G y_Ls_tell b_Ls_tell 4 none ({ frames := 3, cells := 3, slots := 19, locals := 110 } : Room) ([(s, ob 2 [.ref t, .ref m, .int (nI L.length), va_rf (td)]), (t, ob 0 [.ref a, .ref b, .int (nI L.length)]), (a, aJ G 500 ks), (b, aI G 500 vs), (m, aL G 500 mf)] ++ lpool G L) [.ref s, .long (lN k)] (fun r w' => r = none ∧ ∃ L' ks' vs' mf' td', w' = [(s, ob 2 [.ref t, .ref m, .int (nI L'.length), va_rf (td')]), (t, ob 0 [.ref a, .ref b, .int (nI L'.length)]), (a, aJ G 500 ks'), (b, aI G 500 vs'), (m, aL G 500 mf')] ++ lpool G L' ∧ LOk L' ∧ TB ks' vs' L'.length (fun j => (fnd j L').map nI) ∧ MdS L' mf' ∧ absL L' = tellA k (absL L) ∧ ∃ x, L'[tellI k (absL L)]? = some x ∧ td' = some x.1.1) := by
  refine ct_of [(0, .ref s), (1, .long (lN k))] (by decide) (Nat.le_of_ble_eq_true rfl) rfl (fun K hKl hNI C X => ?_)
  subst hKl
  refine v_aload_n (pc := 0) C 0 d_Ls_tell_0 rfl rfl ?_
  refine v_lload_n (pc := 1) C 1 d_Ls_tell_1 rfl rfl ?_
  refine v_callV (pc := 2) (As := [.long (lN k)]) (rest := []) C (c_Ls_find _ G s t a b m td ks vs mf L k hL hT hM hk) l_Ls_34 ([] ++ lpool G L) (sp_poolR [] [0, 1, 2, 3, 4] rfl rfl rfl) 0 rfl rfl rfl rfl rfl (Nat.le_of_ble_eq_true rfl) (by decide) (by decide) (by decide) (by decide) d_Ls_tell_2 (fun r w' hq => ?_)
  obtain ⟨rfl, rfl⟩ := hq
  refine v_swap ?_
  show vv K ({ frames := 3, cells := 3, slots := 19, locals := 110 } : Room) G 4 0 0 ([(s, ob 2 [.ref t, .ref m, .int (nI L.length), va_rf (td)]), (t, ob 0 [.ref a, .ref b, .int (nI L.length)]), (a, aJ G 500 ks), (b, aI G 500 vs), (m, aL G 500 mf)] ++ lpool G L) 5 [(0, .ref s), (1, .long (lN k))] [va_rf (adr k L)]
  have hn := hL.1
  cases hf : fnd k L with
  | none =>
    have hlt := hroom hf
    rw [show adr k L = none by unfold adr; rw [hf]; rfl]
    show vv K ({ frames := 3, cells := 3, slots := 19, locals := 110 } : Room) G 4 0 0 ([(s, ob 2 [.ref t, .ref m, .int (nI L.length), va_rf (td)]), (t, ob 0 [.ref a, .ref b, .int (nI L.length)]), (a, aJ G 500 ks), (b, aI G 500 vs), (m, aL G 500 mf)] ++ lpool G L) 5 [(0, .ref s), (1, .long (lN k))] [.null]
    refine v_astore_nN (pc := 5) C [(3, .null), (0, .ref s), (1, .long (lN k))] d_Ls_tell_5 rfl (by decide) rfl ?_
    refine v_aload_nN (pc := 6) C 0 d_Ls_tell_6 rfl rfl ?_
    refine v_ifnonnullN (pc := 7) C d_Ls_tell_7 ?_
    refine v_new (pc := 10) C [.null, .null, .int (nI 0)] t_Li t_Li_ok hin_Li (ci := 1) rfl k_51 k_297 k_14 (fun j hj => by rcases (show j = 0 ∨ j = 1 ∨ j = 2 by omega) with rfl | rfl | rfl <;> rfl) (by decide) (by decide) d_Ls_tell_10 (fun z => ?_)
    refine v_swap ?_
    show vv K ({ frames := 3, cells := 3, slots := 19, locals := 110 } : Room) G 4 1 3 ([(s, ob 2 [.ref t, .ref m, .int (nI L.length), va_rf (td)]), (t, ob 0 [.ref a, .ref b, .int (nI L.length)]), (a, aJ G 500 ks), (b, aI G 500 vs), (m, aL G 500 mf), (z, ob 1 [.null, .null, .int (nI 0)])] ++ lpool G L) 13 [(3, .null), (0, .ref s), (1, .long (lN k))] [.ref z]
    refine v_dup (pc := 13) C d_Ls_tell_13 rfl ?_
    refine v_callI (pc := 14) (As := []) (rest := [.ref z]) C (c_Li_init _ G z) l_Ls_38 ([(s, ob 2 [.ref t, .ref m, .int (nI L.length), va_rf (td)]), (t, ob 0 [.ref a, .ref b, .int (nI L.length)]), (a, aJ G 500 ks), (b, aI G 500 vs), (m, aL G 500 mf)] ++ lpool G L) (sp_poolR [0, 1, 2, 3, 4] [5] rfl rfl rfl) rfl rfl (Nat.le_of_ble_eq_true rfl) (by decide) (by decide) (by decide) (by decide) d_Ls_tell_14 (fun r w' hq => ?_)
    obtain ⟨rfl, zp, zq, rfl⟩ := hq
    refine v_swap ?_
    show vv K ({ frames := 3, cells := 3, slots := 19, locals := 110 } : Room) G 4 3 19 ([(s, ob 2 [.ref t, .ref m, .int (nI L.length), va_rf (td)]), (t, ob 0 [.ref a, .ref b, .int (nI L.length)]), (a, aJ G 500 ks), (b, aI G 500 vs), (m, aL G 500 mf), (z, ob 1 [.ref zp, .ref zq, .int (nI 0)]), (zp, aJ G 8 (fun _ => 0)), (zq, aZ G 8 (fun _ => 0))] ++ lpool G L) 17 [(3, .null), (0, .ref s), (1, .long (lN k))] [.ref z]
    refine v_astore_n (pc := 17) C [(3, .ref z), (0, .ref s), (1, .long (lN k))] d_Ls_tell_17 rfl (by decide) rfl ?_
    refine v_aload_n (pc := 18) C 1 d_Ls_tell_18 rfl rfl ?_
    refine v_get (pc := 19) (Cn := "WeightOrder$Lines") (T := T_Ls) (N := 4) (ci := 2) (v := .ref t) C 0 0 rfl rfl hin_Ls (by decide) rfl k_53 rfl d_Ls_tell_19 ?_
    refine v_lload_n (pc := 22) C 2 d_Ls_tell_22 rfl rfl ?_
    refine v_aload_n (pc := 23) C 1 d_Ls_tell_23 rfl rfl ?_
    refine v_get (pc := 24) (Cn := "WeightOrder$Lines") (T := T_Ls) (N := 4) (ci := 2) (v := .int (nI L.length)) C 0 2 rfl rfl hin_Ls (by decide) rfl k_55 rfl d_Ls_tell_24 ?_
    refine v_callV (pc := 27) (As := [.long (lN k), .int (nI L.length)]) (rest := []) C (c_Ta_put _ G t a b 500 ks vs L.length _ k (nI L.length) (by decide) hn hT hk (fun _ => hlt)) l_Ls_39 ([(s, ob 2 [.ref t, .ref m, .int (nI L.length), va_rf (td)]), (m, aL G 500 mf), (z, ob 1 [.ref zp, .ref zq, .int (nI 0)]), (zp, aJ G 8 (fun _ => 0)), (zq, aZ G 8 (fun _ => 0))] ++ lpool G L) (sp_poolR [0, 4, 5, 6, 7] [1, 2, 3] rfl rfl rfl) 0 rfl rfl rfl rfl rfl (Nat.le_of_ble_eq_true rfl) (by decide) (by decide) (by decide) (by decide) d_Ls_tell_27 (fun r w' hq => ?_)
    obtain ⟨rfl, ks2, vs2, n2, rfl, hT2, hn2⟩ := hq
    refine v_swap ?_
    show vv K ({ frames := 3, cells := 3, slots := 19, locals := 110 } : Room) G 4 3 19 ([(s, ob 2 [.ref t, .ref m, .int (nI L.length), va_rf (td)]), (m, aL G 500 mf), (z, ob 1 [.ref zp, .ref zq, .int (nI 0)]), (zp, aJ G 8 (fun _ => 0)), (zq, aZ G 8 (fun _ => 0)), (t, ob 0 [.ref a, .ref b, .int (nI n2)]), (a, aJ G 500 ks2), (b, aI G 500 vs2)] ++ lpool G L) 30 [(3, .ref z), (0, .ref s), (1, .long (lN k))] []
    rw [if_pos (show (fnd k L).map nI = none by rw [hf]; rfl)] at hn2
    subst hn2
    refine v_aload_n (pc := 30) C 1 d_Ls_tell_30 rfl rfl ?_
    refine v_get (pc := 31) (Cn := "WeightOrder$Lines") (T := T_Ls) (N := 4) (ci := 2) (v := .ref m) C 0 1 rfl rfl hin_Ls (by decide) rfl k_54 rfl d_Ls_tell_31 ?_
    refine v_aload_n (pc := 34) C 1 d_Ls_tell_34 rfl rfl ?_
    refine v_get (pc := 35) (Cn := "WeightOrder$Lines") (T := T_Ls) (N := 4) (ci := 2) (v := .int (nI L.length)) C 0 2 rfl rfl hin_Ls (by decide) rfl k_55 rfl d_Ls_tell_35 ?_
    refine v_aload_n (pc := 38) C 0 d_Ls_tell_38 rfl rfl ?_
    refine v_aastL (pc := 39) C 1 2 ([(s, ob 2 [.ref t, .ref m, .int (nI L.length), va_rf (td)]), (m, aL G 500 (va_up mf L.length (some z))), (z, ob 1 [.ref zp, .ref zq, .int (nI 0)]), (zp, aJ G 8 (fun _ => 0)), (zq, aZ G 8 (fun _ => 0)), (t, ob 0 [.ref a, .ref b, .int (nI (L.length + 1))]), (a, aJ G 500 ks2), (b, aI G 500 vs2)] ++ lpool G L) rfl rfl rfl rfl L.length rfl (by omega) (by decide) rfl d_Ls_tell_39 ?_
    refine v_aload_n (pc := 40) C 1 d_Ls_tell_40 rfl rfl ?_
    refine v_dup (pc := 41) C d_Ls_tell_41 rfl ?_
    refine v_get (pc := 42) (Cn := "WeightOrder$Lines") (T := T_Ls) (N := 4) (ci := 2) (v := .int (nI L.length)) C 0 2 rfl rfl hin_Ls (by decide) rfl k_55 rfl d_Ls_tell_42 ?_
    refine v_iconst (pc := 45) C (nI 1) d_Ls_tell_45 (by decide +kernel) ?_
    refine v_iadd (pc := 46) C (nI (L.length + 1)) d_Ls_tell_46 (nI_add _ _) ?_
    refine v_put (pc := 47) (Cn := "WeightOrder$Lines") (T := T_Ls) (N := 4) (ci := 2) (v := .int (nI (L.length + 1))) C 0 2 rfl rfl hin_Ls (by decide) rfl ([(s, ob 2 [.ref t, .ref m, .int (nI (L.length + 1)), va_rf (td)]), (m, aL G 500 (va_up mf L.length (some z))), (z, ob 1 [.ref zp, .ref zq, .int (nI 0)]), (zp, aJ G 8 (fun _ => 0)), (zq, aZ G 8 (fun _ => 0)), (t, ob 0 [.ref a, .ref b, .int (nI (L.length + 1))]), (a, aJ G 500 ks2), (b, aI G 500 vs2)] ++ lpool G L) t_Ls t_Ls_ok n_Ls (.int) rfl rfl rfl (Nat.le_of_ble_eq_true rfl) rfl rfl k_55 d_Ls_tell_47 ?_
    refine v_aload_n (pc := 50) C 0 d_Ls_tell_50 rfl rfl ?_
    refine v_iconst (pc := 51) C (nI 0) d_Ls_tell_51 (by decide +kernel) ?_
    refine v_putN (pc := 52) (Cn := "WeightOrder$Line") (T := T_Li) (N := 3) (ci := 1) (v := .int (nI 0)) C 2 2 rfl rfl hin_Li (by decide) rfl ([(s, ob 2 [.ref t, .ref m, .int (nI (L.length + 1)), va_rf (td)]), (m, aL G 500 (va_up mf L.length (some z))), (z, ob 1 [.ref zp, .ref zq, .int (nI 0)]), (zp, aJ G 8 (fun _ => 0)), (zq, aZ G 8 (fun _ => 0)), (t, ob 0 [.ref a, .ref b, .int (nI (L.length + 1))]), (a, aJ G 500 ks2), (b, aI G 500 vs2)] ++ lpool G L) t_Li t_Li_ok n_Li (.int) rfl rfl rfl (Nat.le_of_ble_eq_true rfl) rfl rfl k_308 d_Ls_tell_52 ?_
    refine v_aload_n (pc := 55) C 1 d_Ls_tell_55 rfl rfl ?_
    refine v_aload_n (pc := 56) C 0 d_Ls_tell_56 rfl rfl ?_
    refine v_put (pc := 57) (Cn := "WeightOrder$Lines") (T := T_Ls) (N := 4) (ci := 2) (v := .ref z) C 0 3 rfl rfl hin_Ls (by decide) rfl ([(s, ob 2 [.ref t, .ref m, .int (nI (L.length + 1)), .ref z]), (m, aL G 500 (va_up mf L.length (some z))), (z, ob 1 [.ref zp, .ref zq, .int (nI 0)]), (zp, aJ G 8 (fun _ => 0)), (zq, aZ G 8 (fun _ => 0)), (t, ob 0 [.ref a, .ref b, .int (nI (L.length + 1))]), (a, aJ G 500 ks2), (b, aI G 500 vs2)] ++ lpool G L) t_Ls t_Ls_ok n_Ls (.object "WeightOrder$Line") rfl rfl rfl (Nat.le_of_ble_eq_true rfl) rfl rfl k_58 d_Ls_tell_57 ?_
    refine v_wsubP [0, 5, 6, 7, 1, 2, 3, 4] ([(s, ob 2 [.ref t, .ref m, .int (nI (L.length + 1)), .ref z]), (t, ob 0 [.ref a, .ref b, .int (nI (L.length + 1))]), (a, aJ G 500 ks2), (b, aI G 500 vs2), (m, aL G 500 (va_up mf L.length (some z))), (z, ob 1 [.ref zp, .ref zq, .int (nI 0)]), (zp, aJ G 8 (fun _ => 0)), (zq, aZ G 8 (fun _ => 0))]) rfl rfl ?_
    obtain ⟨x, hx⟩ : ∃ x : LnX, x = ((z, zp, zq), k, [], (fun _ => 0), (fun _ => 0)) := ⟨_, rfl⟩
    have hl1 : (L ++ [x]).length = L.length + 1 := by simp
    refine v_lnew (X := [(s, ob 2 [.ref t, .ref m, .int (nI (L.length + 1)), .ref z]), (t, ob 0 [.ref a, .ref b, .int (nI (L.length + 1))]), (a, aJ G 500 ks2), (b, aI G 500 vs2), (m, aL G 500 (va_up mf L.length (some z)))]) (x := ((z, zp, zq), k, [], (fun _ => 0), (fun _ => 0))) ?_
    rw [← hx]
    exact v_vret (pc := 60) C X d_Ls_tell_60 ⟨rfl, L ++ [x], ks2, vs2, va_up mf L.length (some z), some z, by rw [hl1]; rfl, lok_new hL hlt (by rw [hx]), by rw [hl1, funext (fnd_new (x := x) hf (by rw [hx]))]; exact hT2, by have := mds_new (x := x) hM; rw [show x.1.1 = z by rw [hx]] at this; exact this, by unfold tellA; rw [fnd_abs, hf]; show absL (L ++ [x]) = _; unfold absL; rw [List.map_append, hx]; rfl, x, by unfold tellI; rw [fnd_abs, hf]; show (L ++ [x])[(absL L).length]? = _; unfold absL; rw [List.length_map, List.getElem?_append_right (Nat.le_refl _), Nat.sub_self]; rfl, by rw [hx]⟩ (by decide) (by decide)
  | some i =>
    obtain ⟨x, hx, hxk⟩ := fnd_some hf
    have hi := fnd_lt hf
    rw [show adr k L = some x.1.1 by unfold adr; rw [hf]; show (L[i]?.map _) = _; rw [hx]; rfl]
    show vv K ({ frames := 3, cells := 3, slots := 19, locals := 110 } : Room) G 4 0 0 ([(s, ob 2 [.ref t, .ref m, .int (nI L.length), va_rf (td)]), (t, ob 0 [.ref a, .ref b, .int (nI L.length)]), (a, aJ G 500 ks), (b, aI G 500 vs), (m, aL G 500 mf)] ++ lpool G L) 5 [(0, .ref s), (1, .long (lN k))] [.ref x.1.1]
    refine v_astore_n (pc := 5) C [(3, .ref x.1.1), (0, .ref s), (1, .long (lN k))] d_Ls_tell_5 rfl (by decide) rfl ?_
    refine v_aload_n (pc := 6) C 0 d_Ls_tell_6 rfl rfl ?_
    refine v_ifnonnull (pc := 7) C 50 d_Ls_tell_7 (by decide) ?_
    obtain ⟨LA, LB, e1, -, e2⟩ := lset_split hx
    have e3 := e2 (x.1, x.2.1, [], x.2.2.2.1, x.2.2.2.2)
    rw [show lpool G L = lpool G (LA ++ x :: LB) by rw [← e1]]
    refine v_lout ?_
    show vv K ({ frames := 3, cells := 3, slots := 19, locals := 110 } : Room) G 4 0 0 ([(s, ob 2 [.ref t, .ref m, .int (nI L.length), va_rf (td)]), (t, ob 0 [.ref a, .ref b, .int (nI L.length)]), (a, aJ G 500 ks), (b, aI G 500 vs), (m, aL G 500 mf), (x.1.1, ob 1 [.ref x.1.2.1, .ref x.1.2.2, .int (nI x.2.2.1.length)]), (x.1.2.1, aJ G 8 x.2.2.2.1), (x.1.2.2, aZ G 8 x.2.2.2.2)] ++ lpool G (LA ++ LB)) 50 [(3, .ref x.1.1), (0, .ref s), (1, .long (lN k))] []
    refine v_aload_n (pc := 50) C 0 d_Ls_tell_50 rfl rfl ?_
    refine v_iconst (pc := 51) C (nI 0) d_Ls_tell_51 (by decide +kernel) ?_
    refine v_putN (pc := 52) (Cn := "WeightOrder$Line") (T := T_Li) (N := 3) (ci := 1) (v := .int (nI 0)) C 5 2 rfl rfl hin_Li (by decide) rfl ([(s, ob 2 [.ref t, .ref m, .int (nI L.length), va_rf (td)]), (t, ob 0 [.ref a, .ref b, .int (nI L.length)]), (a, aJ G 500 ks), (b, aI G 500 vs), (m, aL G 500 mf), (x.1.1, ob 1 [.ref x.1.2.1, .ref x.1.2.2, .int (nI 0)]), (x.1.2.1, aJ G 8 x.2.2.2.1), (x.1.2.2, aZ G 8 x.2.2.2.2)] ++ lpool G (LA ++ LB)) t_Li t_Li_ok n_Li (.int) rfl rfl rfl (Nat.le_of_ble_eq_true rfl) rfl rfl k_308 d_Ls_tell_52 ?_
    refine v_aload_n (pc := 55) C 1 d_Ls_tell_55 rfl rfl ?_
    refine v_aload_n (pc := 56) C 0 d_Ls_tell_56 rfl rfl ?_
    refine v_put (pc := 57) (Cn := "WeightOrder$Lines") (T := T_Ls) (N := 4) (ci := 2) (v := .ref x.1.1) C 0 3 rfl rfl hin_Ls (by decide) rfl ([(s, ob 2 [.ref t, .ref m, .int (nI L.length), .ref x.1.1]), (t, ob 0 [.ref a, .ref b, .int (nI L.length)]), (a, aJ G 500 ks), (b, aI G 500 vs), (m, aL G 500 mf), (x.1.1, ob 1 [.ref x.1.2.1, .ref x.1.2.2, .int (nI 0)]), (x.1.2.1, aJ G 8 x.2.2.2.1), (x.1.2.2, aZ G 8 x.2.2.2.2)] ++ lpool G (LA ++ LB)) t_Ls t_Ls_ok n_Ls (.object "WeightOrder$Line") rfl rfl rfl (Nat.le_of_ble_eq_true rfl) rfl rfl k_58 d_Ls_tell_57 ?_
    refine v_lin (X := [(s, ob 2 [.ref t, .ref m, .int (nI L.length), .ref x.1.1]), (t, ob 0 [.ref a, .ref b, .int (nI L.length)]), (a, aJ G 500 ks), (b, aI G 500 vs), (m, aL G 500 mf)]) (x := (x.1, x.2.1, [], x.2.2.2.1, x.2.2.2.2)) ?_
    rw [← e3]
    have hl1 : (L.set i (x.1, x.2.1, [], x.2.2.2.1, x.2.2.2.2)).length = L.length := List.length_set
    exact v_vret (pc := 60) C X d_Ls_tell_60 ⟨rfl, L.set i (x.1, x.2.1, [], x.2.2.2.1, x.2.2.2.2), ks, vs, mf, some x.1.1, by rw [hl1]; rfl, lok_set hL ⟨Nat.zero_le _, lns_nil _ _⟩, by rw [hl1, show (fun j => (fnd j (L.set i (x.1, x.2.1, [], x.2.2.2.1, x.2.2.2.2))).map nI) = fun j => (fnd j L).map nI from funext (fun j => congrArg (Option.map nI) (fnd_set (y := (x.1, x.2.1, [], x.2.2.2.1, x.2.2.2.2)) hx rfl j))]; exact hT, mds_set hM hx rfl, by unfold tellA; rw [fnd_abs, hf, abs_set, hxk], (x.1, x.2.1, [], x.2.2.2.1, x.2.2.2.2), by unfold tellI; rw [fnd_abs, hf]; show (L.set i _)[i]? = _; rw [List.getElem?_set]; simp [hi], rfl⟩ (by decide) (by decide)
