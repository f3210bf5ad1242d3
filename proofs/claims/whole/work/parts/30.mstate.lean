/-! The reference: its state; order, line, element, add, clear -/
def tcell (G : Gx) (y : Nat × (Nat → Int32)) : Nat × va_E := (y.1, aI G 200 y.2)
def tpool (G : Gx) (TL : List (Nat × (Nat → Int32))) : va_W := TL.map (tcell G)
def TxS (TL : List (Nat × (Nat → Int32))) (SZ : Nat → Int32) (rws : List (List Nat)) : Prop := TL.length = 4 ∧ rws.length = 4 ∧ ∀ r y row, TL[r]? = some y → rws[r]? = some row → RwS row y.2 ∧ SZ r = nI row.length
def TfS (TL : List (Nat × (Nat → Int32))) (tf : Nat → Option Nat) : Prop := ∀ r y, TL[r]? = some y → tf r = some y.1
section PT
variable {K : Kx} {R : Room} {G : Gx} {nL cells slots : Nat} {pc : Nat} {lv : List (Nat × Value)} {st : List Value} {X : va_W} {A B : List (Nat × (Nat → Int32))} {y : Nat × (Nat → Int32)}
theorem tout_perm : (X ++ tpool G (A ++ y :: B)).Perm ((X ++ [(y.1, aI G 200 y.2)]) ++ tpool G (A ++ B)) := by
  rw [List.append_assoc]
  refine List.Perm.append_left X ?_
  unfold tpool
  rw [List.map_append, List.map_append, List.map_cons]
  exact List.perm_middle
theorem v_tout (kk : vv K R G nL cells slots ((X ++ [(y.1, aI G 200 y.2)]) ++ tpool G (A ++ B)) pc lv st) : vv K R G nL cells slots (X ++ tpool G (A ++ y :: B)) pc lv st := v_perm _ tout_perm kk
theorem v_tin (kk : vv K R G nL cells slots (X ++ tpool G (A ++ y :: B)) pc lv st) : vv K R G nL cells slots ((X ++ [(y.1, aI G 200 y.2)]) ++ tpool G (A ++ B)) pc lv st := v_perm _ tout_perm.symm kk
theorem v_aaldII {w : va_W} {cc : ByteArray} {own : String} (C : CX K G nL cc own) (q0 : Nat) {a n : Nat} {f : Nat → Option Nat} (ha : w[q0]? = some (a, aII G n f)) (j : Nat) {i : Int32} (hi : i = nI j) (hj : j < n) (hb : n < 2147483648) (hd : decode cc pc = .ok (.aaload, 1)) (kk : vv K R G nL cells slots w (pc + 1) lv (va_rf (f j) :: st)) : vv K R G nL cells slots w pc lv (.int i :: .ref a :: st) := by
  obtain ⟨p, l, e, s, m, args, below, meth, c, Q, A⟩ := K
  intro H locs ls hP hD hS hl
  subst hi
  have hc : (nI j).toNatClampNeg = j := nI_clamp (Nat.lt_trans hj hb)
  have kk := kk H locs ls hP hD hS hl
  exact W.aald (v := va_rf (f j)) (ty := .array .int) C.1 C.2.1 (hP q0 _ ha) ((C.2.2.2.2.2.2.1.2 5 _ rfl).1 n (fun j => va_rf (f j))) rfl (fun q => by cases q) (by show ¬ (nI j < 0 ∨ (arrV _ _ _).slots.size ≤ _); rw [arrV_size]; exact vp_in_nI hj hb) (by show (arrV _ _ _).slots[_]? = _; rw [hc, arrV_read _ _ hj]) rfl rfl hd kk
end PT
theorem txs_row {TL : List (Nat × (Nat → Int32))} {SZ : Nat → Int32} {rws : List (List Nat)} (h : TxS TL SZ rws) {r : Nat} (hr : r ≤ 3) : ∃ y row, TL[r]? = some y ∧ rws[r]? = some row ∧ RwS row y.2 ∧ SZ r = nI row.length := by
  have l1 : r < TL.length := by rw [h.1]; omega
  have l2 : r < rws.length := by rw [h.2.1]; omega
  have h1 : TL[r]? = some TL[r] := List.getElem?_eq_getElem l1
  have h2 : rws[r]? = some rws[r] := List.getElem?_eq_getElem l2
  exact ⟨_, _, h1, h2, h.2.2 r _ _ h1 h2⟩
theorem txs_set {TL : List (Nat × (Nat → Int32))} {SZ : Nat → Int32} {rws : List (List Nat)} (h : TxS TL SZ rws) {r : Nat} {y : Nat × (Nat → Int32)} {row : List Nat} (hr : r ≤ 3) (hy : RwS row y.2) : TxS (TL.set r y) (upd SZ r (nI row.length)) (rws.set r row) := by
  refine ⟨by rw [List.length_set]; exact h.1, by rw [List.length_set]; exact h.2.1, fun i z rw hz hrw => ?_⟩
  rw [List.getElem?_set] at hz hrw
  by_cases c : r = i
  · subst c
    rw [if_pos rfl, if_pos (by rw [h.1]; omega)] at hz
    rw [if_pos rfl, if_pos (by rw [h.2.1]; omega)] at hrw
    cases hz; cases hrw
    exact ⟨hy, pk_us⟩
  · rw [if_neg c] at hz hrw
    rw [pk_un (fun e => c e.symm)]
    exact h.2.2 i z rw hz hrw
theorem tfs_set {TL : List (Nat × (Nat → Int32))} {tf : Nat → Option Nat} {r : Nat} {y z : Nat × (Nat → Int32)} (h : TfS TL tf) (hy : TL[r]? = some y) (e : z.1 = y.1) : TfS (TL.set r z) tf := by
  intro i u hu
  rw [List.getElem?_set] at hu
  split at hu
  · rename_i c
    subst c
    split at hu
    · cases hu
      rw [e]; exact h r y hy
    · cases hu
  · exact h i u hu
theorem rowA_get {cl : Nat → Nat} {A : List (Nat × List E4)} {told : Option Nat} {rws : List (List Nat)} {r : Nat} {row : List Nat} (h : rws[r]? = some row) : rowA (cl, A, told, rws) r = row := by
  unfold rowA
  rw [List.getD_eq_getElem?_getD, h]
  rfl
theorem esA_get {A : List (Nat × List E4)} {i : Nat} {x : Nat × List E4} (h : A[i]? = some x) : esA A i = x.2 := by unfold esA; rw [h]; rfl
theorem getD_get {A : List (Nat × List E4)} {i : Nat} {x : Nat × List E4} (h : A[i]? = some x) : A.getD i (0, []) = x := by rw [List.getD_eq_getElem?_getD, h]; rfl

/-- the world w of the reference at h with the state σ; fl is what it says of the last call -/
def MoI (G : Gx) (h k : Nat) (σ : Sg) (fl : Int32) (w : va_W) : Prop := ∃ (pa ca la ro co ea tx sz lf fo f1 nc lz fz : Nat) (td : Int32) (P C9 LN RW CO EA SZ LF FO F1 : Nat → Int32) (tf : Nat → Option Nat) (TL : List (Nat × (Nat → Int32))), w = [(h, ob 7 [.int fl, .ref pa, .ref ca, .int (nI nc), .ref la, .ref ro, .ref co, .ref ea, .int (nI σ.2.1.length), .int td, .ref tx, .ref sz, .ref lf, .int (nI lz), .ref fo, .int (nI fz), .ref f1]), (pa, aI G 5000 P), (ca, aI G 5000 C9), (la, aI G 500 LN), (ro, aI G 1500 RW), (co, aI G 500 CO), (ea, aI G 16000 EA), (tx, aII G 4 tf), (sz, aI G 4 SZ), (lf, aI G 200 LF), (fo, aI G 6400 FO), (f1, aI G 6400 F1)] ++ tpool G TL ∧ nc ≤ k ∧ k ≤ 512 ∧ CM P C9 nc σ.1 ∧ σ.2.1.length ≤ 500 ∧ LM LN RW σ.2.1 ∧ EM CO EA σ.2.1 ∧ td = fiI σ.2.2.1 ∧ (∀ i, σ.2.2.1 = some i → i < σ.2.1.length) ∧ TxS TL SZ σ.2.2.2 ∧ TfS TL tf

set_option maxHeartbeats 4000000 in
set_option maxRecDepth 100000 in
theorem m_order (l : Launch) (G : Gx) (h k : Nat) (σ : Sg) (fl : Int32) (w : va_W) (pt cv : Int32) (hw : MoI G h k σ fl w) (hk : k < 512) : CT l G y_Mo_order b_Mo_order 4 none ({ frames := 2, cells := 0, slots := 0, locals := 60 } : Room) w [.ref h, .int pt, .int cv] (fun r w' => r = none ∧ MoI G h (k + 1) (spOrder σ pt cv).2.2 (nI (spOrder σ pt cv).1) w') := by
  obtain ⟨cl, A, told, rws⟩ := σ
  obtain ⟨pa, ca, la, ro, co, ea, tx, sz, lf, fo, f1, nc, lz, fz, td, P, C9, LN, RW, CO, EA, SZ, LF, FO, F1, tf, TL, rfl, hnc, hk5, hC, hA, hLM, hEM, htd, hti, hTx, hTf⟩ := hw
  have hA : A.length ≤ 500 := hA
  have htd : td = fiI told := htd
  refine ct_of [(0, .ref h), (1, .int pt), (2, .int cv)] (by decide) (Nat.le_of_ble_eq_true rfl) rfl (fun K hKl hNI C X => ?_)
  subst hKl
  show vv K ({ frames := 2, cells := 0, slots := 0, locals := 60 } : Room) G 4 0 0 ([(h, ob 7 [.int fl, .ref pa, .ref ca, .int (nI nc), .ref la, .ref ro, .ref co, .ref ea, .int (nI A.length), .int td, .ref tx, .ref sz, .ref lf, .int (nI lz), .ref fo, .int (nI fz), .ref f1]), (pa, aI G 5000 P), (ca, aI G 5000 C9), (la, aI G 500 LN), (ro, aI G 1500 RW), (co, aI G 500 CO), (ea, aI G 16000 EA), (tx, aII G 4 tf), (sz, aI G 4 SZ), (lf, aI G 200 LF), (fo, aI G 6400 FO), (f1, aI G 6400 F1)] ++ tpool G TL) 0 [(0, .ref h), (1, .int pt), (2, .int cv)] []
  refine v_aload_n (pc := 0) C 0 d_Mo_order_0 rfl rfl ?_
  refine v_iconst (pc := 1) C (nI 0) d_Mo_order_1 (by decide +kernel) ?_
  refine v_put (pc := 2) (Cn := "WeightOrderModel") (T := T_Mo) (N := 17) (ci := 7) (v := .int (nI 0)) C 0 0 rfl rfl hin_Mo (by decide) rfl ([(h, ob 7 [.int (nI 0), .ref pa, .ref ca, .int (nI nc), .ref la, .ref ro, .ref co, .ref ea, .int (nI A.length), .int td, .ref tx, .ref sz, .ref lf, .int (nI lz), .ref fo, .int (nI fz), .ref f1]), (pa, aI G 5000 P), (ca, aI G 5000 C9), (la, aI G 500 LN), (ro, aI G 1500 RW), (co, aI G 500 CO), (ea, aI G 16000 EA), (tx, aII G 4 tf), (sz, aI G 4 SZ), (lf, aI G 200 LF), (fo, aI G 6400 FO), (f1, aI G 6400 F1)] ++ tpool G TL) t_Mo t_Mo_ok n_Mo (.int) rfl rfl rfl (Nat.le_of_ble_eq_true rfl) rfl rfl k_462 d_Mo_order_2 ?_
  refine v_aload_n (pc := 5) C 0 d_Mo_order_5 rfl rfl ?_
  refine v_iload_n (pc := 6) C 1 d_Mo_order_6 rfl rfl ?_
  refine v_callV (pc := 7) (As := [.int pt]) (rest := []) C (c_Mo_out _ G h pa ca la ro co ea tx sz lf fo f1 (nI 0) td nc A.length lz fz pt) l_Mo_53 ([(pa, aI G 5000 P), (ca, aI G 5000 C9), (la, aI G 500 LN), (ro, aI G 1500 RW), (co, aI G 500 CO), (ea, aI G 16000 EA), (tx, aII G 4 tf), (sz, aI G 4 SZ), (lf, aI G 200 LF), (fo, aI G 6400 FO), (f1, aI G 6400 F1)] ++ tpool G TL) (sp_poolR [1, 2, 3, 4, 5, 6, 7, 8, 9, 10, 11] [0] rfl rfl rfl) 0 rfl rfl rfl rfl rfl (Nat.le_of_ble_eq_true rfl) (by decide) (by decide) (by decide) (by decide) d_Mo_order_7 (fun r w' hq => ?_)
  obtain ⟨rfl, rfl⟩ := hq
  refine v_swap ?_
  show vv K ({ frames := 2, cells := 0, slots := 0, locals := 60 } : Room) G 4 0 0 ([(pa, aI G 5000 P), (ca, aI G 5000 C9), (la, aI G 500 LN), (ro, aI G 1500 RW), (co, aI G 500 CO), (ea, aI G 16000 EA), (tx, aII G 4 tf), (sz, aI G 4 SZ), (lf, aI G 200 LF), (fo, aI G 6400 FO), (f1, aI G 6400 F1), (h, ob 7 [.int (nI 0), .ref pa, .ref ca, .int (nI nc), .ref la, .ref ro, .ref co, .ref ea, .int (nI A.length), .int td, .ref tx, .ref sz, .ref lf, .int (nI lz), .ref fo, .int (nI fz), .ref f1])] ++ tpool G TL) 10 [(0, .ref h), (1, .int pt), (2, .int cv)] [.int (ou pt)]
  refine v_if_ne (pc := 10) C 24 d_Mo_order_10 (by decide) (fun h1 => ?_) (fun h1 => ?_)
  · refine v_aload_n (pc := 24) C 0 d_Mo_order_24 rfl rfl ?_
    refine v_iconst (pc := 25) C (nI 1) d_Mo_order_25 (by decide +kernel) ?_
    refine v_put (pc := 26) (Cn := "WeightOrderModel") (T := T_Mo) (N := 17) (ci := 7) (v := .int (nI 1)) C 11 0 rfl rfl hin_Mo (by decide) rfl ([(pa, aI G 5000 P), (ca, aI G 5000 C9), (la, aI G 500 LN), (ro, aI G 1500 RW), (co, aI G 500 CO), (ea, aI G 16000 EA), (tx, aII G 4 tf), (sz, aI G 4 SZ), (lf, aI G 200 LF), (fo, aI G 6400 FO), (f1, aI G 6400 F1), (h, ob 7 [.int (nI 1), .ref pa, .ref ca, .int (nI nc), .ref la, .ref ro, .ref co, .ref ea, .int (nI A.length), .int td, .ref tx, .ref sz, .ref lf, .int (nI lz), .ref fo, .int (nI fz), .ref f1])] ++ tpool G TL) t_Mo t_Mo_ok n_Mo (.int) rfl rfl rfl (Nat.le_of_ble_eq_true rfl) rfl rfl k_462 d_Mo_order_26 ?_
    refine v_goto (pc := 29) C 90 d_Mo_order_29 (by decide) ?_
    refine v_wsubP [11, 0, 1, 2, 3, 4, 5, 6, 7, 8, 9, 10] ([(h, ob 7 [.int (nI 1), .ref pa, .ref ca, .int (nI nc), .ref la, .ref ro, .ref co, .ref ea, .int (nI A.length), .int td, .ref tx, .ref sz, .ref lf, .int (nI lz), .ref fo, .int (nI fz), .ref f1]), (pa, aI G 5000 P), (ca, aI G 5000 C9), (la, aI G 500 LN), (ro, aI G 1500 RW), (co, aI G 500 CO), (ea, aI G 16000 EA), (tx, aII G 4 tf), (sz, aI G 4 SZ), (lf, aI G 200 LF), (fo, aI G 6400 FO), (f1, aI G 6400 F1)]) rfl rfl ?_
    exact v_vret (pc := 90) C X d_Mo_order_90 ⟨rfl, by rw [show spOrder (cl, A, told, rws) pt cv = (1, nI 0, (cl, A, told, rws)) by unfold spOrder; rw [if_pos (Or.inl (ou_1 h1))]]; exact ⟨pa, ca, la, ro, co, ea, tx, sz, lf, fo, f1, nc, lz, fz, td, P, C9, LN, RW, CO, EA, SZ, LF, FO, F1, tf, TL, rfl, (by omega), (by omega), hC, hA, hLM, hEM, htd, hti, hTx, hTf⟩⟩ (by decide) (by decide)
  · have hb1 := ou_0 h1
    refine v_iload_n (pc := 13) C 2 d_Mo_order_13 rfl rfl ?_
    refine v_if_lt (pc := 14) C 24 d_Mo_order_14 (by decide) (fun h2 => ?_) (fun h2 => ?_)
    · refine v_aload_n (pc := 24) C 0 d_Mo_order_24 rfl rfl ?_
      refine v_iconst (pc := 25) C (nI 1) d_Mo_order_25 (by decide +kernel) ?_
      refine v_put (pc := 26) (Cn := "WeightOrderModel") (T := T_Mo) (N := 17) (ci := 7) (v := .int (nI 1)) C 11 0 rfl rfl hin_Mo (by decide) rfl ([(pa, aI G 5000 P), (ca, aI G 5000 C9), (la, aI G 500 LN), (ro, aI G 1500 RW), (co, aI G 500 CO), (ea, aI G 16000 EA), (tx, aII G 4 tf), (sz, aI G 4 SZ), (lf, aI G 200 LF), (fo, aI G 6400 FO), (f1, aI G 6400 F1), (h, ob 7 [.int (nI 1), .ref pa, .ref ca, .int (nI nc), .ref la, .ref ro, .ref co, .ref ea, .int (nI A.length), .int td, .ref tx, .ref sz, .ref lf, .int (nI lz), .ref fo, .int (nI fz), .ref f1])] ++ tpool G TL) t_Mo t_Mo_ok n_Mo (.int) rfl rfl rfl (Nat.le_of_ble_eq_true rfl) rfl rfl k_462 d_Mo_order_26 ?_
      refine v_goto (pc := 29) C 90 d_Mo_order_29 (by decide) ?_
      refine v_wsubP [11, 0, 1, 2, 3, 4, 5, 6, 7, 8, 9, 10] ([(h, ob 7 [.int (nI 1), .ref pa, .ref ca, .int (nI nc), .ref la, .ref ro, .ref co, .ref ea, .int (nI A.length), .int td, .ref tx, .ref sz, .ref lf, .int (nI lz), .ref fo, .int (nI fz), .ref f1]), (pa, aI G 5000 P), (ca, aI G 5000 C9), (la, aI G 500 LN), (ro, aI G 1500 RW), (co, aI G 500 CO), (ea, aI G 16000 EA), (tx, aII G 4 tf), (sz, aI G 4 SZ), (lf, aI G 200 LF), (fo, aI G 6400 FO), (f1, aI G 6400 F1)]) rfl rfl ?_
      exact v_vret (pc := 90) C X d_Mo_order_90 ⟨rfl, by rw [show spOrder (cl, A, told, rws) pt cv = (1, nI 0, (cl, A, told, rws)) by unfold spOrder; rw [if_pos (Or.inr (Or.inl h2))]]; exact ⟨pa, ca, la, ro, co, ea, tx, sz, lf, fo, f1, nc, lz, fz, td, P, C9, LN, RW, CO, EA, SZ, LF, FO, F1, tf, TL, rfl, (by omega), (by omega), hC, hA, hLM, hEM, htd, hti, hTx, hTf⟩⟩ (by decide) (by decide)
    · refine v_iload_n (pc := 17) C 2 d_Mo_order_17 rfl rfl ?_
      refine v_sipush (pc := 18) C (nI 254) d_Mo_order_18 (by decide +kernel) ?_
      refine v_icmp_le (pc := 21) C 32 d_Mo_order_21 (by decide) (fun h3 => ?_) (fun h3 => ?_)
      · have hb2 : ¬ badN cv 254 := fun z => z.elim h2 (fun z => Int32.not_lt.mpr h3 z)
        have hsp : spOrder (cl, A, told, rws) pt cv = (0, nI 0, (fun x => if x = toN pt then toN cv else cl x, A, told, rws)) := by unfold spOrder; rw [if_neg (fun z => z.elim hb1 hb2)]
        obtain ⟨y, hy, rfl⟩ := nb_nat (by decide) hb1
        obtain ⟨v, hv, rfl⟩ := nI_of2 (nI_toInt (n := 254) (by decide)) h2 h3
        obtain ⟨pn, g1, g2, g3, g4⟩ := hC
        refine v_iconst (pc := 32) C (nI 0) d_Mo_order_32 (by decide +kernel) ?_
        refine v_istore_n (pc := 33) C [(3, .int (nI 0)), (0, .ref h), (1, .int (nI y)), (2, .int (nI v))] d_Mo_order_33 rfl (by decide) rfl ?_
        refine v_wsubP [11, 0, 1, 2, 3, 4, 5, 6, 7, 8, 9, 10] ([(h, ob 7 [.int (nI 0), .ref pa, .ref ca, .int (nI nc), .ref la, .ref ro, .ref co, .ref ea, .int (nI A.length), .int td, .ref tx, .ref sz, .ref lf, .int (nI lz), .ref fo, .int (nI fz), .ref f1]), (pa, aI G 5000 P), (ca, aI G 5000 C9), (la, aI G 500 LN), (ro, aI G 1500 RW), (co, aI G 500 CO), (ea, aI G 16000 EA), (tx, aII G 4 tf), (sz, aI G 4 SZ), (lf, aI G 200 LF), (fo, aI G 6400 FO), (f1, aI G 6400 F1)]) rfl rfl ?_
        have loop : ∀ (d : Nat) (i : Nat), nc - i < d → (i ≤ nc) → (∀ j, j < i → pn j ≠ y) → vv K ({ frames := 2, cells := 0, slots := 0, locals := 60 } : Room) G 4 0 0 ([(h, ob 7 [.int (nI 0), .ref pa, .ref ca, .int (nI nc), .ref la, .ref ro, .ref co, .ref ea, .int (nI A.length), .int td, .ref tx, .ref sz, .ref lf, .int (nI lz), .ref fo, .int (nI fz), .ref f1]), (pa, aI G 5000 P), (ca, aI G 5000 C9), (la, aI G 500 LN), (ro, aI G 1500 RW), (co, aI G 500 CO), (ea, aI G 16000 EA), (tx, aII G 4 tf), (sz, aI G 4 SZ), (lf, aI G 200 LF), (fo, aI G 6400 FO), (f1, aI G 6400 F1)] ++ tpool G TL) 34 [(3, .int (nI i)), (0, .ref h), (1, .int (nI y)), (2, .int (nI v))] [] := by
          intro d
          induction d with
          | zero => intro i hm; exact absurd hm (Nat.not_lt_zero _)
          | succ d ih =>
            intro i hm hi hn
            have hcm := fun he => cm_set (k := i) (v := v) g1 g2 g3 g4 hy hv hi hn he
            refine v_iload_n (pc := 34) C 0 d_Mo_order_34 rfl rfl ?_
            refine v_aload_n (pc := 35) C 1 d_Mo_order_35 rfl rfl ?_
            refine v_get (pc := 36) (Cn := "WeightOrderModel") (T := T_Mo) (N := 17) (ci := 7) (v := .int (nI nc)) C 0 3 rfl rfl hin_Mo (by decide) rfl k_465 rfl d_Mo_order_36 ?_
            refine v_icmpN_ge (pc := 39) C 58 i nc d_Mo_order_39 (by decide) (by omega) (by omega) (fun hc => ?_) (fun hc => ?_)
            · have hke : i = nc := by omega
              refine v_aload_n (pc := 58) C 1 d_Mo_order_58 rfl rfl ?_
              refine v_get (pc := 59) (Cn := "WeightOrderModel") (T := T_Mo) (N := 17) (ci := 7) (v := .ref pa) C 0 1 rfl rfl hin_Mo (by decide) rfl k_463 rfl d_Mo_order_59 ?_
              refine v_iload_n (pc := 62) C 0 d_Mo_order_62 rfl rfl ?_
              refine v_iload_n (pc := 63) C 2 d_Mo_order_63 rfl rfl ?_
              refine v_iast (pc := 64) C 1 ([(h, ob 7 [.int (nI 0), .ref pa, .ref ca, .int (nI nc), .ref la, .ref ro, .ref co, .ref ea, .int (nI A.length), .int td, .ref tx, .ref sz, .ref lf, .int (nI lz), .ref fo, .int (nI fz), .ref f1]), (pa, aI G 5000 (upd P i (nI y))), (ca, aI G 5000 C9), (la, aI G 500 LN), (ro, aI G 1500 RW), (co, aI G 500 CO), (ea, aI G 16000 EA), (tx, aII G 4 tf), (sz, aI G 4 SZ), (lf, aI G 200 LF), (fo, aI G 6400 FO), (f1, aI G 6400 F1)] ++ tpool G TL) rfl i rfl (by omega) (by decide) rfl d_Mo_order_64 ?_
              refine v_aload_n (pc := 65) C 1 d_Mo_order_65 rfl rfl ?_
              refine v_get (pc := 66) (Cn := "WeightOrderModel") (T := T_Mo) (N := 17) (ci := 7) (v := .ref ca) C 0 2 rfl rfl hin_Mo (by decide) rfl k_464 rfl d_Mo_order_66 ?_
              refine v_iload_n (pc := 69) C 0 d_Mo_order_69 rfl rfl ?_
              refine v_iload_n (pc := 70) C 3 d_Mo_order_70 rfl rfl ?_
              refine v_iast (pc := 71) C 2 ([(h, ob 7 [.int (nI 0), .ref pa, .ref ca, .int (nI nc), .ref la, .ref ro, .ref co, .ref ea, .int (nI A.length), .int td, .ref tx, .ref sz, .ref lf, .int (nI lz), .ref fo, .int (nI fz), .ref f1]), (pa, aI G 5000 (upd P i (nI y))), (ca, aI G 5000 (upd C9 i (nI v))), (la, aI G 500 LN), (ro, aI G 1500 RW), (co, aI G 500 CO), (ea, aI G 16000 EA), (tx, aII G 4 tf), (sz, aI G 4 SZ), (lf, aI G 200 LF), (fo, aI G 6400 FO), (f1, aI G 6400 F1)] ++ tpool G TL) rfl i rfl (by omega) (by decide) rfl d_Mo_order_71 ?_
              refine v_iload_n (pc := 72) C 0 d_Mo_order_72 rfl rfl ?_
              refine v_aload_n (pc := 73) C 1 d_Mo_order_73 rfl rfl ?_
              refine v_get (pc := 74) (Cn := "WeightOrderModel") (T := T_Mo) (N := 17) (ci := 7) (v := .int (nI nc)) C 0 3 rfl rfl hin_Mo (by decide) rfl k_465 rfl d_Mo_order_74 ?_
              refine v_icmpN_ne (pc := 77) C 90 i nc d_Mo_order_77 (by decide) (by omega) (by omega) (fun hd => ?_) (fun hd => ?_)
              · exact absurd hke hd
              · refine v_aload_n (pc := 80) C 1 d_Mo_order_80 rfl rfl ?_
                refine v_dup (pc := 81) C d_Mo_order_81 rfl ?_
                refine v_get (pc := 82) (Cn := "WeightOrderModel") (T := T_Mo) (N := 17) (ci := 7) (v := .int (nI nc)) C 0 3 rfl rfl hin_Mo (by decide) rfl k_465 rfl d_Mo_order_82 ?_
                refine v_iconst (pc := 85) C (nI 1) d_Mo_order_85 (by decide +kernel) ?_
                refine v_iadd (pc := 86) C (nI (nc + 1)) d_Mo_order_86 (nI_add _ _) ?_
                refine v_put (pc := 87) (Cn := "WeightOrderModel") (T := T_Mo) (N := 17) (ci := 7) (v := .int (nI (nc + 1))) C 0 3 rfl rfl hin_Mo (by decide) rfl ([(h, ob 7 [.int (nI 0), .ref pa, .ref ca, .int (nI (nc + 1)), .ref la, .ref ro, .ref co, .ref ea, .int (nI A.length), .int td, .ref tx, .ref sz, .ref lf, .int (nI lz), .ref fo, .int (nI fz), .ref f1]), (pa, aI G 5000 (upd P i (nI y))), (ca, aI G 5000 (upd C9 i (nI v))), (la, aI G 500 LN), (ro, aI G 1500 RW), (co, aI G 500 CO), (ea, aI G 16000 EA), (tx, aII G 4 tf), (sz, aI G 4 SZ), (lf, aI G 200 LF), (fo, aI G 6400 FO), (f1, aI G 6400 F1)] ++ tpool G TL) t_Mo t_Mo_ok n_Mo (.int) rfl rfl rfl (Nat.le_of_ble_eq_true rfl) rfl rfl k_465 d_Mo_order_87 ?_
                exact v_vret (pc := 90) C X d_Mo_order_90 ⟨rfl, by rw [hsp, toN_nI (by omega), toN_nI (by omega)]; have := hcm (fun z => by omega); rw [if_pos hke] at this; exact ⟨pa, ca, la, ro, co, ea, tx, sz, lf, fo, f1, nc + 1, lz, fz, td, upd P i (nI y), upd C9 i (nI v), LN, RW, CO, EA, SZ, LF, FO, F1, tf, TL, rfl, (by omega), (by omega), this, hA, hLM, hEM, htd, hti, hTx, hTf⟩⟩ (by decide) (by decide)
            · have hp := g1 i hc
              refine v_aload_n (pc := 42) C 1 d_Mo_order_42 rfl rfl ?_
              refine v_get (pc := 43) (Cn := "WeightOrderModel") (T := T_Mo) (N := 17) (ci := 7) (v := .ref pa) C 0 1 rfl rfl hin_Mo (by decide) rfl k_463 rfl d_Mo_order_43 ?_
              refine v_iload_n (pc := 46) C 0 d_Mo_order_46 rfl rfl ?_
              refine v_iald (pc := 47) C 1 rfl i rfl (by omega) (by decide) d_Mo_order_47 ?_
              refine v_seti (nI (pn i)) hp.1 ?_
              refine v_iload_n (pc := 48) C 2 d_Mo_order_48 rfl rfl ?_
              refine v_icmpN_eq (pc := 49) C 58 (pn i) y d_Mo_order_49 (by decide) (by omega) (by omega) (fun he => ?_) (fun he => ?_)
              · refine v_aload_n (pc := 58) C 1 d_Mo_order_58 rfl rfl ?_
                refine v_get (pc := 59) (Cn := "WeightOrderModel") (T := T_Mo) (N := 17) (ci := 7) (v := .ref pa) C 0 1 rfl rfl hin_Mo (by decide) rfl k_463 rfl d_Mo_order_59 ?_
                refine v_iload_n (pc := 62) C 0 d_Mo_order_62 rfl rfl ?_
                refine v_iload_n (pc := 63) C 2 d_Mo_order_63 rfl rfl ?_
                refine v_iast (pc := 64) C 1 ([(h, ob 7 [.int (nI 0), .ref pa, .ref ca, .int (nI nc), .ref la, .ref ro, .ref co, .ref ea, .int (nI A.length), .int td, .ref tx, .ref sz, .ref lf, .int (nI lz), .ref fo, .int (nI fz), .ref f1]), (pa, aI G 5000 (upd P i (nI y))), (ca, aI G 5000 C9), (la, aI G 500 LN), (ro, aI G 1500 RW), (co, aI G 500 CO), (ea, aI G 16000 EA), (tx, aII G 4 tf), (sz, aI G 4 SZ), (lf, aI G 200 LF), (fo, aI G 6400 FO), (f1, aI G 6400 F1)] ++ tpool G TL) rfl i rfl (by omega) (by decide) rfl d_Mo_order_64 ?_
                refine v_aload_n (pc := 65) C 1 d_Mo_order_65 rfl rfl ?_
                refine v_get (pc := 66) (Cn := "WeightOrderModel") (T := T_Mo) (N := 17) (ci := 7) (v := .ref ca) C 0 2 rfl rfl hin_Mo (by decide) rfl k_464 rfl d_Mo_order_66 ?_
                refine v_iload_n (pc := 69) C 0 d_Mo_order_69 rfl rfl ?_
                refine v_iload_n (pc := 70) C 3 d_Mo_order_70 rfl rfl ?_
                refine v_iast (pc := 71) C 2 ([(h, ob 7 [.int (nI 0), .ref pa, .ref ca, .int (nI nc), .ref la, .ref ro, .ref co, .ref ea, .int (nI A.length), .int td, .ref tx, .ref sz, .ref lf, .int (nI lz), .ref fo, .int (nI fz), .ref f1]), (pa, aI G 5000 (upd P i (nI y))), (ca, aI G 5000 (upd C9 i (nI v))), (la, aI G 500 LN), (ro, aI G 1500 RW), (co, aI G 500 CO), (ea, aI G 16000 EA), (tx, aII G 4 tf), (sz, aI G 4 SZ), (lf, aI G 200 LF), (fo, aI G 6400 FO), (f1, aI G 6400 F1)] ++ tpool G TL) rfl i rfl (by omega) (by decide) rfl d_Mo_order_71 ?_
                refine v_iload_n (pc := 72) C 0 d_Mo_order_72 rfl rfl ?_
                refine v_aload_n (pc := 73) C 1 d_Mo_order_73 rfl rfl ?_
                refine v_get (pc := 74) (Cn := "WeightOrderModel") (T := T_Mo) (N := 17) (ci := 7) (v := .int (nI nc)) C 0 3 rfl rfl hin_Mo (by decide) rfl k_465 rfl d_Mo_order_74 ?_
                refine v_icmpN_ne (pc := 77) C 90 i nc d_Mo_order_77 (by decide) (by omega) (by omega) (fun hd => ?_) (fun hd => ?_)
                · exact v_vret (pc := 90) C X d_Mo_order_90 ⟨rfl, by rw [hsp, toN_nI (by omega), toN_nI (by omega)]; have := hcm (fun _ => he); rw [if_neg hd] at this; exact ⟨pa, ca, la, ro, co, ea, tx, sz, lf, fo, f1, nc, lz, fz, td, upd P i (nI y), upd C9 i (nI v), LN, RW, CO, EA, SZ, LF, FO, F1, tf, TL, rfl, (by omega), (by omega), this, hA, hLM, hEM, htd, hti, hTx, hTf⟩⟩ (by decide) (by decide)
                · omega
              · refine v_iinc (pc := 52) C [(3, .int (nI (i + 1))), (0, .ref h), (1, .int (nI y)), (2, .int (nI v))] 0 (nI (i + 1)) d_Mo_order_52 rfl (nI_inc1 _) (by decide) rfl ?_
                refine v_goto (pc := 55) C 34 d_Mo_order_55 (by decide) ?_
                refine v_lsub [0, 1, 2, 3] [(3, .int (nI (i + 1))), (0, .ref h), (1, .int (nI y)), (2, .int (nI v))] rfl ?_
                exact ih (i + 1) (by omega) (by omega) (fun j hj => by rcases Nat.lt_or_ge j i with c | c; exact hn j c; rw [show j = i by omega]; exact he)
        refine v_lsub [0, 1, 2, 3] [(3, .int (nI 0)), (0, .ref h), (1, .int (nI y)), (2, .int (nI v))] rfl ?_
        exact loop (nc + 1) 0 (by omega) (Nat.zero_le _) (fun j hj => absurd hj (Nat.not_lt_zero _))
      · refine v_aload_n (pc := 24) C 0 d_Mo_order_24 rfl rfl ?_
        refine v_iconst (pc := 25) C (nI 1) d_Mo_order_25 (by decide +kernel) ?_
        refine v_put (pc := 26) (Cn := "WeightOrderModel") (T := T_Mo) (N := 17) (ci := 7) (v := .int (nI 1)) C 11 0 rfl rfl hin_Mo (by decide) rfl ([(pa, aI G 5000 P), (ca, aI G 5000 C9), (la, aI G 500 LN), (ro, aI G 1500 RW), (co, aI G 500 CO), (ea, aI G 16000 EA), (tx, aII G 4 tf), (sz, aI G 4 SZ), (lf, aI G 200 LF), (fo, aI G 6400 FO), (f1, aI G 6400 F1), (h, ob 7 [.int (nI 1), .ref pa, .ref ca, .int (nI nc), .ref la, .ref ro, .ref co, .ref ea, .int (nI A.length), .int td, .ref tx, .ref sz, .ref lf, .int (nI lz), .ref fo, .int (nI fz), .ref f1])] ++ tpool G TL) t_Mo t_Mo_ok n_Mo (.int) rfl rfl rfl (Nat.le_of_ble_eq_true rfl) rfl rfl k_462 d_Mo_order_26 ?_
        refine v_goto (pc := 29) C 90 d_Mo_order_29 (by decide) ?_
        refine v_wsubP [11, 0, 1, 2, 3, 4, 5, 6, 7, 8, 9, 10] ([(h, ob 7 [.int (nI 1), .ref pa, .ref ca, .int (nI nc), .ref la, .ref ro, .ref co, .ref ea, .int (nI A.length), .int td, .ref tx, .ref sz, .ref lf, .int (nI lz), .ref fo, .int (nI fz), .ref f1]), (pa, aI G 5000 P), (ca, aI G 5000 C9), (la, aI G 500 LN), (ro, aI G 1500 RW), (co, aI G 500 CO), (ea, aI G 16000 EA), (tx, aII G 4 tf), (sz, aI G 4 SZ), (lf, aI G 200 LF), (fo, aI G 6400 FO), (f1, aI G 6400 F1)]) rfl rfl ?_
        exact v_vret (pc := 90) C X d_Mo_order_90 ⟨rfl, by rw [show spOrder (cl, A, told, rws) pt cv = (1, nI 0, (cl, A, told, rws)) by unfold spOrder; rw [if_pos (Or.inr (Or.inr (Int32.not_le.mp h3)))]]; exact ⟨pa, ca, la, ro, co, ea, tx, sz, lf, fo, f1, nc, lz, fz, td, P, C9, LN, RW, CO, EA, SZ, LF, FO, F1, tf, TL, rfl, (by omega), (by omega), hC, hA, hLM, hEM, htd, hti, hTx, hTf⟩⟩ (by decide) (by decide)

set_option maxHeartbeats 4000000 in
set_option maxRecDepth 100000 in
theorem m_line (l : Launch) (G : Gx) (h k : Nat) (σ : Sg) (fl : Int32) (w : va_W) (na qa qb qd : Int32) (hw : MoI G h k σ fl w)  : CT l G y_Mo_line b_Mo_line 6 (some .int) ({ frames := 2, cells := 0, slots := 0, locals := 90 } : Room) w [.ref h, .int na, .int qa, .int qb, .int qd] (fun r w' => r = some (.int (spLine σ na qa qb qd).2.1) ∧ MoI G h k (spLine σ na qa qb qd).2.2 (nI (spLine σ na qa qb qd).1) w') := by
  obtain ⟨cl, A, told, rws⟩ := σ
  obtain ⟨pa, ca, la, ro, co, ea, tx, sz, lf, fo, f1, nc, lz, fz, td, P, C9, LN, RW, CO, EA, SZ, LF, FO, F1, tf, TL, rfl, hnc, hk5, hC, hA, hLM, hEM, htd, hti, hTx, hTf⟩ := hw
  have hA : A.length ≤ 500 := hA
  have htd : td = fiI told := htd
  refine ct_of [(0, .ref h), (1, .int na), (2, .int qa), (3, .int qb), (4, .int qd)] (by decide) (Nat.le_of_ble_eq_true rfl) rfl (fun K hKl hNI C X => ?_)
  subst hKl
  show vv K ({ frames := 2, cells := 0, slots := 0, locals := 90 } : Room) G 6 0 0 ([(h, ob 7 [.int fl, .ref pa, .ref ca, .int (nI nc), .ref la, .ref ro, .ref co, .ref ea, .int (nI A.length), .int td, .ref tx, .ref sz, .ref lf, .int (nI lz), .ref fo, .int (nI fz), .ref f1]), (pa, aI G 5000 P), (ca, aI G 5000 C9), (la, aI G 500 LN), (ro, aI G 1500 RW), (co, aI G 500 CO), (ea, aI G 16000 EA), (tx, aII G 4 tf), (sz, aI G 4 SZ), (lf, aI G 200 LF), (fo, aI G 6400 FO), (f1, aI G 6400 F1)] ++ tpool G TL) 0 [(0, .ref h), (1, .int na), (2, .int qa), (3, .int qb), (4, .int qd)] []
  refine v_aload_n (pc := 0) C 0 d_Mo_line_0 rfl rfl ?_
  refine v_iconst (pc := 1) C (nI 0) d_Mo_line_1 (by decide +kernel) ?_
  refine v_put (pc := 2) (Cn := "WeightOrderModel") (T := T_Mo) (N := 17) (ci := 7) (v := .int (nI 0)) C 0 0 rfl rfl hin_Mo (by decide) rfl ([(h, ob 7 [.int (nI 0), .ref pa, .ref ca, .int (nI nc), .ref la, .ref ro, .ref co, .ref ea, .int (nI A.length), .int td, .ref tx, .ref sz, .ref lf, .int (nI lz), .ref fo, .int (nI fz), .ref f1]), (pa, aI G 5000 P), (ca, aI G 5000 C9), (la, aI G 500 LN), (ro, aI G 1500 RW), (co, aI G 500 CO), (ea, aI G 16000 EA), (tx, aII G 4 tf), (sz, aI G 4 SZ), (lf, aI G 200 LF), (fo, aI G 6400 FO), (f1, aI G 6400 F1)] ++ tpool G TL) t_Mo t_Mo_ok n_Mo (.int) rfl rfl rfl (Nat.le_of_ble_eq_true rfl) rfl rfl k_462 d_Mo_line_2 ?_
  refine v_iload_n (pc := 5) C 1 d_Mo_line_5 rfl rfl ?_
  refine v_iconst (pc := 6) C (nI 1) d_Mo_line_6 (by decide +kernel) ?_
  refine v_icmp_lt (pc := 7) C 40 d_Mo_line_7 (by decide) (fun h1 => ?_) (fun h1 => ?_)
  · refine v_aload_n (pc := 40) C 0 d_Mo_line_40 rfl rfl ?_
    refine v_iconst (pc := 41) C (nI 1) d_Mo_line_41 (by decide +kernel) ?_
    refine v_callV (pc := 42) (As := [.int (nI 1)]) (rest := []) C (c_Mo_fail _ G h pa ca la ro co ea tx sz lf fo f1 (nI 0) td nc A.length lz fz 1) l_Mo_63 ([(pa, aI G 5000 P), (ca, aI G 5000 C9), (la, aI G 500 LN), (ro, aI G 1500 RW), (co, aI G 500 CO), (ea, aI G 16000 EA), (tx, aII G 4 tf), (sz, aI G 4 SZ), (lf, aI G 200 LF), (fo, aI G 6400 FO), (f1, aI G 6400 F1)] ++ tpool G TL) (sp_poolR [1, 2, 3, 4, 5, 6, 7, 8, 9, 10, 11] [0] rfl rfl rfl) 0 rfl rfl rfl rfl rfl (Nat.le_of_ble_eq_true rfl) (by decide) (by decide) (by decide) (by decide) d_Mo_line_42 (fun r w' hq => ?_)
    obtain ⟨rfl, rfl⟩ := hq
    refine v_swap ?_
    show vv K ({ frames := 2, cells := 0, slots := 0, locals := 90 } : Room) G 6 0 0 ([(pa, aI G 5000 P), (ca, aI G 5000 C9), (la, aI G 500 LN), (ro, aI G 1500 RW), (co, aI G 500 CO), (ea, aI G 16000 EA), (tx, aII G 4 tf), (sz, aI G 4 SZ), (lf, aI G 200 LF), (fo, aI G 6400 FO), (f1, aI G 6400 F1), (h, ob 7 [.int (nI 1), .ref pa, .ref ca, .int (nI nc), .ref la, .ref ro, .ref co, .ref ea, .int (nI A.length), .int td, .ref tx, .ref sz, .ref lf, .int (nI lz), .ref fo, .int (nI fz), .ref f1])] ++ tpool G TL) 45 [(0, .ref h), (1, .int na), (2, .int qa), (3, .int qb), (4, .int qd)] [.int (nI 0)]
    refine v_wsubP [11, 0, 1, 2, 3, 4, 5, 6, 7, 8, 9, 10] ([(h, ob 7 [.int (nI 1), .ref pa, .ref ca, .int (nI nc), .ref la, .ref ro, .ref co, .ref ea, .int (nI A.length), .int td, .ref tx, .ref sz, .ref lf, .int (nI lz), .ref fo, .int (nI fz), .ref f1]), (pa, aI G 5000 P), (ca, aI G 5000 C9), (la, aI G 500 LN), (ro, aI G 1500 RW), (co, aI G 500 CO), (ea, aI G 16000 EA), (tx, aII G 4 tf), (sz, aI G 4 SZ), (lf, aI G 200 LF), (fo, aI G 6400 FO), (f1, aI G 6400 F1)]) rfl rfl ?_
    exact v_iret (pc := 45) C X d_Mo_line_45 ⟨by rw [show spLine (cl, A, told, rws) na qa qb qd = (1, nI 0, (cl, A, told, rws)) by unfold spLine; rw [if_pos (Or.inl h1)]], by rw [show spLine (cl, A, told, rws) na qa qb qd = (1, nI 0, (cl, A, told, rws)) by unfold spLine; rw [if_pos (Or.inl h1)]]; exact ⟨pa, ca, la, ro, co, ea, tx, sz, lf, fo, f1, nc, lz, fz, td, P, C9, LN, RW, CO, EA, SZ, LF, FO, F1, tf, TL, rfl, hnc, hk5, hC, hA, hLM, hEM, htd, hti, hTx, hTf⟩⟩ (by decide) (by decide)
  · refine v_iload_n (pc := 10) C 1 d_Mo_line_10 rfl rfl ?_
    refine v_iconst (pc := 11) C (nI 3) d_Mo_line_11 (by decide +kernel) ?_
    refine v_icmp_gt (pc := 12) C 40 d_Mo_line_12 (by decide) (fun h2 => ?_) (fun h2 => ?_)
    · refine v_aload_n (pc := 40) C 0 d_Mo_line_40 rfl rfl ?_
      refine v_iconst (pc := 41) C (nI 1) d_Mo_line_41 (by decide +kernel) ?_
      refine v_callV (pc := 42) (As := [.int (nI 1)]) (rest := []) C (c_Mo_fail _ G h pa ca la ro co ea tx sz lf fo f1 (nI 0) td nc A.length lz fz 1) l_Mo_63 ([(pa, aI G 5000 P), (ca, aI G 5000 C9), (la, aI G 500 LN), (ro, aI G 1500 RW), (co, aI G 500 CO), (ea, aI G 16000 EA), (tx, aII G 4 tf), (sz, aI G 4 SZ), (lf, aI G 200 LF), (fo, aI G 6400 FO), (f1, aI G 6400 F1)] ++ tpool G TL) (sp_poolR [1, 2, 3, 4, 5, 6, 7, 8, 9, 10, 11] [0] rfl rfl rfl) 0 rfl rfl rfl rfl rfl (Nat.le_of_ble_eq_true rfl) (by decide) (by decide) (by decide) (by decide) d_Mo_line_42 (fun r w' hq => ?_)
      obtain ⟨rfl, rfl⟩ := hq
      refine v_swap ?_
      show vv K ({ frames := 2, cells := 0, slots := 0, locals := 90 } : Room) G 6 0 0 ([(pa, aI G 5000 P), (ca, aI G 5000 C9), (la, aI G 500 LN), (ro, aI G 1500 RW), (co, aI G 500 CO), (ea, aI G 16000 EA), (tx, aII G 4 tf), (sz, aI G 4 SZ), (lf, aI G 200 LF), (fo, aI G 6400 FO), (f1, aI G 6400 F1), (h, ob 7 [.int (nI 1), .ref pa, .ref ca, .int (nI nc), .ref la, .ref ro, .ref co, .ref ea, .int (nI A.length), .int td, .ref tx, .ref sz, .ref lf, .int (nI lz), .ref fo, .int (nI fz), .ref f1])] ++ tpool G TL) 45 [(0, .ref h), (1, .int na), (2, .int qa), (3, .int qb), (4, .int qd)] [.int (nI 0)]
      refine v_wsubP [11, 0, 1, 2, 3, 4, 5, 6, 7, 8, 9, 10] ([(h, ob 7 [.int (nI 1), .ref pa, .ref ca, .int (nI nc), .ref la, .ref ro, .ref co, .ref ea, .int (nI A.length), .int td, .ref tx, .ref sz, .ref lf, .int (nI lz), .ref fo, .int (nI fz), .ref f1]), (pa, aI G 5000 P), (ca, aI G 5000 C9), (la, aI G 500 LN), (ro, aI G 1500 RW), (co, aI G 500 CO), (ea, aI G 16000 EA), (tx, aII G 4 tf), (sz, aI G 4 SZ), (lf, aI G 200 LF), (fo, aI G 6400 FO), (f1, aI G 6400 F1)]) rfl rfl ?_
      exact v_iret (pc := 45) C X d_Mo_line_45 ⟨by rw [show spLine (cl, A, told, rws) na qa qb qd = (1, nI 0, (cl, A, told, rws)) by unfold spLine; rw [if_pos (Or.inr (Or.inl h2))]], by rw [show spLine (cl, A, told, rws) na qa qb qd = (1, nI 0, (cl, A, told, rws)) by unfold spLine; rw [if_pos (Or.inr (Or.inl h2))]]; exact ⟨pa, ca, la, ro, co, ea, tx, sz, lf, fo, f1, nc, lz, fz, td, P, C9, LN, RW, CO, EA, SZ, LF, FO, F1, tf, TL, rfl, hnc, hk5, hC, hA, hLM, hEM, htd, hti, hTx, hTf⟩⟩ (by decide) (by decide)
    · refine v_aload_n (pc := 15) C 0 d_Mo_line_15 rfl rfl ?_
      refine v_iload_n (pc := 16) C 2 d_Mo_line_16 rfl rfl ?_
      refine v_callV (pc := 17) (As := [.int qa]) (rest := []) C (c_Mo_out _ G h pa ca la ro co ea tx sz lf fo f1 (nI 0) td nc A.length lz fz qa) l_Mo_53 ([(pa, aI G 5000 P), (ca, aI G 5000 C9), (la, aI G 500 LN), (ro, aI G 1500 RW), (co, aI G 500 CO), (ea, aI G 16000 EA), (tx, aII G 4 tf), (sz, aI G 4 SZ), (lf, aI G 200 LF), (fo, aI G 6400 FO), (f1, aI G 6400 F1)] ++ tpool G TL) (sp_poolR [1, 2, 3, 4, 5, 6, 7, 8, 9, 10, 11] [0] rfl rfl rfl) 0 rfl rfl rfl rfl rfl (Nat.le_of_ble_eq_true rfl) (by decide) (by decide) (by decide) (by decide) d_Mo_line_17 (fun r w' hq => ?_)
      obtain ⟨rfl, rfl⟩ := hq
      refine v_swap ?_
      show vv K ({ frames := 2, cells := 0, slots := 0, locals := 90 } : Room) G 6 0 0 ([(pa, aI G 5000 P), (ca, aI G 5000 C9), (la, aI G 500 LN), (ro, aI G 1500 RW), (co, aI G 500 CO), (ea, aI G 16000 EA), (tx, aII G 4 tf), (sz, aI G 4 SZ), (lf, aI G 200 LF), (fo, aI G 6400 FO), (f1, aI G 6400 F1), (h, ob 7 [.int (nI 0), .ref pa, .ref ca, .int (nI nc), .ref la, .ref ro, .ref co, .ref ea, .int (nI A.length), .int td, .ref tx, .ref sz, .ref lf, .int (nI lz), .ref fo, .int (nI fz), .ref f1])] ++ tpool G TL) 20 [(0, .ref h), (1, .int na), (2, .int qa), (3, .int qb), (4, .int qd)] [.int (ou qa)]
      refine v_if_ne (pc := 20) C 40 d_Mo_line_20 (by decide) (fun h3 => ?_) (fun h3 => ?_)
      · refine v_aload_n (pc := 40) C 0 d_Mo_line_40 rfl rfl ?_
        refine v_iconst (pc := 41) C (nI 1) d_Mo_line_41 (by decide +kernel) ?_
        refine v_callV (pc := 42) (As := [.int (nI 1)]) (rest := []) C (c_Mo_fail _ G h pa ca la ro co ea tx sz lf fo f1 (nI 0) td nc A.length lz fz 1) l_Mo_63 ([(pa, aI G 5000 P), (ca, aI G 5000 C9), (la, aI G 500 LN), (ro, aI G 1500 RW), (co, aI G 500 CO), (ea, aI G 16000 EA), (tx, aII G 4 tf), (sz, aI G 4 SZ), (lf, aI G 200 LF), (fo, aI G 6400 FO), (f1, aI G 6400 F1)] ++ tpool G TL) (sp_poolR [0, 1, 2, 3, 4, 5, 6, 7, 8, 9, 10] [11] rfl rfl rfl) 0 rfl rfl rfl rfl rfl (Nat.le_of_ble_eq_true rfl) (by decide) (by decide) (by decide) (by decide) d_Mo_line_42 (fun r w' hq => ?_)
        obtain ⟨rfl, rfl⟩ := hq
        refine v_swap ?_
        show vv K ({ frames := 2, cells := 0, slots := 0, locals := 90 } : Room) G 6 0 0 ([(pa, aI G 5000 P), (ca, aI G 5000 C9), (la, aI G 500 LN), (ro, aI G 1500 RW), (co, aI G 500 CO), (ea, aI G 16000 EA), (tx, aII G 4 tf), (sz, aI G 4 SZ), (lf, aI G 200 LF), (fo, aI G 6400 FO), (f1, aI G 6400 F1), (h, ob 7 [.int (nI 1), .ref pa, .ref ca, .int (nI nc), .ref la, .ref ro, .ref co, .ref ea, .int (nI A.length), .int td, .ref tx, .ref sz, .ref lf, .int (nI lz), .ref fo, .int (nI fz), .ref f1])] ++ tpool G TL) 45 [(0, .ref h), (1, .int na), (2, .int qa), (3, .int qb), (4, .int qd)] [.int (nI 0)]
        refine v_wsubP [11, 0, 1, 2, 3, 4, 5, 6, 7, 8, 9, 10] ([(h, ob 7 [.int (nI 1), .ref pa, .ref ca, .int (nI nc), .ref la, .ref ro, .ref co, .ref ea, .int (nI A.length), .int td, .ref tx, .ref sz, .ref lf, .int (nI lz), .ref fo, .int (nI fz), .ref f1]), (pa, aI G 5000 P), (ca, aI G 5000 C9), (la, aI G 500 LN), (ro, aI G 1500 RW), (co, aI G 500 CO), (ea, aI G 16000 EA), (tx, aII G 4 tf), (sz, aI G 4 SZ), (lf, aI G 200 LF), (fo, aI G 6400 FO), (f1, aI G 6400 F1)]) rfl rfl ?_
        exact v_iret (pc := 45) C X d_Mo_line_45 ⟨by rw [show spLine (cl, A, told, rws) na qa qb qd = (1, nI 0, (cl, A, told, rws)) by unfold spLine; rw [if_pos (Or.inr (Or.inr (Or.inl (ou_1 h3))))]], by rw [show spLine (cl, A, told, rws) na qa qb qd = (1, nI 0, (cl, A, told, rws)) by unfold spLine; rw [if_pos (Or.inr (Or.inr (Or.inl (ou_1 h3))))]]; exact ⟨pa, ca, la, ro, co, ea, tx, sz, lf, fo, f1, nc, lz, fz, td, P, C9, LN, RW, CO, EA, SZ, LF, FO, F1, tf, TL, rfl, hnc, hk5, hC, hA, hLM, hEM, htd, hti, hTx, hTf⟩⟩ (by decide) (by decide)
      · refine v_aload_n (pc := 23) C 0 d_Mo_line_23 rfl rfl ?_
        refine v_iload_n (pc := 24) C 3 d_Mo_line_24 rfl rfl ?_
        refine v_callV (pc := 25) (As := [.int qb]) (rest := []) C (c_Mo_out _ G h pa ca la ro co ea tx sz lf fo f1 (nI 0) td nc A.length lz fz qb) l_Mo_53 ([(pa, aI G 5000 P), (ca, aI G 5000 C9), (la, aI G 500 LN), (ro, aI G 1500 RW), (co, aI G 500 CO), (ea, aI G 16000 EA), (tx, aII G 4 tf), (sz, aI G 4 SZ), (lf, aI G 200 LF), (fo, aI G 6400 FO), (f1, aI G 6400 F1)] ++ tpool G TL) (sp_poolR [0, 1, 2, 3, 4, 5, 6, 7, 8, 9, 10] [11] rfl rfl rfl) 0 rfl rfl rfl rfl rfl (Nat.le_of_ble_eq_true rfl) (by decide) (by decide) (by decide) (by decide) d_Mo_line_25 (fun r w' hq => ?_)
        obtain ⟨rfl, rfl⟩ := hq
        refine v_swap ?_
        show vv K ({ frames := 2, cells := 0, slots := 0, locals := 90 } : Room) G 6 0 0 ([(pa, aI G 5000 P), (ca, aI G 5000 C9), (la, aI G 500 LN), (ro, aI G 1500 RW), (co, aI G 500 CO), (ea, aI G 16000 EA), (tx, aII G 4 tf), (sz, aI G 4 SZ), (lf, aI G 200 LF), (fo, aI G 6400 FO), (f1, aI G 6400 F1), (h, ob 7 [.int (nI 0), .ref pa, .ref ca, .int (nI nc), .ref la, .ref ro, .ref co, .ref ea, .int (nI A.length), .int td, .ref tx, .ref sz, .ref lf, .int (nI lz), .ref fo, .int (nI fz), .ref f1])] ++ tpool G TL) 28 [(0, .ref h), (1, .int na), (2, .int qa), (3, .int qb), (4, .int qd)] [.int (ou qb)]
        refine v_if_ne (pc := 28) C 40 d_Mo_line_28 (by decide) (fun h4 => ?_) (fun h4 => ?_)
        · refine v_aload_n (pc := 40) C 0 d_Mo_line_40 rfl rfl ?_
          refine v_iconst (pc := 41) C (nI 1) d_Mo_line_41 (by decide +kernel) ?_
          refine v_callV (pc := 42) (As := [.int (nI 1)]) (rest := []) C (c_Mo_fail _ G h pa ca la ro co ea tx sz lf fo f1 (nI 0) td nc A.length lz fz 1) l_Mo_63 ([(pa, aI G 5000 P), (ca, aI G 5000 C9), (la, aI G 500 LN), (ro, aI G 1500 RW), (co, aI G 500 CO), (ea, aI G 16000 EA), (tx, aII G 4 tf), (sz, aI G 4 SZ), (lf, aI G 200 LF), (fo, aI G 6400 FO), (f1, aI G 6400 F1)] ++ tpool G TL) (sp_poolR [0, 1, 2, 3, 4, 5, 6, 7, 8, 9, 10] [11] rfl rfl rfl) 0 rfl rfl rfl rfl rfl (Nat.le_of_ble_eq_true rfl) (by decide) (by decide) (by decide) (by decide) d_Mo_line_42 (fun r w' hq => ?_)
          obtain ⟨rfl, rfl⟩ := hq
          refine v_swap ?_
          show vv K ({ frames := 2, cells := 0, slots := 0, locals := 90 } : Room) G 6 0 0 ([(pa, aI G 5000 P), (ca, aI G 5000 C9), (la, aI G 500 LN), (ro, aI G 1500 RW), (co, aI G 500 CO), (ea, aI G 16000 EA), (tx, aII G 4 tf), (sz, aI G 4 SZ), (lf, aI G 200 LF), (fo, aI G 6400 FO), (f1, aI G 6400 F1), (h, ob 7 [.int (nI 1), .ref pa, .ref ca, .int (nI nc), .ref la, .ref ro, .ref co, .ref ea, .int (nI A.length), .int td, .ref tx, .ref sz, .ref lf, .int (nI lz), .ref fo, .int (nI fz), .ref f1])] ++ tpool G TL) 45 [(0, .ref h), (1, .int na), (2, .int qa), (3, .int qb), (4, .int qd)] [.int (nI 0)]
          refine v_wsubP [11, 0, 1, 2, 3, 4, 5, 6, 7, 8, 9, 10] ([(h, ob 7 [.int (nI 1), .ref pa, .ref ca, .int (nI nc), .ref la, .ref ro, .ref co, .ref ea, .int (nI A.length), .int td, .ref tx, .ref sz, .ref lf, .int (nI lz), .ref fo, .int (nI fz), .ref f1]), (pa, aI G 5000 P), (ca, aI G 5000 C9), (la, aI G 500 LN), (ro, aI G 1500 RW), (co, aI G 500 CO), (ea, aI G 16000 EA), (tx, aII G 4 tf), (sz, aI G 4 SZ), (lf, aI G 200 LF), (fo, aI G 6400 FO), (f1, aI G 6400 F1)]) rfl rfl ?_
          exact v_iret (pc := 45) C X d_Mo_line_45 ⟨by rw [show spLine (cl, A, told, rws) na qa qb qd = (1, nI 0, (cl, A, told, rws)) by unfold spLine; rw [if_pos (Or.inr (Or.inr (Or.inr (Or.inl (ou_1 h4)))))]], by rw [show spLine (cl, A, told, rws) na qa qb qd = (1, nI 0, (cl, A, told, rws)) by unfold spLine; rw [if_pos (Or.inr (Or.inr (Or.inr (Or.inl (ou_1 h4)))))]]; exact ⟨pa, ca, la, ro, co, ea, tx, sz, lf, fo, f1, nc, lz, fz, td, P, C9, LN, RW, CO, EA, SZ, LF, FO, F1, tf, TL, rfl, hnc, hk5, hC, hA, hLM, hEM, htd, hti, hTx, hTf⟩⟩ (by decide) (by decide)
        · refine v_aload_n (pc := 31) C 0 d_Mo_line_31 rfl rfl ?_
          refine v_iload (pc := 32) C 4 d_Mo_line_32 rfl ?_
          refine v_callV (pc := 34) (As := [.int qd]) (rest := []) C (c_Mo_out _ G h pa ca la ro co ea tx sz lf fo f1 (nI 0) td nc A.length lz fz qd) l_Mo_53 ([(pa, aI G 5000 P), (ca, aI G 5000 C9), (la, aI G 500 LN), (ro, aI G 1500 RW), (co, aI G 500 CO), (ea, aI G 16000 EA), (tx, aII G 4 tf), (sz, aI G 4 SZ), (lf, aI G 200 LF), (fo, aI G 6400 FO), (f1, aI G 6400 F1)] ++ tpool G TL) (sp_poolR [0, 1, 2, 3, 4, 5, 6, 7, 8, 9, 10] [11] rfl rfl rfl) 0 rfl rfl rfl rfl rfl (Nat.le_of_ble_eq_true rfl) (by decide) (by decide) (by decide) (by decide) d_Mo_line_34 (fun r w' hq => ?_)
          obtain ⟨rfl, rfl⟩ := hq
          refine v_swap ?_
          show vv K ({ frames := 2, cells := 0, slots := 0, locals := 90 } : Room) G 6 0 0 ([(pa, aI G 5000 P), (ca, aI G 5000 C9), (la, aI G 500 LN), (ro, aI G 1500 RW), (co, aI G 500 CO), (ea, aI G 16000 EA), (tx, aII G 4 tf), (sz, aI G 4 SZ), (lf, aI G 200 LF), (fo, aI G 6400 FO), (f1, aI G 6400 F1), (h, ob 7 [.int (nI 0), .ref pa, .ref ca, .int (nI nc), .ref la, .ref ro, .ref co, .ref ea, .int (nI A.length), .int td, .ref tx, .ref sz, .ref lf, .int (nI lz), .ref fo, .int (nI fz), .ref f1])] ++ tpool G TL) 37 [(0, .ref h), (1, .int na), (2, .int qa), (3, .int qb), (4, .int qd)] [.int (ou qd)]
          refine v_if_eq (pc := 37) C 46 d_Mo_line_37 (by decide) (fun h5 => ?_) (fun h5 => ?_)
          · obtain ⟨nj, hn1, hn3, rfl⟩ := rng (by decide) (by decide) h1 h2
            obtain ⟨aj, haj, rfl⟩ := nb_nat (by decide) (ou_0 h3)
            obtain ⟨bj, hbj, rfl⟩ := nb_nat (by decide) (ou_0 h4)
            obtain ⟨dj, hdj, rfl⟩ := nb_nat (by decide) (ou_0 h5)
            have hsp0 : spLine (cl, A, told, rws) (nI nj) (nI aj) (nI bj) (nI dj) = if fndA (keyN nj aj bj dj) A = none ∧ A.length = 500 then (2, nI 0, (cl, A, told, rws)) else (0, nI (tellA (keyN nj aj bj dj) A).length, (cl, (tellA (keyN nj aj bj dj) A), some (tellI (keyN nj aj bj dj) A), rws)) := by
              unfold spLine
              rw [if_neg (fun z => z.elim (nlt_nI hn1 (by omega)) (fun z => z.elim (nlt_nI hn3 (by decide)) (fun z => z.elim (nbad haj (by decide)) (fun z => z.elim (nbad hbj (by decide)) (nbad hdj (by decide)))))), toN_nI (by omega), toN_nI (by omega), toN_nI (by omega), toN_nI (by omega)]
            refine v_aload_n (pc := 46) C 0 d_Mo_line_46 rfl rfl ?_
            refine v_iload_n (pc := 47) C 1 d_Mo_line_47 rfl rfl ?_
            refine v_iload_n (pc := 48) C 2 d_Mo_line_48 rfl rfl ?_
            refine v_iload_n (pc := 49) C 3 d_Mo_line_49 rfl rfl ?_
            refine v_iload (pc := 50) C 4 d_Mo_line_50 rfl ?_
            show vv K ({ frames := 2, cells := 0, slots := 0, locals := 90 } : Room) G 6 0 0 ([(pa, aI G 5000 P), (ca, aI G 5000 C9), (la, aI G 500 LN), (ro, aI G 1500 RW), (co, aI G 500 CO), (ea, aI G 16000 EA), (tx, aII G 4 tf), (sz, aI G 4 SZ), (lf, aI G 200 LF), (fo, aI G 6400 FO), (f1, aI G 6400 F1), (h, ob 7 [.int (nI 0), .ref pa, .ref ca, .int (nI nc), .ref la, .ref ro, .ref co, .ref ea, .int (nI A.length), .int td, .ref tx, .ref sz, .ref lf, .int (nI lz), .ref fo, .int (nI fz), .ref f1])] ++ tpool G TL) 52 [(0, .ref h), (1, .int (nI nj)), (2, .int (nI aj)), (3, .int (nI bj)), (4, .int (nI dj))] [.int (nI dj), .int (nI bj), .int (nI aj), .int (nI nj), .ref h]
            refine v_callV (pc := 52) (As := [.int (nI nj), .int (nI aj), .int (nI bj), .int (nI dj)]) (rest := []) C (c_Mo_lineOf _ G h pa ca la ro co ea tx sz lf fo f1 (nI 0) td nc lz fz LN RW A nj aj bj dj hA hLM hn1 hn3 haj hbj hdj) l_Mo_67 ([(pa, aI G 5000 P), (ca, aI G 5000 C9), (co, aI G 500 CO), (ea, aI G 16000 EA), (tx, aII G 4 tf), (sz, aI G 4 SZ), (lf, aI G 200 LF), (fo, aI G 6400 FO), (f1, aI G 6400 F1)] ++ tpool G TL) (sp_poolR [0, 1, 4, 5, 6, 7, 8, 9, 10] [11, 2, 3] rfl rfl rfl) 0 rfl rfl rfl rfl rfl (Nat.le_of_ble_eq_true rfl) (by decide) (by decide) (by decide) (by decide) d_Mo_line_52 (fun r w' hq => ?_)
            obtain ⟨rfl, rfl⟩ := hq
            refine v_swap ?_
            show vv K ({ frames := 2, cells := 0, slots := 0, locals := 90 } : Room) G 6 0 0 ([(pa, aI G 5000 P), (ca, aI G 5000 C9), (co, aI G 500 CO), (ea, aI G 16000 EA), (tx, aII G 4 tf), (sz, aI G 4 SZ), (lf, aI G 200 LF), (fo, aI G 6400 FO), (f1, aI G 6400 F1), (h, ob 7 [.int (nI 0), .ref pa, .ref ca, .int (nI nc), .ref la, .ref ro, .ref co, .ref ea, .int (nI A.length), .int td, .ref tx, .ref sz, .ref lf, .int (nI lz), .ref fo, .int (nI fz), .ref f1]), (la, aI G 500 LN), (ro, aI G 1500 RW)] ++ tpool G TL) 55 [(0, .ref h), (1, .int (nI nj)), (2, .int (nI aj)), (3, .int (nI bj)), (4, .int (nI dj))] [.int (fiI (fndA (keyN nj aj bj dj) A))]
            have hlm := lm_tell hLM hn1 hn3 haj hbj hdj
            generalize keyN nj aj bj dj = key at hlm hsp0 ⊢
            have hem := em_tell key hEM
            have htl := tell_len (k := key) (A := A)
            have htlt := tellI_lt (k := key) (A := A)
            cases hf : fndA key A with
            | none =>
              show vv K ({ frames := 2, cells := 0, slots := 0, locals := 90 } : Room) G 6 0 0 ([(pa, aI G 5000 P), (ca, aI G 5000 C9), (co, aI G 500 CO), (ea, aI G 16000 EA), (tx, aII G 4 tf), (sz, aI G 4 SZ), (lf, aI G 200 LF), (fo, aI G 6400 FO), (f1, aI G 6400 F1), (h, ob 7 [.int (nI 0), .ref pa, .ref ca, .int (nI nc), .ref la, .ref ro, .ref co, .ref ea, .int (nI A.length), .int td, .ref tx, .ref sz, .ref lf, .int (nI lz), .ref fo, .int (nI fz), .ref f1]), (la, aI G 500 LN), (ro, aI G 1500 RW)] ++ tpool G TL) 55 [(0, .ref h), (1, .int (nI nj)), (2, .int (nI aj)), (3, .int (nI bj)), (4, .int (nI dj))] [.int (-1)]
              rw [if_pos hf] at htl
              have hti9 : tellI key A = A.length := by unfold tellI; rw [hf]; rfl
              refine v_istore (pc := 55) C [(5, .int (-1)), (0, .ref h), (1, .int (nI nj)), (2, .int (nI aj)), (3, .int (nI bj)), (4, .int (nI dj))] d_Mo_line_55 (by decide) rfl ?_
              refine v_iload (pc := 57) C 0 d_Mo_line_57 rfl ?_
              refine v_if_ge (pc := 59) C 78 d_Mo_line_59 (by decide) (fun h6 => ?_) (fun h6 => ?_)
              · exact absurd h6 (by decide)
              · refine v_aload_n (pc := 62) C 1 d_Mo_line_62 rfl rfl ?_
                refine v_get (pc := 63) (Cn := "WeightOrderModel") (T := T_Mo) (N := 17) (ci := 7) (v := .int (nI A.length)) C 9 8 rfl rfl hin_Mo (by decide) rfl k_470 rfl d_Mo_line_63 ?_
                refine v_sipush (pc := 66) C (nI 500) d_Mo_line_66 (by decide +kernel) ?_
                refine v_icmpN_ne (pc := 69) C 78 A.length 500 d_Mo_line_69 (by decide) (by omega) (by omega) (fun h7 => ?_) (fun h7 => ?_)
                · refine v_iload (pc := 78) C 0 d_Mo_line_78 rfl ?_
                  refine v_if_ge (pc := 80) C 99 d_Mo_line_80 (by decide) (fun h8 => ?_) (fun h8 => ?_)
                  · exact absurd h8 (by decide)
                  · refine v_aload_n (pc := 83) C 1 d_Mo_line_83 rfl rfl ?_
                    refine v_get (pc := 84) (Cn := "WeightOrderModel") (T := T_Mo) (N := 17) (ci := 7) (v := .int (nI A.length)) C 9 8 rfl rfl hin_Mo (by decide) rfl k_470 rfl d_Mo_line_84 ?_
                    refine v_istore (pc := 87) C [(5, .int (nI A.length)), (0, .ref h), (1, .int (nI nj)), (2, .int (nI aj)), (3, .int (nI bj)), (4, .int (nI dj))] d_Mo_line_87 (by decide) rfl ?_
                    refine v_aload_n (pc := 89) C 1 d_Mo_line_89 rfl rfl ?_
                    refine v_dup (pc := 90) C d_Mo_line_90 rfl ?_
                    refine v_get (pc := 91) (Cn := "WeightOrderModel") (T := T_Mo) (N := 17) (ci := 7) (v := .int (nI A.length)) C 9 8 rfl rfl hin_Mo (by decide) rfl k_470 rfl d_Mo_line_91 ?_
                    refine v_iconst (pc := 94) C (nI 1) d_Mo_line_94 (by decide +kernel) ?_
                    refine v_iadd (pc := 95) C (nI (A.length + 1)) d_Mo_line_95 (nI_add _ _) ?_
                    refine v_put (pc := 96) (Cn := "WeightOrderModel") (T := T_Mo) (N := 17) (ci := 7) (v := .int (nI (A.length + 1))) C 9 8 rfl rfl hin_Mo (by decide) rfl ([(pa, aI G 5000 P), (ca, aI G 5000 C9), (co, aI G 500 CO), (ea, aI G 16000 EA), (tx, aII G 4 tf), (sz, aI G 4 SZ), (lf, aI G 200 LF), (fo, aI G 6400 FO), (f1, aI G 6400 F1), (h, ob 7 [.int (nI 0), .ref pa, .ref ca, .int (nI nc), .ref la, .ref ro, .ref co, .ref ea, .int (nI (A.length + 1)), .int td, .ref tx, .ref sz, .ref lf, .int (nI lz), .ref fo, .int (nI fz), .ref f1]), (la, aI G 500 LN), (ro, aI G 1500 RW)] ++ tpool G TL) t_Mo t_Mo_ok n_Mo (.int) rfl rfl rfl (Nat.le_of_ble_eq_true rfl) rfl rfl k_470 d_Mo_line_96 ?_
                    refine v_aload_n (pc := 99) C 1 d_Mo_line_99 rfl rfl ?_
                    refine v_get (pc := 100) (Cn := "WeightOrderModel") (T := T_Mo) (N := 17) (ci := 7) (v := .ref la) C 9 4 rfl rfl hin_Mo (by decide) rfl k_466 rfl d_Mo_line_100 ?_
                    refine v_iload (pc := 103) C 0 d_Mo_line_103 rfl ?_
                    refine v_iload_n (pc := 105) C 2 d_Mo_line_105 rfl rfl ?_
                    refine v_iast (pc := 106) C 10 ([(pa, aI G 5000 P), (ca, aI G 5000 C9), (co, aI G 500 CO), (ea, aI G 16000 EA), (tx, aII G 4 tf), (sz, aI G 4 SZ), (lf, aI G 200 LF), (fo, aI G 6400 FO), (f1, aI G 6400 F1), (h, ob 7 [.int (nI 0), .ref pa, .ref ca, .int (nI nc), .ref la, .ref ro, .ref co, .ref ea, .int (nI (A.length + 1)), .int td, .ref tx, .ref sz, .ref lf, .int (nI lz), .ref fo, .int (nI fz), .ref f1]), (la, aI G 500 (upd LN A.length (nI nj))), (ro, aI G 1500 RW)] ++ tpool G TL) rfl A.length rfl (by omega) (by decide) rfl d_Mo_line_106 ?_
                    refine v_aload_n (pc := 107) C 1 d_Mo_line_107 rfl rfl ?_
                    refine v_get (pc := 108) (Cn := "WeightOrderModel") (T := T_Mo) (N := 17) (ci := 7) (v := .ref ro) C 9 5 rfl rfl hin_Mo (by decide) rfl k_467 rfl d_Mo_line_108 ?_
                    refine v_iconst (pc := 111) C (nI 3) d_Mo_line_111 (by decide +kernel) ?_
                    refine v_iload (pc := 112) C 0 d_Mo_line_112 rfl ?_
                    refine v_imul (pc := 114) C (nI (3 * A.length)) d_Mo_line_114 (pk_mul _ _) ?_
                    refine v_iload_n (pc := 115) C 3 d_Mo_line_115 rfl rfl ?_
                    refine v_iast (pc := 116) C 11 ([(pa, aI G 5000 P), (ca, aI G 5000 C9), (co, aI G 500 CO), (ea, aI G 16000 EA), (tx, aII G 4 tf), (sz, aI G 4 SZ), (lf, aI G 200 LF), (fo, aI G 6400 FO), (f1, aI G 6400 F1), (h, ob 7 [.int (nI 0), .ref pa, .ref ca, .int (nI nc), .ref la, .ref ro, .ref co, .ref ea, .int (nI (A.length + 1)), .int td, .ref tx, .ref sz, .ref lf, .int (nI lz), .ref fo, .int (nI fz), .ref f1]), (la, aI G 500 (upd LN A.length (nI nj))), (ro, aI G 1500 (upd RW (3 * A.length) (nI aj)))] ++ tpool G TL) rfl (3 * A.length) rfl (by omega) (by decide) rfl d_Mo_line_116 ?_
                    refine v_aload_n (pc := 117) C 1 d_Mo_line_117 rfl rfl ?_
                    refine v_get (pc := 118) (Cn := "WeightOrderModel") (T := T_Mo) (N := 17) (ci := 7) (v := .ref ro) C 9 5 rfl rfl hin_Mo (by decide) rfl k_467 rfl d_Mo_line_118 ?_
                    refine v_iconst (pc := 121) C (nI 3) d_Mo_line_121 (by decide +kernel) ?_
                    refine v_iload (pc := 122) C 0 d_Mo_line_122 rfl ?_
                    refine v_imul (pc := 124) C (nI (3 * A.length)) d_Mo_line_124 (pk_mul _ _) ?_
                    refine v_iconst (pc := 125) C (nI 1) d_Mo_line_125 (by decide +kernel) ?_
                    refine v_iadd (pc := 126) C (nI (3 * A.length + 1)) d_Mo_line_126 (nI_add _ _) ?_
                    refine v_iload_n (pc := 127) C 4 d_Mo_line_127 rfl rfl ?_
                    refine v_iast (pc := 128) C 11 ([(pa, aI G 5000 P), (ca, aI G 5000 C9), (co, aI G 500 CO), (ea, aI G 16000 EA), (tx, aII G 4 tf), (sz, aI G 4 SZ), (lf, aI G 200 LF), (fo, aI G 6400 FO), (f1, aI G 6400 F1), (h, ob 7 [.int (nI 0), .ref pa, .ref ca, .int (nI nc), .ref la, .ref ro, .ref co, .ref ea, .int (nI (A.length + 1)), .int td, .ref tx, .ref sz, .ref lf, .int (nI lz), .ref fo, .int (nI fz), .ref f1]), (la, aI G 500 (upd LN A.length (nI nj))), (ro, aI G 1500 (upd (upd RW (3 * A.length) (nI aj)) (3 * A.length + 1) (nI bj)))] ++ tpool G TL) rfl (3 * A.length + 1) rfl (by omega) (by decide) rfl d_Mo_line_128 ?_
                    refine v_aload_n (pc := 129) C 1 d_Mo_line_129 rfl rfl ?_
                    refine v_get (pc := 130) (Cn := "WeightOrderModel") (T := T_Mo) (N := 17) (ci := 7) (v := .ref ro) C 9 5 rfl rfl hin_Mo (by decide) rfl k_467 rfl d_Mo_line_130 ?_
                    refine v_iconst (pc := 133) C (nI 3) d_Mo_line_133 (by decide +kernel) ?_
                    refine v_iload (pc := 134) C 0 d_Mo_line_134 rfl ?_
                    refine v_imul (pc := 136) C (nI (3 * A.length)) d_Mo_line_136 (pk_mul _ _) ?_
                    refine v_iconst (pc := 137) C (nI 2) d_Mo_line_137 (by decide +kernel) ?_
                    refine v_iadd (pc := 138) C (nI (3 * A.length + 2)) d_Mo_line_138 (nI_add _ _) ?_
                    refine v_iload (pc := 139) C 5 d_Mo_line_139 rfl ?_
                    refine v_iast (pc := 141) C 11 ([(pa, aI G 5000 P), (ca, aI G 5000 C9), (co, aI G 500 CO), (ea, aI G 16000 EA), (tx, aII G 4 tf), (sz, aI G 4 SZ), (lf, aI G 200 LF), (fo, aI G 6400 FO), (f1, aI G 6400 F1), (h, ob 7 [.int (nI 0), .ref pa, .ref ca, .int (nI nc), .ref la, .ref ro, .ref co, .ref ea, .int (nI (A.length + 1)), .int td, .ref tx, .ref sz, .ref lf, .int (nI lz), .ref fo, .int (nI fz), .ref f1]), (la, aI G 500 (upd LN A.length (nI nj))), (ro, aI G 1500 (upd (upd (upd RW (3 * A.length) (nI aj)) (3 * A.length + 1) (nI bj)) (3 * A.length + 2) (nI dj)))] ++ tpool G TL) rfl (3 * A.length + 2) rfl (by omega) (by decide) rfl d_Mo_line_141 ?_
                    refine v_aload_n (pc := 142) C 1 d_Mo_line_142 rfl rfl ?_
                    refine v_get (pc := 143) (Cn := "WeightOrderModel") (T := T_Mo) (N := 17) (ci := 7) (v := .ref co) C 9 6 rfl rfl hin_Mo (by decide) rfl k_468 rfl d_Mo_line_143 ?_
                    refine v_iload (pc := 146) C 0 d_Mo_line_146 rfl ?_
                    refine v_iconst (pc := 148) C (nI 0) d_Mo_line_148 (by decide +kernel) ?_
                    refine v_iast (pc := 149) C 2 ([(pa, aI G 5000 P), (ca, aI G 5000 C9), (co, aI G 500 (upd CO A.length (nI 0))), (ea, aI G 16000 EA), (tx, aII G 4 tf), (sz, aI G 4 SZ), (lf, aI G 200 LF), (fo, aI G 6400 FO), (f1, aI G 6400 F1), (h, ob 7 [.int (nI 0), .ref pa, .ref ca, .int (nI nc), .ref la, .ref ro, .ref co, .ref ea, .int (nI (A.length + 1)), .int td, .ref tx, .ref sz, .ref lf, .int (nI lz), .ref fo, .int (nI fz), .ref f1]), (la, aI G 500 (upd LN A.length (nI nj))), (ro, aI G 1500 (upd (upd (upd RW (3 * A.length) (nI aj)) (3 * A.length + 1) (nI bj)) (3 * A.length + 2) (nI dj)))] ++ tpool G TL) rfl A.length rfl (by omega) (by decide) rfl d_Mo_line_149 ?_
                    refine v_aload_n (pc := 150) C 1 d_Mo_line_150 rfl rfl ?_
                    refine v_iload (pc := 151) C 0 d_Mo_line_151 rfl ?_
                    refine v_put (pc := 153) (Cn := "WeightOrderModel") (T := T_Mo) (N := 17) (ci := 7) (v := .int (nI A.length)) C 9 9 rfl rfl hin_Mo (by decide) rfl ([(pa, aI G 5000 P), (ca, aI G 5000 C9), (co, aI G 500 (upd CO A.length (nI 0))), (ea, aI G 16000 EA), (tx, aII G 4 tf), (sz, aI G 4 SZ), (lf, aI G 200 LF), (fo, aI G 6400 FO), (f1, aI G 6400 F1), (h, ob 7 [.int (nI 0), .ref pa, .ref ca, .int (nI nc), .ref la, .ref ro, .ref co, .ref ea, .int (nI (A.length + 1)), .int (nI A.length), .ref tx, .ref sz, .ref lf, .int (nI lz), .ref fo, .int (nI fz), .ref f1]), (la, aI G 500 (upd LN A.length (nI nj))), (ro, aI G 1500 (upd (upd (upd RW (3 * A.length) (nI aj)) (3 * A.length + 1) (nI bj)) (3 * A.length + 2) (nI dj)))] ++ tpool G TL) t_Mo t_Mo_ok n_Mo (.int) rfl rfl rfl (Nat.le_of_ble_eq_true rfl) rfl rfl k_471 d_Mo_line_153 ?_
                    refine v_aload_n (pc := 156) C 1 d_Mo_line_156 rfl rfl ?_
                    refine v_get (pc := 157) (Cn := "WeightOrderModel") (T := T_Mo) (N := 17) (ci := 7) (v := .int (nI (A.length + 1))) C 9 8 rfl rfl hin_Mo (by decide) rfl k_470 rfl d_Mo_line_157 ?_
                    refine v_wsubP [9, 0, 1, 10, 11, 2, 3, 4, 5, 6, 7, 8] ([(h, ob 7 [.int (nI 0), .ref pa, .ref ca, .int (nI nc), .ref la, .ref ro, .ref co, .ref ea, .int (nI (A.length + 1)), .int (nI A.length), .ref tx, .ref sz, .ref lf, .int (nI lz), .ref fo, .int (nI fz), .ref f1]), (pa, aI G 5000 P), (ca, aI G 5000 C9), (la, aI G 500 (upd LN A.length (nI nj))), (ro, aI G 1500 (upd (upd (upd RW (3 * A.length) (nI aj)) (3 * A.length + 1) (nI bj)) (3 * A.length + 2) (nI dj))), (co, aI G 500 (upd CO A.length (nI 0))), (ea, aI G 16000 EA), (tx, aII G 4 tf), (sz, aI G 4 SZ), (lf, aI G 200 LF), (fo, aI G 6400 FO), (f1, aI G 6400 F1)]) rfl rfl ?_
                    have hsp : spLine (cl, A, told, rws) (nI nj) (nI aj) (nI bj) (nI dj) = (0, nI (tellA key A).length, (cl, tellA key A, some (tellI key A), rws)) := by rw [hsp0, if_neg (fun z => h7 z.2)]
                    exact v_iret (pc := 160) C X d_Mo_line_160 ⟨by rw [hsp, htl], by rw [hsp]; exact ⟨pa, ca, la, ro, co, ea, tx, sz, lf, fo, f1, nc, lz, fz, nI A.length, P, C9, upd LN A.length (nI nj), upd (upd (upd RW (3 * A.length) (nI aj)) (3 * A.length + 1) (nI bj)) (3 * A.length + 2) (nI dj), upd CO A.length (nI 0), EA, SZ, LF, FO, F1, tf, TL, (by rw [htl]), hnc, hk5, hC, (by show (tellA key A).length ≤ 500; omega), by rw [hti9] at hlm; exact hlm, by rw [hti9] at hem; exact hem, (show _ = fiI (some (tellI key A)) by rw [hti9]; rfl), (fun i9 h9 => by cases h9; exact htlt), hTx, hTf⟩⟩ (by decide) (by decide)
                · refine v_aload_n (pc := 72) C 1 d_Mo_line_72 rfl rfl ?_
                  refine v_iconst (pc := 73) C (nI 2) d_Mo_line_73 (by decide +kernel) ?_
                  refine v_callV (pc := 74) (As := [.int (nI 2)]) (rest := []) C (c_Mo_fail _ G h pa ca la ro co ea tx sz lf fo f1 (nI 0) td nc A.length lz fz 2) l_Mo_63 ([(pa, aI G 5000 P), (ca, aI G 5000 C9), (co, aI G 500 CO), (ea, aI G 16000 EA), (tx, aII G 4 tf), (sz, aI G 4 SZ), (lf, aI G 200 LF), (fo, aI G 6400 FO), (f1, aI G 6400 F1), (la, aI G 500 LN), (ro, aI G 1500 RW)] ++ tpool G TL) (sp_poolR [0, 1, 2, 3, 4, 5, 6, 7, 8, 10, 11] [9] rfl rfl rfl) 0 rfl rfl rfl rfl rfl (Nat.le_of_ble_eq_true rfl) (by decide) (by decide) (by decide) (by decide) d_Mo_line_74 (fun r w' hq => ?_)
                  obtain ⟨rfl, rfl⟩ := hq
                  refine v_swap ?_
                  show vv K ({ frames := 2, cells := 0, slots := 0, locals := 90 } : Room) G 6 0 0 ([(pa, aI G 5000 P), (ca, aI G 5000 C9), (co, aI G 500 CO), (ea, aI G 16000 EA), (tx, aII G 4 tf), (sz, aI G 4 SZ), (lf, aI G 200 LF), (fo, aI G 6400 FO), (f1, aI G 6400 F1), (la, aI G 500 LN), (ro, aI G 1500 RW), (h, ob 7 [.int (nI 2), .ref pa, .ref ca, .int (nI nc), .ref la, .ref ro, .ref co, .ref ea, .int (nI A.length), .int td, .ref tx, .ref sz, .ref lf, .int (nI lz), .ref fo, .int (nI fz), .ref f1])] ++ tpool G TL) 77 [(5, .int (-1)), (0, .ref h), (1, .int (nI nj)), (2, .int (nI aj)), (3, .int (nI bj)), (4, .int (nI dj))] [.int (nI 0)]
                  refine v_wsubP [11, 0, 1, 9, 10, 2, 3, 4, 5, 6, 7, 8] ([(h, ob 7 [.int (nI 2), .ref pa, .ref ca, .int (nI nc), .ref la, .ref ro, .ref co, .ref ea, .int (nI A.length), .int td, .ref tx, .ref sz, .ref lf, .int (nI lz), .ref fo, .int (nI fz), .ref f1]), (pa, aI G 5000 P), (ca, aI G 5000 C9), (la, aI G 500 LN), (ro, aI G 1500 RW), (co, aI G 500 CO), (ea, aI G 16000 EA), (tx, aII G 4 tf), (sz, aI G 4 SZ), (lf, aI G 200 LF), (fo, aI G 6400 FO), (f1, aI G 6400 F1)]) rfl rfl ?_
                  exact v_iret (pc := 77) C X d_Mo_line_77 ⟨by rw [hsp0, if_pos ⟨hf, h7⟩], by rw [hsp0, if_pos ⟨hf, h7⟩]; exact ⟨pa, ca, la, ro, co, ea, tx, sz, lf, fo, f1, nc, lz, fz, td, P, C9, LN, RW, CO, EA, SZ, LF, FO, F1, tf, TL, rfl, hnc, hk5, hC, hA, hLM, hEM, htd, hti, hTx, hTf⟩⟩ (by decide) (by decide)
            | some i =>
              obtain ⟨x, hx, hxk⟩ := fndA_at hf
              have hi := (List.getElem?_eq_some_iff.mp hx).1
              rw [if_neg (by rw [hf]; exact fun z => by cases z)] at htl
              have hti9 : tellI key A = i := by unfold tellI; rw [hf]; rfl
              show vv K ({ frames := 2, cells := 0, slots := 0, locals := 90 } : Room) G 6 0 0 ([(pa, aI G 5000 P), (ca, aI G 5000 C9), (co, aI G 500 CO), (ea, aI G 16000 EA), (tx, aII G 4 tf), (sz, aI G 4 SZ), (lf, aI G 200 LF), (fo, aI G 6400 FO), (f1, aI G 6400 F1), (h, ob 7 [.int (nI 0), .ref pa, .ref ca, .int (nI nc), .ref la, .ref ro, .ref co, .ref ea, .int (nI A.length), .int td, .ref tx, .ref sz, .ref lf, .int (nI lz), .ref fo, .int (nI fz), .ref f1]), (la, aI G 500 LN), (ro, aI G 1500 RW)] ++ tpool G TL) 55 [(0, .ref h), (1, .int (nI nj)), (2, .int (nI aj)), (3, .int (nI bj)), (4, .int (nI dj))] [.int (nI i)]
              refine v_istore (pc := 55) C [(5, .int (nI i)), (0, .ref h), (1, .int (nI nj)), (2, .int (nI aj)), (3, .int (nI bj)), (4, .int (nI dj))] d_Mo_line_55 (by decide) rfl ?_
              refine v_iload (pc := 57) C 0 d_Mo_line_57 rfl ?_
              refine v_ifN_ge (pc := 59) C 78 i d_Mo_line_59 (by decide) (by omega) (fun h6 => ?_) (fun h6 => ?_)
              · refine v_iload (pc := 78) C 0 d_Mo_line_78 rfl ?_
                refine v_ifN_ge (pc := 80) C 99 i d_Mo_line_80 (by decide) (by omega) (fun h8 => ?_) (fun h8 => ?_)
                · refine v_aload_n (pc := 99) C 1 d_Mo_line_99 rfl rfl ?_
                  refine v_get (pc := 100) (Cn := "WeightOrderModel") (T := T_Mo) (N := 17) (ci := 7) (v := .ref la) C 9 4 rfl rfl hin_Mo (by decide) rfl k_466 rfl d_Mo_line_100 ?_
                  refine v_iload (pc := 103) C 0 d_Mo_line_103 rfl ?_
                  refine v_iload_n (pc := 105) C 2 d_Mo_line_105 rfl rfl ?_
                  refine v_iast (pc := 106) C 10 ([(pa, aI G 5000 P), (ca, aI G 5000 C9), (co, aI G 500 CO), (ea, aI G 16000 EA), (tx, aII G 4 tf), (sz, aI G 4 SZ), (lf, aI G 200 LF), (fo, aI G 6400 FO), (f1, aI G 6400 F1), (h, ob 7 [.int (nI 0), .ref pa, .ref ca, .int (nI nc), .ref la, .ref ro, .ref co, .ref ea, .int (nI A.length), .int td, .ref tx, .ref sz, .ref lf, .int (nI lz), .ref fo, .int (nI fz), .ref f1]), (la, aI G 500 (upd LN i (nI nj))), (ro, aI G 1500 RW)] ++ tpool G TL) rfl i rfl (by omega) (by decide) rfl d_Mo_line_106 ?_
                  refine v_aload_n (pc := 107) C 1 d_Mo_line_107 rfl rfl ?_
                  refine v_get (pc := 108) (Cn := "WeightOrderModel") (T := T_Mo) (N := 17) (ci := 7) (v := .ref ro) C 9 5 rfl rfl hin_Mo (by decide) rfl k_467 rfl d_Mo_line_108 ?_
                  refine v_iconst (pc := 111) C (nI 3) d_Mo_line_111 (by decide +kernel) ?_
                  refine v_iload (pc := 112) C 0 d_Mo_line_112 rfl ?_
                  refine v_imul (pc := 114) C (nI (3 * i)) d_Mo_line_114 (pk_mul _ _) ?_
                  refine v_iload_n (pc := 115) C 3 d_Mo_line_115 rfl rfl ?_
                  refine v_iast (pc := 116) C 11 ([(pa, aI G 5000 P), (ca, aI G 5000 C9), (co, aI G 500 CO), (ea, aI G 16000 EA), (tx, aII G 4 tf), (sz, aI G 4 SZ), (lf, aI G 200 LF), (fo, aI G 6400 FO), (f1, aI G 6400 F1), (h, ob 7 [.int (nI 0), .ref pa, .ref ca, .int (nI nc), .ref la, .ref ro, .ref co, .ref ea, .int (nI A.length), .int td, .ref tx, .ref sz, .ref lf, .int (nI lz), .ref fo, .int (nI fz), .ref f1]), (la, aI G 500 (upd LN i (nI nj))), (ro, aI G 1500 (upd RW (3 * i) (nI aj)))] ++ tpool G TL) rfl (3 * i) rfl (by omega) (by decide) rfl d_Mo_line_116 ?_
                  refine v_aload_n (pc := 117) C 1 d_Mo_line_117 rfl rfl ?_
                  refine v_get (pc := 118) (Cn := "WeightOrderModel") (T := T_Mo) (N := 17) (ci := 7) (v := .ref ro) C 9 5 rfl rfl hin_Mo (by decide) rfl k_467 rfl d_Mo_line_118 ?_
                  refine v_iconst (pc := 121) C (nI 3) d_Mo_line_121 (by decide +kernel) ?_
                  refine v_iload (pc := 122) C 0 d_Mo_line_122 rfl ?_
                  refine v_imul (pc := 124) C (nI (3 * i)) d_Mo_line_124 (pk_mul _ _) ?_
                  refine v_iconst (pc := 125) C (nI 1) d_Mo_line_125 (by decide +kernel) ?_
                  refine v_iadd (pc := 126) C (nI (3 * i + 1)) d_Mo_line_126 (nI_add _ _) ?_
                  refine v_iload_n (pc := 127) C 4 d_Mo_line_127 rfl rfl ?_
                  refine v_iast (pc := 128) C 11 ([(pa, aI G 5000 P), (ca, aI G 5000 C9), (co, aI G 500 CO), (ea, aI G 16000 EA), (tx, aII G 4 tf), (sz, aI G 4 SZ), (lf, aI G 200 LF), (fo, aI G 6400 FO), (f1, aI G 6400 F1), (h, ob 7 [.int (nI 0), .ref pa, .ref ca, .int (nI nc), .ref la, .ref ro, .ref co, .ref ea, .int (nI A.length), .int td, .ref tx, .ref sz, .ref lf, .int (nI lz), .ref fo, .int (nI fz), .ref f1]), (la, aI G 500 (upd LN i (nI nj))), (ro, aI G 1500 (upd (upd RW (3 * i) (nI aj)) (3 * i + 1) (nI bj)))] ++ tpool G TL) rfl (3 * i + 1) rfl (by omega) (by decide) rfl d_Mo_line_128 ?_
                  refine v_aload_n (pc := 129) C 1 d_Mo_line_129 rfl rfl ?_
                  refine v_get (pc := 130) (Cn := "WeightOrderModel") (T := T_Mo) (N := 17) (ci := 7) (v := .ref ro) C 9 5 rfl rfl hin_Mo (by decide) rfl k_467 rfl d_Mo_line_130 ?_
                  refine v_iconst (pc := 133) C (nI 3) d_Mo_line_133 (by decide +kernel) ?_
                  refine v_iload (pc := 134) C 0 d_Mo_line_134 rfl ?_
                  refine v_imul (pc := 136) C (nI (3 * i)) d_Mo_line_136 (pk_mul _ _) ?_
                  refine v_iconst (pc := 137) C (nI 2) d_Mo_line_137 (by decide +kernel) ?_
                  refine v_iadd (pc := 138) C (nI (3 * i + 2)) d_Mo_line_138 (nI_add _ _) ?_
                  refine v_iload (pc := 139) C 5 d_Mo_line_139 rfl ?_
                  refine v_iast (pc := 141) C 11 ([(pa, aI G 5000 P), (ca, aI G 5000 C9), (co, aI G 500 CO), (ea, aI G 16000 EA), (tx, aII G 4 tf), (sz, aI G 4 SZ), (lf, aI G 200 LF), (fo, aI G 6400 FO), (f1, aI G 6400 F1), (h, ob 7 [.int (nI 0), .ref pa, .ref ca, .int (nI nc), .ref la, .ref ro, .ref co, .ref ea, .int (nI A.length), .int td, .ref tx, .ref sz, .ref lf, .int (nI lz), .ref fo, .int (nI fz), .ref f1]), (la, aI G 500 (upd LN i (nI nj))), (ro, aI G 1500 (upd (upd (upd RW (3 * i) (nI aj)) (3 * i + 1) (nI bj)) (3 * i + 2) (nI dj)))] ++ tpool G TL) rfl (3 * i + 2) rfl (by omega) (by decide) rfl d_Mo_line_141 ?_
                  refine v_aload_n (pc := 142) C 1 d_Mo_line_142 rfl rfl ?_
                  refine v_get (pc := 143) (Cn := "WeightOrderModel") (T := T_Mo) (N := 17) (ci := 7) (v := .ref co) C 9 6 rfl rfl hin_Mo (by decide) rfl k_468 rfl d_Mo_line_143 ?_
                  refine v_iload (pc := 146) C 0 d_Mo_line_146 rfl ?_
                  refine v_iconst (pc := 148) C (nI 0) d_Mo_line_148 (by decide +kernel) ?_
                  refine v_iast (pc := 149) C 2 ([(pa, aI G 5000 P), (ca, aI G 5000 C9), (co, aI G 500 (upd CO i (nI 0))), (ea, aI G 16000 EA), (tx, aII G 4 tf), (sz, aI G 4 SZ), (lf, aI G 200 LF), (fo, aI G 6400 FO), (f1, aI G 6400 F1), (h, ob 7 [.int (nI 0), .ref pa, .ref ca, .int (nI nc), .ref la, .ref ro, .ref co, .ref ea, .int (nI A.length), .int td, .ref tx, .ref sz, .ref lf, .int (nI lz), .ref fo, .int (nI fz), .ref f1]), (la, aI G 500 (upd LN i (nI nj))), (ro, aI G 1500 (upd (upd (upd RW (3 * i) (nI aj)) (3 * i + 1) (nI bj)) (3 * i + 2) (nI dj)))] ++ tpool G TL) rfl i rfl (by omega) (by decide) rfl d_Mo_line_149 ?_
                  refine v_aload_n (pc := 150) C 1 d_Mo_line_150 rfl rfl ?_
                  refine v_iload (pc := 151) C 0 d_Mo_line_151 rfl ?_
                  refine v_put (pc := 153) (Cn := "WeightOrderModel") (T := T_Mo) (N := 17) (ci := 7) (v := .int (nI i)) C 9 9 rfl rfl hin_Mo (by decide) rfl ([(pa, aI G 5000 P), (ca, aI G 5000 C9), (co, aI G 500 (upd CO i (nI 0))), (ea, aI G 16000 EA), (tx, aII G 4 tf), (sz, aI G 4 SZ), (lf, aI G 200 LF), (fo, aI G 6400 FO), (f1, aI G 6400 F1), (h, ob 7 [.int (nI 0), .ref pa, .ref ca, .int (nI nc), .ref la, .ref ro, .ref co, .ref ea, .int (nI A.length), .int (nI i), .ref tx, .ref sz, .ref lf, .int (nI lz), .ref fo, .int (nI fz), .ref f1]), (la, aI G 500 (upd LN i (nI nj))), (ro, aI G 1500 (upd (upd (upd RW (3 * i) (nI aj)) (3 * i + 1) (nI bj)) (3 * i + 2) (nI dj)))] ++ tpool G TL) t_Mo t_Mo_ok n_Mo (.int) rfl rfl rfl (Nat.le_of_ble_eq_true rfl) rfl rfl k_471 d_Mo_line_153 ?_
                  refine v_aload_n (pc := 156) C 1 d_Mo_line_156 rfl rfl ?_
                  refine v_get (pc := 157) (Cn := "WeightOrderModel") (T := T_Mo) (N := 17) (ci := 7) (v := .int (nI A.length)) C 9 8 rfl rfl hin_Mo (by decide) rfl k_470 rfl d_Mo_line_157 ?_
                  refine v_wsubP [9, 0, 1, 10, 11, 2, 3, 4, 5, 6, 7, 8] ([(h, ob 7 [.int (nI 0), .ref pa, .ref ca, .int (nI nc), .ref la, .ref ro, .ref co, .ref ea, .int (nI A.length), .int (nI i), .ref tx, .ref sz, .ref lf, .int (nI lz), .ref fo, .int (nI fz), .ref f1]), (pa, aI G 5000 P), (ca, aI G 5000 C9), (la, aI G 500 (upd LN i (nI nj))), (ro, aI G 1500 (upd (upd (upd RW (3 * i) (nI aj)) (3 * i + 1) (nI bj)) (3 * i + 2) (nI dj))), (co, aI G 500 (upd CO i (nI 0))), (ea, aI G 16000 EA), (tx, aII G 4 tf), (sz, aI G 4 SZ), (lf, aI G 200 LF), (fo, aI G 6400 FO), (f1, aI G 6400 F1)]) rfl rfl ?_
                  have hsp : spLine (cl, A, told, rws) (nI nj) (nI aj) (nI bj) (nI dj) = (0, nI (tellA key A).length, (cl, tellA key A, some (tellI key A), rws)) := by rw [hsp0, if_neg (fun z => by rw [hf] at z; cases z.1)]
                  exact v_iret (pc := 160) C X d_Mo_line_160 ⟨by rw [hsp, htl], by rw [hsp]; exact ⟨pa, ca, la, ro, co, ea, tx, sz, lf, fo, f1, nc, lz, fz, nI i, P, C9, upd LN i (nI nj), upd (upd (upd RW (3 * i) (nI aj)) (3 * i + 1) (nI bj)) (3 * i + 2) (nI dj), upd CO i (nI 0), EA, SZ, LF, FO, F1, tf, TL, (by rw [htl]), hnc, hk5, hC, (by show (tellA key A).length ≤ 500; omega), by rw [hti9] at hlm; exact hlm, by rw [hti9] at hem; exact hem, (show _ = fiI (some (tellI key A)) by rw [hti9]; rfl), (fun i9 h9 => by cases h9; exact htlt), hTx, hTf⟩⟩ (by decide) (by decide)
                · omega
              · omega
          · refine v_aload_n (pc := 40) C 0 d_Mo_line_40 rfl rfl ?_
            refine v_iconst (pc := 41) C (nI 1) d_Mo_line_41 (by decide +kernel) ?_
            refine v_callV (pc := 42) (As := [.int (nI 1)]) (rest := []) C (c_Mo_fail _ G h pa ca la ro co ea tx sz lf fo f1 (nI 0) td nc A.length lz fz 1) l_Mo_63 ([(pa, aI G 5000 P), (ca, aI G 5000 C9), (la, aI G 500 LN), (ro, aI G 1500 RW), (co, aI G 500 CO), (ea, aI G 16000 EA), (tx, aII G 4 tf), (sz, aI G 4 SZ), (lf, aI G 200 LF), (fo, aI G 6400 FO), (f1, aI G 6400 F1)] ++ tpool G TL) (sp_poolR [0, 1, 2, 3, 4, 5, 6, 7, 8, 9, 10] [11] rfl rfl rfl) 0 rfl rfl rfl rfl rfl (Nat.le_of_ble_eq_true rfl) (by decide) (by decide) (by decide) (by decide) d_Mo_line_42 (fun r w' hq => ?_)
            obtain ⟨rfl, rfl⟩ := hq
            refine v_swap ?_
            show vv K ({ frames := 2, cells := 0, slots := 0, locals := 90 } : Room) G 6 0 0 ([(pa, aI G 5000 P), (ca, aI G 5000 C9), (la, aI G 500 LN), (ro, aI G 1500 RW), (co, aI G 500 CO), (ea, aI G 16000 EA), (tx, aII G 4 tf), (sz, aI G 4 SZ), (lf, aI G 200 LF), (fo, aI G 6400 FO), (f1, aI G 6400 F1), (h, ob 7 [.int (nI 1), .ref pa, .ref ca, .int (nI nc), .ref la, .ref ro, .ref co, .ref ea, .int (nI A.length), .int td, .ref tx, .ref sz, .ref lf, .int (nI lz), .ref fo, .int (nI fz), .ref f1])] ++ tpool G TL) 45 [(0, .ref h), (1, .int na), (2, .int qa), (3, .int qb), (4, .int qd)] [.int (nI 0)]
            refine v_wsubP [11, 0, 1, 2, 3, 4, 5, 6, 7, 8, 9, 10] ([(h, ob 7 [.int (nI 1), .ref pa, .ref ca, .int (nI nc), .ref la, .ref ro, .ref co, .ref ea, .int (nI A.length), .int td, .ref tx, .ref sz, .ref lf, .int (nI lz), .ref fo, .int (nI fz), .ref f1]), (pa, aI G 5000 P), (ca, aI G 5000 C9), (la, aI G 500 LN), (ro, aI G 1500 RW), (co, aI G 500 CO), (ea, aI G 16000 EA), (tx, aII G 4 tf), (sz, aI G 4 SZ), (lf, aI G 200 LF), (fo, aI G 6400 FO), (f1, aI G 6400 F1)]) rfl rfl ?_
            exact v_iret (pc := 45) C X d_Mo_line_45 ⟨by rw [show spLine (cl, A, told, rws) na qa qb qd = (1, nI 0, (cl, A, told, rws)) by unfold spLine; rw [if_pos (Or.inr (Or.inr (Or.inr (Or.inr (ou_1 h5)))))]], by rw [show spLine (cl, A, told, rws) na qa qb qd = (1, nI 0, (cl, A, told, rws)) by unfold spLine; rw [if_pos (Or.inr (Or.inr (Or.inr (Or.inr (ou_1 h5)))))]]; exact ⟨pa, ca, la, ro, co, ea, tx, sz, lf, fo, f1, nc, lz, fz, td, P, C9, LN, RW, CO, EA, SZ, LF, FO, F1, tf, TL, rfl, hnc, hk5, hC, hA, hLM, hEM, htd, hti, hTx, hTf⟩⟩ (by decide) (by decide)
