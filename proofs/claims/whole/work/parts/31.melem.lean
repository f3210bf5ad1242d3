/-! The reference: element, add, clear, drop, give -/
theorem spElement_badE {cl : Nat → Nat} {A : List (Nat × List E4)} {i : Nat} {rws : List (List Nat)} {p s t : Int32} {v : Nat} (h : badN p 65535 ∨ badN s 65535 ∨ badN t 65535) : spElement (cl, A, some i, rws) p s t v = (1, nI 0, (cl, A, some i, rws)) := by
  unfold spElement
  show (if _ then _ else _) = _
  rw [if_pos h]
theorem lm_set {LN RW : Nat → Int32} {A : List (Nat × List E4)} {i : Nat} {x : Nat × List E4} {es : List E4} (h : LM LN RW A) (hx : A[i]? = some x) : LM LN RW (A.set i (x.1, es)) := by
  intro j y hy
  rw [List.getElem?_set] at hy
  split at hy
  · rename_i c
    subst c
    split at hy
    · cases hy
      exact h i x hx
    · cases hy
  · exact h j y hy
set_option maxHeartbeats 2000000 in
theorem em_add {CO EA : Nat → Int32} {A : List (Nat × List E4)} {i : Nat} {x : Nat × List E4} {e : E4} (h : EM CO EA A) (hx : A[i]? = some x) (hl : x.2.length < 8) (he : okR e) :
    EM (upd CO i (nI (x.2.length + 1))) (upd (upd (upd (upd EA (4 * (8 * i + x.2.length)) (nI e.1)) (4 * (8 * i + x.2.length) + 1) (nI e.2.1)) (4 * (8 * i + x.2.length) + 2) (nI e.2.2.1)) (4 * (8 * i + x.2.length) + 3) (nI e.2.2.2)) (A.set i (x.1, x.2 ++ [e])) := by
  intro j y hy
  rw [List.getElem?_set] at hy
  by_cases c : i = j
  · subst c
    rw [if_pos rfl, if_pos (List.getElem?_eq_some_iff.mp hx).1] at hy
    cases hy
    refine ⟨by rw [pk_us]; simp, by simp; omega, fun n u hu => ?_⟩
    have hu : (x.2 ++ [e])[n]? = some u := hu
    rcases Nat.lt_trichotomy n x.2.length with d | d | d
    · rw [List.getElem?_append_left d] at hu
      obtain ⟨o, a1, a2, a3, a4⟩ := (h i x hx).2.2 n u hu
      refine ⟨o, ?_, ?_, ?_, ?_⟩
      · rw [pk_un (by omega), pk_un (by omega), pk_un (by omega), pk_un (by omega)]; exact a1
      · rw [pk_un (by omega), pk_un (by omega), pk_un (by omega), pk_un (by omega)]; exact a2
      · rw [pk_un (by omega), pk_un (by omega), pk_un (by omega), pk_un (by omega)]; exact a3
      · rw [pk_un (by omega), pk_un (by omega), pk_un (by omega), pk_un (by omega)]; exact a4
    · rw [d, List.getElem?_append_right (Nat.le_refl _), Nat.sub_self] at hu
      cases hu
      rw [d]
      refine ⟨he, ?_, ?_, ?_, ?_⟩
      · rw [pk_un (by omega), pk_un (by omega), pk_un (by omega), pk_us]
      · rw [pk_un (by omega), pk_un (by omega), pk_us]
      · rw [pk_un (by omega), pk_us]
      · rw [pk_us]
    · rw [List.getElem?_eq_none (by simp; omega)] at hu
      cases hu
  · rw [if_neg c] at hy
    obtain ⟨h1, h2, h3⟩ := h j y hy
    refine ⟨by rw [pk_un (fun z => c z.symm)]; exact h1, h2, fun n u hu => ?_⟩
    obtain ⟨o, a1, a2, a3, a4⟩ := h3 n u hu
    have hn := (List.getElem?_eq_some_iff.mp hu).1
    have hd : 8 * i + x.2.length ≠ 8 * j + n := by omega
    refine ⟨o, ?_, ?_, ?_, ?_⟩
    · rw [pk_un (by omega), pk_un (by omega), pk_un (by omega), pk_un (by omega)]; exact a1
    · rw [pk_un (by omega), pk_un (by omega), pk_un (by omega), pk_un (by omega)]; exact a2
    · rw [pk_un (by omega), pk_un (by omega), pk_un (by omega), pk_un (by omega)]; exact a3
    · rw [pk_un (by omega), pk_un (by omega), pk_un (by omega), pk_un (by omega)]; exact a4

set_option maxHeartbeats 4000000 in
set_option maxRecDepth 100000 in
theorem m_element (l : Launch) (G : Gx) (h k : Nat) (σ : Sg) (fl : Int32) (w : va_W) (pw sw tw : Int32) (vb : Nat) (hw : MoI G h k σ fl w) (hvb : vb ≤ 1) : CT l G y_Mo_element b_Mo_element 6 (some .int) ({ frames := 1, cells := 0, slots := 0, locals := 60 } : Room) w [.ref h, .int pw, .int sw, .int tw, .int (nI vb)] (fun r w' => r = some (.int (spElement σ pw sw tw vb).2.1) ∧ MoI G h k (spElement σ pw sw tw vb).2.2 (nI (spElement σ pw sw tw vb).1) w') := by
  obtain ⟨cl, A, told, rws⟩ := σ
  obtain ⟨pa, ca, la, ro, co, ea, tx, sz, lf, fo, f1, nc, lz, fz, td, P, C9, LN, RW, CO, EA, SZ, LF, FO, F1, tf, TL, rfl, hnc, hk5, hC, hA, hLM, hEM, htd, hti, hTx, hTf⟩ := hw
  have hA : A.length ≤ 500 := hA
  have htd : td = fiI told := htd
  refine ct_of [(0, .ref h), (1, .int pw), (2, .int sw), (3, .int tw), (4, .int (nI vb))] (by decide) (Nat.le_of_ble_eq_true rfl) rfl (fun K hKl hNI C X => ?_)
  subst hKl
  show vv K ({ frames := 1, cells := 0, slots := 0, locals := 60 } : Room) G 6 0 0 ([(h, ob 7 [.int fl, .ref pa, .ref ca, .int (nI nc), .ref la, .ref ro, .ref co, .ref ea, .int (nI A.length), .int td, .ref tx, .ref sz, .ref lf, .int (nI lz), .ref fo, .int (nI fz), .ref f1]), (pa, aI G 5000 P), (ca, aI G 5000 C9), (la, aI G 500 LN), (ro, aI G 1500 RW), (co, aI G 500 CO), (ea, aI G 16000 EA), (tx, aII G 4 tf), (sz, aI G 4 SZ), (lf, aI G 200 LF), (fo, aI G 6400 FO), (f1, aI G 6400 F1)] ++ tpool G TL) 0 [(0, .ref h), (1, .int pw), (2, .int sw), (3, .int tw), (4, .int (nI vb))] []
  cases told with
  | none =>
    have htd : td = -1 := htd
    subst htd
    refine v_aload_n (pc := 0) C 0 d_Mo_element_0 rfl rfl ?_
    refine v_iconst (pc := 1) C (nI 0) d_Mo_element_1 (by decide +kernel) ?_
    refine v_put (pc := 2) (Cn := "WeightOrderModel") (T := T_Mo) (N := 17) (ci := 7) (v := .int (nI 0)) C 0 0 rfl rfl hin_Mo (by decide) rfl ([(h, ob 7 [.int (nI 0), .ref pa, .ref ca, .int (nI nc), .ref la, .ref ro, .ref co, .ref ea, .int (nI A.length), .int (-1), .ref tx, .ref sz, .ref lf, .int (nI lz), .ref fo, .int (nI fz), .ref f1]), (pa, aI G 5000 P), (ca, aI G 5000 C9), (la, aI G 500 LN), (ro, aI G 1500 RW), (co, aI G 500 CO), (ea, aI G 16000 EA), (tx, aII G 4 tf), (sz, aI G 4 SZ), (lf, aI G 200 LF), (fo, aI G 6400 FO), (f1, aI G 6400 F1)] ++ tpool G TL) t_Mo t_Mo_ok n_Mo (.int) rfl rfl rfl (Nat.le_of_ble_eq_true rfl) rfl rfl k_462 d_Mo_element_2 ?_
    refine v_aload_n (pc := 5) C 0 d_Mo_element_5 rfl rfl ?_
    refine v_get (pc := 6) (Cn := "WeightOrderModel") (T := T_Mo) (N := 17) (ci := 7) (v := .int (-1)) C 0 9 rfl rfl hin_Mo (by decide) rfl k_471 rfl d_Mo_element_6 ?_
    refine v_if_lt (pc := 9) C 42 d_Mo_element_9 (by decide) (fun h0 => ?_) (fun h0 => ?_)
    · refine v_aload_n (pc := 42) C 0 d_Mo_element_42 rfl rfl ?_
      refine v_iconst (pc := 43) C (nI 1) d_Mo_element_43 (by decide +kernel) ?_
      refine v_callV (pc := 44) (As := [.int (nI 1)]) (rest := []) C (c_Mo_fail _ G h pa ca la ro co ea tx sz lf fo f1 (nI 0) (-1) nc A.length lz fz 1) l_Mo_63 ([(pa, aI G 5000 P), (ca, aI G 5000 C9), (la, aI G 500 LN), (ro, aI G 1500 RW), (co, aI G 500 CO), (ea, aI G 16000 EA), (tx, aII G 4 tf), (sz, aI G 4 SZ), (lf, aI G 200 LF), (fo, aI G 6400 FO), (f1, aI G 6400 F1)] ++ tpool G TL) (sp_poolR [1, 2, 3, 4, 5, 6, 7, 8, 9, 10, 11] [0] rfl rfl rfl) 0 rfl rfl rfl rfl rfl (Nat.le_of_ble_eq_true rfl) (by decide) (by decide) (by decide) (by decide) d_Mo_element_44 (fun r w' hq => ?_)
      obtain ⟨rfl, rfl⟩ := hq
      refine v_swap ?_
      show vv K ({ frames := 1, cells := 0, slots := 0, locals := 60 } : Room) G 6 0 0 ([(pa, aI G 5000 P), (ca, aI G 5000 C9), (la, aI G 500 LN), (ro, aI G 1500 RW), (co, aI G 500 CO), (ea, aI G 16000 EA), (tx, aII G 4 tf), (sz, aI G 4 SZ), (lf, aI G 200 LF), (fo, aI G 6400 FO), (f1, aI G 6400 F1), (h, ob 7 [.int (nI 1), .ref pa, .ref ca, .int (nI nc), .ref la, .ref ro, .ref co, .ref ea, .int (nI A.length), .int (-1), .ref tx, .ref sz, .ref lf, .int (nI lz), .ref fo, .int (nI fz), .ref f1])] ++ tpool G TL) 47 [(0, .ref h), (1, .int pw), (2, .int sw), (3, .int tw), (4, .int (nI vb))] [.int (nI 0)]
      refine v_wsubP [11, 0, 1, 2, 3, 4, 5, 6, 7, 8, 9, 10] ([(h, ob 7 [.int (nI 1), .ref pa, .ref ca, .int (nI nc), .ref la, .ref ro, .ref co, .ref ea, .int (nI A.length), .int (-1), .ref tx, .ref sz, .ref lf, .int (nI lz), .ref fo, .int (nI fz), .ref f1]), (pa, aI G 5000 P), (ca, aI G 5000 C9), (la, aI G 500 LN), (ro, aI G 1500 RW), (co, aI G 500 CO), (ea, aI G 16000 EA), (tx, aII G 4 tf), (sz, aI G 4 SZ), (lf, aI G 200 LF), (fo, aI G 6400 FO), (f1, aI G 6400 F1)]) rfl rfl ?_
      exact v_iret (pc := 47) C X d_Mo_element_47 ⟨rfl, ⟨pa, ca, la, ro, co, ea, tx, sz, lf, fo, f1, nc, lz, fz, -1, P, C9, LN, RW, CO, EA, SZ, LF, FO, F1, tf, TL, rfl, hnc, hk5, hC, hA, hLM, hEM, rfl, hti, hTx, hTf⟩⟩ (by decide) (by decide)
    · exact absurd (show (-1 : Int32) < 0 by decide) h0
  | some i =>
    have htd : td = nI i := htd
    subst htd
    have hil : i < A.length := hti i rfl
    obtain ⟨x, hx⟩ : ∃ x, A[i]? = some x := ⟨_, List.getElem?_eq_getElem hil⟩
    obtain ⟨hco, hx8, hxe⟩ := hEM i x hx
    refine v_aload_n (pc := 0) C 0 d_Mo_element_0 rfl rfl ?_
    refine v_iconst (pc := 1) C (nI 0) d_Mo_element_1 (by decide +kernel) ?_
    refine v_put (pc := 2) (Cn := "WeightOrderModel") (T := T_Mo) (N := 17) (ci := 7) (v := .int (nI 0)) C 0 0 rfl rfl hin_Mo (by decide) rfl ([(h, ob 7 [.int (nI 0), .ref pa, .ref ca, .int (nI nc), .ref la, .ref ro, .ref co, .ref ea, .int (nI A.length), .int (nI i), .ref tx, .ref sz, .ref lf, .int (nI lz), .ref fo, .int (nI fz), .ref f1]), (pa, aI G 5000 P), (ca, aI G 5000 C9), (la, aI G 500 LN), (ro, aI G 1500 RW), (co, aI G 500 CO), (ea, aI G 16000 EA), (tx, aII G 4 tf), (sz, aI G 4 SZ), (lf, aI G 200 LF), (fo, aI G 6400 FO), (f1, aI G 6400 F1)] ++ tpool G TL) t_Mo t_Mo_ok n_Mo (.int) rfl rfl rfl (Nat.le_of_ble_eq_true rfl) rfl rfl k_462 d_Mo_element_2 ?_
    refine v_aload_n (pc := 5) C 0 d_Mo_element_5 rfl rfl ?_
    refine v_get (pc := 6) (Cn := "WeightOrderModel") (T := T_Mo) (N := 17) (ci := 7) (v := .int (nI i)) C 0 9 rfl rfl hin_Mo (by decide) rfl k_471 rfl d_Mo_element_6 ?_
    refine v_ifN_lt (pc := 9) C 42 i d_Mo_element_9 (by decide) (by omega) (fun h0 => ?_) (fun h0 => ?_)
    · omega
    · refine v_iload_n (pc := 12) C 1 d_Mo_element_12 rfl rfl ?_
      refine v_if_lt (pc := 13) C 42 d_Mo_element_13 (by decide) (fun hpw1 => ?_) (fun hpw1 => ?_)
      · refine v_aload_n (pc := 42) C 0 d_Mo_element_42 rfl rfl ?_
        refine v_iconst (pc := 43) C (nI 1) d_Mo_element_43 (by decide +kernel) ?_
        refine v_callV (pc := 44) (As := [.int (nI 1)]) (rest := []) C (c_Mo_fail _ G h pa ca la ro co ea tx sz lf fo f1 (nI 0) (nI i) nc A.length lz fz 1) l_Mo_63 ([(pa, aI G 5000 P), (ca, aI G 5000 C9), (la, aI G 500 LN), (ro, aI G 1500 RW), (co, aI G 500 CO), (ea, aI G 16000 EA), (tx, aII G 4 tf), (sz, aI G 4 SZ), (lf, aI G 200 LF), (fo, aI G 6400 FO), (f1, aI G 6400 F1)] ++ tpool G TL) (sp_poolR [1, 2, 3, 4, 5, 6, 7, 8, 9, 10, 11] [0] rfl rfl rfl) 0 rfl rfl rfl rfl rfl (Nat.le_of_ble_eq_true rfl) (by decide) (by decide) (by decide) (by decide) d_Mo_element_44 (fun r w' hq => ?_)
        obtain ⟨rfl, rfl⟩ := hq
        refine v_swap ?_
        show vv K ({ frames := 1, cells := 0, slots := 0, locals := 60 } : Room) G 6 0 0 ([(pa, aI G 5000 P), (ca, aI G 5000 C9), (la, aI G 500 LN), (ro, aI G 1500 RW), (co, aI G 500 CO), (ea, aI G 16000 EA), (tx, aII G 4 tf), (sz, aI G 4 SZ), (lf, aI G 200 LF), (fo, aI G 6400 FO), (f1, aI G 6400 F1), (h, ob 7 [.int (nI 1), .ref pa, .ref ca, .int (nI nc), .ref la, .ref ro, .ref co, .ref ea, .int (nI A.length), .int (nI i), .ref tx, .ref sz, .ref lf, .int (nI lz), .ref fo, .int (nI fz), .ref f1])] ++ tpool G TL) 47 [(0, .ref h), (1, .int pw), (2, .int sw), (3, .int tw), (4, .int (nI vb))] [.int (nI 0)]
        refine v_wsubP [11, 0, 1, 2, 3, 4, 5, 6, 7, 8, 9, 10] ([(h, ob 7 [.int (nI 1), .ref pa, .ref ca, .int (nI nc), .ref la, .ref ro, .ref co, .ref ea, .int (nI A.length), .int (nI i), .ref tx, .ref sz, .ref lf, .int (nI lz), .ref fo, .int (nI fz), .ref f1]), (pa, aI G 5000 P), (ca, aI G 5000 C9), (la, aI G 500 LN), (ro, aI G 1500 RW), (co, aI G 500 CO), (ea, aI G 16000 EA), (tx, aII G 4 tf), (sz, aI G 4 SZ), (lf, aI G 200 LF), (fo, aI G 6400 FO), (f1, aI G 6400 F1)]) rfl rfl ?_
        exact v_iret (pc := 47) C X d_Mo_element_47 ⟨by rw [spElement_badE (Or.inl (Or.inl hpw1))], by rw [spElement_badE (Or.inl (Or.inl hpw1))]; exact ⟨pa, ca, la, ro, co, ea, tx, sz, lf, fo, f1, nc, lz, fz, nI i, P, C9, LN, RW, CO, EA, SZ, LF, FO, F1, tf, TL, rfl, hnc, hk5, hC, hA, hLM, hEM, rfl, hti, hTx, hTf⟩⟩ (by decide) (by decide)
      · refine v_iload_n (pc := 16) C 1 d_Mo_element_16 rfl rfl ?_
        refine v_ldc (pc := 17) C 65535 k_543 d_Mo_element_17 ?_
        refine v_seti (nI 65535) (by decide +kernel) ?_
        refine v_icmp_gt (pc := 19) C 42 d_Mo_element_19 (by decide) (fun hpw2 => ?_) (fun hpw2 => ?_)
        · refine v_aload_n (pc := 42) C 0 d_Mo_element_42 rfl rfl ?_
          refine v_iconst (pc := 43) C (nI 1) d_Mo_element_43 (by decide +kernel) ?_
          refine v_callV (pc := 44) (As := [.int (nI 1)]) (rest := []) C (c_Mo_fail _ G h pa ca la ro co ea tx sz lf fo f1 (nI 0) (nI i) nc A.length lz fz 1) l_Mo_63 ([(pa, aI G 5000 P), (ca, aI G 5000 C9), (la, aI G 500 LN), (ro, aI G 1500 RW), (co, aI G 500 CO), (ea, aI G 16000 EA), (tx, aII G 4 tf), (sz, aI G 4 SZ), (lf, aI G 200 LF), (fo, aI G 6400 FO), (f1, aI G 6400 F1)] ++ tpool G TL) (sp_poolR [1, 2, 3, 4, 5, 6, 7, 8, 9, 10, 11] [0] rfl rfl rfl) 0 rfl rfl rfl rfl rfl (Nat.le_of_ble_eq_true rfl) (by decide) (by decide) (by decide) (by decide) d_Mo_element_44 (fun r w' hq => ?_)
          obtain ⟨rfl, rfl⟩ := hq
          refine v_swap ?_
          show vv K ({ frames := 1, cells := 0, slots := 0, locals := 60 } : Room) G 6 0 0 ([(pa, aI G 5000 P), (ca, aI G 5000 C9), (la, aI G 500 LN), (ro, aI G 1500 RW), (co, aI G 500 CO), (ea, aI G 16000 EA), (tx, aII G 4 tf), (sz, aI G 4 SZ), (lf, aI G 200 LF), (fo, aI G 6400 FO), (f1, aI G 6400 F1), (h, ob 7 [.int (nI 1), .ref pa, .ref ca, .int (nI nc), .ref la, .ref ro, .ref co, .ref ea, .int (nI A.length), .int (nI i), .ref tx, .ref sz, .ref lf, .int (nI lz), .ref fo, .int (nI fz), .ref f1])] ++ tpool G TL) 47 [(0, .ref h), (1, .int pw), (2, .int sw), (3, .int tw), (4, .int (nI vb))] [.int (nI 0)]
          refine v_wsubP [11, 0, 1, 2, 3, 4, 5, 6, 7, 8, 9, 10] ([(h, ob 7 [.int (nI 1), .ref pa, .ref ca, .int (nI nc), .ref la, .ref ro, .ref co, .ref ea, .int (nI A.length), .int (nI i), .ref tx, .ref sz, .ref lf, .int (nI lz), .ref fo, .int (nI fz), .ref f1]), (pa, aI G 5000 P), (ca, aI G 5000 C9), (la, aI G 500 LN), (ro, aI G 1500 RW), (co, aI G 500 CO), (ea, aI G 16000 EA), (tx, aII G 4 tf), (sz, aI G 4 SZ), (lf, aI G 200 LF), (fo, aI G 6400 FO), (f1, aI G 6400 F1)]) rfl rfl ?_
          exact v_iret (pc := 47) C X d_Mo_element_47 ⟨by rw [spElement_badE (Or.inl (Or.inr hpw2))], by rw [spElement_badE (Or.inl (Or.inr hpw2))]; exact ⟨pa, ca, la, ro, co, ea, tx, sz, lf, fo, f1, nc, lz, fz, nI i, P, C9, LN, RW, CO, EA, SZ, LF, FO, F1, tf, TL, rfl, hnc, hk5, hC, hA, hLM, hEM, rfl, hti, hTx, hTf⟩⟩ (by decide) (by decide)
        · refine v_iload_n (pc := 22) C 2 d_Mo_element_22 rfl rfl ?_
          refine v_if_lt (pc := 23) C 42 d_Mo_element_23 (by decide) (fun hsw1 => ?_) (fun hsw1 => ?_)
          · refine v_aload_n (pc := 42) C 0 d_Mo_element_42 rfl rfl ?_
            refine v_iconst (pc := 43) C (nI 1) d_Mo_element_43 (by decide +kernel) ?_
            refine v_callV (pc := 44) (As := [.int (nI 1)]) (rest := []) C (c_Mo_fail _ G h pa ca la ro co ea tx sz lf fo f1 (nI 0) (nI i) nc A.length lz fz 1) l_Mo_63 ([(pa, aI G 5000 P), (ca, aI G 5000 C9), (la, aI G 500 LN), (ro, aI G 1500 RW), (co, aI G 500 CO), (ea, aI G 16000 EA), (tx, aII G 4 tf), (sz, aI G 4 SZ), (lf, aI G 200 LF), (fo, aI G 6400 FO), (f1, aI G 6400 F1)] ++ tpool G TL) (sp_poolR [1, 2, 3, 4, 5, 6, 7, 8, 9, 10, 11] [0] rfl rfl rfl) 0 rfl rfl rfl rfl rfl (Nat.le_of_ble_eq_true rfl) (by decide) (by decide) (by decide) (by decide) d_Mo_element_44 (fun r w' hq => ?_)
            obtain ⟨rfl, rfl⟩ := hq
            refine v_swap ?_
            show vv K ({ frames := 1, cells := 0, slots := 0, locals := 60 } : Room) G 6 0 0 ([(pa, aI G 5000 P), (ca, aI G 5000 C9), (la, aI G 500 LN), (ro, aI G 1500 RW), (co, aI G 500 CO), (ea, aI G 16000 EA), (tx, aII G 4 tf), (sz, aI G 4 SZ), (lf, aI G 200 LF), (fo, aI G 6400 FO), (f1, aI G 6400 F1), (h, ob 7 [.int (nI 1), .ref pa, .ref ca, .int (nI nc), .ref la, .ref ro, .ref co, .ref ea, .int (nI A.length), .int (nI i), .ref tx, .ref sz, .ref lf, .int (nI lz), .ref fo, .int (nI fz), .ref f1])] ++ tpool G TL) 47 [(0, .ref h), (1, .int pw), (2, .int sw), (3, .int tw), (4, .int (nI vb))] [.int (nI 0)]
            refine v_wsubP [11, 0, 1, 2, 3, 4, 5, 6, 7, 8, 9, 10] ([(h, ob 7 [.int (nI 1), .ref pa, .ref ca, .int (nI nc), .ref la, .ref ro, .ref co, .ref ea, .int (nI A.length), .int (nI i), .ref tx, .ref sz, .ref lf, .int (nI lz), .ref fo, .int (nI fz), .ref f1]), (pa, aI G 5000 P), (ca, aI G 5000 C9), (la, aI G 500 LN), (ro, aI G 1500 RW), (co, aI G 500 CO), (ea, aI G 16000 EA), (tx, aII G 4 tf), (sz, aI G 4 SZ), (lf, aI G 200 LF), (fo, aI G 6400 FO), (f1, aI G 6400 F1)]) rfl rfl ?_
            exact v_iret (pc := 47) C X d_Mo_element_47 ⟨by rw [spElement_badE (Or.inr (Or.inl (Or.inl hsw1)))], by rw [spElement_badE (Or.inr (Or.inl (Or.inl hsw1)))]; exact ⟨pa, ca, la, ro, co, ea, tx, sz, lf, fo, f1, nc, lz, fz, nI i, P, C9, LN, RW, CO, EA, SZ, LF, FO, F1, tf, TL, rfl, hnc, hk5, hC, hA, hLM, hEM, rfl, hti, hTx, hTf⟩⟩ (by decide) (by decide)
          · refine v_iload_n (pc := 26) C 2 d_Mo_element_26 rfl rfl ?_
            refine v_ldc (pc := 27) C 65535 k_543 d_Mo_element_27 ?_
            refine v_seti (nI 65535) (by decide +kernel) ?_
            refine v_icmp_gt (pc := 29) C 42 d_Mo_element_29 (by decide) (fun hsw2 => ?_) (fun hsw2 => ?_)
            · refine v_aload_n (pc := 42) C 0 d_Mo_element_42 rfl rfl ?_
              refine v_iconst (pc := 43) C (nI 1) d_Mo_element_43 (by decide +kernel) ?_
              refine v_callV (pc := 44) (As := [.int (nI 1)]) (rest := []) C (c_Mo_fail _ G h pa ca la ro co ea tx sz lf fo f1 (nI 0) (nI i) nc A.length lz fz 1) l_Mo_63 ([(pa, aI G 5000 P), (ca, aI G 5000 C9), (la, aI G 500 LN), (ro, aI G 1500 RW), (co, aI G 500 CO), (ea, aI G 16000 EA), (tx, aII G 4 tf), (sz, aI G 4 SZ), (lf, aI G 200 LF), (fo, aI G 6400 FO), (f1, aI G 6400 F1)] ++ tpool G TL) (sp_poolR [1, 2, 3, 4, 5, 6, 7, 8, 9, 10, 11] [0] rfl rfl rfl) 0 rfl rfl rfl rfl rfl (Nat.le_of_ble_eq_true rfl) (by decide) (by decide) (by decide) (by decide) d_Mo_element_44 (fun r w' hq => ?_)
              obtain ⟨rfl, rfl⟩ := hq
              refine v_swap ?_
              show vv K ({ frames := 1, cells := 0, slots := 0, locals := 60 } : Room) G 6 0 0 ([(pa, aI G 5000 P), (ca, aI G 5000 C9), (la, aI G 500 LN), (ro, aI G 1500 RW), (co, aI G 500 CO), (ea, aI G 16000 EA), (tx, aII G 4 tf), (sz, aI G 4 SZ), (lf, aI G 200 LF), (fo, aI G 6400 FO), (f1, aI G 6400 F1), (h, ob 7 [.int (nI 1), .ref pa, .ref ca, .int (nI nc), .ref la, .ref ro, .ref co, .ref ea, .int (nI A.length), .int (nI i), .ref tx, .ref sz, .ref lf, .int (nI lz), .ref fo, .int (nI fz), .ref f1])] ++ tpool G TL) 47 [(0, .ref h), (1, .int pw), (2, .int sw), (3, .int tw), (4, .int (nI vb))] [.int (nI 0)]
              refine v_wsubP [11, 0, 1, 2, 3, 4, 5, 6, 7, 8, 9, 10] ([(h, ob 7 [.int (nI 1), .ref pa, .ref ca, .int (nI nc), .ref la, .ref ro, .ref co, .ref ea, .int (nI A.length), .int (nI i), .ref tx, .ref sz, .ref lf, .int (nI lz), .ref fo, .int (nI fz), .ref f1]), (pa, aI G 5000 P), (ca, aI G 5000 C9), (la, aI G 500 LN), (ro, aI G 1500 RW), (co, aI G 500 CO), (ea, aI G 16000 EA), (tx, aII G 4 tf), (sz, aI G 4 SZ), (lf, aI G 200 LF), (fo, aI G 6400 FO), (f1, aI G 6400 F1)]) rfl rfl ?_
              exact v_iret (pc := 47) C X d_Mo_element_47 ⟨by rw [spElement_badE (Or.inr (Or.inl (Or.inr hsw2)))], by rw [spElement_badE (Or.inr (Or.inl (Or.inr hsw2)))]; exact ⟨pa, ca, la, ro, co, ea, tx, sz, lf, fo, f1, nc, lz, fz, nI i, P, C9, LN, RW, CO, EA, SZ, LF, FO, F1, tf, TL, rfl, hnc, hk5, hC, hA, hLM, hEM, rfl, hti, hTx, hTf⟩⟩ (by decide) (by decide)
            · refine v_iload_n (pc := 32) C 3 d_Mo_element_32 rfl rfl ?_
              refine v_if_lt (pc := 33) C 42 d_Mo_element_33 (by decide) (fun htw1 => ?_) (fun htw1 => ?_)
              · refine v_aload_n (pc := 42) C 0 d_Mo_element_42 rfl rfl ?_
                refine v_iconst (pc := 43) C (nI 1) d_Mo_element_43 (by decide +kernel) ?_
                refine v_callV (pc := 44) (As := [.int (nI 1)]) (rest := []) C (c_Mo_fail _ G h pa ca la ro co ea tx sz lf fo f1 (nI 0) (nI i) nc A.length lz fz 1) l_Mo_63 ([(pa, aI G 5000 P), (ca, aI G 5000 C9), (la, aI G 500 LN), (ro, aI G 1500 RW), (co, aI G 500 CO), (ea, aI G 16000 EA), (tx, aII G 4 tf), (sz, aI G 4 SZ), (lf, aI G 200 LF), (fo, aI G 6400 FO), (f1, aI G 6400 F1)] ++ tpool G TL) (sp_poolR [1, 2, 3, 4, 5, 6, 7, 8, 9, 10, 11] [0] rfl rfl rfl) 0 rfl rfl rfl rfl rfl (Nat.le_of_ble_eq_true rfl) (by decide) (by decide) (by decide) (by decide) d_Mo_element_44 (fun r w' hq => ?_)
                obtain ⟨rfl, rfl⟩ := hq
                refine v_swap ?_
                show vv K ({ frames := 1, cells := 0, slots := 0, locals := 60 } : Room) G 6 0 0 ([(pa, aI G 5000 P), (ca, aI G 5000 C9), (la, aI G 500 LN), (ro, aI G 1500 RW), (co, aI G 500 CO), (ea, aI G 16000 EA), (tx, aII G 4 tf), (sz, aI G 4 SZ), (lf, aI G 200 LF), (fo, aI G 6400 FO), (f1, aI G 6400 F1), (h, ob 7 [.int (nI 1), .ref pa, .ref ca, .int (nI nc), .ref la, .ref ro, .ref co, .ref ea, .int (nI A.length), .int (nI i), .ref tx, .ref sz, .ref lf, .int (nI lz), .ref fo, .int (nI fz), .ref f1])] ++ tpool G TL) 47 [(0, .ref h), (1, .int pw), (2, .int sw), (3, .int tw), (4, .int (nI vb))] [.int (nI 0)]
                refine v_wsubP [11, 0, 1, 2, 3, 4, 5, 6, 7, 8, 9, 10] ([(h, ob 7 [.int (nI 1), .ref pa, .ref ca, .int (nI nc), .ref la, .ref ro, .ref co, .ref ea, .int (nI A.length), .int (nI i), .ref tx, .ref sz, .ref lf, .int (nI lz), .ref fo, .int (nI fz), .ref f1]), (pa, aI G 5000 P), (ca, aI G 5000 C9), (la, aI G 500 LN), (ro, aI G 1500 RW), (co, aI G 500 CO), (ea, aI G 16000 EA), (tx, aII G 4 tf), (sz, aI G 4 SZ), (lf, aI G 200 LF), (fo, aI G 6400 FO), (f1, aI G 6400 F1)]) rfl rfl ?_
                exact v_iret (pc := 47) C X d_Mo_element_47 ⟨by rw [spElement_badE (Or.inr (Or.inr (Or.inl htw1)))], by rw [spElement_badE (Or.inr (Or.inr (Or.inl htw1)))]; exact ⟨pa, ca, la, ro, co, ea, tx, sz, lf, fo, f1, nc, lz, fz, nI i, P, C9, LN, RW, CO, EA, SZ, LF, FO, F1, tf, TL, rfl, hnc, hk5, hC, hA, hLM, hEM, rfl, hti, hTx, hTf⟩⟩ (by decide) (by decide)
              · refine v_iload_n (pc := 36) C 3 d_Mo_element_36 rfl rfl ?_
                refine v_ldc (pc := 37) C 65535 k_543 d_Mo_element_37 ?_
                refine v_seti (nI 65535) (by decide +kernel) ?_
                refine v_icmp_le (pc := 39) C 48 d_Mo_element_39 (by decide) (fun htw2 => ?_) (fun htw2 => ?_)
                · have hnb : ¬ (badN pw 65535 ∨ badN sw 65535 ∨ badN tw 65535) := fun z => z.elim (fun z => z.elim hpw1 hpw2) (fun z => z.elim (fun z => z.elim hsw1 hsw2) (fun z => z.elim htw1 (Int32.not_lt.mpr htw2)))
                  obtain ⟨pj, hpj, epj⟩ := nb_nat (x := pw) (by decide) (fun z => hnb (Or.inl z))
                  obtain ⟨sj, hsj, esj⟩ := nb_nat (x := sw) (by decide) (fun z => hnb (Or.inr (Or.inl z)))
                  obtain ⟨tj, htj, etj⟩ := nb_nat (x := tw) (by decide) (fun z => hnb (Or.inr (Or.inr z)))
                  subst epj; subst esj; subst etj
                  have hsp0 : spElement (cl, A, some i, rws) (nI pj) (nI sj) (nI tj) vb = if x.2.length = 8 then (2, nI 0, (cl, A, some i, rws)) else (0, nI (x.2.length + 1), (cl, A.set i (x.1, x.2 ++ [(pj, sj, tj, vb)]), some i, rws)) := by
                    unfold spElement
                    show (if badN (nI pj) 65535 ∨ _ then _ else _) = _
                    rw [if_neg hnb, toN_nI (by omega), toN_nI (by omega), toN_nI (by omega)]
                    simp only [esA_get hx, getD_get hx]
                  refine v_aload_n (pc := 48) C 0 d_Mo_element_48 rfl rfl ?_
                  refine v_get (pc := 49) (Cn := "WeightOrderModel") (T := T_Mo) (N := 17) (ci := 7) (v := .ref co) C 0 6 rfl rfl hin_Mo (by decide) rfl k_468 rfl d_Mo_element_49 ?_
                  refine v_aload_n (pc := 52) C 0 d_Mo_element_52 rfl rfl ?_
                  refine v_get (pc := 53) (Cn := "WeightOrderModel") (T := T_Mo) (N := 17) (ci := 7) (v := .int (nI i)) C 0 9 rfl rfl hin_Mo (by decide) rfl k_471 rfl d_Mo_element_53 ?_
                  refine v_iald (pc := 56) C 5 rfl i rfl (by omega) (by decide) d_Mo_element_56 ?_
                  refine v_seti (nI x.2.length) hco ?_
                  refine v_bipush (pc := 57) C (nI 8) d_Mo_element_57 (by decide +kernel) ?_
                  refine v_icmpN_ne (pc := 59) C 68 x.2.length 8 d_Mo_element_59 (by decide) (by omega) (by omega) (fun h8 => ?_) (fun h8 => ?_)
                  · have hsp : spElement (cl, A, some i, rws) (nI pj) (nI sj) (nI tj) vb = (0, nI (x.2.length + 1), (cl, A.set i (x.1, x.2 ++ [(pj, sj, tj, vb)]), some i, rws)) := by rw [hsp0, if_neg h8]
                    have hoe : okR (pj, sj, tj, vb) := ⟨show pj < 65536 by omega, show sj < 65536 by omega, show tj < 65536 by omega, hvb⟩
                    have hls : (A.set i (x.1, x.2 ++ [(pj, sj, tj, vb)])).length = A.length := List.length_set
                    refine v_iconst (pc := 68) C (nI 4) d_Mo_element_68 (by decide +kernel) ?_
                    refine v_bipush (pc := 69) C (nI 8) d_Mo_element_69 (by decide +kernel) ?_
                    refine v_aload_n (pc := 71) C 0 d_Mo_element_71 rfl rfl ?_
                    refine v_get (pc := 72) (Cn := "WeightOrderModel") (T := T_Mo) (N := 17) (ci := 7) (v := .int (nI i)) C 0 9 rfl rfl hin_Mo (by decide) rfl k_471 rfl d_Mo_element_72 ?_
                    refine v_imul (pc := 75) C (nI (8 * i)) d_Mo_element_75 (pk_mul _ _) ?_
                    refine v_aload_n (pc := 76) C 0 d_Mo_element_76 rfl rfl ?_
                    refine v_get (pc := 77) (Cn := "WeightOrderModel") (T := T_Mo) (N := 17) (ci := 7) (v := .ref co) C 0 6 rfl rfl hin_Mo (by decide) rfl k_468 rfl d_Mo_element_77 ?_
                    refine v_aload_n (pc := 80) C 0 d_Mo_element_80 rfl rfl ?_
                    refine v_get (pc := 81) (Cn := "WeightOrderModel") (T := T_Mo) (N := 17) (ci := 7) (v := .int (nI i)) C 0 9 rfl rfl hin_Mo (by decide) rfl k_471 rfl d_Mo_element_81 ?_
                    refine v_iald (pc := 84) C 5 rfl i rfl (by omega) (by decide) d_Mo_element_84 ?_
                    refine v_seti (nI x.2.length) hco ?_
                    refine v_iadd (pc := 85) C (nI (8 * i + x.2.length)) d_Mo_element_85 (nI_add _ _) ?_
                    refine v_imul (pc := 86) C (nI (4 * (8 * i + x.2.length))) d_Mo_element_86 (pk_mul _ _) ?_
                    refine v_istore (pc := 87) C [(5, .int (nI (4 * (8 * i + x.2.length)))), (0, .ref h), (1, .int (nI pj)), (2, .int (nI sj)), (3, .int (nI tj)), (4, .int (nI vb))] d_Mo_element_87 (by decide) rfl ?_
                    refine v_aload_n (pc := 89) C 1 d_Mo_element_89 rfl rfl ?_
                    refine v_get (pc := 90) (Cn := "WeightOrderModel") (T := T_Mo) (N := 17) (ci := 7) (v := .ref ea) C 0 7 rfl rfl hin_Mo (by decide) rfl k_469 rfl d_Mo_element_90 ?_
                    refine v_iload (pc := 93) C 0 d_Mo_element_93 rfl ?_
                    refine v_iload_n (pc := 95) C 2 d_Mo_element_95 rfl rfl ?_
                    refine v_iast (pc := 96) C 6 ([(h, ob 7 [.int (nI 0), .ref pa, .ref ca, .int (nI nc), .ref la, .ref ro, .ref co, .ref ea, .int (nI A.length), .int (nI i), .ref tx, .ref sz, .ref lf, .int (nI lz), .ref fo, .int (nI fz), .ref f1]), (pa, aI G 5000 P), (ca, aI G 5000 C9), (la, aI G 500 LN), (ro, aI G 1500 RW), (co, aI G 500 CO), (ea, aI G 16000 (upd EA (4 * (8 * i + x.2.length)) (nI pj))), (tx, aII G 4 tf), (sz, aI G 4 SZ), (lf, aI G 200 LF), (fo, aI G 6400 FO), (f1, aI G 6400 F1)] ++ tpool G TL) rfl (4 * (8 * i + x.2.length)) rfl (by omega) (by decide) rfl d_Mo_element_96 ?_
                    refine v_aload_n (pc := 97) C 1 d_Mo_element_97 rfl rfl ?_
                    refine v_get (pc := 98) (Cn := "WeightOrderModel") (T := T_Mo) (N := 17) (ci := 7) (v := .ref ea) C 0 7 rfl rfl hin_Mo (by decide) rfl k_469 rfl d_Mo_element_98 ?_
                    refine v_iload (pc := 101) C 0 d_Mo_element_101 rfl ?_
                    refine v_iconst (pc := 103) C (nI 1) d_Mo_element_103 (by decide +kernel) ?_
                    refine v_iadd (pc := 104) C (nI (4 * (8 * i + x.2.length) + 1)) d_Mo_element_104 (nI_add _ _) ?_
                    refine v_iload_n (pc := 105) C 3 d_Mo_element_105 rfl rfl ?_
                    refine v_iast (pc := 106) C 6 ([(h, ob 7 [.int (nI 0), .ref pa, .ref ca, .int (nI nc), .ref la, .ref ro, .ref co, .ref ea, .int (nI A.length), .int (nI i), .ref tx, .ref sz, .ref lf, .int (nI lz), .ref fo, .int (nI fz), .ref f1]), (pa, aI G 5000 P), (ca, aI G 5000 C9), (la, aI G 500 LN), (ro, aI G 1500 RW), (co, aI G 500 CO), (ea, aI G 16000 (upd (upd EA (4 * (8 * i + x.2.length)) (nI pj)) (4 * (8 * i + x.2.length) + 1) (nI sj))), (tx, aII G 4 tf), (sz, aI G 4 SZ), (lf, aI G 200 LF), (fo, aI G 6400 FO), (f1, aI G 6400 F1)] ++ tpool G TL) rfl (4 * (8 * i + x.2.length) + 1) rfl (by omega) (by decide) rfl d_Mo_element_106 ?_
                    refine v_aload_n (pc := 107) C 1 d_Mo_element_107 rfl rfl ?_
                    refine v_get (pc := 108) (Cn := "WeightOrderModel") (T := T_Mo) (N := 17) (ci := 7) (v := .ref ea) C 0 7 rfl rfl hin_Mo (by decide) rfl k_469 rfl d_Mo_element_108 ?_
                    refine v_iload (pc := 111) C 0 d_Mo_element_111 rfl ?_
                    refine v_iconst (pc := 113) C (nI 2) d_Mo_element_113 (by decide +kernel) ?_
                    refine v_iadd (pc := 114) C (nI (4 * (8 * i + x.2.length) + 2)) d_Mo_element_114 (nI_add _ _) ?_
                    refine v_iload_n (pc := 115) C 4 d_Mo_element_115 rfl rfl ?_
                    refine v_iast (pc := 116) C 6 ([(h, ob 7 [.int (nI 0), .ref pa, .ref ca, .int (nI nc), .ref la, .ref ro, .ref co, .ref ea, .int (nI A.length), .int (nI i), .ref tx, .ref sz, .ref lf, .int (nI lz), .ref fo, .int (nI fz), .ref f1]), (pa, aI G 5000 P), (ca, aI G 5000 C9), (la, aI G 500 LN), (ro, aI G 1500 RW), (co, aI G 500 CO), (ea, aI G 16000 (upd (upd (upd EA (4 * (8 * i + x.2.length)) (nI pj)) (4 * (8 * i + x.2.length) + 1) (nI sj)) (4 * (8 * i + x.2.length) + 2) (nI tj))), (tx, aII G 4 tf), (sz, aI G 4 SZ), (lf, aI G 200 LF), (fo, aI G 6400 FO), (f1, aI G 6400 F1)] ++ tpool G TL) rfl (4 * (8 * i + x.2.length) + 2) rfl (by omega) (by decide) rfl d_Mo_element_116 ?_
                    refine v_aload_n (pc := 117) C 1 d_Mo_element_117 rfl rfl ?_
                    refine v_get (pc := 118) (Cn := "WeightOrderModel") (T := T_Mo) (N := 17) (ci := 7) (v := .ref ea) C 0 7 rfl rfl hin_Mo (by decide) rfl k_469 rfl d_Mo_element_118 ?_
                    refine v_iload (pc := 121) C 0 d_Mo_element_121 rfl ?_
                    refine v_iconst (pc := 123) C (nI 3) d_Mo_element_123 (by decide +kernel) ?_
                    refine v_iadd (pc := 124) C (nI (4 * (8 * i + x.2.length) + 3)) d_Mo_element_124 (nI_add _ _) ?_
                    refine v_iload (pc := 125) C 5 d_Mo_element_125 rfl ?_
                    refine v_ifN_eq (pc := 127) C 134 vb d_Mo_element_127 (by decide) (by omega) (fun hv => ?_) (fun hv => ?_)
                    · have hvb9 : vb = 0 := by omega
                      subst hvb9
                      refine v_iconst (pc := 134) C (nI 0) d_Mo_element_134 (by decide +kernel) ?_
                      refine v_iast (pc := 135) C 6 ([(h, ob 7 [.int (nI 0), .ref pa, .ref ca, .int (nI nc), .ref la, .ref ro, .ref co, .ref ea, .int (nI A.length), .int (nI i), .ref tx, .ref sz, .ref lf, .int (nI lz), .ref fo, .int (nI fz), .ref f1]), (pa, aI G 5000 P), (ca, aI G 5000 C9), (la, aI G 500 LN), (ro, aI G 1500 RW), (co, aI G 500 CO), (ea, aI G 16000 (upd (upd (upd (upd EA (4 * (8 * i + x.2.length)) (nI pj)) (4 * (8 * i + x.2.length) + 1) (nI sj)) (4 * (8 * i + x.2.length) + 2) (nI tj)) (4 * (8 * i + x.2.length) + 3) (nI 0))), (tx, aII G 4 tf), (sz, aI G 4 SZ), (lf, aI G 200 LF), (fo, aI G 6400 FO), (f1, aI G 6400 F1)] ++ tpool G TL) rfl (4 * (8 * i + x.2.length) + 3) rfl (by omega) (by decide) rfl d_Mo_element_135 ?_
                      refine v_aload_n (pc := 136) C 1 d_Mo_element_136 rfl rfl ?_
                      refine v_get (pc := 137) (Cn := "WeightOrderModel") (T := T_Mo) (N := 17) (ci := 7) (v := .ref co) C 0 6 rfl rfl hin_Mo (by decide) rfl k_468 rfl d_Mo_element_137 ?_
                      refine v_aload_n (pc := 140) C 1 d_Mo_element_140 rfl rfl ?_
                      refine v_get (pc := 141) (Cn := "WeightOrderModel") (T := T_Mo) (N := 17) (ci := 7) (v := .int (nI i)) C 0 9 rfl rfl hin_Mo (by decide) rfl k_471 rfl d_Mo_element_141 ?_
                      refine v_dup2 (pc := 144) C d_Mo_element_144 rfl rfl ?_
                      refine v_iald (pc := 145) C 5 rfl i rfl (by omega) (by decide) d_Mo_element_145 ?_
                      refine v_seti (nI x.2.length) hco ?_
                      refine v_iconst (pc := 146) C (nI 1) d_Mo_element_146 (by decide +kernel) ?_
                      refine v_iadd (pc := 147) C (nI (x.2.length + 1)) d_Mo_element_147 (nI_add _ _) ?_
                      refine v_iast (pc := 148) C 5 ([(h, ob 7 [.int (nI 0), .ref pa, .ref ca, .int (nI nc), .ref la, .ref ro, .ref co, .ref ea, .int (nI A.length), .int (nI i), .ref tx, .ref sz, .ref lf, .int (nI lz), .ref fo, .int (nI fz), .ref f1]), (pa, aI G 5000 P), (ca, aI G 5000 C9), (la, aI G 500 LN), (ro, aI G 1500 RW), (co, aI G 500 (upd CO i (nI (x.2.length + 1)))), (ea, aI G 16000 (upd (upd (upd (upd EA (4 * (8 * i + x.2.length)) (nI pj)) (4 * (8 * i + x.2.length) + 1) (nI sj)) (4 * (8 * i + x.2.length) + 2) (nI tj)) (4 * (8 * i + x.2.length) + 3) (nI 0))), (tx, aII G 4 tf), (sz, aI G 4 SZ), (lf, aI G 200 LF), (fo, aI G 6400 FO), (f1, aI G 6400 F1)] ++ tpool G TL) rfl i rfl (by omega) (by decide) rfl d_Mo_element_148 ?_
                      refine v_aload_n (pc := 149) C 1 d_Mo_element_149 rfl rfl ?_
                      refine v_get (pc := 150) (Cn := "WeightOrderModel") (T := T_Mo) (N := 17) (ci := 7) (v := .ref co) C 0 6 rfl rfl hin_Mo (by decide) rfl k_468 rfl d_Mo_element_150 ?_
                      refine v_aload_n (pc := 153) C 1 d_Mo_element_153 rfl rfl ?_
                      refine v_get (pc := 154) (Cn := "WeightOrderModel") (T := T_Mo) (N := 17) (ci := 7) (v := .int (nI i)) C 0 9 rfl rfl hin_Mo (by decide) rfl k_471 rfl d_Mo_element_154 ?_
                      refine v_iald (pc := 157) C 5 rfl i rfl (by omega) (by decide) d_Mo_element_157 ?_
                      refine v_seti (nI (x.2.length + 1)) pk_us ?_
                      exact v_iret (pc := 158) C X d_Mo_element_158 ⟨by rw [hsp], by rw [hsp]; exact ⟨pa, ca, la, ro, co, ea, tx, sz, lf, fo, f1, nc, lz, fz, nI i, P, C9, LN, RW, upd CO i (nI (x.2.length + 1)), upd (upd (upd (upd EA (4 * (8 * i + x.2.length)) (nI pj)) (4 * (8 * i + x.2.length) + 1) (nI sj)) (4 * (8 * i + x.2.length) + 2) (nI tj)) (4 * (8 * i + x.2.length) + 3) (nI 0), SZ, LF, FO, F1, tf, TL, (by rw [hls]), hnc, hk5, hC, (by rw [hls]; exact hA), lm_set hLM hx, em_add hEM hx (by omega) hoe, rfl, (fun i9 h9 => by cases h9; rw [hls]; exact hil), hTx, hTf⟩⟩ (by decide) (by decide)
                    · have hvb9 : vb = 1 := by omega
                      subst hvb9
                      refine v_iconst (pc := 130) C (nI 1) d_Mo_element_130 (by decide +kernel) ?_
                      refine v_goto (pc := 131) C 135 d_Mo_element_131 (by decide) ?_
                      refine v_iast (pc := 135) C 6 ([(h, ob 7 [.int (nI 0), .ref pa, .ref ca, .int (nI nc), .ref la, .ref ro, .ref co, .ref ea, .int (nI A.length), .int (nI i), .ref tx, .ref sz, .ref lf, .int (nI lz), .ref fo, .int (nI fz), .ref f1]), (pa, aI G 5000 P), (ca, aI G 5000 C9), (la, aI G 500 LN), (ro, aI G 1500 RW), (co, aI G 500 CO), (ea, aI G 16000 (upd (upd (upd (upd EA (4 * (8 * i + x.2.length)) (nI pj)) (4 * (8 * i + x.2.length) + 1) (nI sj)) (4 * (8 * i + x.2.length) + 2) (nI tj)) (4 * (8 * i + x.2.length) + 3) (nI 1))), (tx, aII G 4 tf), (sz, aI G 4 SZ), (lf, aI G 200 LF), (fo, aI G 6400 FO), (f1, aI G 6400 F1)] ++ tpool G TL) rfl (4 * (8 * i + x.2.length) + 3) rfl (by omega) (by decide) rfl d_Mo_element_135 ?_
                      refine v_aload_n (pc := 136) C 1 d_Mo_element_136 rfl rfl ?_
                      refine v_get (pc := 137) (Cn := "WeightOrderModel") (T := T_Mo) (N := 17) (ci := 7) (v := .ref co) C 0 6 rfl rfl hin_Mo (by decide) rfl k_468 rfl d_Mo_element_137 ?_
                      refine v_aload_n (pc := 140) C 1 d_Mo_element_140 rfl rfl ?_
                      refine v_get (pc := 141) (Cn := "WeightOrderModel") (T := T_Mo) (N := 17) (ci := 7) (v := .int (nI i)) C 0 9 rfl rfl hin_Mo (by decide) rfl k_471 rfl d_Mo_element_141 ?_
                      refine v_dup2 (pc := 144) C d_Mo_element_144 rfl rfl ?_
                      refine v_iald (pc := 145) C 5 rfl i rfl (by omega) (by decide) d_Mo_element_145 ?_
                      refine v_seti (nI x.2.length) hco ?_
                      refine v_iconst (pc := 146) C (nI 1) d_Mo_element_146 (by decide +kernel) ?_
                      refine v_iadd (pc := 147) C (nI (x.2.length + 1)) d_Mo_element_147 (nI_add _ _) ?_
                      refine v_iast (pc := 148) C 5 ([(h, ob 7 [.int (nI 0), .ref pa, .ref ca, .int (nI nc), .ref la, .ref ro, .ref co, .ref ea, .int (nI A.length), .int (nI i), .ref tx, .ref sz, .ref lf, .int (nI lz), .ref fo, .int (nI fz), .ref f1]), (pa, aI G 5000 P), (ca, aI G 5000 C9), (la, aI G 500 LN), (ro, aI G 1500 RW), (co, aI G 500 (upd CO i (nI (x.2.length + 1)))), (ea, aI G 16000 (upd (upd (upd (upd EA (4 * (8 * i + x.2.length)) (nI pj)) (4 * (8 * i + x.2.length) + 1) (nI sj)) (4 * (8 * i + x.2.length) + 2) (nI tj)) (4 * (8 * i + x.2.length) + 3) (nI 1))), (tx, aII G 4 tf), (sz, aI G 4 SZ), (lf, aI G 200 LF), (fo, aI G 6400 FO), (f1, aI G 6400 F1)] ++ tpool G TL) rfl i rfl (by omega) (by decide) rfl d_Mo_element_148 ?_
                      refine v_aload_n (pc := 149) C 1 d_Mo_element_149 rfl rfl ?_
                      refine v_get (pc := 150) (Cn := "WeightOrderModel") (T := T_Mo) (N := 17) (ci := 7) (v := .ref co) C 0 6 rfl rfl hin_Mo (by decide) rfl k_468 rfl d_Mo_element_150 ?_
                      refine v_aload_n (pc := 153) C 1 d_Mo_element_153 rfl rfl ?_
                      refine v_get (pc := 154) (Cn := "WeightOrderModel") (T := T_Mo) (N := 17) (ci := 7) (v := .int (nI i)) C 0 9 rfl rfl hin_Mo (by decide) rfl k_471 rfl d_Mo_element_154 ?_
                      refine v_iald (pc := 157) C 5 rfl i rfl (by omega) (by decide) d_Mo_element_157 ?_
                      refine v_seti (nI (x.2.length + 1)) pk_us ?_
                      exact v_iret (pc := 158) C X d_Mo_element_158 ⟨by rw [hsp], by rw [hsp]; exact ⟨pa, ca, la, ro, co, ea, tx, sz, lf, fo, f1, nc, lz, fz, nI i, P, C9, LN, RW, upd CO i (nI (x.2.length + 1)), upd (upd (upd (upd EA (4 * (8 * i + x.2.length)) (nI pj)) (4 * (8 * i + x.2.length) + 1) (nI sj)) (4 * (8 * i + x.2.length) + 2) (nI tj)) (4 * (8 * i + x.2.length) + 3) (nI 1), SZ, LF, FO, F1, tf, TL, (by rw [hls]), hnc, hk5, hC, (by rw [hls]; exact hA), lm_set hLM hx, em_add hEM hx (by omega) hoe, rfl, (fun i9 h9 => by cases h9; rw [hls]; exact hil), hTx, hTf⟩⟩ (by decide) (by decide)
                  · refine v_aload_n (pc := 62) C 0 d_Mo_element_62 rfl rfl ?_
                    refine v_iconst (pc := 63) C (nI 2) d_Mo_element_63 (by decide +kernel) ?_
                    refine v_callV (pc := 64) (As := [.int (nI 2)]) (rest := []) C (c_Mo_fail _ G h pa ca la ro co ea tx sz lf fo f1 (nI 0) (nI i) nc A.length lz fz 2) l_Mo_63 ([(pa, aI G 5000 P), (ca, aI G 5000 C9), (la, aI G 500 LN), (ro, aI G 1500 RW), (co, aI G 500 CO), (ea, aI G 16000 EA), (tx, aII G 4 tf), (sz, aI G 4 SZ), (lf, aI G 200 LF), (fo, aI G 6400 FO), (f1, aI G 6400 F1)] ++ tpool G TL) (sp_poolR [1, 2, 3, 4, 5, 6, 7, 8, 9, 10, 11] [0] rfl rfl rfl) 0 rfl rfl rfl rfl rfl (Nat.le_of_ble_eq_true rfl) (by decide) (by decide) (by decide) (by decide) d_Mo_element_64 (fun r w' hq => ?_)
                    obtain ⟨rfl, rfl⟩ := hq
                    refine v_swap ?_
                    show vv K ({ frames := 1, cells := 0, slots := 0, locals := 60 } : Room) G 6 0 0 ([(pa, aI G 5000 P), (ca, aI G 5000 C9), (la, aI G 500 LN), (ro, aI G 1500 RW), (co, aI G 500 CO), (ea, aI G 16000 EA), (tx, aII G 4 tf), (sz, aI G 4 SZ), (lf, aI G 200 LF), (fo, aI G 6400 FO), (f1, aI G 6400 F1), (h, ob 7 [.int (nI 2), .ref pa, .ref ca, .int (nI nc), .ref la, .ref ro, .ref co, .ref ea, .int (nI A.length), .int (nI i), .ref tx, .ref sz, .ref lf, .int (nI lz), .ref fo, .int (nI fz), .ref f1])] ++ tpool G TL) 67 [(0, .ref h), (1, .int (nI pj)), (2, .int (nI sj)), (3, .int (nI tj)), (4, .int (nI vb))] [.int (nI 0)]
                    refine v_wsubP [11, 0, 1, 2, 3, 4, 5, 6, 7, 8, 9, 10] ([(h, ob 7 [.int (nI 2), .ref pa, .ref ca, .int (nI nc), .ref la, .ref ro, .ref co, .ref ea, .int (nI A.length), .int (nI i), .ref tx, .ref sz, .ref lf, .int (nI lz), .ref fo, .int (nI fz), .ref f1]), (pa, aI G 5000 P), (ca, aI G 5000 C9), (la, aI G 500 LN), (ro, aI G 1500 RW), (co, aI G 500 CO), (ea, aI G 16000 EA), (tx, aII G 4 tf), (sz, aI G 4 SZ), (lf, aI G 200 LF), (fo, aI G 6400 FO), (f1, aI G 6400 F1)]) rfl rfl ?_
                    exact v_iret (pc := 67) C X d_Mo_element_67 ⟨by rw [hsp0, if_pos h8], by rw [hsp0, if_pos h8]; exact ⟨pa, ca, la, ro, co, ea, tx, sz, lf, fo, f1, nc, lz, fz, nI i, P, C9, LN, RW, CO, EA, SZ, LF, FO, F1, tf, TL, rfl, hnc, hk5, hC, hA, hLM, hEM, rfl, hti, hTx, hTf⟩⟩ (by decide) (by decide)
                · refine v_aload_n (pc := 42) C 0 d_Mo_element_42 rfl rfl ?_
                  refine v_iconst (pc := 43) C (nI 1) d_Mo_element_43 (by decide +kernel) ?_
                  refine v_callV (pc := 44) (As := [.int (nI 1)]) (rest := []) C (c_Mo_fail _ G h pa ca la ro co ea tx sz lf fo f1 (nI 0) (nI i) nc A.length lz fz 1) l_Mo_63 ([(pa, aI G 5000 P), (ca, aI G 5000 C9), (la, aI G 500 LN), (ro, aI G 1500 RW), (co, aI G 500 CO), (ea, aI G 16000 EA), (tx, aII G 4 tf), (sz, aI G 4 SZ), (lf, aI G 200 LF), (fo, aI G 6400 FO), (f1, aI G 6400 F1)] ++ tpool G TL) (sp_poolR [1, 2, 3, 4, 5, 6, 7, 8, 9, 10, 11] [0] rfl rfl rfl) 0 rfl rfl rfl rfl rfl (Nat.le_of_ble_eq_true rfl) (by decide) (by decide) (by decide) (by decide) d_Mo_element_44 (fun r w' hq => ?_)
                  obtain ⟨rfl, rfl⟩ := hq
                  refine v_swap ?_
                  show vv K ({ frames := 1, cells := 0, slots := 0, locals := 60 } : Room) G 6 0 0 ([(pa, aI G 5000 P), (ca, aI G 5000 C9), (la, aI G 500 LN), (ro, aI G 1500 RW), (co, aI G 500 CO), (ea, aI G 16000 EA), (tx, aII G 4 tf), (sz, aI G 4 SZ), (lf, aI G 200 LF), (fo, aI G 6400 FO), (f1, aI G 6400 F1), (h, ob 7 [.int (nI 1), .ref pa, .ref ca, .int (nI nc), .ref la, .ref ro, .ref co, .ref ea, .int (nI A.length), .int (nI i), .ref tx, .ref sz, .ref lf, .int (nI lz), .ref fo, .int (nI fz), .ref f1])] ++ tpool G TL) 47 [(0, .ref h), (1, .int pw), (2, .int sw), (3, .int tw), (4, .int (nI vb))] [.int (nI 0)]
                  refine v_wsubP [11, 0, 1, 2, 3, 4, 5, 6, 7, 8, 9, 10] ([(h, ob 7 [.int (nI 1), .ref pa, .ref ca, .int (nI nc), .ref la, .ref ro, .ref co, .ref ea, .int (nI A.length), .int (nI i), .ref tx, .ref sz, .ref lf, .int (nI lz), .ref fo, .int (nI fz), .ref f1]), (pa, aI G 5000 P), (ca, aI G 5000 C9), (la, aI G 500 LN), (ro, aI G 1500 RW), (co, aI G 500 CO), (ea, aI G 16000 EA), (tx, aII G 4 tf), (sz, aI G 4 SZ), (lf, aI G 200 LF), (fo, aI G 6400 FO), (f1, aI G 6400 F1)]) rfl rfl ?_
                  exact v_iret (pc := 47) C X d_Mo_element_47 ⟨by rw [spElement_badE (Or.inr (Or.inr (Or.inr (Int32.not_le.mp htw2))))], by rw [spElement_badE (Or.inr (Or.inr (Or.inr (Int32.not_le.mp htw2))))]; exact ⟨pa, ca, la, ro, co, ea, tx, sz, lf, fo, f1, nc, lz, fz, nI i, P, C9, LN, RW, CO, EA, SZ, LF, FO, F1, tf, TL, rfl, hnc, hk5, hC, hA, hLM, hEM, rfl, hti, hTx, hTf⟩⟩ (by decide) (by decide)

set_option maxHeartbeats 4000000 in
set_option maxRecDepth 100000 in
theorem m_add (l : Launch) (G : Gx) (h k : Nat) (σ : Sg) (fl : Int32) (w : va_W) (rr pt : Int32) (hw : MoI G h k σ fl w)  : CT l G y_Mo_add b_Mo_add 3 (some .int) ({ frames := 1, cells := 0, slots := 0, locals := 60 } : Room) w [.ref h, .int rr, .int pt] (fun r w' => r = some (.int (spAdd σ rr pt).2.1) ∧ MoI G h k (spAdd σ rr pt).2.2 (nI (spAdd σ rr pt).1) w') := by
  obtain ⟨cl, A, told, rws⟩ := σ
  obtain ⟨pa, ca, la, ro, co, ea, tx, sz, lf, fo, f1, nc, lz, fz, td, P, C9, LN, RW, CO, EA, SZ, LF, FO, F1, tf, TL, rfl, hnc, hk5, hC, hA, hLM, hEM, htd, hti, hTx, hTf⟩ := hw
  have hA : A.length ≤ 500 := hA
  have htd : td = fiI told := htd
  refine ct_of [(0, .ref h), (1, .int rr), (2, .int pt)] (by decide) (Nat.le_of_ble_eq_true rfl) rfl (fun K hKl hNI C X => ?_)
  subst hKl
  show vv K ({ frames := 1, cells := 0, slots := 0, locals := 60 } : Room) G 3 0 0 ([(h, ob 7 [.int fl, .ref pa, .ref ca, .int (nI nc), .ref la, .ref ro, .ref co, .ref ea, .int (nI A.length), .int td, .ref tx, .ref sz, .ref lf, .int (nI lz), .ref fo, .int (nI fz), .ref f1]), (pa, aI G 5000 P), (ca, aI G 5000 C9), (la, aI G 500 LN), (ro, aI G 1500 RW), (co, aI G 500 CO), (ea, aI G 16000 EA), (tx, aII G 4 tf), (sz, aI G 4 SZ), (lf, aI G 200 LF), (fo, aI G 6400 FO), (f1, aI G 6400 F1)] ++ tpool G TL) 0 [(0, .ref h), (1, .int rr), (2, .int pt)] []
  refine v_aload_n (pc := 0) C 0 d_Mo_add_0 rfl rfl ?_
  refine v_iconst (pc := 1) C (nI 0) d_Mo_add_1 (by decide +kernel) ?_
  refine v_put (pc := 2) (Cn := "WeightOrderModel") (T := T_Mo) (N := 17) (ci := 7) (v := .int (nI 0)) C 0 0 rfl rfl hin_Mo (by decide) rfl ([(h, ob 7 [.int (nI 0), .ref pa, .ref ca, .int (nI nc), .ref la, .ref ro, .ref co, .ref ea, .int (nI A.length), .int td, .ref tx, .ref sz, .ref lf, .int (nI lz), .ref fo, .int (nI fz), .ref f1]), (pa, aI G 5000 P), (ca, aI G 5000 C9), (la, aI G 500 LN), (ro, aI G 1500 RW), (co, aI G 500 CO), (ea, aI G 16000 EA), (tx, aII G 4 tf), (sz, aI G 4 SZ), (lf, aI G 200 LF), (fo, aI G 6400 FO), (f1, aI G 6400 F1)] ++ tpool G TL) t_Mo t_Mo_ok n_Mo (.int) rfl rfl rfl (Nat.le_of_ble_eq_true rfl) rfl rfl k_462 d_Mo_add_2 ?_
  refine v_iload_n (pc := 5) C 1 d_Mo_add_5 rfl rfl ?_
  refine v_if_lt (pc := 6) C 22 d_Mo_add_6 (by decide) (fun h1 => ?_) (fun h1 => ?_)
  · refine v_aload_n (pc := 22) C 0 d_Mo_add_22 rfl rfl ?_
    refine v_iconst (pc := 23) C (nI 1) d_Mo_add_23 (by decide +kernel) ?_
    refine v_callV (pc := 24) (As := [.int (nI 1)]) (rest := []) C (c_Mo_fail _ G h pa ca la ro co ea tx sz lf fo f1 (nI 0) td nc A.length lz fz 1) l_Mo_63 ([(pa, aI G 5000 P), (ca, aI G 5000 C9), (la, aI G 500 LN), (ro, aI G 1500 RW), (co, aI G 500 CO), (ea, aI G 16000 EA), (tx, aII G 4 tf), (sz, aI G 4 SZ), (lf, aI G 200 LF), (fo, aI G 6400 FO), (f1, aI G 6400 F1)] ++ tpool G TL) (sp_poolR [1, 2, 3, 4, 5, 6, 7, 8, 9, 10, 11] [0] rfl rfl rfl) 0 rfl rfl rfl rfl rfl (Nat.le_of_ble_eq_true rfl) (by decide) (by decide) (by decide) (by decide) d_Mo_add_24 (fun r w' hq => ?_)
    obtain ⟨rfl, rfl⟩ := hq
    refine v_swap ?_
    show vv K ({ frames := 1, cells := 0, slots := 0, locals := 60 } : Room) G 3 0 0 ([(pa, aI G 5000 P), (ca, aI G 5000 C9), (la, aI G 500 LN), (ro, aI G 1500 RW), (co, aI G 500 CO), (ea, aI G 16000 EA), (tx, aII G 4 tf), (sz, aI G 4 SZ), (lf, aI G 200 LF), (fo, aI G 6400 FO), (f1, aI G 6400 F1), (h, ob 7 [.int (nI 1), .ref pa, .ref ca, .int (nI nc), .ref la, .ref ro, .ref co, .ref ea, .int (nI A.length), .int td, .ref tx, .ref sz, .ref lf, .int (nI lz), .ref fo, .int (nI fz), .ref f1])] ++ tpool G TL) 27 [(0, .ref h), (1, .int rr), (2, .int pt)] [.int (nI 0)]
    refine v_wsubP [11, 0, 1, 2, 3, 4, 5, 6, 7, 8, 9, 10] ([(h, ob 7 [.int (nI 1), .ref pa, .ref ca, .int (nI nc), .ref la, .ref ro, .ref co, .ref ea, .int (nI A.length), .int td, .ref tx, .ref sz, .ref lf, .int (nI lz), .ref fo, .int (nI fz), .ref f1]), (pa, aI G 5000 P), (ca, aI G 5000 C9), (la, aI G 500 LN), (ro, aI G 1500 RW), (co, aI G 500 CO), (ea, aI G 16000 EA), (tx, aII G 4 tf), (sz, aI G 4 SZ), (lf, aI G 200 LF), (fo, aI G 6400 FO), (f1, aI G 6400 F1)]) rfl rfl ?_
    exact v_iret (pc := 27) C X d_Mo_add_27 ⟨by rw [show spAdd (cl, A, told, rws) rr pt = (1, nI 0, (cl, A, told, rws)) by unfold spAdd; rw [if_pos (Or.inl (Or.inl h1))]], by rw [show spAdd (cl, A, told, rws) rr pt = (1, nI 0, (cl, A, told, rws)) by unfold spAdd; rw [if_pos (Or.inl (Or.inl h1))]]; exact ⟨pa, ca, la, ro, co, ea, tx, sz, lf, fo, f1, nc, lz, fz, td, P, C9, LN, RW, CO, EA, SZ, LF, FO, F1, tf, TL, rfl, hnc, hk5, hC, hA, hLM, hEM, htd, hti, hTx, hTf⟩⟩ (by decide) (by decide)
  · refine v_iload_n (pc := 9) C 1 d_Mo_add_9 rfl rfl ?_
    refine v_iconst (pc := 10) C (nI 3) d_Mo_add_10 (by decide +kernel) ?_
    refine v_icmp_gt (pc := 11) C 22 d_Mo_add_11 (by decide) (fun h2 => ?_) (fun h2 => ?_)
    · refine v_aload_n (pc := 22) C 0 d_Mo_add_22 rfl rfl ?_
      refine v_iconst (pc := 23) C (nI 1) d_Mo_add_23 (by decide +kernel) ?_
      refine v_callV (pc := 24) (As := [.int (nI 1)]) (rest := []) C (c_Mo_fail _ G h pa ca la ro co ea tx sz lf fo f1 (nI 0) td nc A.length lz fz 1) l_Mo_63 ([(pa, aI G 5000 P), (ca, aI G 5000 C9), (la, aI G 500 LN), (ro, aI G 1500 RW), (co, aI G 500 CO), (ea, aI G 16000 EA), (tx, aII G 4 tf), (sz, aI G 4 SZ), (lf, aI G 200 LF), (fo, aI G 6400 FO), (f1, aI G 6400 F1)] ++ tpool G TL) (sp_poolR [1, 2, 3, 4, 5, 6, 7, 8, 9, 10, 11] [0] rfl rfl rfl) 0 rfl rfl rfl rfl rfl (Nat.le_of_ble_eq_true rfl) (by decide) (by decide) (by decide) (by decide) d_Mo_add_24 (fun r w' hq => ?_)
      obtain ⟨rfl, rfl⟩ := hq
      refine v_swap ?_
      show vv K ({ frames := 1, cells := 0, slots := 0, locals := 60 } : Room) G 3 0 0 ([(pa, aI G 5000 P), (ca, aI G 5000 C9), (la, aI G 500 LN), (ro, aI G 1500 RW), (co, aI G 500 CO), (ea, aI G 16000 EA), (tx, aII G 4 tf), (sz, aI G 4 SZ), (lf, aI G 200 LF), (fo, aI G 6400 FO), (f1, aI G 6400 F1), (h, ob 7 [.int (nI 1), .ref pa, .ref ca, .int (nI nc), .ref la, .ref ro, .ref co, .ref ea, .int (nI A.length), .int td, .ref tx, .ref sz, .ref lf, .int (nI lz), .ref fo, .int (nI fz), .ref f1])] ++ tpool G TL) 27 [(0, .ref h), (1, .int rr), (2, .int pt)] [.int (nI 0)]
      refine v_wsubP [11, 0, 1, 2, 3, 4, 5, 6, 7, 8, 9, 10] ([(h, ob 7 [.int (nI 1), .ref pa, .ref ca, .int (nI nc), .ref la, .ref ro, .ref co, .ref ea, .int (nI A.length), .int td, .ref tx, .ref sz, .ref lf, .int (nI lz), .ref fo, .int (nI fz), .ref f1]), (pa, aI G 5000 P), (ca, aI G 5000 C9), (la, aI G 500 LN), (ro, aI G 1500 RW), (co, aI G 500 CO), (ea, aI G 16000 EA), (tx, aII G 4 tf), (sz, aI G 4 SZ), (lf, aI G 200 LF), (fo, aI G 6400 FO), (f1, aI G 6400 F1)]) rfl rfl ?_
      exact v_iret (pc := 27) C X d_Mo_add_27 ⟨by rw [show spAdd (cl, A, told, rws) rr pt = (1, nI 0, (cl, A, told, rws)) by unfold spAdd; rw [if_pos (Or.inl (Or.inr h2))]], by rw [show spAdd (cl, A, told, rws) rr pt = (1, nI 0, (cl, A, told, rws)) by unfold spAdd; rw [if_pos (Or.inl (Or.inr h2))]]; exact ⟨pa, ca, la, ro, co, ea, tx, sz, lf, fo, f1, nc, lz, fz, td, P, C9, LN, RW, CO, EA, SZ, LF, FO, F1, tf, TL, rfl, hnc, hk5, hC, hA, hLM, hEM, htd, hti, hTx, hTf⟩⟩ (by decide) (by decide)
    · refine v_aload_n (pc := 14) C 0 d_Mo_add_14 rfl rfl ?_
      refine v_iload_n (pc := 15) C 2 d_Mo_add_15 rfl rfl ?_
      refine v_callV (pc := 16) (As := [.int pt]) (rest := []) C (c_Mo_out _ G h pa ca la ro co ea tx sz lf fo f1 (nI 0) td nc A.length lz fz pt) l_Mo_53 ([(pa, aI G 5000 P), (ca, aI G 5000 C9), (la, aI G 500 LN), (ro, aI G 1500 RW), (co, aI G 500 CO), (ea, aI G 16000 EA), (tx, aII G 4 tf), (sz, aI G 4 SZ), (lf, aI G 200 LF), (fo, aI G 6400 FO), (f1, aI G 6400 F1)] ++ tpool G TL) (sp_poolR [1, 2, 3, 4, 5, 6, 7, 8, 9, 10, 11] [0] rfl rfl rfl) 0 rfl rfl rfl rfl rfl (Nat.le_of_ble_eq_true rfl) (by decide) (by decide) (by decide) (by decide) d_Mo_add_16 (fun r w' hq => ?_)
      obtain ⟨rfl, rfl⟩ := hq
      refine v_swap ?_
      show vv K ({ frames := 1, cells := 0, slots := 0, locals := 60 } : Room) G 3 0 0 ([(pa, aI G 5000 P), (ca, aI G 5000 C9), (la, aI G 500 LN), (ro, aI G 1500 RW), (co, aI G 500 CO), (ea, aI G 16000 EA), (tx, aII G 4 tf), (sz, aI G 4 SZ), (lf, aI G 200 LF), (fo, aI G 6400 FO), (f1, aI G 6400 F1), (h, ob 7 [.int (nI 0), .ref pa, .ref ca, .int (nI nc), .ref la, .ref ro, .ref co, .ref ea, .int (nI A.length), .int td, .ref tx, .ref sz, .ref lf, .int (nI lz), .ref fo, .int (nI fz), .ref f1])] ++ tpool G TL) 19 [(0, .ref h), (1, .int rr), (2, .int pt)] [.int (ou pt)]
      refine v_if_eq (pc := 19) C 28 d_Mo_add_19 (by decide) (fun h3 => ?_) (fun h3 => ?_)
      · obtain ⟨rj, hrj, rfl⟩ := nb_nat (M := 3) (by decide) (fun z => z.elim h1 h2)
        obtain ⟨pj, hpj, rfl⟩ := nb_nat (by decide) (ou_0 h3)
        obtain ⟨y, row, hy, hrow, hyo, hsz⟩ := txs_row hTx hrj
        have hyl := hyo.1
        have htf := hTf rj y hy
        have hsp0 : spAdd (cl, A, told, rws) (nI rj) (nI pj) = if row.length = 200 then (2, nI 0, (cl, A, told, rws)) else (0, nI (row.length + 1), (cl, A, told, rws.set rj (row ++ [pj]))) := by unfold spAdd; rw [if_neg (fun z => z.elim (nbad hrj (by decide)) (nbad hpj (by decide))), toN_nI (by omega), toN_nI (by omega)]; simp only [rowA_get hrow]
        refine v_aload_n (pc := 28) C 0 d_Mo_add_28 rfl rfl ?_
        refine v_get (pc := 29) (Cn := "WeightOrderModel") (T := T_Mo) (N := 17) (ci := 7) (v := .ref sz) C 11 11 rfl rfl hin_Mo (by decide) rfl k_473 rfl d_Mo_add_29 ?_
        refine v_iload_n (pc := 32) C 1 d_Mo_add_32 rfl rfl ?_
        refine v_iald (pc := 33) C 7 rfl rj rfl (by omega) (by decide) d_Mo_add_33 ?_
        refine v_seti (nI row.length) hsz ?_
        refine v_sipush (pc := 34) C (nI 200) d_Mo_add_34 (by decide +kernel) ?_
        refine v_icmpN_ne (pc := 37) C 46 row.length 200 d_Mo_add_37 (by decide) (by omega) (by omega) (fun h5 => ?_) (fun h5 => ?_)
        · have hsp : spAdd (cl, A, told, rws) (nI rj) (nI pj) = (0, nI (row.length + 1), (cl, A, told, rws.set rj (row ++ [pj]))) := by rw [hsp0, if_neg h5]
          refine v_aload_n (pc := 46) C 0 d_Mo_add_46 rfl rfl ?_
          refine v_get (pc := 47) (Cn := "WeightOrderModel") (T := T_Mo) (N := 17) (ci := 7) (v := .ref tx) C 11 10 rfl rfl hin_Mo (by decide) rfl k_472 rfl d_Mo_add_47 ?_
          refine v_iload_n (pc := 50) C 1 d_Mo_add_50 rfl rfl ?_
          refine v_aaldII (pc := 51) C 6 rfl rj rfl (by omega) (by decide) d_Mo_add_51 ?_
          rw [htf]
          show vv K ({ frames := 1, cells := 0, slots := 0, locals := 60 } : Room) G 3 0 0 ([(pa, aI G 5000 P), (ca, aI G 5000 C9), (la, aI G 500 LN), (ro, aI G 1500 RW), (co, aI G 500 CO), (ea, aI G 16000 EA), (tx, aII G 4 tf), (sz, aI G 4 SZ), (lf, aI G 200 LF), (fo, aI G 6400 FO), (f1, aI G 6400 F1), (h, ob 7 [.int (nI 0), .ref pa, .ref ca, .int (nI nc), .ref la, .ref ro, .ref co, .ref ea, .int (nI A.length), .int td, .ref tx, .ref sz, .ref lf, .int (nI lz), .ref fo, .int (nI fz), .ref f1])] ++ tpool G TL) 52 [(0, .ref h), (1, .int (nI rj)), (2, .int (nI pj))] [.ref y.1]
          obtain ⟨TA, TB9, e1, -, e2q⟩ := lset_split hy
          rw [show tpool G TL = tpool G (TA ++ y :: TB9) by rw [← e1]]
          refine v_tout ?_
          show vv K ({ frames := 1, cells := 0, slots := 0, locals := 60 } : Room) G 3 0 0 ([(pa, aI G 5000 P), (ca, aI G 5000 C9), (la, aI G 500 LN), (ro, aI G 1500 RW), (co, aI G 500 CO), (ea, aI G 16000 EA), (tx, aII G 4 tf), (sz, aI G 4 SZ), (lf, aI G 200 LF), (fo, aI G 6400 FO), (f1, aI G 6400 F1), (h, ob 7 [.int (nI 0), .ref pa, .ref ca, .int (nI nc), .ref la, .ref ro, .ref co, .ref ea, .int (nI A.length), .int td, .ref tx, .ref sz, .ref lf, .int (nI lz), .ref fo, .int (nI fz), .ref f1]), (y.1, aI G 200 y.2)] ++ tpool G (TA ++ TB9)) 52 [(0, .ref h), (1, .int (nI rj)), (2, .int (nI pj))] [.ref y.1]
          refine v_aload_n (pc := 52) C 0 d_Mo_add_52 rfl rfl ?_
          refine v_get (pc := 53) (Cn := "WeightOrderModel") (T := T_Mo) (N := 17) (ci := 7) (v := .ref sz) C 11 11 rfl rfl hin_Mo (by decide) rfl k_473 rfl d_Mo_add_53 ?_
          refine v_iload_n (pc := 56) C 1 d_Mo_add_56 rfl rfl ?_
          refine v_iald (pc := 57) C 7 rfl rj rfl (by omega) (by decide) d_Mo_add_57 ?_
          refine v_seti (nI row.length) hsz ?_
          refine v_iload_n (pc := 58) C 2 d_Mo_add_58 rfl rfl ?_
          refine v_iast (pc := 59) C 12 ([(pa, aI G 5000 P), (ca, aI G 5000 C9), (la, aI G 500 LN), (ro, aI G 1500 RW), (co, aI G 500 CO), (ea, aI G 16000 EA), (tx, aII G 4 tf), (sz, aI G 4 SZ), (lf, aI G 200 LF), (fo, aI G 6400 FO), (f1, aI G 6400 F1), (h, ob 7 [.int (nI 0), .ref pa, .ref ca, .int (nI nc), .ref la, .ref ro, .ref co, .ref ea, .int (nI A.length), .int td, .ref tx, .ref sz, .ref lf, .int (nI lz), .ref fo, .int (nI fz), .ref f1]), (y.1, aI G 200 (upd y.2 row.length (nI pj)))] ++ tpool G (TA ++ TB9)) rfl row.length rfl (by omega) (by decide) rfl d_Mo_add_59 ?_
          refine v_aload_n (pc := 60) C 0 d_Mo_add_60 rfl rfl ?_
          refine v_get (pc := 61) (Cn := "WeightOrderModel") (T := T_Mo) (N := 17) (ci := 7) (v := .ref sz) C 11 11 rfl rfl hin_Mo (by decide) rfl k_473 rfl d_Mo_add_61 ?_
          refine v_iload_n (pc := 64) C 1 d_Mo_add_64 rfl rfl ?_
          refine v_dup2 (pc := 65) C d_Mo_add_65 rfl rfl ?_
          refine v_iald (pc := 66) C 7 rfl rj rfl (by omega) (by decide) d_Mo_add_66 ?_
          refine v_seti (nI row.length) hsz ?_
          refine v_iconst (pc := 67) C (nI 1) d_Mo_add_67 (by decide +kernel) ?_
          refine v_iadd (pc := 68) C (nI (row.length + 1)) d_Mo_add_68 (nI_add _ _) ?_
          refine v_iast (pc := 69) C 7 ([(pa, aI G 5000 P), (ca, aI G 5000 C9), (la, aI G 500 LN), (ro, aI G 1500 RW), (co, aI G 500 CO), (ea, aI G 16000 EA), (tx, aII G 4 tf), (sz, aI G 4 (upd SZ rj (nI (row.length + 1)))), (lf, aI G 200 LF), (fo, aI G 6400 FO), (f1, aI G 6400 F1), (h, ob 7 [.int (nI 0), .ref pa, .ref ca, .int (nI nc), .ref la, .ref ro, .ref co, .ref ea, .int (nI A.length), .int td, .ref tx, .ref sz, .ref lf, .int (nI lz), .ref fo, .int (nI fz), .ref f1]), (y.1, aI G 200 (upd y.2 row.length (nI pj)))] ++ tpool G (TA ++ TB9)) rfl rj rfl (by omega) (by decide) rfl d_Mo_add_69 ?_
          refine v_aload_n (pc := 70) C 0 d_Mo_add_70 rfl rfl ?_
          refine v_get (pc := 71) (Cn := "WeightOrderModel") (T := T_Mo) (N := 17) (ci := 7) (v := .ref sz) C 11 11 rfl rfl hin_Mo (by decide) rfl k_473 rfl d_Mo_add_71 ?_
          refine v_iload_n (pc := 74) C 1 d_Mo_add_74 rfl rfl ?_
          refine v_iald (pc := 75) C 7 rfl rj rfl (by omega) (by decide) d_Mo_add_75 ?_
          refine v_seti (nI (row.length + 1)) pk_us ?_
          have hll : row.length + 1 = (row ++ [pj]).length := by simp
          have e3 := e2q (y.1, upd y.2 row.length (nI pj))
          refine v_wsubP [11, 0, 1, 2, 3, 4, 5, 6, 7, 8, 9, 10, 12] ([(h, ob 7 [.int (nI 0), .ref pa, .ref ca, .int (nI nc), .ref la, .ref ro, .ref co, .ref ea, .int (nI A.length), .int td, .ref tx, .ref sz, .ref lf, .int (nI lz), .ref fo, .int (nI fz), .ref f1]), (pa, aI G 5000 P), (ca, aI G 5000 C9), (la, aI G 500 LN), (ro, aI G 1500 RW), (co, aI G 500 CO), (ea, aI G 16000 EA), (tx, aII G 4 tf), (sz, aI G 4 (upd SZ rj (nI (row.length + 1)))), (lf, aI G 200 LF), (fo, aI G 6400 FO), (f1, aI G 6400 F1), (y.1, aI G 200 (upd y.2 row.length (nI pj)))]) rfl rfl ?_
          refine v_tin (X := [(h, ob 7 [.int (nI 0), .ref pa, .ref ca, .int (nI nc), .ref la, .ref ro, .ref co, .ref ea, .int (nI A.length), .int td, .ref tx, .ref sz, .ref lf, .int (nI lz), .ref fo, .int (nI fz), .ref f1]), (pa, aI G 5000 P), (ca, aI G 5000 C9), (la, aI G 500 LN), (ro, aI G 1500 RW), (co, aI G 500 CO), (ea, aI G 16000 EA), (tx, aII G 4 tf), (sz, aI G 4 (upd SZ rj (nI (row.length + 1)))), (lf, aI G 200 LF), (fo, aI G 6400 FO), (f1, aI G 6400 F1)]) (y := (y.1, upd y.2 row.length (nI pj))) ?_
          rw [← e3]
          exact v_iret (pc := 76) C X d_Mo_add_76 ⟨by rw [hsp], by rw [hsp]; exact ⟨pa, ca, la, ro, co, ea, tx, sz, lf, fo, f1, nc, lz, fz, td, P, C9, LN, RW, CO, EA, upd SZ rj (nI (row ++ [pj]).length), LF, FO, F1, tf, TL.set rj (y.1, upd y.2 row.length (nI pj)), (by rw [← hll]), hnc, hk5, hC, hA, hLM, hEM, htd, hti, txs_set hTx hrj (rws_add hyo (by omega) hpj), tfs_set hTf hy rfl⟩⟩ (by decide) (by decide)
        · refine v_aload_n (pc := 40) C 0 d_Mo_add_40 rfl rfl ?_
          refine v_iconst (pc := 41) C (nI 2) d_Mo_add_41 (by decide +kernel) ?_
          refine v_callV (pc := 42) (As := [.int (nI 2)]) (rest := []) C (c_Mo_fail _ G h pa ca la ro co ea tx sz lf fo f1 (nI 0) td nc A.length lz fz 2) l_Mo_63 ([(pa, aI G 5000 P), (ca, aI G 5000 C9), (la, aI G 500 LN), (ro, aI G 1500 RW), (co, aI G 500 CO), (ea, aI G 16000 EA), (tx, aII G 4 tf), (sz, aI G 4 SZ), (lf, aI G 200 LF), (fo, aI G 6400 FO), (f1, aI G 6400 F1)] ++ tpool G TL) (sp_poolR [0, 1, 2, 3, 4, 5, 6, 7, 8, 9, 10] [11] rfl rfl rfl) 0 rfl rfl rfl rfl rfl (Nat.le_of_ble_eq_true rfl) (by decide) (by decide) (by decide) (by decide) d_Mo_add_42 (fun r w' hq => ?_)
          obtain ⟨rfl, rfl⟩ := hq
          refine v_swap ?_
          show vv K ({ frames := 1, cells := 0, slots := 0, locals := 60 } : Room) G 3 0 0 ([(pa, aI G 5000 P), (ca, aI G 5000 C9), (la, aI G 500 LN), (ro, aI G 1500 RW), (co, aI G 500 CO), (ea, aI G 16000 EA), (tx, aII G 4 tf), (sz, aI G 4 SZ), (lf, aI G 200 LF), (fo, aI G 6400 FO), (f1, aI G 6400 F1), (h, ob 7 [.int (nI 2), .ref pa, .ref ca, .int (nI nc), .ref la, .ref ro, .ref co, .ref ea, .int (nI A.length), .int td, .ref tx, .ref sz, .ref lf, .int (nI lz), .ref fo, .int (nI fz), .ref f1])] ++ tpool G TL) 45 [(0, .ref h), (1, .int (nI rj)), (2, .int (nI pj))] [.int (nI 0)]
          refine v_wsubP [11, 0, 1, 2, 3, 4, 5, 6, 7, 8, 9, 10] ([(h, ob 7 [.int (nI 2), .ref pa, .ref ca, .int (nI nc), .ref la, .ref ro, .ref co, .ref ea, .int (nI A.length), .int td, .ref tx, .ref sz, .ref lf, .int (nI lz), .ref fo, .int (nI fz), .ref f1]), (pa, aI G 5000 P), (ca, aI G 5000 C9), (la, aI G 500 LN), (ro, aI G 1500 RW), (co, aI G 500 CO), (ea, aI G 16000 EA), (tx, aII G 4 tf), (sz, aI G 4 SZ), (lf, aI G 200 LF), (fo, aI G 6400 FO), (f1, aI G 6400 F1)]) rfl rfl ?_
          exact v_iret (pc := 45) C X d_Mo_add_45 ⟨by rw [hsp0, if_pos h5], by rw [hsp0, if_pos h5]; exact ⟨pa, ca, la, ro, co, ea, tx, sz, lf, fo, f1, nc, lz, fz, td, P, C9, LN, RW, CO, EA, SZ, LF, FO, F1, tf, TL, rfl, hnc, hk5, hC, hA, hLM, hEM, htd, hti, hTx, hTf⟩⟩ (by decide) (by decide)
      · refine v_aload_n (pc := 22) C 0 d_Mo_add_22 rfl rfl ?_
        refine v_iconst (pc := 23) C (nI 1) d_Mo_add_23 (by decide +kernel) ?_
        refine v_callV (pc := 24) (As := [.int (nI 1)]) (rest := []) C (c_Mo_fail _ G h pa ca la ro co ea tx sz lf fo f1 (nI 0) td nc A.length lz fz 1) l_Mo_63 ([(pa, aI G 5000 P), (ca, aI G 5000 C9), (la, aI G 500 LN), (ro, aI G 1500 RW), (co, aI G 500 CO), (ea, aI G 16000 EA), (tx, aII G 4 tf), (sz, aI G 4 SZ), (lf, aI G 200 LF), (fo, aI G 6400 FO), (f1, aI G 6400 F1)] ++ tpool G TL) (sp_poolR [0, 1, 2, 3, 4, 5, 6, 7, 8, 9, 10] [11] rfl rfl rfl) 0 rfl rfl rfl rfl rfl (Nat.le_of_ble_eq_true rfl) (by decide) (by decide) (by decide) (by decide) d_Mo_add_24 (fun r w' hq => ?_)
        obtain ⟨rfl, rfl⟩ := hq
        refine v_swap ?_
        show vv K ({ frames := 1, cells := 0, slots := 0, locals := 60 } : Room) G 3 0 0 ([(pa, aI G 5000 P), (ca, aI G 5000 C9), (la, aI G 500 LN), (ro, aI G 1500 RW), (co, aI G 500 CO), (ea, aI G 16000 EA), (tx, aII G 4 tf), (sz, aI G 4 SZ), (lf, aI G 200 LF), (fo, aI G 6400 FO), (f1, aI G 6400 F1), (h, ob 7 [.int (nI 1), .ref pa, .ref ca, .int (nI nc), .ref la, .ref ro, .ref co, .ref ea, .int (nI A.length), .int td, .ref tx, .ref sz, .ref lf, .int (nI lz), .ref fo, .int (nI fz), .ref f1])] ++ tpool G TL) 27 [(0, .ref h), (1, .int rr), (2, .int pt)] [.int (nI 0)]
        refine v_wsubP [11, 0, 1, 2, 3, 4, 5, 6, 7, 8, 9, 10] ([(h, ob 7 [.int (nI 1), .ref pa, .ref ca, .int (nI nc), .ref la, .ref ro, .ref co, .ref ea, .int (nI A.length), .int td, .ref tx, .ref sz, .ref lf, .int (nI lz), .ref fo, .int (nI fz), .ref f1]), (pa, aI G 5000 P), (ca, aI G 5000 C9), (la, aI G 500 LN), (ro, aI G 1500 RW), (co, aI G 500 CO), (ea, aI G 16000 EA), (tx, aII G 4 tf), (sz, aI G 4 SZ), (lf, aI G 200 LF), (fo, aI G 6400 FO), (f1, aI G 6400 F1)]) rfl rfl ?_
        exact v_iret (pc := 27) C X d_Mo_add_27 ⟨by rw [show spAdd (cl, A, told, rws) rr pt = (1, nI 0, (cl, A, told, rws)) by unfold spAdd; rw [if_pos (Or.inr (ou_1 h3))]], by rw [show spAdd (cl, A, told, rws) rr pt = (1, nI 0, (cl, A, told, rws)) by unfold spAdd; rw [if_pos (Or.inr (ou_1 h3))]]; exact ⟨pa, ca, la, ro, co, ea, tx, sz, lf, fo, f1, nc, lz, fz, td, P, C9, LN, RW, CO, EA, SZ, LF, FO, F1, tf, TL, rfl, hnc, hk5, hC, hA, hLM, hEM, htd, hti, hTx, hTf⟩⟩ (by decide) (by decide)

set_option maxHeartbeats 4000000 in
set_option maxRecDepth 100000 in
theorem m_clear (l : Launch) (G : Gx) (h k : Nat) (σ : Sg) (fl : Int32) (w : va_W) (rr : Int32) (hw : MoI G h k σ fl w)  : CT l G y_Mo_clear b_Mo_clear 3 (some .int) ({ frames := 1, cells := 0, slots := 0, locals := 60 } : Room) w [.ref h, .int rr] (fun r w' => r = some (.int (spClear σ rr).2.1) ∧ MoI G h k (spClear σ rr).2.2 (nI (spClear σ rr).1) w') := by
  obtain ⟨cl, A, told, rws⟩ := σ
  obtain ⟨pa, ca, la, ro, co, ea, tx, sz, lf, fo, f1, nc, lz, fz, td, P, C9, LN, RW, CO, EA, SZ, LF, FO, F1, tf, TL, rfl, hnc, hk5, hC, hA, hLM, hEM, htd, hti, hTx, hTf⟩ := hw
  have hA : A.length ≤ 500 := hA
  have htd : td = fiI told := htd
  refine ct_of [(0, .ref h), (1, .int rr)] (by decide) (Nat.le_of_ble_eq_true rfl) rfl (fun K hKl hNI C X => ?_)
  subst hKl
  show vv K ({ frames := 1, cells := 0, slots := 0, locals := 60 } : Room) G 3 0 0 ([(h, ob 7 [.int fl, .ref pa, .ref ca, .int (nI nc), .ref la, .ref ro, .ref co, .ref ea, .int (nI A.length), .int td, .ref tx, .ref sz, .ref lf, .int (nI lz), .ref fo, .int (nI fz), .ref f1]), (pa, aI G 5000 P), (ca, aI G 5000 C9), (la, aI G 500 LN), (ro, aI G 1500 RW), (co, aI G 500 CO), (ea, aI G 16000 EA), (tx, aII G 4 tf), (sz, aI G 4 SZ), (lf, aI G 200 LF), (fo, aI G 6400 FO), (f1, aI G 6400 F1)] ++ tpool G TL) 0 [(0, .ref h), (1, .int rr)] []
  refine v_aload_n (pc := 0) C 0 d_Mo_clear_0 rfl rfl ?_
  refine v_iconst (pc := 1) C (nI 0) d_Mo_clear_1 (by decide +kernel) ?_
  refine v_put (pc := 2) (Cn := "WeightOrderModel") (T := T_Mo) (N := 17) (ci := 7) (v := .int (nI 0)) C 0 0 rfl rfl hin_Mo (by decide) rfl ([(h, ob 7 [.int (nI 0), .ref pa, .ref ca, .int (nI nc), .ref la, .ref ro, .ref co, .ref ea, .int (nI A.length), .int td, .ref tx, .ref sz, .ref lf, .int (nI lz), .ref fo, .int (nI fz), .ref f1]), (pa, aI G 5000 P), (ca, aI G 5000 C9), (la, aI G 500 LN), (ro, aI G 1500 RW), (co, aI G 500 CO), (ea, aI G 16000 EA), (tx, aII G 4 tf), (sz, aI G 4 SZ), (lf, aI G 200 LF), (fo, aI G 6400 FO), (f1, aI G 6400 F1)] ++ tpool G TL) t_Mo t_Mo_ok n_Mo (.int) rfl rfl rfl (Nat.le_of_ble_eq_true rfl) rfl rfl k_462 d_Mo_clear_2 ?_
  refine v_iload_n (pc := 5) C 1 d_Mo_clear_5 rfl rfl ?_
  refine v_if_lt (pc := 6) C 14 d_Mo_clear_6 (by decide) (fun h1 => ?_) (fun h1 => ?_)
  · refine v_aload_n (pc := 14) C 0 d_Mo_clear_14 rfl rfl ?_
    refine v_iconst (pc := 15) C (nI 1) d_Mo_clear_15 (by decide +kernel) ?_
    refine v_callV (pc := 16) (As := [.int (nI 1)]) (rest := []) C (c_Mo_fail _ G h pa ca la ro co ea tx sz lf fo f1 (nI 0) td nc A.length lz fz 1) l_Mo_63 ([(pa, aI G 5000 P), (ca, aI G 5000 C9), (la, aI G 500 LN), (ro, aI G 1500 RW), (co, aI G 500 CO), (ea, aI G 16000 EA), (tx, aII G 4 tf), (sz, aI G 4 SZ), (lf, aI G 200 LF), (fo, aI G 6400 FO), (f1, aI G 6400 F1)] ++ tpool G TL) (sp_poolR [1, 2, 3, 4, 5, 6, 7, 8, 9, 10, 11] [0] rfl rfl rfl) 0 rfl rfl rfl rfl rfl (Nat.le_of_ble_eq_true rfl) (by decide) (by decide) (by decide) (by decide) d_Mo_clear_16 (fun r w' hq => ?_)
    obtain ⟨rfl, rfl⟩ := hq
    refine v_swap ?_
    show vv K ({ frames := 1, cells := 0, slots := 0, locals := 60 } : Room) G 3 0 0 ([(pa, aI G 5000 P), (ca, aI G 5000 C9), (la, aI G 500 LN), (ro, aI G 1500 RW), (co, aI G 500 CO), (ea, aI G 16000 EA), (tx, aII G 4 tf), (sz, aI G 4 SZ), (lf, aI G 200 LF), (fo, aI G 6400 FO), (f1, aI G 6400 F1), (h, ob 7 [.int (nI 1), .ref pa, .ref ca, .int (nI nc), .ref la, .ref ro, .ref co, .ref ea, .int (nI A.length), .int td, .ref tx, .ref sz, .ref lf, .int (nI lz), .ref fo, .int (nI fz), .ref f1])] ++ tpool G TL) 19 [(0, .ref h), (1, .int rr)] [.int (nI 0)]
    refine v_wsubP [11, 0, 1, 2, 3, 4, 5, 6, 7, 8, 9, 10] ([(h, ob 7 [.int (nI 1), .ref pa, .ref ca, .int (nI nc), .ref la, .ref ro, .ref co, .ref ea, .int (nI A.length), .int td, .ref tx, .ref sz, .ref lf, .int (nI lz), .ref fo, .int (nI fz), .ref f1]), (pa, aI G 5000 P), (ca, aI G 5000 C9), (la, aI G 500 LN), (ro, aI G 1500 RW), (co, aI G 500 CO), (ea, aI G 16000 EA), (tx, aII G 4 tf), (sz, aI G 4 SZ), (lf, aI G 200 LF), (fo, aI G 6400 FO), (f1, aI G 6400 F1)]) rfl rfl ?_
    exact v_iret (pc := 19) C X d_Mo_clear_19 ⟨by rw [show spClear (cl, A, told, rws) rr = (1, nI 0, (cl, A, told, rws)) by unfold spClear; rw [if_pos (Or.inl h1)]], by rw [show spClear (cl, A, told, rws) rr = (1, nI 0, (cl, A, told, rws)) by unfold spClear; rw [if_pos (Or.inl h1)]]; exact ⟨pa, ca, la, ro, co, ea, tx, sz, lf, fo, f1, nc, lz, fz, td, P, C9, LN, RW, CO, EA, SZ, LF, FO, F1, tf, TL, rfl, hnc, hk5, hC, hA, hLM, hEM, htd, hti, hTx, hTf⟩⟩ (by decide) (by decide)
  · refine v_iload_n (pc := 9) C 1 d_Mo_clear_9 rfl rfl ?_
    refine v_iconst (pc := 10) C (nI 3) d_Mo_clear_10 (by decide +kernel) ?_
    refine v_icmp_le (pc := 11) C 20 d_Mo_clear_11 (by decide) (fun h2 => ?_) (fun h2 => ?_)
    · obtain ⟨rj, hrj, rfl⟩ := nb_nat (M := 3) (x := rr) (by decide) (fun z => z.elim h1 (Int32.not_lt.mpr h2))
      obtain ⟨y, row, hy, hrow, hyo, hsz⟩ := txs_row hTx hrj
      have hsp : spClear (cl, A, told, rws) (nI rj) = (0, nI row.length, (cl, A, told, rws.set rj [])) := by unfold spClear; rw [if_neg (nbad hrj (by decide)), toN_nI (by omega), rowA_get hrow]
      refine v_aload_n (pc := 20) C 0 d_Mo_clear_20 rfl rfl ?_
      refine v_get (pc := 21) (Cn := "WeightOrderModel") (T := T_Mo) (N := 17) (ci := 7) (v := .ref sz) C 0 11 rfl rfl hin_Mo (by decide) rfl k_473 rfl d_Mo_clear_21 ?_
      refine v_iload_n (pc := 24) C 1 d_Mo_clear_24 rfl rfl ?_
      refine v_iald (pc := 25) C 8 rfl rj rfl (by omega) (by decide) d_Mo_clear_25 ?_
      refine v_seti (nI row.length) hsz ?_
      refine v_istore_n (pc := 26) C [(2, .int (nI row.length)), (0, .ref h), (1, .int (nI rj))] d_Mo_clear_26 rfl (by decide) rfl ?_
      refine v_aload_n (pc := 27) C 1 d_Mo_clear_27 rfl rfl ?_
      refine v_get (pc := 28) (Cn := "WeightOrderModel") (T := T_Mo) (N := 17) (ci := 7) (v := .ref sz) C 0 11 rfl rfl hin_Mo (by decide) rfl k_473 rfl d_Mo_clear_28 ?_
      refine v_iload_n (pc := 31) C 2 d_Mo_clear_31 rfl rfl ?_
      refine v_iconst (pc := 32) C (nI 0) d_Mo_clear_32 (by decide +kernel) ?_
      refine v_iast (pc := 33) C 8 ([(h, ob 7 [.int (nI 0), .ref pa, .ref ca, .int (nI nc), .ref la, .ref ro, .ref co, .ref ea, .int (nI A.length), .int td, .ref tx, .ref sz, .ref lf, .int (nI lz), .ref fo, .int (nI fz), .ref f1]), (pa, aI G 5000 P), (ca, aI G 5000 C9), (la, aI G 500 LN), (ro, aI G 1500 RW), (co, aI G 500 CO), (ea, aI G 16000 EA), (tx, aII G 4 tf), (sz, aI G 4 (upd SZ rj (nI 0))), (lf, aI G 200 LF), (fo, aI G 6400 FO), (f1, aI G 6400 F1)] ++ tpool G TL) rfl rj rfl (by omega) (by decide) rfl d_Mo_clear_33 ?_
      refine v_iload_n (pc := 34) C 0 d_Mo_clear_34 rfl rfl ?_
      have htx := txs_set (y := y) (row := []) hTx hrj ⟨by decide, fun _ h => absurd h List.not_mem_nil, fun i z h => by cases h⟩
      rw [show TL.set rj y = TL from (by rw [← (List.getElem?_eq_some_iff.mp hy).2]; exact List.set_getElem_self _)] at htx
      exact v_iret (pc := 35) C X d_Mo_clear_35 ⟨by rw [hsp], by rw [hsp]; exact ⟨pa, ca, la, ro, co, ea, tx, sz, lf, fo, f1, nc, lz, fz, td, P, C9, LN, RW, CO, EA, upd SZ rj (nI ([] : List Nat).length), LF, FO, F1, tf, TL, rfl, hnc, hk5, hC, hA, hLM, hEM, htd, hti, htx, hTf⟩⟩ (by decide) (by decide)
    · refine v_aload_n (pc := 14) C 0 d_Mo_clear_14 rfl rfl ?_
      refine v_iconst (pc := 15) C (nI 1) d_Mo_clear_15 (by decide +kernel) ?_
      refine v_callV (pc := 16) (As := [.int (nI 1)]) (rest := []) C (c_Mo_fail _ G h pa ca la ro co ea tx sz lf fo f1 (nI 0) td nc A.length lz fz 1) l_Mo_63 ([(pa, aI G 5000 P), (ca, aI G 5000 C9), (la, aI G 500 LN), (ro, aI G 1500 RW), (co, aI G 500 CO), (ea, aI G 16000 EA), (tx, aII G 4 tf), (sz, aI G 4 SZ), (lf, aI G 200 LF), (fo, aI G 6400 FO), (f1, aI G 6400 F1)] ++ tpool G TL) (sp_poolR [1, 2, 3, 4, 5, 6, 7, 8, 9, 10, 11] [0] rfl rfl rfl) 0 rfl rfl rfl rfl rfl (Nat.le_of_ble_eq_true rfl) (by decide) (by decide) (by decide) (by decide) d_Mo_clear_16 (fun r w' hq => ?_)
      obtain ⟨rfl, rfl⟩ := hq
      refine v_swap ?_
      show vv K ({ frames := 1, cells := 0, slots := 0, locals := 60 } : Room) G 3 0 0 ([(pa, aI G 5000 P), (ca, aI G 5000 C9), (la, aI G 500 LN), (ro, aI G 1500 RW), (co, aI G 500 CO), (ea, aI G 16000 EA), (tx, aII G 4 tf), (sz, aI G 4 SZ), (lf, aI G 200 LF), (fo, aI G 6400 FO), (f1, aI G 6400 F1), (h, ob 7 [.int (nI 1), .ref pa, .ref ca, .int (nI nc), .ref la, .ref ro, .ref co, .ref ea, .int (nI A.length), .int td, .ref tx, .ref sz, .ref lf, .int (nI lz), .ref fo, .int (nI fz), .ref f1])] ++ tpool G TL) 19 [(0, .ref h), (1, .int rr)] [.int (nI 0)]
      refine v_wsubP [11, 0, 1, 2, 3, 4, 5, 6, 7, 8, 9, 10] ([(h, ob 7 [.int (nI 1), .ref pa, .ref ca, .int (nI nc), .ref la, .ref ro, .ref co, .ref ea, .int (nI A.length), .int td, .ref tx, .ref sz, .ref lf, .int (nI lz), .ref fo, .int (nI fz), .ref f1]), (pa, aI G 5000 P), (ca, aI G 5000 C9), (la, aI G 500 LN), (ro, aI G 1500 RW), (co, aI G 500 CO), (ea, aI G 16000 EA), (tx, aII G 4 tf), (sz, aI G 4 SZ), (lf, aI G 200 LF), (fo, aI G 6400 FO), (f1, aI G 6400 F1)]) rfl rfl ?_
      exact v_iret (pc := 19) C X d_Mo_clear_19 ⟨by rw [show spClear (cl, A, told, rws) rr = (1, nI 0, (cl, A, told, rws)) by unfold spClear; rw [if_pos (Or.inr (Int32.not_le.mp h2))]], by rw [show spClear (cl, A, told, rws) rr = (1, nI 0, (cl, A, told, rws)) by unfold spClear; rw [if_pos (Or.inr (Int32.not_le.mp h2))]]; exact ⟨pa, ca, la, ro, co, ea, tx, sz, lf, fo, f1, nc, lz, fz, td, P, C9, LN, RW, CO, EA, SZ, LF, FO, F1, tf, TL, rfl, hnc, hk5, hC, hA, hLM, hEM, htd, hti, hTx, hTf⟩⟩ (by decide) (by decide)

theorem lfs_drop {f g : Nat → Int32} {rem : List Nat} {i n : Nat} (h : LfS f rem) (hi : i + n ≤ rem.length) (h1 : ∀ j, j < i → g j = f j) (h2 : ∀ j, i ≤ j → j < rem.length - n → g j = f (j + n)) : LfS g (rem.take i ++ rem.drop (i + n)) := by
  refine ⟨fun x hx => ?_, fun j x hx => ?_⟩
  · rcases List.mem_append.mp hx with hx | hx
    · exact h.1 x (List.mem_of_mem_take hx)
    · exact h.1 x (List.mem_of_mem_drop hx)
  · have hlt : (rem.take i).length = i := by rw [List.length_take]; omega
    rcases Nat.lt_or_ge j i with c | c
    · rw [List.getElem?_append_left (by omega), List.getElem?_take, if_pos c] at hx
      rw [h1 j c]
      exact h.2 j x hx
    · rw [List.getElem?_append_right (by omega), hlt, List.getElem?_drop, show i + n + (j - i) = j + n by omega] at hx
      have := (List.getElem?_eq_some_iff.mp hx).1
      rw [h2 j c (by omega)]
      exact h.2 (j + n) x hx

set_option maxHeartbeats 4000000 in
set_option maxRecDepth 100000 in
theorem c_Mo_drop (l : Launch) (G : Gx) (h pa ca la ro co ea tx sz lf fo f1 : Nat) (fl td : Int32) (nc nl fz : Nat) (f : Nat → Int32) (rem : List Nat) (i n : Nat) (hr : rem.length ≤ 200) (hF : LfS f rem) (hi : i + n ≤ rem.length) : CT l G y_Mo_drop b_Mo_drop 4 none ({ frames := 0, cells := 0, slots := 0, locals := 0 } : Room) ([(h, ob 7 [.int fl, .ref pa, .ref ca, .int (nI nc), .ref la, .ref ro, .ref co, .ref ea, .int (nI nl), .int td, .ref tx, .ref sz, .ref lf, .int (nI rem.length), .ref fo, .int (nI fz), .ref f1]), (lf, aI G 200 f)]) [.ref h, .int (nI i), .int (nI n)] (fun r w' => r = none ∧ ∃ g, w' = [(h, ob 7 [.int fl, .ref pa, .ref ca, .int (nI nc), .ref la, .ref ro, .ref co, .ref ea, .int (nI nl), .int td, .ref tx, .ref sz, .ref lf, .int (nI (rem.length - n)), .ref fo, .int (nI fz), .ref f1]), (lf, aI G 200 g)] ∧ LfS g (rem.take i ++ rem.drop (i + n))) := by
  refine ct_of [(0, .ref h), (1, .int (nI i)), (2, .int (nI n))] (by decide) (Nat.le_of_ble_eq_true rfl) rfl (fun K hKl hNI C X => ?_)
  subst hKl
  refine v_aload_n (pc := 0) C 0 d_Mo_drop_0 rfl rfl ?_
  refine v_dup (pc := 1) C d_Mo_drop_1 rfl ?_
  refine v_get (pc := 2) (Cn := "WeightOrderModel") (T := T_Mo) (N := 17) (ci := 7) (v := .int (nI rem.length)) C 0 13 rfl rfl hin_Mo (by decide) rfl k_475 rfl d_Mo_drop_2 ?_
  refine v_iload_n (pc := 5) C 2 d_Mo_drop_5 rfl rfl ?_
  refine v_isub (pc := 6) C (nI (rem.length - n)) d_Mo_drop_6 (pk_sub (by omega)) ?_
  refine v_put (pc := 7) (Cn := "WeightOrderModel") (T := T_Mo) (N := 17) (ci := 7) (v := .int (nI (rem.length - n))) C 0 13 rfl rfl hin_Mo (by decide) rfl ([(h, ob 7 [.int fl, .ref pa, .ref ca, .int (nI nc), .ref la, .ref ro, .ref co, .ref ea, .int (nI nl), .int td, .ref tx, .ref sz, .ref lf, .int (nI (rem.length - n)), .ref fo, .int (nI fz), .ref f1]), (lf, aI G 200 f)]) t_Mo t_Mo_ok n_Mo (.int) rfl rfl rfl (Nat.le_of_ble_eq_true rfl) rfl rfl k_475 d_Mo_drop_7 ?_
  refine v_iload_n (pc := 10) C 1 d_Mo_drop_10 rfl rfl ?_
  refine v_istore_n (pc := 11) C [(3, .int (nI i)), (0, .ref h), (1, .int (nI i)), (2, .int (nI n))] d_Mo_drop_11 rfl (by decide) rfl ?_
  have loop : ∀ (d : Nat) (k : Nat) (g : Nat → Int32), rem.length - n - k < d → (i ≤ k) → (k ≤ rem.length - n) → (∀ j, j < i → g j = f j) → (∀ j, i ≤ j → j < k → g j = f (j + n)) → (∀ j, k ≤ j → g j = f j) → vv K ({ frames := 0, cells := 0, slots := 0, locals := 0 } : Room) G 4 0 0 ([(h, ob 7 [.int fl, .ref pa, .ref ca, .int (nI nc), .ref la, .ref ro, .ref co, .ref ea, .int (nI nl), .int td, .ref tx, .ref sz, .ref lf, .int (nI (rem.length - n)), .ref fo, .int (nI fz), .ref f1]), (lf, aI G 200 g)]) 12 [(3, .int (nI k)), (0, .ref h), (2, .int (nI n))] [] := by
    intro d
    induction d with
    | zero => intro k g hm; exact absurd hm (Nat.not_lt_zero _)
    | succ d ih =>
      intro k g hm h1 h2 h3 h4 h5
      refine v_iload_n (pc := 12) C 0 d_Mo_drop_12 rfl rfl ?_
      refine v_aload_n (pc := 13) C 1 d_Mo_drop_13 rfl rfl ?_
      refine v_get (pc := 14) (Cn := "WeightOrderModel") (T := T_Mo) (N := 17) (ci := 7) (v := .int (nI (rem.length - n))) C 0 13 rfl rfl hin_Mo (by decide) rfl k_475 rfl d_Mo_drop_14 ?_
      refine v_icmpN_ge (pc := 17) C 40 k (rem.length - n) d_Mo_drop_17 (by decide) (by omega) (by omega) (fun hc => ?_) (fun hc => ?_)
      · exact v_vret (pc := 40) C X d_Mo_drop_40 ⟨rfl, g, rfl, lfs_drop hF hi h3 (fun j a b => h4 j a (by omega))⟩ (by decide) (by decide)
      · refine v_aload_n (pc := 20) C 1 d_Mo_drop_20 rfl rfl ?_
        refine v_get (pc := 21) (Cn := "WeightOrderModel") (T := T_Mo) (N := 17) (ci := 7) (v := .ref lf) C 0 12 rfl rfl hin_Mo (by decide) rfl k_474 rfl d_Mo_drop_21 ?_
        refine v_iload_n (pc := 24) C 0 d_Mo_drop_24 rfl rfl ?_
        refine v_aload_n (pc := 25) C 1 d_Mo_drop_25 rfl rfl ?_
        refine v_get (pc := 26) (Cn := "WeightOrderModel") (T := T_Mo) (N := 17) (ci := 7) (v := .ref lf) C 0 12 rfl rfl hin_Mo (by decide) rfl k_474 rfl d_Mo_drop_26 ?_
        refine v_iload_n (pc := 29) C 0 d_Mo_drop_29 rfl rfl ?_
        refine v_iload_n (pc := 30) C 2 d_Mo_drop_30 rfl rfl ?_
        refine v_iadd (pc := 31) C (nI (k + n)) d_Mo_drop_31 (nI_add _ _) ?_
        refine v_iald (pc := 32) C 1 rfl (k + n) rfl (by omega) (by decide) d_Mo_drop_32 ?_
        refine v_iast (pc := 33) C 1 ([(h, ob 7 [.int fl, .ref pa, .ref ca, .int (nI nc), .ref la, .ref ro, .ref co, .ref ea, .int (nI nl), .int td, .ref tx, .ref sz, .ref lf, .int (nI (rem.length - n)), .ref fo, .int (nI fz), .ref f1]), (lf, aI G 200 (upd g k (g (k + n))))]) rfl k rfl (by omega) (by decide) rfl d_Mo_drop_33 ?_
        refine v_iinc (pc := 34) C [(3, .int (nI (k + 1))), (0, .ref h), (2, .int (nI n))] 0 (nI (k + 1)) d_Mo_drop_34 rfl (nI_inc1 _) (by decide) rfl ?_
        refine v_goto (pc := 37) C 12 d_Mo_drop_37 (by decide) ?_
        refine v_lsub [0, 1, 2] [(3, .int (nI (k + 1))), (0, .ref h), (2, .int (nI n))] rfl ?_
        refine ih (k + 1) _ (by omega) (by omega) (by omega) (fun j hj => ?_) (fun j a b => ?_) (fun j hj => ?_)
        · rw [pk_un (by omega)]; exact h3 j hj
        · rcases Nat.lt_or_ge j k with c | c
          · rw [pk_un (by omega)]; exact h4 j a c
          · rw [show j = k by omega, pk_us]; exact h5 (k + n) (by omega)
        · rw [pk_un (by omega)]; exact h5 j (by omega)
  refine v_lsub [0, 1, 3] [(3, .int (nI i)), (0, .ref h), (2, .int (nI n))] rfl ?_
  exact loop (rem.length + 1) i f (by omega) (Nat.le_refl _) (by omega) (fun j _ => rfl) (fun j a b => absurd b (by omega)) (fun j _ => rfl)

theorem fos_add {f : Nat → Int32} {es : List E4} {e : E4} (h : FoS f es) : FoS (upd (upd (upd (upd f (4 * es.length) (nI e.1)) (4 * es.length + 1) (nI e.2.1)) (4 * es.length + 2) (nI e.2.2.1)) (4 * es.length + 3) (nI e.2.2.2)) (es ++ [e]) := by
  intro i x hx
  rcases Nat.lt_trichotomy i es.length with c | c | c
  · rw [List.getElem?_append_left c] at hx
    obtain ⟨a1, a2, a3, a4⟩ := h i x hx
    refine ⟨?_, ?_, ?_, ?_⟩
    · rw [pk_un (by omega), pk_un (by omega), pk_un (by omega), pk_un (by omega)]; exact a1
    · rw [pk_un (by omega), pk_un (by omega), pk_un (by omega), pk_un (by omega)]; exact a2
    · rw [pk_un (by omega), pk_un (by omega), pk_un (by omega), pk_un (by omega)]; exact a3
    · rw [pk_un (by omega), pk_un (by omega), pk_un (by omega), pk_un (by omega)]; exact a4
  · rw [c, List.getElem?_append_right (Nat.le_refl _), Nat.sub_self] at hx
    cases hx
    rw [c]
    refine ⟨?_, ?_, ?_, ?_⟩
    · rw [pk_un (by omega), pk_un (by omega), pk_un (by omega), pk_us]
    · rw [pk_un (by omega), pk_un (by omega), pk_us]
    · rw [pk_un (by omega), pk_us]
    · rw [pk_us]
  · rw [List.getElem?_eq_none (by simp; omega)] at hx
    cases hx

set_option maxHeartbeats 4000000 in
set_option maxRecDepth 100000 in
theorem c_Mo_give (l : Launch) (G : Gx) (h pa ca la ro co ea tx sz lf fo f1 : Nat) (fl td : Int32) (nc nl lz : Nat) (f : Nat → Int32) (es : List E4) (e : E4) (hes : es.length < 1600) (hF : FoS f es) : CT l G y_Mo_give b_Mo_give 5 none ({ frames := 0, cells := 0, slots := 0, locals := 0 } : Room) ([(h, ob 7 [.int fl, .ref pa, .ref ca, .int (nI nc), .ref la, .ref ro, .ref co, .ref ea, .int (nI nl), .int td, .ref tx, .ref sz, .ref lf, .int (nI lz), .ref fo, .int (nI es.length), .ref f1]), (fo, aI G 6400 f)]) [.ref h, .int (nI e.1), .int (nI e.2.1), .int (nI e.2.2.1), .int (nI e.2.2.2)] (fun r w' => r = none ∧ ∃ g, w' = [(h, ob 7 [.int fl, .ref pa, .ref ca, .int (nI nc), .ref la, .ref ro, .ref co, .ref ea, .int (nI nl), .int td, .ref tx, .ref sz, .ref lf, .int (nI lz), .ref fo, .int (nI ((es ++ [e]).length)), .ref f1]), (fo, aI G 6400 g)] ∧ FoS g (es ++ [e])) := by
  refine ct_of [(0, .ref h), (1, .int (nI e.1)), (2, .int (nI e.2.1)), (3, .int (nI e.2.2.1)), (4, .int (nI e.2.2.2))] (by decide) (Nat.le_of_ble_eq_true rfl) rfl (fun K hKl hNI C X => ?_)
  subst hKl
  have hll : (es ++ [e]).length = es.length + 1 := by simp
  refine v_aload_n (pc := 0) C 0 d_Mo_give_0 rfl rfl ?_
  refine v_get (pc := 1) (Cn := "WeightOrderModel") (T := T_Mo) (N := 17) (ci := 7) (v := .ref fo) C 0 14 rfl rfl hin_Mo (by decide) rfl k_476 rfl d_Mo_give_1 ?_
  refine v_iconst (pc := 4) C (nI 4) d_Mo_give_4 (by decide +kernel) ?_
  refine v_aload_n (pc := 5) C 0 d_Mo_give_5 rfl rfl ?_
  refine v_get (pc := 6) (Cn := "WeightOrderModel") (T := T_Mo) (N := 17) (ci := 7) (v := .int (nI es.length)) C 0 15 rfl rfl hin_Mo (by decide) rfl k_477 rfl d_Mo_give_6 ?_
  refine v_imul (pc := 9) C (nI (4 * es.length)) d_Mo_give_9 (pk_mul _ _) ?_
  refine v_iload_n (pc := 10) C 1 d_Mo_give_10 rfl rfl ?_
  refine v_iast (pc := 11) C 1 ([(h, ob 7 [.int fl, .ref pa, .ref ca, .int (nI nc), .ref la, .ref ro, .ref co, .ref ea, .int (nI nl), .int td, .ref tx, .ref sz, .ref lf, .int (nI lz), .ref fo, .int (nI es.length), .ref f1]), (fo, aI G 6400 (upd f (4 * es.length) (nI e.1)))]) rfl (4 * es.length) rfl (by omega) (by decide) rfl d_Mo_give_11 ?_
  refine v_aload_n (pc := 12) C 0 d_Mo_give_12 rfl rfl ?_
  refine v_get (pc := 13) (Cn := "WeightOrderModel") (T := T_Mo) (N := 17) (ci := 7) (v := .ref fo) C 0 14 rfl rfl hin_Mo (by decide) rfl k_476 rfl d_Mo_give_13 ?_
  refine v_iconst (pc := 16) C (nI 4) d_Mo_give_16 (by decide +kernel) ?_
  refine v_aload_n (pc := 17) C 0 d_Mo_give_17 rfl rfl ?_
  refine v_get (pc := 18) (Cn := "WeightOrderModel") (T := T_Mo) (N := 17) (ci := 7) (v := .int (nI es.length)) C 0 15 rfl rfl hin_Mo (by decide) rfl k_477 rfl d_Mo_give_18 ?_
  refine v_imul (pc := 21) C (nI (4 * es.length)) d_Mo_give_21 (pk_mul _ _) ?_
  refine v_iconst (pc := 22) C (nI 1) d_Mo_give_22 (by decide +kernel) ?_
  refine v_iadd (pc := 23) C (nI (4 * es.length + 1)) d_Mo_give_23 (nI_add _ _) ?_
  refine v_iload_n (pc := 24) C 2 d_Mo_give_24 rfl rfl ?_
  refine v_iast (pc := 25) C 1 ([(h, ob 7 [.int fl, .ref pa, .ref ca, .int (nI nc), .ref la, .ref ro, .ref co, .ref ea, .int (nI nl), .int td, .ref tx, .ref sz, .ref lf, .int (nI lz), .ref fo, .int (nI es.length), .ref f1]), (fo, aI G 6400 (upd (upd f (4 * es.length) (nI e.1)) (4 * es.length + 1) (nI e.2.1)))]) rfl (4 * es.length + 1) rfl (by omega) (by decide) rfl d_Mo_give_25 ?_
  refine v_aload_n (pc := 26) C 0 d_Mo_give_26 rfl rfl ?_
  refine v_get (pc := 27) (Cn := "WeightOrderModel") (T := T_Mo) (N := 17) (ci := 7) (v := .ref fo) C 0 14 rfl rfl hin_Mo (by decide) rfl k_476 rfl d_Mo_give_27 ?_
  refine v_iconst (pc := 30) C (nI 4) d_Mo_give_30 (by decide +kernel) ?_
  refine v_aload_n (pc := 31) C 0 d_Mo_give_31 rfl rfl ?_
  refine v_get (pc := 32) (Cn := "WeightOrderModel") (T := T_Mo) (N := 17) (ci := 7) (v := .int (nI es.length)) C 0 15 rfl rfl hin_Mo (by decide) rfl k_477 rfl d_Mo_give_32 ?_
  refine v_imul (pc := 35) C (nI (4 * es.length)) d_Mo_give_35 (pk_mul _ _) ?_
  refine v_iconst (pc := 36) C (nI 2) d_Mo_give_36 (by decide +kernel) ?_
  refine v_iadd (pc := 37) C (nI (4 * es.length + 2)) d_Mo_give_37 (nI_add _ _) ?_
  refine v_iload_n (pc := 38) C 3 d_Mo_give_38 rfl rfl ?_
  refine v_iast (pc := 39) C 1 ([(h, ob 7 [.int fl, .ref pa, .ref ca, .int (nI nc), .ref la, .ref ro, .ref co, .ref ea, .int (nI nl), .int td, .ref tx, .ref sz, .ref lf, .int (nI lz), .ref fo, .int (nI es.length), .ref f1]), (fo, aI G 6400 (upd (upd (upd f (4 * es.length) (nI e.1)) (4 * es.length + 1) (nI e.2.1)) (4 * es.length + 2) (nI e.2.2.1)))]) rfl (4 * es.length + 2) rfl (by omega) (by decide) rfl d_Mo_give_39 ?_
  refine v_aload_n (pc := 40) C 0 d_Mo_give_40 rfl rfl ?_
  refine v_get (pc := 41) (Cn := "WeightOrderModel") (T := T_Mo) (N := 17) (ci := 7) (v := .ref fo) C 0 14 rfl rfl hin_Mo (by decide) rfl k_476 rfl d_Mo_give_41 ?_
  refine v_iconst (pc := 44) C (nI 4) d_Mo_give_44 (by decide +kernel) ?_
  refine v_aload_n (pc := 45) C 0 d_Mo_give_45 rfl rfl ?_
  refine v_get (pc := 46) (Cn := "WeightOrderModel") (T := T_Mo) (N := 17) (ci := 7) (v := .int (nI es.length)) C 0 15 rfl rfl hin_Mo (by decide) rfl k_477 rfl d_Mo_give_46 ?_
  refine v_imul (pc := 49) C (nI (4 * es.length)) d_Mo_give_49 (pk_mul _ _) ?_
  refine v_iconst (pc := 50) C (nI 3) d_Mo_give_50 (by decide +kernel) ?_
  refine v_iadd (pc := 51) C (nI (4 * es.length + 3)) d_Mo_give_51 (nI_add _ _) ?_
  refine v_iload (pc := 52) C 4 d_Mo_give_52 rfl ?_
  refine v_iast (pc := 54) C 1 ([(h, ob 7 [.int fl, .ref pa, .ref ca, .int (nI nc), .ref la, .ref ro, .ref co, .ref ea, .int (nI nl), .int td, .ref tx, .ref sz, .ref lf, .int (nI lz), .ref fo, .int (nI es.length), .ref f1]), (fo, aI G 6400 (upd (upd (upd (upd f (4 * es.length) (nI e.1)) (4 * es.length + 1) (nI e.2.1)) (4 * es.length + 2) (nI e.2.2.1)) (4 * es.length + 3) (nI e.2.2.2)))]) rfl (4 * es.length + 3) rfl (by omega) (by decide) rfl d_Mo_give_54 ?_
  refine v_aload_n (pc := 55) C 0 d_Mo_give_55 rfl rfl ?_
  refine v_dup (pc := 56) C d_Mo_give_56 rfl ?_
  refine v_get (pc := 57) (Cn := "WeightOrderModel") (T := T_Mo) (N := 17) (ci := 7) (v := .int (nI es.length)) C 0 15 rfl rfl hin_Mo (by decide) rfl k_477 rfl d_Mo_give_57 ?_
  refine v_iconst (pc := 60) C (nI 1) d_Mo_give_60 (by decide +kernel) ?_
  refine v_iadd (pc := 61) C (nI (es.length + 1)) d_Mo_give_61 (nI_add _ _) ?_
  refine v_put (pc := 62) (Cn := "WeightOrderModel") (T := T_Mo) (N := 17) (ci := 7) (v := .int (nI (es.length + 1))) C 0 15 rfl rfl hin_Mo (by decide) rfl ([(h, ob 7 [.int fl, .ref pa, .ref ca, .int (nI nc), .ref la, .ref ro, .ref co, .ref ea, .int (nI nl), .int td, .ref tx, .ref sz, .ref lf, .int (nI lz), .ref fo, .int (nI (es.length + 1)), .ref f1]), (fo, aI G 6400 (upd (upd (upd (upd f (4 * es.length) (nI e.1)) (4 * es.length + 1) (nI e.2.1)) (4 * es.length + 2) (nI e.2.2.1)) (4 * es.length + 3) (nI e.2.2.2)))]) t_Mo t_Mo_ok n_Mo (.int) rfl rfl rfl (Nat.le_of_ble_eq_true rfl) rfl rfl k_477 d_Mo_give_62 ?_
  exact v_vret (pc := 65) C X d_Mo_give_65 ⟨rfl, _, (by rw [hll]), fos_add hF⟩ (by decide) (by decide)
