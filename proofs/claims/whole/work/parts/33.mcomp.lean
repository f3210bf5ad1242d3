/-! The reference: count, weight, compare -/
theorem els_m {cl : Nat → Nat} {A : List (Nat × List E4)} {told : Option Nat} {rws : List (List Nat)} {j : Nat} {row : List Nat} (h : rws[j]? = some row) : els (cl, A, told, rws) j = takeR (fun k => fndA k A) cl (esA A) 200 row := by
  unfold els
  rw [List.getD_eq_getElem?_getD, h]
  rfl
theorem fos_comp {f : Nat → Int32} {Q : List E4} {i u : Nat} {e : E4} (h : FoS f Q) (hi : Q[i]? = some e) (hu : u ≤ 3) : f (4 * i + u) = nI (comp e u) := by
  obtain ⟨h1, h2, h3, h4⟩ := h i e hi
  rcases (show u = 0 ∨ u = 1 ∨ u = 2 ∨ u = 3 by omega) with rfl | rfl | rfl | rfl
  · exact h1
  · exact h2
  · exact h3
  · exact h4
theorem comp_lt {e : E4} {u : Nat} (h : okQ e) : comp e u < 65536 := by
  unfold comp
  split
  · exact h.1
  · split
    · exact h.2.1
    · split
      · exact h.2.2.1
      · exact h.2.2.2
theorem nz_comp {q : List E4} {k : Nat} : nz (fun i => comp (q.getD i (0, 0, 0, 0)) k) q.length 0 = lvlL q k := by
  unfold nz lvlL
  congr 1
  rw [Nat.sub_zero]
  refine List.ext_getElem (by simp) (fun i h1 h2 => ?_)
  have hi : i < q.length := by simpa using h2
  simp only [List.getElem_map, List.getElem_range', Nat.zero_add, Nat.one_mul]
  rw [List.getD_eq_getElem?_getD, List.getElem?_eq_getElem hi]
  rfl
theorem shL0_4 : ∀ (es : List E4) (b : Nat), ∀ q ∈ shL 0 b es, q.2.2.2 = 0 := by
  intro es
  induction es with
  | nil => intro b q hq; exact absurd hq List.not_mem_nil
  | cons e es ih =>
    intro b q hq
    rcases List.mem_cons.mp hq with rfl | hq
    · rw [shE_0]
    · exact ih _ q hq
theorem lvl0_3 {es : List E4} {b : Nat} : lvlL (shL 0 b es) 3 = [] := by
  unfold lvlL
  refine List.filter_eq_nil_iff.mpr (fun v hv => ?_)
  obtain ⟨e, he, rfl⟩ := List.mem_map.mp hv
  have : comp e 3 = e.2.2.2 := rfl
  rw [this, shL0_4 es b e he]
  simp
theorem fos_copy {f g : Nat → Int32} {Q : List E4} (h : FoS f Q) (hg : ∀ j, j < 4 * Q.length → g j = f j) : FoS g Q := by
  intro i e he
  have hi := (List.getElem?_eq_some_iff.mp he).1
  rw [hg _ (by omega), hg _ (by omega), hg _ (by omega), hg _ (by omega)]
  exact h i e he

set_option maxHeartbeats 4000000 in
set_option maxRecDepth 100000 in
theorem m_count (l : Launch) (G : Gx) (h k : Nat) (σ : Sg) (fl : Int32) (w : va_W) (rr : Int32) (sh : Nat) (hw : MoI G h k σ fl w) (hsh : sh ≤ 1) : CT l G y_Mo_count b_Mo_count 3 (some .int) ({ frames := 2, cells := 0, slots := 0, locals := 90 } : Room) w [.ref h, .int rr, .int (nI sh)] (fun r w' => r = some (.int (spCount σ rr).2.1) ∧ MoI G h k (spCount σ rr).2.2 (nI (spCount σ rr).1) w') := by
  obtain ⟨cl, A, told, rws⟩ := σ
  obtain ⟨pa, ca, la, ro, co, ea, tx, sz, lf, fo, f1, nc, lz, fz, td, P, C9, LN, RW, CO, EA, SZ, LF, FO, F1, tf, TL, rfl, hnc, hk5, hC, hA, hLM, hEM, htd, hti, hTx, hTf⟩ := hw
  have hA : A.length ≤ 500 := hA
  have htd : td = fiI told := htd
  refine ct_of [(0, .ref h), (1, .int rr), (2, .int (nI sh))] (by decide) (Nat.le_of_ble_eq_true rfl) rfl (fun K hKl hNI C X => ?_)
  subst hKl
  show vv K ({ frames := 2, cells := 0, slots := 0, locals := 90 } : Room) G 3 0 0 ([(h, ob 7 [.int fl, .ref pa, .ref ca, .int (nI nc), .ref la, .ref ro, .ref co, .ref ea, .int (nI A.length), .int td, .ref tx, .ref sz, .ref lf, .int (nI lz), .ref fo, .int (nI fz), .ref f1]), (pa, aI G 5000 P), (ca, aI G 5000 C9), (la, aI G 500 LN), (ro, aI G 1500 RW), (co, aI G 500 CO), (ea, aI G 16000 EA), (tx, aII G 4 tf), (sz, aI G 4 SZ), (lf, aI G 200 LF), (fo, aI G 6400 FO), (f1, aI G 6400 F1)] ++ tpool G TL) 0 [(0, .ref h), (1, .int rr), (2, .int (nI sh))] []
  refine v_aload_n (pc := 0) C 0 d_Mo_count_0 rfl rfl ?_
  refine v_iconst (pc := 1) C (nI 0) d_Mo_count_1 (by decide +kernel) ?_
  refine v_put (pc := 2) (Cn := "WeightOrderModel") (T := T_Mo) (N := 17) (ci := 7) (v := .int (nI 0)) C 0 0 rfl rfl hin_Mo (by decide) rfl ([(h, ob 7 [.int (nI 0), .ref pa, .ref ca, .int (nI nc), .ref la, .ref ro, .ref co, .ref ea, .int (nI A.length), .int td, .ref tx, .ref sz, .ref lf, .int (nI lz), .ref fo, .int (nI fz), .ref f1]), (pa, aI G 5000 P), (ca, aI G 5000 C9), (la, aI G 500 LN), (ro, aI G 1500 RW), (co, aI G 500 CO), (ea, aI G 16000 EA), (tx, aII G 4 tf), (sz, aI G 4 SZ), (lf, aI G 200 LF), (fo, aI G 6400 FO), (f1, aI G 6400 F1)] ++ tpool G TL) t_Mo t_Mo_ok n_Mo (.int) rfl rfl rfl (Nat.le_of_ble_eq_true rfl) rfl rfl k_462 d_Mo_count_2 ?_
  refine v_iload_n (pc := 5) C 1 d_Mo_count_5 rfl rfl ?_
  refine v_if_lt (pc := 6) C 14 d_Mo_count_6 (by decide) (fun h1 => ?_) (fun h1 => ?_)
  · refine v_aload_n (pc := 14) C 0 d_Mo_count_14 rfl rfl ?_
    refine v_iconst (pc := 15) C (nI 1) d_Mo_count_15 (by decide +kernel) ?_
    refine v_callV (pc := 16) (As := [.int (nI 1)]) (rest := []) C (c_Mo_fail _ G h pa ca la ro co ea tx sz lf fo f1 (nI 0) td nc A.length lz fz 1) l_Mo_63 ([(pa, aI G 5000 P), (ca, aI G 5000 C9), (la, aI G 500 LN), (ro, aI G 1500 RW), (co, aI G 500 CO), (ea, aI G 16000 EA), (tx, aII G 4 tf), (sz, aI G 4 SZ), (lf, aI G 200 LF), (fo, aI G 6400 FO), (f1, aI G 6400 F1)] ++ tpool G TL) (sp_poolR [1, 2, 3, 4, 5, 6, 7, 8, 9, 10, 11] [0] rfl rfl rfl) 0 rfl rfl rfl rfl rfl (Nat.le_of_ble_eq_true rfl) (by decide) (by decide) (by decide) (by decide) d_Mo_count_16 (fun r w' hq => ?_)
    obtain ⟨rfl, rfl⟩ := hq
    refine v_swap ?_
    show vv K ({ frames := 2, cells := 0, slots := 0, locals := 90 } : Room) G 3 0 0 ([(pa, aI G 5000 P), (ca, aI G 5000 C9), (la, aI G 500 LN), (ro, aI G 1500 RW), (co, aI G 500 CO), (ea, aI G 16000 EA), (tx, aII G 4 tf), (sz, aI G 4 SZ), (lf, aI G 200 LF), (fo, aI G 6400 FO), (f1, aI G 6400 F1), (h, ob 7 [.int (nI 1), .ref pa, .ref ca, .int (nI nc), .ref la, .ref ro, .ref co, .ref ea, .int (nI A.length), .int td, .ref tx, .ref sz, .ref lf, .int (nI lz), .ref fo, .int (nI fz), .ref f1])] ++ tpool G TL) 19 [(0, .ref h), (1, .int rr), (2, .int (nI sh))] [.int (nI 0)]
    refine v_wsubP [11, 0, 1, 2, 3, 4, 5, 6, 7, 8, 9, 10] ([(h, ob 7 [.int (nI 1), .ref pa, .ref ca, .int (nI nc), .ref la, .ref ro, .ref co, .ref ea, .int (nI A.length), .int td, .ref tx, .ref sz, .ref lf, .int (nI lz), .ref fo, .int (nI fz), .ref f1]), (pa, aI G 5000 P), (ca, aI G 5000 C9), (la, aI G 500 LN), (ro, aI G 1500 RW), (co, aI G 500 CO), (ea, aI G 16000 EA), (tx, aII G 4 tf), (sz, aI G 4 SZ), (lf, aI G 200 LF), (fo, aI G 6400 FO), (f1, aI G 6400 F1)]) rfl rfl ?_
    exact v_iret (pc := 19) C X d_Mo_count_19 ⟨by rw [show spCount (cl, A, told, rws) rr = (1, nI 0, (cl, A, told, rws)) by unfold spCount; rw [if_pos (Or.inl h1)]], by rw [show spCount (cl, A, told, rws) rr = (1, nI 0, (cl, A, told, rws)) by unfold spCount; rw [if_pos (Or.inl h1)]]; exact ⟨pa, ca, la, ro, co, ea, tx, sz, lf, fo, f1, nc, lz, fz, td, P, C9, LN, RW, CO, EA, SZ, LF, FO, F1, tf, TL, rfl, hnc, hk5, hC, hA, hLM, hEM, htd, hti, hTx, hTf⟩⟩ (by decide) (by decide)
  · refine v_iload_n (pc := 9) C 1 d_Mo_count_9 rfl rfl ?_
    refine v_iconst (pc := 10) C (nI 3) d_Mo_count_10 (by decide +kernel) ?_
    refine v_icmp_le (pc := 11) C 20 d_Mo_count_11 (by decide) (fun h2 => ?_) (fun h2 => ?_)
    · obtain ⟨rj, hrj, rfl⟩ := nb_nat (M := 3) (x := rr) (by decide) (fun z => z.elim h1 (Int32.not_lt.mpr h2))
      obtain ⟨y, row, hy, hrow, hyo, hyz⟩ := txs_row hTx hrj
      obtain ⟨ES, hES⟩ : ∃ u, takeR (fun k => fndA k A) cl (esA A) 200 row = u := ⟨_, rfl⟩
      obtain ⟨TA, TB9, e1, -, -⟩ := lset_split hy
      rw [show tpool G TL = tpool G (TA ++ y :: TB9) by rw [← e1]]
      refine v_tout ?_
      show vv K ({ frames := 2, cells := 0, slots := 0, locals := 90 } : Room) G 3 0 0 ([(h, ob 7 [.int (nI 0), .ref pa, .ref ca, .int (nI nc), .ref la, .ref ro, .ref co, .ref ea, .int (nI A.length), .int td, .ref tx, .ref sz, .ref lf, .int (nI lz), .ref fo, .int (nI fz), .ref f1]), (pa, aI G 5000 P), (ca, aI G 5000 C9), (la, aI G 500 LN), (ro, aI G 1500 RW), (co, aI G 500 CO), (ea, aI G 16000 EA), (tx, aII G 4 tf), (sz, aI G 4 SZ), (lf, aI G 200 LF), (fo, aI G 6400 FO), (f1, aI G 6400 F1), (y.1, aI G 200 y.2)] ++ tpool G (TA ++ TB9)) 20 [(0, .ref h), (1, .int (nI rj)), (2, .int (nI sh))] []
      refine v_aload_n (pc := 20) C 0 d_Mo_count_20 rfl rfl ?_
      refine v_iload_n (pc := 21) C 1 d_Mo_count_21 rfl rfl ?_
      refine v_iload_n (pc := 22) C 2 d_Mo_count_22 rfl rfl ?_
      refine v_callV (pc := 23) (As := [.int (nI rj), .int (nI sh)]) (rest := []) C (c_Mo_take _ G h pa ca la ro co ea tx sz lf fo f1 (nI 0) td nc lz fz y.1 rj sh P C9 LN RW CO EA SZ LF FO y.2 tf cl A row ES (by omega) hC hA hLM hEM hrj (hTf rj y hy) hyo hyz hsh hES) l_Mo_97 ([(f1, aI G 6400 F1)] ++ tpool G (TA ++ TB9)) (sp_poolR [11] [0, 1, 2, 3, 4, 5, 6, 7, 8, 9, 10, 12] rfl rfl rfl) 0 rfl rfl rfl rfl rfl (Nat.le_of_ble_eq_true rfl) (by decide) (by decide) (by decide) (by decide) d_Mo_count_23 (fun r w' hq => ?_)
      obtain ⟨rfl, lz7, LF7, FO7, rfl, hF7, hl7, hok7⟩ := hq
      refine v_swap ?_
      show vv K ({ frames := 2, cells := 0, slots := 0, locals := 90 } : Room) G 3 0 0 ([(f1, aI G 6400 F1), (h, ob 7 [.int (nI 0), .ref pa, .ref ca, .int (nI nc), .ref la, .ref ro, .ref co, .ref ea, .int (nI A.length), .int td, .ref tx, .ref sz, .ref lf, .int (nI lz7), .ref fo, .int (nI ES.length), .ref f1]), (pa, aI G 5000 P), (ca, aI G 5000 C9), (la, aI G 500 LN), (ro, aI G 1500 RW), (co, aI G 500 CO), (ea, aI G 16000 EA), (tx, aII G 4 tf), (sz, aI G 4 SZ), (lf, aI G 200 LF7), (fo, aI G 6400 FO7), (y.1, aI G 200 y.2)] ++ tpool G (TA ++ TB9)) 26 [(0, .ref h), (1, .int (nI rj)), (2, .int (nI sh))] []
      refine v_wsubP [1, 2, 3, 4, 5, 6, 7, 8, 9, 10, 11, 0, 12] ([(h, ob 7 [.int (nI 0), .ref pa, .ref ca, .int (nI nc), .ref la, .ref ro, .ref co, .ref ea, .int (nI A.length), .int td, .ref tx, .ref sz, .ref lf, .int (nI lz7), .ref fo, .int (nI ES.length), .ref f1]), (pa, aI G 5000 P), (ca, aI G 5000 C9), (la, aI G 500 LN), (ro, aI G 1500 RW), (co, aI G 500 CO), (ea, aI G 16000 EA), (tx, aII G 4 tf), (sz, aI G 4 SZ), (lf, aI G 200 LF7), (fo, aI G 6400 FO7), (f1, aI G 6400 F1), (y.1, aI G 200 y.2)]) rfl rfl ?_
      refine v_tin (X := [(h, ob 7 [.int (nI 0), .ref pa, .ref ca, .int (nI nc), .ref la, .ref ro, .ref co, .ref ea, .int (nI A.length), .int td, .ref tx, .ref sz, .ref lf, .int (nI lz7), .ref fo, .int (nI ES.length), .ref f1]), (pa, aI G 5000 P), (ca, aI G 5000 C9), (la, aI G 500 LN), (ro, aI G 1500 RW), (co, aI G 500 CO), (ea, aI G 16000 EA), (tx, aII G 4 tf), (sz, aI G 4 SZ), (lf, aI G 200 LF7), (fo, aI G 6400 FO7), (f1, aI G 6400 F1)]) (y := y) ?_
      rw [← e1]
      show vv K ({ frames := 2, cells := 0, slots := 0, locals := 90 } : Room) G 3 0 0 ([(h, ob 7 [.int (nI 0), .ref pa, .ref ca, .int (nI nc), .ref la, .ref ro, .ref co, .ref ea, .int (nI A.length), .int td, .ref tx, .ref sz, .ref lf, .int (nI lz7), .ref fo, .int (nI ES.length), .ref f1]), (pa, aI G 5000 P), (ca, aI G 5000 C9), (la, aI G 500 LN), (ro, aI G 1500 RW), (co, aI G 500 CO), (ea, aI G 16000 EA), (tx, aII G 4 tf), (sz, aI G 4 SZ), (lf, aI G 200 LF7), (fo, aI G 6400 FO7), (f1, aI G 6400 F1)] ++ tpool G TL) 26 [(0, .ref h), (1, .int (nI rj)), (2, .int (nI sh))] []
      clear e1
      have hsp : spCount (cl, A, told, rws) (nI rj) = (0, nI ES.length, (cl, A, told, rws)) := by unfold spCount; rw [if_neg (nbad hrj (by decide)), toN_nI (by omega), els_m hrow, hES]
      refine v_aload_n (pc := 26) C 0 d_Mo_count_26 rfl rfl ?_
      refine v_get (pc := 27) (Cn := "WeightOrderModel") (T := T_Mo) (N := 17) (ci := 7) (v := .int (nI ES.length)) C 0 15 rfl rfl hin_Mo (by decide) rfl k_477 rfl d_Mo_count_27 ?_
      exact v_iret (pc := 30) C X d_Mo_count_30 ⟨by rw [hsp], by rw [hsp]; exact ⟨pa, ca, la, ro, co, ea, tx, sz, lf, fo, f1, nc, lz7, ES.length, td, P, C9, LN, RW, CO, EA, SZ, LF7, FO7, F1, tf, TL, rfl, hnc, hk5, hC, hA, hLM, hEM, htd, hti, hTx, hTf⟩⟩ (by decide) (by decide)
    · refine v_aload_n (pc := 14) C 0 d_Mo_count_14 rfl rfl ?_
      refine v_iconst (pc := 15) C (nI 1) d_Mo_count_15 (by decide +kernel) ?_
      refine v_callV (pc := 16) (As := [.int (nI 1)]) (rest := []) C (c_Mo_fail _ G h pa ca la ro co ea tx sz lf fo f1 (nI 0) td nc A.length lz fz 1) l_Mo_63 ([(pa, aI G 5000 P), (ca, aI G 5000 C9), (la, aI G 500 LN), (ro, aI G 1500 RW), (co, aI G 500 CO), (ea, aI G 16000 EA), (tx, aII G 4 tf), (sz, aI G 4 SZ), (lf, aI G 200 LF), (fo, aI G 6400 FO), (f1, aI G 6400 F1)] ++ tpool G TL) (sp_poolR [1, 2, 3, 4, 5, 6, 7, 8, 9, 10, 11] [0] rfl rfl rfl) 0 rfl rfl rfl rfl rfl (Nat.le_of_ble_eq_true rfl) (by decide) (by decide) (by decide) (by decide) d_Mo_count_16 (fun r w' hq => ?_)
      obtain ⟨rfl, rfl⟩ := hq
      refine v_swap ?_
      show vv K ({ frames := 2, cells := 0, slots := 0, locals := 90 } : Room) G 3 0 0 ([(pa, aI G 5000 P), (ca, aI G 5000 C9), (la, aI G 500 LN), (ro, aI G 1500 RW), (co, aI G 500 CO), (ea, aI G 16000 EA), (tx, aII G 4 tf), (sz, aI G 4 SZ), (lf, aI G 200 LF), (fo, aI G 6400 FO), (f1, aI G 6400 F1), (h, ob 7 [.int (nI 1), .ref pa, .ref ca, .int (nI nc), .ref la, .ref ro, .ref co, .ref ea, .int (nI A.length), .int td, .ref tx, .ref sz, .ref lf, .int (nI lz), .ref fo, .int (nI fz), .ref f1])] ++ tpool G TL) 19 [(0, .ref h), (1, .int rr), (2, .int (nI sh))] [.int (nI 0)]
      refine v_wsubP [11, 0, 1, 2, 3, 4, 5, 6, 7, 8, 9, 10] ([(h, ob 7 [.int (nI 1), .ref pa, .ref ca, .int (nI nc), .ref la, .ref ro, .ref co, .ref ea, .int (nI A.length), .int td, .ref tx, .ref sz, .ref lf, .int (nI lz), .ref fo, .int (nI fz), .ref f1]), (pa, aI G 5000 P), (ca, aI G 5000 C9), (la, aI G 500 LN), (ro, aI G 1500 RW), (co, aI G 500 CO), (ea, aI G 16000 EA), (tx, aII G 4 tf), (sz, aI G 4 SZ), (lf, aI G 200 LF), (fo, aI G 6400 FO), (f1, aI G 6400 F1)]) rfl rfl ?_
      exact v_iret (pc := 19) C X d_Mo_count_19 ⟨by rw [show spCount (cl, A, told, rws) rr = (1, nI 0, (cl, A, told, rws)) by unfold spCount; rw [if_pos (Or.inr (Int32.not_le.mp h2))]], by rw [show spCount (cl, A, told, rws) rr = (1, nI 0, (cl, A, told, rws)) by unfold spCount; rw [if_pos (Or.inr (Int32.not_le.mp h2))]]; exact ⟨pa, ca, la, ro, co, ea, tx, sz, lf, fo, f1, nc, lz, fz, td, P, C9, LN, RW, CO, EA, SZ, LF, FO, F1, tf, TL, rfl, hnc, hk5, hC, hA, hLM, hEM, htd, hti, hTx, hTf⟩⟩ (by decide) (by decide)

set_option maxHeartbeats 4000000 in
set_option maxRecDepth 100000 in
theorem m_weight (l : Launch) (G : Gx) (h k : Nat) (σ : Sg) (fl : Int32) (w : va_W) (rr : Int32) (sh : Nat) (ii uu : Int32) (hw : MoI G h k σ fl w) (hsh : sh ≤ 1) : CT l G y_Mo_weight b_Mo_weight 5 (some .int) ({ frames := 2, cells := 0, slots := 0, locals := 90 } : Room) w [.ref h, .int rr, .int (nI sh), .int ii, .int uu] (fun r w' => r = some (.int (spWeight σ rr sh ii uu).2.1) ∧ MoI G h k (spWeight σ rr sh ii uu).2.2 (nI (spWeight σ rr sh ii uu).1) w') := by
  obtain ⟨cl, A, told, rws⟩ := σ
  obtain ⟨pa, ca, la, ro, co, ea, tx, sz, lf, fo, f1, nc, lz, fz, td, P, C9, LN, RW, CO, EA, SZ, LF, FO, F1, tf, TL, rfl, hnc, hk5, hC, hA, hLM, hEM, htd, hti, hTx, hTf⟩ := hw
  have hA : A.length ≤ 500 := hA
  have htd : td = fiI told := htd
  refine ct_of [(0, .ref h), (1, .int rr), (2, .int (nI sh)), (3, .int ii), (4, .int uu)] (by decide) (Nat.le_of_ble_eq_true rfl) rfl (fun K hKl hNI C X => ?_)
  subst hKl
  show vv K ({ frames := 2, cells := 0, slots := 0, locals := 90 } : Room) G 5 0 0 ([(h, ob 7 [.int fl, .ref pa, .ref ca, .int (nI nc), .ref la, .ref ro, .ref co, .ref ea, .int (nI A.length), .int td, .ref tx, .ref sz, .ref lf, .int (nI lz), .ref fo, .int (nI fz), .ref f1]), (pa, aI G 5000 P), (ca, aI G 5000 C9), (la, aI G 500 LN), (ro, aI G 1500 RW), (co, aI G 500 CO), (ea, aI G 16000 EA), (tx, aII G 4 tf), (sz, aI G 4 SZ), (lf, aI G 200 LF), (fo, aI G 6400 FO), (f1, aI G 6400 F1)] ++ tpool G TL) 0 [(0, .ref h), (1, .int rr), (2, .int (nI sh)), (3, .int ii), (4, .int uu)] []
  refine v_aload_n (pc := 0) C 0 d_Mo_weight_0 rfl rfl ?_
  refine v_iconst (pc := 1) C (nI 0) d_Mo_weight_1 (by decide +kernel) ?_
  refine v_put (pc := 2) (Cn := "WeightOrderModel") (T := T_Mo) (N := 17) (ci := 7) (v := .int (nI 0)) C 0 0 rfl rfl hin_Mo (by decide) rfl ([(h, ob 7 [.int (nI 0), .ref pa, .ref ca, .int (nI nc), .ref la, .ref ro, .ref co, .ref ea, .int (nI A.length), .int td, .ref tx, .ref sz, .ref lf, .int (nI lz), .ref fo, .int (nI fz), .ref f1]), (pa, aI G 5000 P), (ca, aI G 5000 C9), (la, aI G 500 LN), (ro, aI G 1500 RW), (co, aI G 500 CO), (ea, aI G 16000 EA), (tx, aII G 4 tf), (sz, aI G 4 SZ), (lf, aI G 200 LF), (fo, aI G 6400 FO), (f1, aI G 6400 F1)] ++ tpool G TL) t_Mo t_Mo_ok n_Mo (.int) rfl rfl rfl (Nat.le_of_ble_eq_true rfl) rfl rfl k_462 d_Mo_weight_2 ?_
  refine v_iload_n (pc := 5) C 1 d_Mo_weight_5 rfl rfl ?_
  refine v_if_lt (pc := 6) C 25 d_Mo_weight_6 (by decide) (fun h1 => ?_) (fun h1 => ?_)
  · refine v_aload_n (pc := 25) C 0 d_Mo_weight_25 rfl rfl ?_
    refine v_iconst (pc := 26) C (nI 1) d_Mo_weight_26 (by decide +kernel) ?_
    refine v_callV (pc := 27) (As := [.int (nI 1)]) (rest := []) C (c_Mo_fail _ G h pa ca la ro co ea tx sz lf fo f1 (nI 0) td nc A.length lz fz 1) l_Mo_63 ([(pa, aI G 5000 P), (ca, aI G 5000 C9), (la, aI G 500 LN), (ro, aI G 1500 RW), (co, aI G 500 CO), (ea, aI G 16000 EA), (tx, aII G 4 tf), (sz, aI G 4 SZ), (lf, aI G 200 LF), (fo, aI G 6400 FO), (f1, aI G 6400 F1)] ++ tpool G TL) (sp_poolR [1, 2, 3, 4, 5, 6, 7, 8, 9, 10, 11] [0] rfl rfl rfl) 0 rfl rfl rfl rfl rfl (Nat.le_of_ble_eq_true rfl) (by decide) (by decide) (by decide) (by decide) d_Mo_weight_27 (fun r w' hq => ?_)
    obtain ⟨rfl, rfl⟩ := hq
    refine v_swap ?_
    show vv K ({ frames := 2, cells := 0, slots := 0, locals := 90 } : Room) G 5 0 0 ([(pa, aI G 5000 P), (ca, aI G 5000 C9), (la, aI G 500 LN), (ro, aI G 1500 RW), (co, aI G 500 CO), (ea, aI G 16000 EA), (tx, aII G 4 tf), (sz, aI G 4 SZ), (lf, aI G 200 LF), (fo, aI G 6400 FO), (f1, aI G 6400 F1), (h, ob 7 [.int (nI 1), .ref pa, .ref ca, .int (nI nc), .ref la, .ref ro, .ref co, .ref ea, .int (nI A.length), .int td, .ref tx, .ref sz, .ref lf, .int (nI lz), .ref fo, .int (nI fz), .ref f1])] ++ tpool G TL) 30 [(0, .ref h), (1, .int rr), (2, .int (nI sh)), (3, .int ii), (4, .int uu)] [.int (nI 0)]
    refine v_wsubP [11, 0, 1, 2, 3, 4, 5, 6, 7, 8, 9, 10] ([(h, ob 7 [.int (nI 1), .ref pa, .ref ca, .int (nI nc), .ref la, .ref ro, .ref co, .ref ea, .int (nI A.length), .int td, .ref tx, .ref sz, .ref lf, .int (nI lz), .ref fo, .int (nI fz), .ref f1]), (pa, aI G 5000 P), (ca, aI G 5000 C9), (la, aI G 500 LN), (ro, aI G 1500 RW), (co, aI G 500 CO), (ea, aI G 16000 EA), (tx, aII G 4 tf), (sz, aI G 4 SZ), (lf, aI G 200 LF), (fo, aI G 6400 FO), (f1, aI G 6400 F1)]) rfl rfl ?_
    exact v_iret (pc := 30) C X d_Mo_weight_30 ⟨by rw [show spWeight (cl, A, told, rws) rr sh ii uu = (1, nI 0, (cl, A, told, rws)) by unfold spWeight; rw [if_pos (Or.inl (Or.inl h1))]], by rw [show spWeight (cl, A, told, rws) rr sh ii uu = (1, nI 0, (cl, A, told, rws)) by unfold spWeight; rw [if_pos (Or.inl (Or.inl h1))]]; exact ⟨pa, ca, la, ro, co, ea, tx, sz, lf, fo, f1, nc, lz, fz, td, P, C9, LN, RW, CO, EA, SZ, LF, FO, F1, tf, TL, rfl, hnc, hk5, hC, hA, hLM, hEM, htd, hti, hTx, hTf⟩⟩ (by decide) (by decide)
  · refine v_iload_n (pc := 9) C 1 d_Mo_weight_9 rfl rfl ?_
    refine v_iconst (pc := 10) C (nI 3) d_Mo_weight_10 (by decide +kernel) ?_
    refine v_icmp_gt (pc := 11) C 25 d_Mo_weight_11 (by decide) (fun h2 => ?_) (fun h2 => ?_)
    · refine v_aload_n (pc := 25) C 0 d_Mo_weight_25 rfl rfl ?_
      refine v_iconst (pc := 26) C (nI 1) d_Mo_weight_26 (by decide +kernel) ?_
      refine v_callV (pc := 27) (As := [.int (nI 1)]) (rest := []) C (c_Mo_fail _ G h pa ca la ro co ea tx sz lf fo f1 (nI 0) td nc A.length lz fz 1) l_Mo_63 ([(pa, aI G 5000 P), (ca, aI G 5000 C9), (la, aI G 500 LN), (ro, aI G 1500 RW), (co, aI G 500 CO), (ea, aI G 16000 EA), (tx, aII G 4 tf), (sz, aI G 4 SZ), (lf, aI G 200 LF), (fo, aI G 6400 FO), (f1, aI G 6400 F1)] ++ tpool G TL) (sp_poolR [1, 2, 3, 4, 5, 6, 7, 8, 9, 10, 11] [0] rfl rfl rfl) 0 rfl rfl rfl rfl rfl (Nat.le_of_ble_eq_true rfl) (by decide) (by decide) (by decide) (by decide) d_Mo_weight_27 (fun r w' hq => ?_)
      obtain ⟨rfl, rfl⟩ := hq
      refine v_swap ?_
      show vv K ({ frames := 2, cells := 0, slots := 0, locals := 90 } : Room) G 5 0 0 ([(pa, aI G 5000 P), (ca, aI G 5000 C9), (la, aI G 500 LN), (ro, aI G 1500 RW), (co, aI G 500 CO), (ea, aI G 16000 EA), (tx, aII G 4 tf), (sz, aI G 4 SZ), (lf, aI G 200 LF), (fo, aI G 6400 FO), (f1, aI G 6400 F1), (h, ob 7 [.int (nI 1), .ref pa, .ref ca, .int (nI nc), .ref la, .ref ro, .ref co, .ref ea, .int (nI A.length), .int td, .ref tx, .ref sz, .ref lf, .int (nI lz), .ref fo, .int (nI fz), .ref f1])] ++ tpool G TL) 30 [(0, .ref h), (1, .int rr), (2, .int (nI sh)), (3, .int ii), (4, .int uu)] [.int (nI 0)]
      refine v_wsubP [11, 0, 1, 2, 3, 4, 5, 6, 7, 8, 9, 10] ([(h, ob 7 [.int (nI 1), .ref pa, .ref ca, .int (nI nc), .ref la, .ref ro, .ref co, .ref ea, .int (nI A.length), .int td, .ref tx, .ref sz, .ref lf, .int (nI lz), .ref fo, .int (nI fz), .ref f1]), (pa, aI G 5000 P), (ca, aI G 5000 C9), (la, aI G 500 LN), (ro, aI G 1500 RW), (co, aI G 500 CO), (ea, aI G 16000 EA), (tx, aII G 4 tf), (sz, aI G 4 SZ), (lf, aI G 200 LF), (fo, aI G 6400 FO), (f1, aI G 6400 F1)]) rfl rfl ?_
      exact v_iret (pc := 30) C X d_Mo_weight_30 ⟨by rw [show spWeight (cl, A, told, rws) rr sh ii uu = (1, nI 0, (cl, A, told, rws)) by unfold spWeight; rw [if_pos (Or.inl (Or.inr h2))]], by rw [show spWeight (cl, A, told, rws) rr sh ii uu = (1, nI 0, (cl, A, told, rws)) by unfold spWeight; rw [if_pos (Or.inl (Or.inr h2))]]; exact ⟨pa, ca, la, ro, co, ea, tx, sz, lf, fo, f1, nc, lz, fz, td, P, C9, LN, RW, CO, EA, SZ, LF, FO, F1, tf, TL, rfl, hnc, hk5, hC, hA, hLM, hEM, htd, hti, hTx, hTf⟩⟩ (by decide) (by decide)
    · refine v_iload (pc := 14) C 4 d_Mo_weight_14 rfl ?_
      refine v_if_lt (pc := 16) C 25 d_Mo_weight_16 (by decide) (fun h3 => ?_) (fun h3 => ?_)
      · refine v_aload_n (pc := 25) C 0 d_Mo_weight_25 rfl rfl ?_
        refine v_iconst (pc := 26) C (nI 1) d_Mo_weight_26 (by decide +kernel) ?_
        refine v_callV (pc := 27) (As := [.int (nI 1)]) (rest := []) C (c_Mo_fail _ G h pa ca la ro co ea tx sz lf fo f1 (nI 0) td nc A.length lz fz 1) l_Mo_63 ([(pa, aI G 5000 P), (ca, aI G 5000 C9), (la, aI G 500 LN), (ro, aI G 1500 RW), (co, aI G 500 CO), (ea, aI G 16000 EA), (tx, aII G 4 tf), (sz, aI G 4 SZ), (lf, aI G 200 LF), (fo, aI G 6400 FO), (f1, aI G 6400 F1)] ++ tpool G TL) (sp_poolR [1, 2, 3, 4, 5, 6, 7, 8, 9, 10, 11] [0] rfl rfl rfl) 0 rfl rfl rfl rfl rfl (Nat.le_of_ble_eq_true rfl) (by decide) (by decide) (by decide) (by decide) d_Mo_weight_27 (fun r w' hq => ?_)
        obtain ⟨rfl, rfl⟩ := hq
        refine v_swap ?_
        show vv K ({ frames := 2, cells := 0, slots := 0, locals := 90 } : Room) G 5 0 0 ([(pa, aI G 5000 P), (ca, aI G 5000 C9), (la, aI G 500 LN), (ro, aI G 1500 RW), (co, aI G 500 CO), (ea, aI G 16000 EA), (tx, aII G 4 tf), (sz, aI G 4 SZ), (lf, aI G 200 LF), (fo, aI G 6400 FO), (f1, aI G 6400 F1), (h, ob 7 [.int (nI 1), .ref pa, .ref ca, .int (nI nc), .ref la, .ref ro, .ref co, .ref ea, .int (nI A.length), .int td, .ref tx, .ref sz, .ref lf, .int (nI lz), .ref fo, .int (nI fz), .ref f1])] ++ tpool G TL) 30 [(0, .ref h), (1, .int rr), (2, .int (nI sh)), (3, .int ii), (4, .int uu)] [.int (nI 0)]
        refine v_wsubP [11, 0, 1, 2, 3, 4, 5, 6, 7, 8, 9, 10] ([(h, ob 7 [.int (nI 1), .ref pa, .ref ca, .int (nI nc), .ref la, .ref ro, .ref co, .ref ea, .int (nI A.length), .int td, .ref tx, .ref sz, .ref lf, .int (nI lz), .ref fo, .int (nI fz), .ref f1]), (pa, aI G 5000 P), (ca, aI G 5000 C9), (la, aI G 500 LN), (ro, aI G 1500 RW), (co, aI G 500 CO), (ea, aI G 16000 EA), (tx, aII G 4 tf), (sz, aI G 4 SZ), (lf, aI G 200 LF), (fo, aI G 6400 FO), (f1, aI G 6400 F1)]) rfl rfl ?_
        exact v_iret (pc := 30) C X d_Mo_weight_30 ⟨by rw [show spWeight (cl, A, told, rws) rr sh ii uu = (1, nI 0, (cl, A, told, rws)) by unfold spWeight; rw [if_pos (Or.inr (Or.inl h3))]], by rw [show spWeight (cl, A, told, rws) rr sh ii uu = (1, nI 0, (cl, A, told, rws)) by unfold spWeight; rw [if_pos (Or.inr (Or.inl h3))]]; exact ⟨pa, ca, la, ro, co, ea, tx, sz, lf, fo, f1, nc, lz, fz, td, P, C9, LN, RW, CO, EA, SZ, LF, FO, F1, tf, TL, rfl, hnc, hk5, hC, hA, hLM, hEM, htd, hti, hTx, hTf⟩⟩ (by decide) (by decide)
      · refine v_iload (pc := 19) C 4 d_Mo_weight_19 rfl ?_
        refine v_iconst (pc := 21) C (nI 3) d_Mo_weight_21 (by decide +kernel) ?_
        refine v_icmp_le (pc := 22) C 31 d_Mo_weight_22 (by decide) (fun h4 => ?_) (fun h4 => ?_)
        · obtain ⟨rj, hrj, rfl⟩ := nb_nat (M := 3) (x := rr) (by decide) (fun z => z.elim h1 h2)
          obtain ⟨uj, huj, rfl⟩ := nb_nat (M := 3) (x := uu) (by decide) (fun z => z.elim h3 (Int32.not_lt.mpr h4))
          obtain ⟨y, row, hy, hrow, hyo, hyz⟩ := txs_row hTx hrj
          obtain ⟨ES, hES⟩ : ∃ u, takeR (fun k => fndA k A) cl (esA A) 200 row = u := ⟨_, rfl⟩
          obtain ⟨TA, TB9, e1, -, -⟩ := lset_split hy
          rw [show tpool G TL = tpool G (TA ++ y :: TB9) by rw [← e1]]
          refine v_tout ?_
          show vv K ({ frames := 2, cells := 0, slots := 0, locals := 90 } : Room) G 5 0 0 ([(h, ob 7 [.int (nI 0), .ref pa, .ref ca, .int (nI nc), .ref la, .ref ro, .ref co, .ref ea, .int (nI A.length), .int td, .ref tx, .ref sz, .ref lf, .int (nI lz), .ref fo, .int (nI fz), .ref f1]), (pa, aI G 5000 P), (ca, aI G 5000 C9), (la, aI G 500 LN), (ro, aI G 1500 RW), (co, aI G 500 CO), (ea, aI G 16000 EA), (tx, aII G 4 tf), (sz, aI G 4 SZ), (lf, aI G 200 LF), (fo, aI G 6400 FO), (f1, aI G 6400 F1), (y.1, aI G 200 y.2)] ++ tpool G (TA ++ TB9)) 31 [(0, .ref h), (1, .int (nI rj)), (2, .int (nI sh)), (3, .int ii), (4, .int (nI uj))] []
          refine v_aload_n (pc := 31) C 0 d_Mo_weight_31 rfl rfl ?_
          refine v_iload_n (pc := 32) C 1 d_Mo_weight_32 rfl rfl ?_
          refine v_iload_n (pc := 33) C 2 d_Mo_weight_33 rfl rfl ?_
          refine v_callV (pc := 34) (As := [.int (nI rj), .int (nI sh)]) (rest := []) C (c_Mo_take _ G h pa ca la ro co ea tx sz lf fo f1 (nI 0) td nc lz fz y.1 rj sh P C9 LN RW CO EA SZ LF FO y.2 tf cl A row ES (by omega) hC hA hLM hEM hrj (hTf rj y hy) hyo hyz hsh hES) l_Mo_97 ([(f1, aI G 6400 F1)] ++ tpool G (TA ++ TB9)) (sp_poolR [11] [0, 1, 2, 3, 4, 5, 6, 7, 8, 9, 10, 12] rfl rfl rfl) 0 rfl rfl rfl rfl rfl (Nat.le_of_ble_eq_true rfl) (by decide) (by decide) (by decide) (by decide) d_Mo_weight_34 (fun r w' hq => ?_)
          obtain ⟨rfl, lz7, LF7, FO7, rfl, hF7, hl7, hok7⟩ := hq
          refine v_swap ?_
          show vv K ({ frames := 2, cells := 0, slots := 0, locals := 90 } : Room) G 5 0 0 ([(f1, aI G 6400 F1), (h, ob 7 [.int (nI 0), .ref pa, .ref ca, .int (nI nc), .ref la, .ref ro, .ref co, .ref ea, .int (nI A.length), .int td, .ref tx, .ref sz, .ref lf, .int (nI lz7), .ref fo, .int (nI ES.length), .ref f1]), (pa, aI G 5000 P), (ca, aI G 5000 C9), (la, aI G 500 LN), (ro, aI G 1500 RW), (co, aI G 500 CO), (ea, aI G 16000 EA), (tx, aII G 4 tf), (sz, aI G 4 SZ), (lf, aI G 200 LF7), (fo, aI G 6400 FO7), (y.1, aI G 200 y.2)] ++ tpool G (TA ++ TB9)) 37 [(0, .ref h), (1, .int (nI rj)), (2, .int (nI sh)), (3, .int ii), (4, .int (nI uj))] []
          refine v_wsubP [1, 2, 3, 4, 5, 6, 7, 8, 9, 10, 11, 0, 12] ([(h, ob 7 [.int (nI 0), .ref pa, .ref ca, .int (nI nc), .ref la, .ref ro, .ref co, .ref ea, .int (nI A.length), .int td, .ref tx, .ref sz, .ref lf, .int (nI lz7), .ref fo, .int (nI ES.length), .ref f1]), (pa, aI G 5000 P), (ca, aI G 5000 C9), (la, aI G 500 LN), (ro, aI G 1500 RW), (co, aI G 500 CO), (ea, aI G 16000 EA), (tx, aII G 4 tf), (sz, aI G 4 SZ), (lf, aI G 200 LF7), (fo, aI G 6400 FO7), (f1, aI G 6400 F1), (y.1, aI G 200 y.2)]) rfl rfl ?_
          refine v_tin (X := [(h, ob 7 [.int (nI 0), .ref pa, .ref ca, .int (nI nc), .ref la, .ref ro, .ref co, .ref ea, .int (nI A.length), .int td, .ref tx, .ref sz, .ref lf, .int (nI lz7), .ref fo, .int (nI ES.length), .ref f1]), (pa, aI G 5000 P), (ca, aI G 5000 C9), (la, aI G 500 LN), (ro, aI G 1500 RW), (co, aI G 500 CO), (ea, aI G 16000 EA), (tx, aII G 4 tf), (sz, aI G 4 SZ), (lf, aI G 200 LF7), (fo, aI G 6400 FO7), (f1, aI G 6400 F1)]) (y := y) ?_
          rw [← e1]
          show vv K ({ frames := 2, cells := 0, slots := 0, locals := 90 } : Room) G 5 0 0 ([(h, ob 7 [.int (nI 0), .ref pa, .ref ca, .int (nI nc), .ref la, .ref ro, .ref co, .ref ea, .int (nI A.length), .int td, .ref tx, .ref sz, .ref lf, .int (nI lz7), .ref fo, .int (nI ES.length), .ref f1]), (pa, aI G 5000 P), (ca, aI G 5000 C9), (la, aI G 500 LN), (ro, aI G 1500 RW), (co, aI G 500 CO), (ea, aI G 16000 EA), (tx, aII G 4 tf), (sz, aI G 4 SZ), (lf, aI G 200 LF7), (fo, aI G 6400 FO7), (f1, aI G 6400 F1)] ++ tpool G TL) 37 [(0, .ref h), (1, .int (nI rj)), (2, .int (nI sh)), (3, .int ii), (4, .int (nI uj))] []
          clear e1
          have hql : (shL sh 0 ES).length = ES.length := shL_len _ _ _
          have hsp0 : spWeight (cl, A, told, rws) (nI rj) sh ii (nI uj) = if ii < 0 ∨ nI ES.length ≤ ii then (1, nI 0, (cl, A, told, rws)) else (0, nI (comp ((shL sh 0 ES).getD (toN ii) (0, 0, 0, 0)) uj), (cl, A, told, rws)) := by unfold spWeight qs; rw [if_neg (fun z => z.elim (nbad hrj (by decide)) (nbad huj (by decide))), toN_nI (by omega), toN_nI (by omega), els_m hrow, hES, hql]
          refine v_iload_n (pc := 37) C 3 d_Mo_weight_37 rfl rfl ?_
          refine v_if_lt (pc := 38) C 49 d_Mo_weight_38 (by decide) (fun h5 => ?_) (fun h5 => ?_)
          · refine v_aload_n (pc := 49) C 0 d_Mo_weight_49 rfl rfl ?_
            refine v_iconst (pc := 50) C (nI 1) d_Mo_weight_50 (by decide +kernel) ?_
            refine v_callV (pc := 51) (As := [.int (nI 1)]) (rest := []) C (c_Mo_fail _ G h pa ca la ro co ea tx sz lf fo f1 (nI 0) td nc A.length lz7 ES.length 1) l_Mo_63 ([(pa, aI G 5000 P), (ca, aI G 5000 C9), (la, aI G 500 LN), (ro, aI G 1500 RW), (co, aI G 500 CO), (ea, aI G 16000 EA), (tx, aII G 4 tf), (sz, aI G 4 SZ), (lf, aI G 200 LF7), (fo, aI G 6400 FO7), (f1, aI G 6400 F1)] ++ tpool G TL) (sp_poolR [1, 2, 3, 4, 5, 6, 7, 8, 9, 10, 11] [0] rfl rfl rfl) 0 rfl rfl rfl rfl rfl (Nat.le_of_ble_eq_true rfl) (by decide) (by decide) (by decide) (by decide) d_Mo_weight_51 (fun r w' hq => ?_)
            obtain ⟨rfl, rfl⟩ := hq
            refine v_swap ?_
            show vv K ({ frames := 2, cells := 0, slots := 0, locals := 90 } : Room) G 5 0 0 ([(pa, aI G 5000 P), (ca, aI G 5000 C9), (la, aI G 500 LN), (ro, aI G 1500 RW), (co, aI G 500 CO), (ea, aI G 16000 EA), (tx, aII G 4 tf), (sz, aI G 4 SZ), (lf, aI G 200 LF7), (fo, aI G 6400 FO7), (f1, aI G 6400 F1), (h, ob 7 [.int (nI 1), .ref pa, .ref ca, .int (nI nc), .ref la, .ref ro, .ref co, .ref ea, .int (nI A.length), .int td, .ref tx, .ref sz, .ref lf, .int (nI lz7), .ref fo, .int (nI ES.length), .ref f1])] ++ tpool G TL) 54 [(0, .ref h), (1, .int (nI rj)), (2, .int (nI sh)), (3, .int ii), (4, .int (nI uj))] [.int (nI 0)]
            refine v_goto (pc := 54) C 68 d_Mo_weight_54 (by decide) ?_
            refine v_wsubP [11, 0, 1, 2, 3, 4, 5, 6, 7, 8, 9, 10] ([(h, ob 7 [.int (nI 1), .ref pa, .ref ca, .int (nI nc), .ref la, .ref ro, .ref co, .ref ea, .int (nI A.length), .int td, .ref tx, .ref sz, .ref lf, .int (nI lz7), .ref fo, .int (nI ES.length), .ref f1]), (pa, aI G 5000 P), (ca, aI G 5000 C9), (la, aI G 500 LN), (ro, aI G 1500 RW), (co, aI G 500 CO), (ea, aI G 16000 EA), (tx, aII G 4 tf), (sz, aI G 4 SZ), (lf, aI G 200 LF7), (fo, aI G 6400 FO7), (f1, aI G 6400 F1)]) rfl rfl ?_
            exact v_iret (pc := 68) C X d_Mo_weight_68 ⟨by rw [hsp0, if_pos (Or.inl h5)], by rw [hsp0, if_pos (Or.inl h5)]; exact ⟨pa, ca, la, ro, co, ea, tx, sz, lf, fo, f1, nc, lz7, ES.length, td, P, C9, LN, RW, CO, EA, SZ, LF7, FO7, F1, tf, TL, rfl, hnc, hk5, hC, hA, hLM, hEM, htd, hti, hTx, hTf⟩⟩ (by decide) (by decide)
          · obtain ⟨ij, hij, rfl⟩ := nI_of h5
            refine v_iload_n (pc := 41) C 3 d_Mo_weight_41 rfl rfl ?_
            refine v_aload_n (pc := 42) C 0 d_Mo_weight_42 rfl rfl ?_
            refine v_get (pc := 43) (Cn := "WeightOrderModel") (T := T_Mo) (N := 17) (ci := 7) (v := .int (nI ES.length)) C 0 15 rfl rfl hin_Mo (by decide) rfl k_477 rfl d_Mo_weight_43 ?_
            refine v_icmpN_lt (pc := 46) C 57 ij ES.length d_Mo_weight_46 (by decide) (by omega) (by omega) (fun h6 => ?_) (fun h6 => ?_)
            · obtain ⟨qe, hqe⟩ : ∃ qe, (shL sh 0 ES)[ij]? = some qe := ⟨_, List.getElem?_eq_getElem (by rw [hql]; exact h6)⟩
              have hsp : spWeight (cl, A, told, rws) (nI rj) sh (nI ij) (nI uj) = (0, nI (comp qe uj), (cl, A, told, rws)) := by rw [hsp0, if_neg (fun z => z.elim (nI_pos (by omega)) (fun z => by have := (nI_leN (by omega) (by omega)).mp z; omega)), toN_nI (by omega), List.getD_eq_getElem?_getD, hqe]; rfl
              refine v_aload_n (pc := 57) C 0 d_Mo_weight_57 rfl rfl ?_
              refine v_get (pc := 58) (Cn := "WeightOrderModel") (T := T_Mo) (N := 17) (ci := 7) (v := .ref fo) C 0 14 rfl rfl hin_Mo (by decide) rfl k_476 rfl d_Mo_weight_58 ?_
              refine v_iconst (pc := 61) C (nI 4) d_Mo_weight_61 (by decide +kernel) ?_
              refine v_iload_n (pc := 62) C 3 d_Mo_weight_62 rfl rfl ?_
              refine v_imul (pc := 63) C (nI (4 * ij)) d_Mo_weight_63 (pk_mul _ _) ?_
              refine v_iload (pc := 64) C 4 d_Mo_weight_64 rfl ?_
              refine v_iadd (pc := 66) C (nI (4 * ij + uj)) d_Mo_weight_66 (nI_add _ _) ?_
              refine v_iald (pc := 67) C 10 rfl (4 * ij + uj) rfl (by omega) (by decide) d_Mo_weight_67 ?_
              refine v_seti (nI (comp qe uj)) (fos_comp hF7 hqe huj) ?_
              exact v_iret (pc := 68) C X d_Mo_weight_68 ⟨by rw [hsp], by rw [hsp]; exact ⟨pa, ca, la, ro, co, ea, tx, sz, lf, fo, f1, nc, lz7, ES.length, td, P, C9, LN, RW, CO, EA, SZ, LF7, FO7, F1, tf, TL, rfl, hnc, hk5, hC, hA, hLM, hEM, htd, hti, hTx, hTf⟩⟩ (by decide) (by decide)
            · refine v_aload_n (pc := 49) C 0 d_Mo_weight_49 rfl rfl ?_
              refine v_iconst (pc := 50) C (nI 1) d_Mo_weight_50 (by decide +kernel) ?_
              refine v_callV (pc := 51) (As := [.int (nI 1)]) (rest := []) C (c_Mo_fail _ G h pa ca la ro co ea tx sz lf fo f1 (nI 0) td nc A.length lz7 ES.length 1) l_Mo_63 ([(pa, aI G 5000 P), (ca, aI G 5000 C9), (la, aI G 500 LN), (ro, aI G 1500 RW), (co, aI G 500 CO), (ea, aI G 16000 EA), (tx, aII G 4 tf), (sz, aI G 4 SZ), (lf, aI G 200 LF7), (fo, aI G 6400 FO7), (f1, aI G 6400 F1)] ++ tpool G TL) (sp_poolR [1, 2, 3, 4, 5, 6, 7, 8, 9, 10, 11] [0] rfl rfl rfl) 0 rfl rfl rfl rfl rfl (Nat.le_of_ble_eq_true rfl) (by decide) (by decide) (by decide) (by decide) d_Mo_weight_51 (fun r w' hq => ?_)
              obtain ⟨rfl, rfl⟩ := hq
              refine v_swap ?_
              show vv K ({ frames := 2, cells := 0, slots := 0, locals := 90 } : Room) G 5 0 0 ([(pa, aI G 5000 P), (ca, aI G 5000 C9), (la, aI G 500 LN), (ro, aI G 1500 RW), (co, aI G 500 CO), (ea, aI G 16000 EA), (tx, aII G 4 tf), (sz, aI G 4 SZ), (lf, aI G 200 LF7), (fo, aI G 6400 FO7), (f1, aI G 6400 F1), (h, ob 7 [.int (nI 1), .ref pa, .ref ca, .int (nI nc), .ref la, .ref ro, .ref co, .ref ea, .int (nI A.length), .int td, .ref tx, .ref sz, .ref lf, .int (nI lz7), .ref fo, .int (nI ES.length), .ref f1])] ++ tpool G TL) 54 [(0, .ref h), (1, .int (nI rj)), (2, .int (nI sh)), (3, .int (nI ij)), (4, .int (nI uj))] [.int (nI 0)]
              refine v_goto (pc := 54) C 68 d_Mo_weight_54 (by decide) ?_
              refine v_wsubP [11, 0, 1, 2, 3, 4, 5, 6, 7, 8, 9, 10] ([(h, ob 7 [.int (nI 1), .ref pa, .ref ca, .int (nI nc), .ref la, .ref ro, .ref co, .ref ea, .int (nI A.length), .int td, .ref tx, .ref sz, .ref lf, .int (nI lz7), .ref fo, .int (nI ES.length), .ref f1]), (pa, aI G 5000 P), (ca, aI G 5000 C9), (la, aI G 500 LN), (ro, aI G 1500 RW), (co, aI G 500 CO), (ea, aI G 16000 EA), (tx, aII G 4 tf), (sz, aI G 4 SZ), (lf, aI G 200 LF7), (fo, aI G 6400 FO7), (f1, aI G 6400 F1)]) rfl rfl ?_
              exact v_iret (pc := 68) C X d_Mo_weight_68 ⟨by rw [hsp0, if_pos (Or.inr ((nI_leN (by omega) (by omega)).mpr (by omega)))], by rw [hsp0, if_pos (Or.inr ((nI_leN (by omega) (by omega)).mpr (by omega)))]; exact ⟨pa, ca, la, ro, co, ea, tx, sz, lf, fo, f1, nc, lz7, ES.length, td, P, C9, LN, RW, CO, EA, SZ, LF7, FO7, F1, tf, TL, rfl, hnc, hk5, hC, hA, hLM, hEM, htd, hti, hTx, hTf⟩⟩ (by decide) (by decide)
        · refine v_aload_n (pc := 25) C 0 d_Mo_weight_25 rfl rfl ?_
          refine v_iconst (pc := 26) C (nI 1) d_Mo_weight_26 (by decide +kernel) ?_
          refine v_callV (pc := 27) (As := [.int (nI 1)]) (rest := []) C (c_Mo_fail _ G h pa ca la ro co ea tx sz lf fo f1 (nI 0) td nc A.length lz fz 1) l_Mo_63 ([(pa, aI G 5000 P), (ca, aI G 5000 C9), (la, aI G 500 LN), (ro, aI G 1500 RW), (co, aI G 500 CO), (ea, aI G 16000 EA), (tx, aII G 4 tf), (sz, aI G 4 SZ), (lf, aI G 200 LF), (fo, aI G 6400 FO), (f1, aI G 6400 F1)] ++ tpool G TL) (sp_poolR [1, 2, 3, 4, 5, 6, 7, 8, 9, 10, 11] [0] rfl rfl rfl) 0 rfl rfl rfl rfl rfl (Nat.le_of_ble_eq_true rfl) (by decide) (by decide) (by decide) (by decide) d_Mo_weight_27 (fun r w' hq => ?_)
          obtain ⟨rfl, rfl⟩ := hq
          refine v_swap ?_
          show vv K ({ frames := 2, cells := 0, slots := 0, locals := 90 } : Room) G 5 0 0 ([(pa, aI G 5000 P), (ca, aI G 5000 C9), (la, aI G 500 LN), (ro, aI G 1500 RW), (co, aI G 500 CO), (ea, aI G 16000 EA), (tx, aII G 4 tf), (sz, aI G 4 SZ), (lf, aI G 200 LF), (fo, aI G 6400 FO), (f1, aI G 6400 F1), (h, ob 7 [.int (nI 1), .ref pa, .ref ca, .int (nI nc), .ref la, .ref ro, .ref co, .ref ea, .int (nI A.length), .int td, .ref tx, .ref sz, .ref lf, .int (nI lz), .ref fo, .int (nI fz), .ref f1])] ++ tpool G TL) 30 [(0, .ref h), (1, .int rr), (2, .int (nI sh)), (3, .int ii), (4, .int uu)] [.int (nI 0)]
          refine v_wsubP [11, 0, 1, 2, 3, 4, 5, 6, 7, 8, 9, 10] ([(h, ob 7 [.int (nI 1), .ref pa, .ref ca, .int (nI nc), .ref la, .ref ro, .ref co, .ref ea, .int (nI A.length), .int td, .ref tx, .ref sz, .ref lf, .int (nI lz), .ref fo, .int (nI fz), .ref f1]), (pa, aI G 5000 P), (ca, aI G 5000 C9), (la, aI G 500 LN), (ro, aI G 1500 RW), (co, aI G 500 CO), (ea, aI G 16000 EA), (tx, aII G 4 tf), (sz, aI G 4 SZ), (lf, aI G 200 LF), (fo, aI G 6400 FO), (f1, aI G 6400 F1)]) rfl rfl ?_
          exact v_iret (pc := 30) C X d_Mo_weight_30 ⟨by rw [show spWeight (cl, A, told, rws) rr sh ii uu = (1, nI 0, (cl, A, told, rws)) by unfold spWeight; rw [if_pos (Or.inr (Or.inr (Int32.not_le.mp h4)))]], by rw [show spWeight (cl, A, told, rws) rr sh ii uu = (1, nI 0, (cl, A, told, rws)) by unfold spWeight; rw [if_pos (Or.inr (Or.inr (Int32.not_le.mp h4)))]]; exact ⟨pa, ca, la, ro, co, ea, tx, sz, lf, fo, f1, nc, lz, fz, td, P, C9, LN, RW, CO, EA, SZ, LF, FO, F1, tf, TL, rfl, hnc, hk5, hC, hA, hLM, hEM, htd, hti, hTx, hTf⟩⟩ (by decide) (by decide)

set_option maxHeartbeats 4000000 in
set_option maxRecDepth 100000 in
theorem m_compare (l : Launch) (G : Gx) (h k : Nat) (σ : Sg) (fl : Int32) (w : va_W) (rr uu nn : Int32) (sh : Nat) (hw : MoI G h k σ fl w) (hsh : sh ≤ 1) : CT l G y_Mo_compare b_Mo_compare 9 (some .int) ({ frames := 2, cells := 0, slots := 0, locals := 90 } : Room) w [.ref h, .int rr, .int uu, .int nn, .int (nI sh)] (fun r w' => r = some (.int (spCompare σ rr uu nn sh).2.1) ∧ MoI G h k (spCompare σ rr uu nn sh).2.2 (nI (spCompare σ rr uu nn sh).1) w') := by
  obtain ⟨cl, A, told, rws⟩ := σ
  obtain ⟨pa, ca, la, ro, co, ea, tx, sz, lf, fo, f1, nc, lz, fz, td, P, C9, LN, RW, CO, EA, SZ, LF, FO, F1, tf, TL, rfl, hnc, hk5, hC, hA, hLM, hEM, htd, hti, hTx, hTf⟩ := hw
  have hA : A.length ≤ 500 := hA
  have htd : td = fiI told := htd
  refine ct_of [(0, .ref h), (1, .int rr), (2, .int uu), (3, .int nn), (4, .int (nI sh))] (by decide) (Nat.le_of_ble_eq_true rfl) rfl (fun K hKl hNI C X => ?_)
  subst hKl
  show vv K ({ frames := 2, cells := 0, slots := 0, locals := 90 } : Room) G 9 0 0 ([(h, ob 7 [.int fl, .ref pa, .ref ca, .int (nI nc), .ref la, .ref ro, .ref co, .ref ea, .int (nI A.length), .int td, .ref tx, .ref sz, .ref lf, .int (nI lz), .ref fo, .int (nI fz), .ref f1]), (pa, aI G 5000 P), (ca, aI G 5000 C9), (la, aI G 500 LN), (ro, aI G 1500 RW), (co, aI G 500 CO), (ea, aI G 16000 EA), (tx, aII G 4 tf), (sz, aI G 4 SZ), (lf, aI G 200 LF), (fo, aI G 6400 FO), (f1, aI G 6400 F1)] ++ tpool G TL) 0 [(0, .ref h), (1, .int rr), (2, .int uu), (3, .int nn), (4, .int (nI sh))] []
  refine v_aload_n (pc := 0) C 0 d_Mo_compare_0 rfl rfl ?_
  refine v_iconst (pc := 1) C (nI 0) d_Mo_compare_1 (by decide +kernel) ?_
  refine v_put (pc := 2) (Cn := "WeightOrderModel") (T := T_Mo) (N := 17) (ci := 7) (v := .int (nI 0)) C 0 0 rfl rfl hin_Mo (by decide) rfl ([(h, ob 7 [.int (nI 0), .ref pa, .ref ca, .int (nI nc), .ref la, .ref ro, .ref co, .ref ea, .int (nI A.length), .int td, .ref tx, .ref sz, .ref lf, .int (nI lz), .ref fo, .int (nI fz), .ref f1]), (pa, aI G 5000 P), (ca, aI G 5000 C9), (la, aI G 500 LN), (ro, aI G 1500 RW), (co, aI G 500 CO), (ea, aI G 16000 EA), (tx, aII G 4 tf), (sz, aI G 4 SZ), (lf, aI G 200 LF), (fo, aI G 6400 FO), (f1, aI G 6400 F1)] ++ tpool G TL) t_Mo t_Mo_ok n_Mo (.int) rfl rfl rfl (Nat.le_of_ble_eq_true rfl) rfl rfl k_462 d_Mo_compare_2 ?_
  refine v_iload_n (pc := 5) C 1 d_Mo_compare_5 rfl rfl ?_
  refine v_if_lt (pc := 6) C 33 d_Mo_compare_6 (by decide) (fun h1 => ?_) (fun h1 => ?_)
  · refine v_aload_n (pc := 33) C 0 d_Mo_compare_33 rfl rfl ?_
    refine v_iconst (pc := 34) C (nI 1) d_Mo_compare_34 (by decide +kernel) ?_
    refine v_callV (pc := 35) (As := [.int (nI 1)]) (rest := []) C (c_Mo_fail _ G h pa ca la ro co ea tx sz lf fo f1 (nI 0) td nc A.length lz fz 1) l_Mo_63 ([(pa, aI G 5000 P), (ca, aI G 5000 C9), (la, aI G 500 LN), (ro, aI G 1500 RW), (co, aI G 500 CO), (ea, aI G 16000 EA), (tx, aII G 4 tf), (sz, aI G 4 SZ), (lf, aI G 200 LF), (fo, aI G 6400 FO), (f1, aI G 6400 F1)] ++ tpool G TL) (sp_poolR [1, 2, 3, 4, 5, 6, 7, 8, 9, 10, 11] [0] rfl rfl rfl) 0 rfl rfl rfl rfl rfl (Nat.le_of_ble_eq_true rfl) (by decide) (by decide) (by decide) (by decide) d_Mo_compare_35 (fun r w' hq => ?_)
    obtain ⟨rfl, rfl⟩ := hq
    refine v_swap ?_
    show vv K ({ frames := 2, cells := 0, slots := 0, locals := 90 } : Room) G 9 0 0 ([(pa, aI G 5000 P), (ca, aI G 5000 C9), (la, aI G 500 LN), (ro, aI G 1500 RW), (co, aI G 500 CO), (ea, aI G 16000 EA), (tx, aII G 4 tf), (sz, aI G 4 SZ), (lf, aI G 200 LF), (fo, aI G 6400 FO), (f1, aI G 6400 F1), (h, ob 7 [.int (nI 1), .ref pa, .ref ca, .int (nI nc), .ref la, .ref ro, .ref co, .ref ea, .int (nI A.length), .int td, .ref tx, .ref sz, .ref lf, .int (nI lz), .ref fo, .int (nI fz), .ref f1])] ++ tpool G TL) 38 [(0, .ref h), (1, .int rr), (2, .int uu), (3, .int nn), (4, .int (nI sh))] [.int (nI 0)]
    refine v_wsubP [11, 0, 1, 2, 3, 4, 5, 6, 7, 8, 9, 10] ([(h, ob 7 [.int (nI 1), .ref pa, .ref ca, .int (nI nc), .ref la, .ref ro, .ref co, .ref ea, .int (nI A.length), .int td, .ref tx, .ref sz, .ref lf, .int (nI lz), .ref fo, .int (nI fz), .ref f1]), (pa, aI G 5000 P), (ca, aI G 5000 C9), (la, aI G 500 LN), (ro, aI G 1500 RW), (co, aI G 500 CO), (ea, aI G 16000 EA), (tx, aII G 4 tf), (sz, aI G 4 SZ), (lf, aI G 200 LF), (fo, aI G 6400 FO), (f1, aI G 6400 F1)]) rfl rfl ?_
    exact v_iret (pc := 38) C X d_Mo_compare_38 ⟨by rw [show spCompare (cl, A, told, rws) rr uu nn sh = (1, nI 0, (cl, A, told, rws)) by unfold spCompare; rw [if_pos (Or.inl (Or.inl h1))]], by rw [show spCompare (cl, A, told, rws) rr uu nn sh = (1, nI 0, (cl, A, told, rws)) by unfold spCompare; rw [if_pos (Or.inl (Or.inl h1))]]; exact ⟨pa, ca, la, ro, co, ea, tx, sz, lf, fo, f1, nc, lz, fz, td, P, C9, LN, RW, CO, EA, SZ, LF, FO, F1, tf, TL, rfl, hnc, hk5, hC, hA, hLM, hEM, htd, hti, hTx, hTf⟩⟩ (by decide) (by decide)
  · refine v_iload_n (pc := 9) C 1 d_Mo_compare_9 rfl rfl ?_
    refine v_iconst (pc := 10) C (nI 3) d_Mo_compare_10 (by decide +kernel) ?_
    refine v_icmp_gt (pc := 11) C 33 d_Mo_compare_11 (by decide) (fun h2 => ?_) (fun h2 => ?_)
    · refine v_aload_n (pc := 33) C 0 d_Mo_compare_33 rfl rfl ?_
      refine v_iconst (pc := 34) C (nI 1) d_Mo_compare_34 (by decide +kernel) ?_
      refine v_callV (pc := 35) (As := [.int (nI 1)]) (rest := []) C (c_Mo_fail _ G h pa ca la ro co ea tx sz lf fo f1 (nI 0) td nc A.length lz fz 1) l_Mo_63 ([(pa, aI G 5000 P), (ca, aI G 5000 C9), (la, aI G 500 LN), (ro, aI G 1500 RW), (co, aI G 500 CO), (ea, aI G 16000 EA), (tx, aII G 4 tf), (sz, aI G 4 SZ), (lf, aI G 200 LF), (fo, aI G 6400 FO), (f1, aI G 6400 F1)] ++ tpool G TL) (sp_poolR [1, 2, 3, 4, 5, 6, 7, 8, 9, 10, 11] [0] rfl rfl rfl) 0 rfl rfl rfl rfl rfl (Nat.le_of_ble_eq_true rfl) (by decide) (by decide) (by decide) (by decide) d_Mo_compare_35 (fun r w' hq => ?_)
      obtain ⟨rfl, rfl⟩ := hq
      refine v_swap ?_
      show vv K ({ frames := 2, cells := 0, slots := 0, locals := 90 } : Room) G 9 0 0 ([(pa, aI G 5000 P), (ca, aI G 5000 C9), (la, aI G 500 LN), (ro, aI G 1500 RW), (co, aI G 500 CO), (ea, aI G 16000 EA), (tx, aII G 4 tf), (sz, aI G 4 SZ), (lf, aI G 200 LF), (fo, aI G 6400 FO), (f1, aI G 6400 F1), (h, ob 7 [.int (nI 1), .ref pa, .ref ca, .int (nI nc), .ref la, .ref ro, .ref co, .ref ea, .int (nI A.length), .int td, .ref tx, .ref sz, .ref lf, .int (nI lz), .ref fo, .int (nI fz), .ref f1])] ++ tpool G TL) 38 [(0, .ref h), (1, .int rr), (2, .int uu), (3, .int nn), (4, .int (nI sh))] [.int (nI 0)]
      refine v_wsubP [11, 0, 1, 2, 3, 4, 5, 6, 7, 8, 9, 10] ([(h, ob 7 [.int (nI 1), .ref pa, .ref ca, .int (nI nc), .ref la, .ref ro, .ref co, .ref ea, .int (nI A.length), .int td, .ref tx, .ref sz, .ref lf, .int (nI lz), .ref fo, .int (nI fz), .ref f1]), (pa, aI G 5000 P), (ca, aI G 5000 C9), (la, aI G 500 LN), (ro, aI G 1500 RW), (co, aI G 500 CO), (ea, aI G 16000 EA), (tx, aII G 4 tf), (sz, aI G 4 SZ), (lf, aI G 200 LF), (fo, aI G 6400 FO), (f1, aI G 6400 F1)]) rfl rfl ?_
      exact v_iret (pc := 38) C X d_Mo_compare_38 ⟨by rw [show spCompare (cl, A, told, rws) rr uu nn sh = (1, nI 0, (cl, A, told, rws)) by unfold spCompare; rw [if_pos (Or.inl (Or.inr h2))]], by rw [show spCompare (cl, A, told, rws) rr uu nn sh = (1, nI 0, (cl, A, told, rws)) by unfold spCompare; rw [if_pos (Or.inl (Or.inr h2))]]; exact ⟨pa, ca, la, ro, co, ea, tx, sz, lf, fo, f1, nc, lz, fz, td, P, C9, LN, RW, CO, EA, SZ, LF, FO, F1, tf, TL, rfl, hnc, hk5, hC, hA, hLM, hEM, htd, hti, hTx, hTf⟩⟩ (by decide) (by decide)
    · refine v_iload_n (pc := 14) C 2 d_Mo_compare_14 rfl rfl ?_
      refine v_if_lt (pc := 15) C 33 d_Mo_compare_15 (by decide) (fun h3 => ?_) (fun h3 => ?_)
      · refine v_aload_n (pc := 33) C 0 d_Mo_compare_33 rfl rfl ?_
        refine v_iconst (pc := 34) C (nI 1) d_Mo_compare_34 (by decide +kernel) ?_
        refine v_callV (pc := 35) (As := [.int (nI 1)]) (rest := []) C (c_Mo_fail _ G h pa ca la ro co ea tx sz lf fo f1 (nI 0) td nc A.length lz fz 1) l_Mo_63 ([(pa, aI G 5000 P), (ca, aI G 5000 C9), (la, aI G 500 LN), (ro, aI G 1500 RW), (co, aI G 500 CO), (ea, aI G 16000 EA), (tx, aII G 4 tf), (sz, aI G 4 SZ), (lf, aI G 200 LF), (fo, aI G 6400 FO), (f1, aI G 6400 F1)] ++ tpool G TL) (sp_poolR [1, 2, 3, 4, 5, 6, 7, 8, 9, 10, 11] [0] rfl rfl rfl) 0 rfl rfl rfl rfl rfl (Nat.le_of_ble_eq_true rfl) (by decide) (by decide) (by decide) (by decide) d_Mo_compare_35 (fun r w' hq => ?_)
        obtain ⟨rfl, rfl⟩ := hq
        refine v_swap ?_
        show vv K ({ frames := 2, cells := 0, slots := 0, locals := 90 } : Room) G 9 0 0 ([(pa, aI G 5000 P), (ca, aI G 5000 C9), (la, aI G 500 LN), (ro, aI G 1500 RW), (co, aI G 500 CO), (ea, aI G 16000 EA), (tx, aII G 4 tf), (sz, aI G 4 SZ), (lf, aI G 200 LF), (fo, aI G 6400 FO), (f1, aI G 6400 F1), (h, ob 7 [.int (nI 1), .ref pa, .ref ca, .int (nI nc), .ref la, .ref ro, .ref co, .ref ea, .int (nI A.length), .int td, .ref tx, .ref sz, .ref lf, .int (nI lz), .ref fo, .int (nI fz), .ref f1])] ++ tpool G TL) 38 [(0, .ref h), (1, .int rr), (2, .int uu), (3, .int nn), (4, .int (nI sh))] [.int (nI 0)]
        refine v_wsubP [11, 0, 1, 2, 3, 4, 5, 6, 7, 8, 9, 10] ([(h, ob 7 [.int (nI 1), .ref pa, .ref ca, .int (nI nc), .ref la, .ref ro, .ref co, .ref ea, .int (nI A.length), .int td, .ref tx, .ref sz, .ref lf, .int (nI lz), .ref fo, .int (nI fz), .ref f1]), (pa, aI G 5000 P), (ca, aI G 5000 C9), (la, aI G 500 LN), (ro, aI G 1500 RW), (co, aI G 500 CO), (ea, aI G 16000 EA), (tx, aII G 4 tf), (sz, aI G 4 SZ), (lf, aI G 200 LF), (fo, aI G 6400 FO), (f1, aI G 6400 F1)]) rfl rfl ?_
        exact v_iret (pc := 38) C X d_Mo_compare_38 ⟨by rw [show spCompare (cl, A, told, rws) rr uu nn sh = (1, nI 0, (cl, A, told, rws)) by unfold spCompare; rw [if_pos (Or.inr (Or.inl (Or.inl h3)))]], by rw [show spCompare (cl, A, told, rws) rr uu nn sh = (1, nI 0, (cl, A, told, rws)) by unfold spCompare; rw [if_pos (Or.inr (Or.inl (Or.inl h3)))]]; exact ⟨pa, ca, la, ro, co, ea, tx, sz, lf, fo, f1, nc, lz, fz, td, P, C9, LN, RW, CO, EA, SZ, LF, FO, F1, tf, TL, rfl, hnc, hk5, hC, hA, hLM, hEM, htd, hti, hTx, hTf⟩⟩ (by decide) (by decide)
      · refine v_iload_n (pc := 18) C 2 d_Mo_compare_18 rfl rfl ?_
        refine v_iconst (pc := 19) C (nI 3) d_Mo_compare_19 (by decide +kernel) ?_
        refine v_icmp_gt (pc := 20) C 33 d_Mo_compare_20 (by decide) (fun h4 => ?_) (fun h4 => ?_)
        · refine v_aload_n (pc := 33) C 0 d_Mo_compare_33 rfl rfl ?_
          refine v_iconst (pc := 34) C (nI 1) d_Mo_compare_34 (by decide +kernel) ?_
          refine v_callV (pc := 35) (As := [.int (nI 1)]) (rest := []) C (c_Mo_fail _ G h pa ca la ro co ea tx sz lf fo f1 (nI 0) td nc A.length lz fz 1) l_Mo_63 ([(pa, aI G 5000 P), (ca, aI G 5000 C9), (la, aI G 500 LN), (ro, aI G 1500 RW), (co, aI G 500 CO), (ea, aI G 16000 EA), (tx, aII G 4 tf), (sz, aI G 4 SZ), (lf, aI G 200 LF), (fo, aI G 6400 FO), (f1, aI G 6400 F1)] ++ tpool G TL) (sp_poolR [1, 2, 3, 4, 5, 6, 7, 8, 9, 10, 11] [0] rfl rfl rfl) 0 rfl rfl rfl rfl rfl (Nat.le_of_ble_eq_true rfl) (by decide) (by decide) (by decide) (by decide) d_Mo_compare_35 (fun r w' hq => ?_)
          obtain ⟨rfl, rfl⟩ := hq
          refine v_swap ?_
          show vv K ({ frames := 2, cells := 0, slots := 0, locals := 90 } : Room) G 9 0 0 ([(pa, aI G 5000 P), (ca, aI G 5000 C9), (la, aI G 500 LN), (ro, aI G 1500 RW), (co, aI G 500 CO), (ea, aI G 16000 EA), (tx, aII G 4 tf), (sz, aI G 4 SZ), (lf, aI G 200 LF), (fo, aI G 6400 FO), (f1, aI G 6400 F1), (h, ob 7 [.int (nI 1), .ref pa, .ref ca, .int (nI nc), .ref la, .ref ro, .ref co, .ref ea, .int (nI A.length), .int td, .ref tx, .ref sz, .ref lf, .int (nI lz), .ref fo, .int (nI fz), .ref f1])] ++ tpool G TL) 38 [(0, .ref h), (1, .int rr), (2, .int uu), (3, .int nn), (4, .int (nI sh))] [.int (nI 0)]
          refine v_wsubP [11, 0, 1, 2, 3, 4, 5, 6, 7, 8, 9, 10] ([(h, ob 7 [.int (nI 1), .ref pa, .ref ca, .int (nI nc), .ref la, .ref ro, .ref co, .ref ea, .int (nI A.length), .int td, .ref tx, .ref sz, .ref lf, .int (nI lz), .ref fo, .int (nI fz), .ref f1]), (pa, aI G 5000 P), (ca, aI G 5000 C9), (la, aI G 500 LN), (ro, aI G 1500 RW), (co, aI G 500 CO), (ea, aI G 16000 EA), (tx, aII G 4 tf), (sz, aI G 4 SZ), (lf, aI G 200 LF), (fo, aI G 6400 FO), (f1, aI G 6400 F1)]) rfl rfl ?_
          exact v_iret (pc := 38) C X d_Mo_compare_38 ⟨by rw [show spCompare (cl, A, told, rws) rr uu nn sh = (1, nI 0, (cl, A, told, rws)) by unfold spCompare; rw [if_pos (Or.inr (Or.inl (Or.inr h4)))]], by rw [show spCompare (cl, A, told, rws) rr uu nn sh = (1, nI 0, (cl, A, told, rws)) by unfold spCompare; rw [if_pos (Or.inr (Or.inl (Or.inr h4)))]]; exact ⟨pa, ca, la, ro, co, ea, tx, sz, lf, fo, f1, nc, lz, fz, td, P, C9, LN, RW, CO, EA, SZ, LF, FO, F1, tf, TL, rfl, hnc, hk5, hC, hA, hLM, hEM, htd, hti, hTx, hTf⟩⟩ (by decide) (by decide)
        · refine v_iload_n (pc := 23) C 3 d_Mo_compare_23 rfl rfl ?_
          refine v_iconst (pc := 24) C (nI 1) d_Mo_compare_24 (by decide +kernel) ?_
          refine v_icmp_lt (pc := 25) C 33 d_Mo_compare_25 (by decide) (fun h5 => ?_) (fun h5 => ?_)
          · refine v_aload_n (pc := 33) C 0 d_Mo_compare_33 rfl rfl ?_
            refine v_iconst (pc := 34) C (nI 1) d_Mo_compare_34 (by decide +kernel) ?_
            refine v_callV (pc := 35) (As := [.int (nI 1)]) (rest := []) C (c_Mo_fail _ G h pa ca la ro co ea tx sz lf fo f1 (nI 0) td nc A.length lz fz 1) l_Mo_63 ([(pa, aI G 5000 P), (ca, aI G 5000 C9), (la, aI G 500 LN), (ro, aI G 1500 RW), (co, aI G 500 CO), (ea, aI G 16000 EA), (tx, aII G 4 tf), (sz, aI G 4 SZ), (lf, aI G 200 LF), (fo, aI G 6400 FO), (f1, aI G 6400 F1)] ++ tpool G TL) (sp_poolR [1, 2, 3, 4, 5, 6, 7, 8, 9, 10, 11] [0] rfl rfl rfl) 0 rfl rfl rfl rfl rfl (Nat.le_of_ble_eq_true rfl) (by decide) (by decide) (by decide) (by decide) d_Mo_compare_35 (fun r w' hq => ?_)
            obtain ⟨rfl, rfl⟩ := hq
            refine v_swap ?_
            show vv K ({ frames := 2, cells := 0, slots := 0, locals := 90 } : Room) G 9 0 0 ([(pa, aI G 5000 P), (ca, aI G 5000 C9), (la, aI G 500 LN), (ro, aI G 1500 RW), (co, aI G 500 CO), (ea, aI G 16000 EA), (tx, aII G 4 tf), (sz, aI G 4 SZ), (lf, aI G 200 LF), (fo, aI G 6400 FO), (f1, aI G 6400 F1), (h, ob 7 [.int (nI 1), .ref pa, .ref ca, .int (nI nc), .ref la, .ref ro, .ref co, .ref ea, .int (nI A.length), .int td, .ref tx, .ref sz, .ref lf, .int (nI lz), .ref fo, .int (nI fz), .ref f1])] ++ tpool G TL) 38 [(0, .ref h), (1, .int rr), (2, .int uu), (3, .int nn), (4, .int (nI sh))] [.int (nI 0)]
            refine v_wsubP [11, 0, 1, 2, 3, 4, 5, 6, 7, 8, 9, 10] ([(h, ob 7 [.int (nI 1), .ref pa, .ref ca, .int (nI nc), .ref la, .ref ro, .ref co, .ref ea, .int (nI A.length), .int td, .ref tx, .ref sz, .ref lf, .int (nI lz), .ref fo, .int (nI fz), .ref f1]), (pa, aI G 5000 P), (ca, aI G 5000 C9), (la, aI G 500 LN), (ro, aI G 1500 RW), (co, aI G 500 CO), (ea, aI G 16000 EA), (tx, aII G 4 tf), (sz, aI G 4 SZ), (lf, aI G 200 LF), (fo, aI G 6400 FO), (f1, aI G 6400 F1)]) rfl rfl ?_
            exact v_iret (pc := 38) C X d_Mo_compare_38 ⟨by rw [show spCompare (cl, A, told, rws) rr uu nn sh = (1, nI 0, (cl, A, told, rws)) by unfold spCompare; rw [if_pos (Or.inr (Or.inr (Or.inl h5)))]], by rw [show spCompare (cl, A, told, rws) rr uu nn sh = (1, nI 0, (cl, A, told, rws)) by unfold spCompare; rw [if_pos (Or.inr (Or.inr (Or.inl h5)))]]; exact ⟨pa, ca, la, ro, co, ea, tx, sz, lf, fo, f1, nc, lz, fz, td, P, C9, LN, RW, CO, EA, SZ, LF, FO, F1, tf, TL, rfl, hnc, hk5, hC, hA, hLM, hEM, htd, hti, hTx, hTf⟩⟩ (by decide) (by decide)
          · refine v_iload_n (pc := 28) C 3 d_Mo_compare_28 rfl rfl ?_
            refine v_iconst (pc := 29) C (nI 4) d_Mo_compare_29 (by decide +kernel) ?_
            refine v_icmp_le (pc := 30) C 39 d_Mo_compare_30 (by decide) (fun h6 => ?_) (fun h6 => ?_)
            · obtain ⟨rj, hrj, rfl⟩ := nb_nat (M := 3) (x := rr) (by decide) (fun z => z.elim h1 h2)
              obtain ⟨uj, huj, rfl⟩ := nb_nat (M := 3) (x := uu) (by decide) (fun z => z.elim h3 h4)
              obtain ⟨nj, hn1, hn4, rfl⟩ := rng (by decide) (by decide) h5 (Int32.not_lt.mpr h6)
              obtain ⟨y, row, hy, hrow, hyo, hyz⟩ := txs_row hTx hrj
              obtain ⟨ES, hES⟩ : ∃ u, takeR (fun k => fndA k A) cl (esA A) 200 row = u := ⟨_, rfl⟩
              obtain ⟨TA, TB9, e1, -, -⟩ := lset_split hy
              rw [show tpool G TL = tpool G (TA ++ y :: TB9) by rw [← e1]]
              refine v_tout ?_
              show vv K ({ frames := 2, cells := 0, slots := 0, locals := 90 } : Room) G 9 0 0 ([(h, ob 7 [.int (nI 0), .ref pa, .ref ca, .int (nI nc), .ref la, .ref ro, .ref co, .ref ea, .int (nI A.length), .int td, .ref tx, .ref sz, .ref lf, .int (nI lz), .ref fo, .int (nI fz), .ref f1]), (pa, aI G 5000 P), (ca, aI G 5000 C9), (la, aI G 500 LN), (ro, aI G 1500 RW), (co, aI G 500 CO), (ea, aI G 16000 EA), (tx, aII G 4 tf), (sz, aI G 4 SZ), (lf, aI G 200 LF), (fo, aI G 6400 FO), (f1, aI G 6400 F1), (y.1, aI G 200 y.2)] ++ tpool G (TA ++ TB9)) 39 [(0, .ref h), (1, .int (nI rj)), (2, .int (nI uj)), (3, .int (nI nj)), (4, .int (nI sh))] []
              refine v_aload_n (pc := 39) C 0 d_Mo_compare_39 rfl rfl ?_
              refine v_iload_n (pc := 40) C 1 d_Mo_compare_40 rfl rfl ?_
              refine v_iload (pc := 41) C 4 d_Mo_compare_41 rfl ?_
              refine v_callV (pc := 43) (As := [.int (nI rj), .int (nI sh)]) (rest := []) C (c_Mo_take _ G h pa ca la ro co ea tx sz lf fo f1 (nI 0) td nc lz fz y.1 rj sh P C9 LN RW CO EA SZ LF FO y.2 tf cl A row ES (by omega) hC hA hLM hEM hrj (hTf rj y hy) hyo hyz hsh hES) l_Mo_97 ([(f1, aI G 6400 F1)] ++ tpool G (TA ++ TB9)) (sp_poolR [11] [0, 1, 2, 3, 4, 5, 6, 7, 8, 9, 10, 12] rfl rfl rfl) 0 rfl rfl rfl rfl rfl (Nat.le_of_ble_eq_true rfl) (by decide) (by decide) (by decide) (by decide) d_Mo_compare_43 (fun r w' hq => ?_)
              obtain ⟨rfl, lz7, LF7, FO7, rfl, hF7, hl7, hok7⟩ := hq
              refine v_swap ?_
              show vv K ({ frames := 2, cells := 0, slots := 0, locals := 90 } : Room) G 9 0 0 ([(f1, aI G 6400 F1), (h, ob 7 [.int (nI 0), .ref pa, .ref ca, .int (nI nc), .ref la, .ref ro, .ref co, .ref ea, .int (nI A.length), .int td, .ref tx, .ref sz, .ref lf, .int (nI lz7), .ref fo, .int (nI ES.length), .ref f1]), (pa, aI G 5000 P), (ca, aI G 5000 C9), (la, aI G 500 LN), (ro, aI G 1500 RW), (co, aI G 500 CO), (ea, aI G 16000 EA), (tx, aII G 4 tf), (sz, aI G 4 SZ), (lf, aI G 200 LF7), (fo, aI G 6400 FO7), (y.1, aI G 200 y.2)] ++ tpool G (TA ++ TB9)) 46 [(0, .ref h), (1, .int (nI rj)), (2, .int (nI uj)), (3, .int (nI nj)), (4, .int (nI sh))] []
              refine v_wsubP [1, 2, 3, 4, 5, 6, 7, 8, 9, 10, 11, 0, 12] ([(h, ob 7 [.int (nI 0), .ref pa, .ref ca, .int (nI nc), .ref la, .ref ro, .ref co, .ref ea, .int (nI A.length), .int td, .ref tx, .ref sz, .ref lf, .int (nI lz7), .ref fo, .int (nI ES.length), .ref f1]), (pa, aI G 5000 P), (ca, aI G 5000 C9), (la, aI G 500 LN), (ro, aI G 1500 RW), (co, aI G 500 CO), (ea, aI G 16000 EA), (tx, aII G 4 tf), (sz, aI G 4 SZ), (lf, aI G 200 LF7), (fo, aI G 6400 FO7), (f1, aI G 6400 F1), (y.1, aI G 200 y.2)]) rfl rfl ?_
              refine v_tin (X := [(h, ob 7 [.int (nI 0), .ref pa, .ref ca, .int (nI nc), .ref la, .ref ro, .ref co, .ref ea, .int (nI A.length), .int td, .ref tx, .ref sz, .ref lf, .int (nI lz7), .ref fo, .int (nI ES.length), .ref f1]), (pa, aI G 5000 P), (ca, aI G 5000 C9), (la, aI G 500 LN), (ro, aI G 1500 RW), (co, aI G 500 CO), (ea, aI G 16000 EA), (tx, aII G 4 tf), (sz, aI G 4 SZ), (lf, aI G 200 LF7), (fo, aI G 6400 FO7), (f1, aI G 6400 F1)]) (y := y) ?_
              rw [← e1]
              show vv K ({ frames := 2, cells := 0, slots := 0, locals := 90 } : Room) G 9 0 0 ([(h, ob 7 [.int (nI 0), .ref pa, .ref ca, .int (nI nc), .ref la, .ref ro, .ref co, .ref ea, .int (nI A.length), .int td, .ref tx, .ref sz, .ref lf, .int (nI lz7), .ref fo, .int (nI ES.length), .ref f1]), (pa, aI G 5000 P), (ca, aI G 5000 C9), (la, aI G 500 LN), (ro, aI G 1500 RW), (co, aI G 500 CO), (ea, aI G 16000 EA), (tx, aII G 4 tf), (sz, aI G 4 SZ), (lf, aI G 200 LF7), (fo, aI G 6400 FO7), (f1, aI G 6400 F1)] ++ tpool G TL) 46 [(0, .ref h), (1, .int (nI rj)), (2, .int (nI uj)), (3, .int (nI nj)), (4, .int (nI sh))] []
              clear e1
              have hqa : (shL sh 0 ES).length = ES.length := shL_len _ _ _
              refine v_aload_n (pc := 46) C 0 d_Mo_compare_46 rfl rfl ?_
              refine v_get (pc := 47) (Cn := "WeightOrderModel") (T := T_Mo) (N := 17) (ci := 7) (v := .int (nI ES.length)) C 0 15 rfl rfl hin_Mo (by decide) rfl k_477 rfl d_Mo_compare_47 ?_
              refine v_istore (pc := 50) C [(5, .int (nI ES.length)), (0, .ref h), (1, .int (nI rj)), (2, .int (nI uj)), (3, .int (nI nj)), (4, .int (nI sh))] d_Mo_compare_50 (by decide) rfl ?_
              refine v_iconst (pc := 52) C (nI 0) d_Mo_compare_52 (by decide +kernel) ?_
              refine v_istore (pc := 53) C [(6, .int (nI 0)), (5, .int (nI ES.length)), (0, .ref h), (1, .int (nI rj)), (2, .int (nI uj)), (3, .int (nI nj)), (4, .int (nI sh))] d_Mo_compare_53 (by decide) rfl ?_
              have cp : ∀ (d : Nat) (k : Nat) (F1 : Nat → Int32), 4 * ES.length - k < d → (k ≤ 4 * ES.length) → (∀ j, j < k → F1 j = FO7 j) → vv K ({ frames := 2, cells := 0, slots := 0, locals := 90 } : Room) G 9 0 0 ([(h, ob 7 [.int (nI 0), .ref pa, .ref ca, .int (nI nc), .ref la, .ref ro, .ref co, .ref ea, .int (nI A.length), .int td, .ref tx, .ref sz, .ref lf, .int (nI lz7), .ref fo, .int (nI ES.length), .ref f1]), (pa, aI G 5000 P), (ca, aI G 5000 C9), (la, aI G 500 LN), (ro, aI G 1500 RW), (co, aI G 500 CO), (ea, aI G 16000 EA), (tx, aII G 4 tf), (sz, aI G 4 SZ), (lf, aI G 200 LF7), (fo, aI G 6400 FO7), (f1, aI G 6400 F1)] ++ tpool G TL) 55 [(6, .int (nI k)), (5, .int (nI ES.length)), (0, .ref h), (2, .int (nI uj)), (3, .int (nI nj)), (4, .int (nI sh))] [] := by
                intro d
                induction d with
                | zero => intro k F1 hm; exact absurd hm (Nat.not_lt_zero _)
                | succ d ih =>
                  intro k F1 hm hk hg
                  refine v_iload (pc := 55) C 0 d_Mo_compare_55 rfl ?_
                  refine v_iconst (pc := 57) C (nI 4) d_Mo_compare_57 (by decide +kernel) ?_
                  refine v_iload (pc := 58) C 1 d_Mo_compare_58 rfl ?_
                  refine v_imul (pc := 60) C (nI (4 * ES.length)) d_Mo_compare_60 (pk_mul _ _) ?_
                  refine v_icmpN_ge (pc := 61) C 84 k (4 * ES.length) d_Mo_compare_61 (by decide) (by omega) (by omega) (fun hc => ?_) (fun hc => ?_)
                  · have hG := fos_copy (g := F1) hF7 (fun j hj => hg j (by rw [hqa] at hj; omega))
                    obtain ⟨z, row2, hz, hrow2, hzo, hzz⟩ := txs_row hTx huj
                    obtain ⟨ET, hET⟩ : ∃ u, takeR (fun k => fndA k A) cl (esA A) 200 row2 = u := ⟨_, rfl⟩
                    obtain ⟨TA, TB9, e1, -, -⟩ := lset_split hz
                    rw [show tpool G TL = tpool G (TA ++ z :: TB9) by rw [← e1]]
                    refine v_tout ?_
                    show vv K ({ frames := 2, cells := 0, slots := 0, locals := 90 } : Room) G 9 0 0 ([(h, ob 7 [.int (nI 0), .ref pa, .ref ca, .int (nI nc), .ref la, .ref ro, .ref co, .ref ea, .int (nI A.length), .int td, .ref tx, .ref sz, .ref lf, .int (nI lz7), .ref fo, .int (nI ES.length), .ref f1]), (pa, aI G 5000 P), (ca, aI G 5000 C9), (la, aI G 500 LN), (ro, aI G 1500 RW), (co, aI G 500 CO), (ea, aI G 16000 EA), (tx, aII G 4 tf), (sz, aI G 4 SZ), (lf, aI G 200 LF7), (fo, aI G 6400 FO7), (f1, aI G 6400 F1), (z.1, aI G 200 z.2)] ++ tpool G (TA ++ TB9)) 84 [(6, .int (nI k)), (5, .int (nI ES.length)), (0, .ref h), (2, .int (nI uj)), (3, .int (nI nj)), (4, .int (nI sh))] []
                    refine v_aload_n (pc := 84) C 2 d_Mo_compare_84 rfl rfl ?_
                    refine v_iload_n (pc := 85) C 3 d_Mo_compare_85 rfl rfl ?_
                    refine v_iload (pc := 86) C 5 d_Mo_compare_86 rfl ?_
                    refine v_callV (pc := 88) (As := [.int (nI uj), .int (nI sh)]) (rest := []) C (c_Mo_take _ G h pa ca la ro co ea tx sz lf fo f1 (nI 0) td nc lz7 ES.length z.1 uj sh P C9 LN RW CO EA SZ LF7 FO7 z.2 tf cl A row2 ET (by omega) hC hA hLM hEM huj (hTf uj z hz) hzo hzz hsh hET) l_Mo_97 ([(f1, aI G 6400 F1)] ++ tpool G (TA ++ TB9)) (sp_poolR [11] [0, 1, 2, 3, 4, 5, 6, 7, 8, 9, 10, 12] rfl rfl rfl) 0 rfl rfl rfl rfl rfl (Nat.le_of_ble_eq_true rfl) (by decide) (by decide) (by decide) (by decide) d_Mo_compare_88 (fun r w' hq => ?_)
                    obtain ⟨rfl, lz8, LF8, FO8, rfl, hF8, hl8, hok8⟩ := hq
                    refine v_swap ?_
                    show vv K ({ frames := 2, cells := 0, slots := 0, locals := 90 } : Room) G 9 0 0 ([(f1, aI G 6400 F1), (h, ob 7 [.int (nI 0), .ref pa, .ref ca, .int (nI nc), .ref la, .ref ro, .ref co, .ref ea, .int (nI A.length), .int td, .ref tx, .ref sz, .ref lf, .int (nI lz8), .ref fo, .int (nI ET.length), .ref f1]), (pa, aI G 5000 P), (ca, aI G 5000 C9), (la, aI G 500 LN), (ro, aI G 1500 RW), (co, aI G 500 CO), (ea, aI G 16000 EA), (tx, aII G 4 tf), (sz, aI G 4 SZ), (lf, aI G 200 LF8), (fo, aI G 6400 FO8), (z.1, aI G 200 z.2)] ++ tpool G (TA ++ TB9)) 91 [(6, .int (nI k)), (5, .int (nI ES.length)), (0, .ref h), (2, .int (nI uj)), (3, .int (nI nj)), (4, .int (nI sh))] []
                    refine v_wsubP [1, 2, 3, 4, 5, 6, 7, 8, 9, 10, 11, 0, 12] ([(h, ob 7 [.int (nI 0), .ref pa, .ref ca, .int (nI nc), .ref la, .ref ro, .ref co, .ref ea, .int (nI A.length), .int td, .ref tx, .ref sz, .ref lf, .int (nI lz8), .ref fo, .int (nI ET.length), .ref f1]), (pa, aI G 5000 P), (ca, aI G 5000 C9), (la, aI G 500 LN), (ro, aI G 1500 RW), (co, aI G 500 CO), (ea, aI G 16000 EA), (tx, aII G 4 tf), (sz, aI G 4 SZ), (lf, aI G 200 LF8), (fo, aI G 6400 FO8), (f1, aI G 6400 F1), (z.1, aI G 200 z.2)]) rfl rfl ?_
                    refine v_tin (X := [(h, ob 7 [.int (nI 0), .ref pa, .ref ca, .int (nI nc), .ref la, .ref ro, .ref co, .ref ea, .int (nI A.length), .int td, .ref tx, .ref sz, .ref lf, .int (nI lz8), .ref fo, .int (nI ET.length), .ref f1]), (pa, aI G 5000 P), (ca, aI G 5000 C9), (la, aI G 500 LN), (ro, aI G 1500 RW), (co, aI G 500 CO), (ea, aI G 16000 EA), (tx, aII G 4 tf), (sz, aI G 4 SZ), (lf, aI G 200 LF8), (fo, aI G 6400 FO8), (f1, aI G 6400 F1)]) (y := z) ?_
                    rw [← e1]
                    show vv K ({ frames := 2, cells := 0, slots := 0, locals := 90 } : Room) G 9 0 0 ([(h, ob 7 [.int (nI 0), .ref pa, .ref ca, .int (nI nc), .ref la, .ref ro, .ref co, .ref ea, .int (nI A.length), .int td, .ref tx, .ref sz, .ref lf, .int (nI lz8), .ref fo, .int (nI ET.length), .ref f1]), (pa, aI G 5000 P), (ca, aI G 5000 C9), (la, aI G 500 LN), (ro, aI G 1500 RW), (co, aI G 500 CO), (ea, aI G 16000 EA), (tx, aII G 4 tf), (sz, aI G 4 SZ), (lf, aI G 200 LF8), (fo, aI G 6400 FO8), (f1, aI G 6400 F1)] ++ tpool G TL) 91 [(6, .int (nI k)), (5, .int (nI ES.length)), (0, .ref h), (2, .int (nI uj)), (3, .int (nI nj)), (4, .int (nI sh))] []
                    clear e1
                    have hqb : (shL sh 0 ET).length = ET.length := shL_len _ _ _
                    have hoa := fun e he => shL_ok (sh := sh) (b := 0) hok7 e he
                    have hob := fun e he => shL_ok (sh := sh) (b := 0) hok8 e he
                    have hsp : spCompare (cl, A, told, rws) (nI rj) (nI uj) (nI nj) sh = (0, cmpTo (shL sh 0 ES) (shL sh 0 ET) nj, (cl, A, told, rws)) := by unfold spCompare qs; rw [if_neg (fun q => q.elim (nbad hrj (by decide)) (fun q => q.elim (nbad huj (by decide)) (fun q => q.elim (nlt_nI hn1 (by omega)) (nlt_nI hn4 (by decide))))), toN_nI (by omega), toN_nI (by omega), toN_nI (by omega), els_m hrow, els_m hrow2, hES, hET]
                    have h43 : sh = 0 → cmpTo (shL sh 0 ES) (shL sh 0 ET) 3 = 0 → cmpTo (shL sh 0 ES) (shL sh 0 ET) 4 = 0 := by
                      intro h0 h9
                      subst h0
                      show (if cmpTo _ _ 3 = 0 then cmpL (lvlL _ 3) (lvlL _ 3) else _) = 0
                      rw [if_pos h9, lvl0_3, lvl0_3]; rfl
                    generalize shL sh 0 ES = QA at hG hqa hoa hsp h43
                    generalize shL sh 0 ET = QB at hF8 hqb hob hsp h43
                    have hda : ∀ i, i < QA.length → QA[i]? = some (QA.getD i (0, 0, 0, 0)) := fun i hi => by rw [List.getD_eq_getElem?_getD, List.getElem?_eq_getElem hi]; rfl
                    have hdb : ∀ i, i < QB.length → QB[i]? = some (QB.getD i (0, 0, 0, 0)) := fun i hi => by rw [List.getD_eq_getElem?_getD, List.getElem?_eq_getElem hi]; rfl
                    refine v_iconst (pc := 91) C (nI 0) d_Mo_compare_91 (by decide +kernel) ?_
                    refine v_istore (pc := 92) C [(6, .int (nI 0)), (5, .int (nI ES.length)), (0, .ref h), (2, .int (nI uj)), (3, .int (nI nj)), (4, .int (nI sh))] d_Mo_compare_92 (by decide) rfl ?_
                    have lv : ∀ (d2 : Nat) (wh : Nat), 4 - wh < d2 → (wh ≤ nj) → (cmpTo QA QB wh = 0) → vv K ({ frames := 2, cells := 0, slots := 0, locals := 90 } : Room) G 9 0 0 ([(h, ob 7 [.int (nI 0), .ref pa, .ref ca, .int (nI nc), .ref la, .ref ro, .ref co, .ref ea, .int (nI A.length), .int td, .ref tx, .ref sz, .ref lf, .int (nI lz8), .ref fo, .int (nI ET.length), .ref f1]), (pa, aI G 5000 P), (ca, aI G 5000 C9), (la, aI G 500 LN), (ro, aI G 1500 RW), (co, aI G 500 CO), (ea, aI G 16000 EA), (tx, aII G 4 tf), (sz, aI G 4 SZ), (lf, aI G 200 LF8), (fo, aI G 6400 FO8), (f1, aI G 6400 F1)] ++ tpool G TL) 94 [(6, .int (nI wh)), (5, .int (nI ES.length)), (0, .ref h), (3, .int (nI nj)), (4, .int (nI sh))] [] := by
                      intro d2
                      induction d2 with
                      | zero => intro wh hm; exact absurd hm (Nat.not_lt_zero _)
                      | succ d2 ih2 =>
                        intro wh hm hwh hz
                        refine v_iload (pc := 94) C 0 d_Mo_compare_94 rfl ?_
                        refine v_iload_n (pc := 96) C 3 d_Mo_compare_96 rfl rfl ?_
                        refine v_icmpN_ge (pc := 97) C 298 wh nj d_Mo_compare_97 (by decide) (by omega) (by omega) (fun hc2 => ?_) (fun hc2 => ?_)
                        · refine v_iconst (pc := 298) C (nI 0) d_Mo_compare_298 (by decide +kernel) ?_
                          exact v_iret (pc := 299) C X d_Mo_compare_299 ⟨by rw [hsp]; rw [show nj = wh by omega, hz]; rfl, by rw [hsp]; exact ⟨pa, ca, la, ro, co, ea, tx, sz, lf, fo, f1, nc, lz8, ET.length, td, P, C9, LN, RW, CO, EA, SZ, LF8, FO8, F1, tf, TL, rfl, hnc, hk5, hC, hA, hLM, hEM, htd, hti, hTx, hTf⟩⟩ (by decide) (by decide)
                        · refine v_iload (pc := 100) C 0 d_Mo_compare_100 rfl ?_
                          refine v_iconst (pc := 102) C (nI 3) d_Mo_compare_102 (by decide +kernel) ?_
                          refine v_icmpN_lt (pc := 103) C 111 wh 3 d_Mo_compare_103 (by decide) (by omega) (by omega) (fun hc3 => ?_) (fun hc3 => ?_)
                          · have hw3 : wh ≤ 3 := by omega
                            have hva : ∀ i, i < ES.length → F1 (4 * i + wh) = nI (comp (QA.getD i (0, 0, 0, 0)) wh) ∧ comp (QA.getD i (0, 0, 0, 0)) wh < 65536 := fun i hi => ⟨fos_comp hG (hda i (by omega)) hw3, comp_lt (hoa _ (List.mem_of_getElem? (hda i (by omega))))⟩
                            have hvb : ∀ i, i < ET.length → FO8 (4 * i + wh) = nI (comp (QB.getD i (0, 0, 0, 0)) wh) ∧ comp (QB.getD i (0, 0, 0, 0)) wh < 65536 := fun i hi => ⟨fos_comp hF8 (hdb i (by omega)) hw3, comp_lt (hob _ (List.mem_of_getElem? (hdb i (by omega))))⟩
                            have hcs : cmpTo QA QB (wh + 1) = cmpL (nz (fun i => comp (QA.getD i (0, 0, 0, 0)) wh) ES.length 0) (nz (fun i => comp (QB.getD i (0, 0, 0, 0)) wh) ET.length 0) := by show (if cmpTo QA QB wh = 0 then _ else _) = _; rw [if_pos hz, ← hqa, ← hqb, nz_comp, nz_comp]
                            refine v_iconst (pc := 111) C (nI 0) d_Mo_compare_111 (by decide +kernel) ?_
                            refine v_istore (pc := 112) C [(7, .int (nI 0)), (6, .int (nI wh)), (5, .int (nI ES.length)), (0, .ref h), (3, .int (nI nj)), (4, .int (nI sh))] d_Mo_compare_112 (by decide) rfl ?_
                            refine v_iconst (pc := 114) C (nI 0) d_Mo_compare_114 (by decide +kernel) ?_
                            refine v_istore (pc := 115) C [(8, .int (nI 0)), (7, .int (nI 0)), (6, .int (nI wh)), (5, .int (nI ES.length)), (0, .ref h), (3, .int (nI nj)), (4, .int (nI sh))] d_Mo_compare_115 (by decide) rfl ?_
                            have il : ∀ (d3 : Nat) (i : Nat) (j : Nat), (ES.length - i) + (ET.length - j) < d3 → (i ≤ ES.length) → (j ≤ ET.length) → (cmpL (nz (fun i => comp (QA.getD i (0, 0, 0, 0)) wh) ES.length i) (nz (fun i => comp (QB.getD i (0, 0, 0, 0)) wh) ET.length j) = cmpTo QA QB (wh + 1)) → vv K ({ frames := 2, cells := 0, slots := 0, locals := 90 } : Room) G 9 0 0 ([(h, ob 7 [.int (nI 0), .ref pa, .ref ca, .int (nI nc), .ref la, .ref ro, .ref co, .ref ea, .int (nI A.length), .int td, .ref tx, .ref sz, .ref lf, .int (nI lz8), .ref fo, .int (nI ET.length), .ref f1]), (pa, aI G 5000 P), (ca, aI G 5000 C9), (la, aI G 500 LN), (ro, aI G 1500 RW), (co, aI G 500 CO), (ea, aI G 16000 EA), (tx, aII G 4 tf), (sz, aI G 4 SZ), (lf, aI G 200 LF8), (fo, aI G 6400 FO8), (f1, aI G 6400 F1)] ++ tpool G TL) 117 [(7, .int (nI i)), (8, .int (nI j)), (6, .int (nI wh)), (5, .int (nI ES.length)), (0, .ref h), (3, .int (nI nj)), (4, .int (nI sh))] [] := by
                              intro d3
                              induction d3 with
                              | zero => intro i j hm; exact absurd hm (Nat.not_lt_zero _)
                              | succ d3 ih3 =>
                                intro i j hm hi hj heq
                                have jl : ∀ (d4 : Nat) (j9 : Nat), ET.length - j9 < d4 → (j ≤ j9) → (j9 ≤ ET.length) → (i < ES.length → comp (QA.getD i (0, 0, 0, 0)) wh ≠ 0) → (cmpL (nz (fun i => comp (QA.getD i (0, 0, 0, 0)) wh) ES.length i) (nz (fun i => comp (QB.getD i (0, 0, 0, 0)) wh) ET.length j9) = cmpTo QA QB (wh + 1)) → vv K ({ frames := 2, cells := 0, slots := 0, locals := 90 } : Room) G 9 0 0 ([(h, ob 7 [.int (nI 0), .ref pa, .ref ca, .int (nI nc), .ref la, .ref ro, .ref co, .ref ea, .int (nI A.length), .int td, .ref tx, .ref sz, .ref lf, .int (nI lz8), .ref fo, .int (nI ET.length), .ref f1]), (pa, aI G 5000 P), (ca, aI G 5000 C9), (la, aI G 500 LN), (ro, aI G 1500 RW), (co, aI G 500 CO), (ea, aI G 16000 EA), (tx, aII G 4 tf), (sz, aI G 4 SZ), (lf, aI G 200 LF8), (fo, aI G 6400 FO8), (f1, aI G 6400 F1)] ++ tpool G TL) 145 [(7, .int (nI i)), (8, .int (nI j9)), (6, .int (nI wh)), (5, .int (nI ES.length)), (0, .ref h), (3, .int (nI nj)), (4, .int (nI sh))] [] := by
                                  intro d4
                                  induction d4 with
                                  | zero => intro j9 hm; exact absurd hm (Nat.not_lt_zero _)
                                  | succ d4 ih4 =>
                                    intro j9 hm hj0 hj9 hia heq9
                                    have k175 : (j9 < ET.length → comp (QB.getD j9 (0, 0, 0, 0)) wh ≠ 0) → vv K ({ frames := 2, cells := 0, slots := 0, locals := 90 } : Room) G 9 0 0 ([(h, ob 7 [.int (nI 0), .ref pa, .ref ca, .int (nI nc), .ref la, .ref ro, .ref co, .ref ea, .int (nI A.length), .int td, .ref tx, .ref sz, .ref lf, .int (nI lz8), .ref fo, .int (nI ET.length), .ref f1]), (pa, aI G 5000 P), (ca, aI G 5000 C9), (la, aI G 500 LN), (ro, aI G 1500 RW), (co, aI G 500 CO), (ea, aI G 16000 EA), (tx, aII G 4 tf), (sz, aI G 4 SZ), (lf, aI G 200 LF8), (fo, aI G 6400 FO8), (f1, aI G 6400 F1)] ++ tpool G TL) 175 [(7, .int (nI i)), (8, .int (nI j9)), (6, .int (nI wh)), (5, .int (nI ES.length)), (0, .ref h), (3, .int (nI nj)), (4, .int (nI sh))] [] := by
                                      intro  hjb
                                      have stay := fun (hx : ¬ cmpTo QA QB (wh + 1) = 0) => cmpTo_stay hx nj (by omega)
                                      have k263 : (i = ES.length ∨ j9 = ET.length) → vv K ({ frames := 2, cells := 0, slots := 0, locals := 90 } : Room) G 9 0 0 ([(h, ob 7 [.int (nI 0), .ref pa, .ref ca, .int (nI nc), .ref la, .ref ro, .ref co, .ref ea, .int (nI A.length), .int td, .ref tx, .ref sz, .ref lf, .int (nI lz8), .ref fo, .int (nI ET.length), .ref f1]), (pa, aI G 5000 P), (ca, aI G 5000 C9), (la, aI G 500 LN), (ro, aI G 1500 RW), (co, aI G 500 CO), (ea, aI G 16000 EA), (tx, aII G 4 tf), (sz, aI G 4 SZ), (lf, aI G 200 LF8), (fo, aI G 6400 FO8), (f1, aI G 6400 F1)] ++ tpool G TL) 263 [(7, .int (nI i)), (8, .int (nI j9)), (6, .int (nI wh)), (5, .int (nI ES.length)), (0, .ref h), (3, .int (nI nj)), (4, .int (nI sh))] [] := by
                                        intro  hend
                                        refine v_iload (pc := 263) C 0 d_Mo_compare_263 rfl ?_
                                        refine v_iload (pc := 265) C 3 d_Mo_compare_265 rfl ?_
                                        refine v_icmpN_lt (pc := 267) C 279 i ES.length d_Mo_compare_267 (by decide) (by omega) (by omega) (fun g1 => ?_) (fun g1 => ?_)
                                        · have hv9 : cmpTo QA QB (wh + 1) = nI 1 := by rw [← heq9, nz_cons g1 (hia g1), nz_end (n := ET.length) (by omega)]; rfl
                                          refine v_iload (pc := 279) C 0 d_Mo_compare_279 rfl ?_
                                          refine v_iload (pc := 281) C 3 d_Mo_compare_281 rfl ?_
                                          refine v_icmpN_ge (pc := 283) C 290 i ES.length d_Mo_compare_283 (by decide) (by omega) (by omega) (fun g2 => ?_) (fun g2 => ?_)
                                          · omega
                                          · refine v_iconst (pc := 286) C (nI 1) d_Mo_compare_286 (by decide +kernel) ?_
                                            refine v_goto (pc := 287) C 291 d_Mo_compare_287 (by decide) ?_
                                            exact v_iret (pc := 291) C X d_Mo_compare_291 ⟨by rw [hsp]; rw [stay (by rw [hv9]; decide), hv9], by rw [hsp]; exact ⟨pa, ca, la, ro, co, ea, tx, sz, lf, fo, f1, nc, lz8, ET.length, td, P, C9, LN, RW, CO, EA, SZ, LF8, FO8, F1, tf, TL, rfl, hnc, hk5, hC, hA, hLM, hEM, htd, hti, hTx, hTf⟩⟩ (by decide) (by decide)
                                        · refine v_iload (pc := 270) C 1 d_Mo_compare_270 rfl ?_
                                          refine v_aload_n (pc := 272) C 4 d_Mo_compare_272 rfl rfl ?_
                                          refine v_get (pc := 273) (Cn := "WeightOrderModel") (T := T_Mo) (N := 17) (ci := 7) (v := .int (nI ET.length)) C 0 15 rfl rfl hin_Mo (by decide) rfl k_477 rfl d_Mo_compare_273 ?_
                                          refine v_icmpN_ge (pc := 276) C 292 j9 ET.length d_Mo_compare_276 (by decide) (by omega) (by omega) (fun g2 => ?_) (fun g2 => ?_)
                                          · have hv9 : cmpTo QA QB (wh + 1) = nI 0 := by rw [← heq9, nz_end (n := ES.length) (by omega), nz_end (n := ET.length) (by omega)]; rfl
                                            refine v_iinc (pc := 292) C [(6, .int (nI (wh + 1))), (7, .int (nI i)), (8, .int (nI j9)), (5, .int (nI ES.length)), (0, .ref h), (3, .int (nI nj)), (4, .int (nI sh))] 2 (nI (wh + 1)) d_Mo_compare_292 rfl (nI_inc1 _) (by decide) rfl ?_
                                            refine v_goto (pc := 295) C 94 d_Mo_compare_295 (by decide) ?_
                                            refine v_lsub [0, 3, 4, 5, 6] [(6, .int (nI (wh + 1))), (5, .int (nI ES.length)), (0, .ref h), (3, .int (nI nj)), (4, .int (nI sh))] rfl ?_
                                            exact ih2 (wh + 1) (by omega) (by omega) hv9
                                          · have hv9 : cmpTo QA QB (wh + 1) = -1 := by rw [← heq9, nz_end (n := ES.length) (by omega), nz_cons (h := (fun i => comp (QB.getD i (0, 0, 0, 0)) wh)) g2 (hjb g2)]; rfl
                                            refine v_iload (pc := 279) C 0 d_Mo_compare_279 rfl ?_
                                            refine v_iload (pc := 281) C 3 d_Mo_compare_281 rfl ?_
                                            refine v_icmpN_ge (pc := 283) C 290 i ES.length d_Mo_compare_283 (by decide) (by omega) (by omega) (fun g3 => ?_) (fun g3 => ?_)
                                            · refine v_iconst (pc := 290) C (-1) d_Mo_compare_290 (by decide +kernel) ?_
                                              exact v_iret (pc := 291) C X d_Mo_compare_291 ⟨by rw [hsp]; rw [stay (by rw [hv9]; decide), hv9], by rw [hsp]; exact ⟨pa, ca, la, ro, co, ea, tx, sz, lf, fo, f1, nc, lz8, ET.length, td, P, C9, LN, RW, CO, EA, SZ, LF8, FO8, F1, tf, TL, rfl, hnc, hk5, hC, hA, hLM, hEM, htd, hti, hTx, hTf⟩⟩ (by decide) (by decide)
                                            · omega
                                      refine v_iload (pc := 175) C 0 d_Mo_compare_175 rfl ?_
                                      refine v_iload (pc := 177) C 3 d_Mo_compare_177 rfl ?_
                                      refine v_icmpN_eq (pc := 179) C 263 i ES.length d_Mo_compare_179 (by decide) (by omega) (by omega) (fun g1 => ?_) (fun g1 => ?_)
                                      · exact k263 (Or.inl g1)
                                      · refine v_iload (pc := 182) C 1 d_Mo_compare_182 rfl ?_
                                        refine v_aload_n (pc := 184) C 4 d_Mo_compare_184 rfl rfl ?_
                                        refine v_get (pc := 185) (Cn := "WeightOrderModel") (T := T_Mo) (N := 17) (ci := 7) (v := .int (nI ET.length)) C 0 15 rfl rfl hin_Mo (by decide) rfl k_477 rfl d_Mo_compare_185 ?_
                                        refine v_icmpN_ne (pc := 188) C 194 j9 ET.length d_Mo_compare_188 (by decide) (by omega) (by omega) (fun g2 => ?_) (fun g2 => ?_)
                                        · have hin : i < ES.length := by omega
                                          have hjn : j9 < ET.length := by omega
                                          obtain ⟨va1, va2⟩ := hva i hin
                                          obtain ⟨vb1, vb2⟩ := hvb j9 hjn
                                          rw [nz_cons hin (hia hin), nz_cons hjn (hjb hjn)] at heq9
                                          have heq9 : (if comp (QA.getD i (0, 0, 0, 0)) wh < comp (QB.getD j9 (0, 0, 0, 0)) wh then (-1 : Int32) else if comp (QB.getD j9 (0, 0, 0, 0)) wh < comp (QA.getD i (0, 0, 0, 0)) wh then nI 1 else cmpL (nz (fun i => comp (QA.getD i (0, 0, 0, 0)) wh) ES.length (i + 1)) (nz (fun i => comp (QB.getD i (0, 0, 0, 0)) wh) ET.length (j9 + 1))) = cmpTo QA QB (wh + 1) := heq9
                                          refine v_aload_n (pc := 194) C 4 d_Mo_compare_194 rfl rfl ?_
                                          refine v_get (pc := 195) (Cn := "WeightOrderModel") (T := T_Mo) (N := 17) (ci := 7) (v := .ref f1) C 0 16 rfl rfl hin_Mo (by decide) rfl k_478 rfl d_Mo_compare_195 ?_
                                          refine v_iconst (pc := 198) C (nI 4) d_Mo_compare_198 (by decide +kernel) ?_
                                          refine v_iload (pc := 199) C 0 d_Mo_compare_199 rfl ?_
                                          refine v_imul (pc := 201) C (nI (4 * i)) d_Mo_compare_201 (pk_mul _ _) ?_
                                          refine v_iload (pc := 202) C 2 d_Mo_compare_202 rfl ?_
                                          refine v_iadd (pc := 204) C (nI (4 * i + wh)) d_Mo_compare_204 (nI_add _ _) ?_
                                          refine v_iald (pc := 205) C 11 rfl (4 * i + wh) rfl (by omega) (by decide) d_Mo_compare_205 ?_
                                          refine v_seti (nI (comp (QA.getD i (0, 0, 0, 0)) wh)) va1 ?_
                                          refine v_aload_n (pc := 206) C 4 d_Mo_compare_206 rfl rfl ?_
                                          refine v_get (pc := 207) (Cn := "WeightOrderModel") (T := T_Mo) (N := 17) (ci := 7) (v := .ref fo) C 0 14 rfl rfl hin_Mo (by decide) rfl k_476 rfl d_Mo_compare_207 ?_
                                          refine v_iconst (pc := 210) C (nI 4) d_Mo_compare_210 (by decide +kernel) ?_
                                          refine v_iload (pc := 211) C 1 d_Mo_compare_211 rfl ?_
                                          refine v_imul (pc := 213) C (nI (4 * j9)) d_Mo_compare_213 (pk_mul _ _) ?_
                                          refine v_iload (pc := 214) C 2 d_Mo_compare_214 rfl ?_
                                          refine v_iadd (pc := 216) C (nI (4 * j9 + wh)) d_Mo_compare_216 (nI_add _ _) ?_
                                          refine v_iald (pc := 217) C 10 rfl (4 * j9 + wh) rfl (by omega) (by decide) d_Mo_compare_217 ?_
                                          refine v_seti (nI (comp (QB.getD j9 (0, 0, 0, 0)) wh)) vb1 ?_
                                          refine v_icmpN_eq (pc := 218) C 254 (comp (QA.getD i (0, 0, 0, 0)) wh) (comp (QB.getD j9 (0, 0, 0, 0)) wh) d_Mo_compare_218 (by decide) (by omega) (by omega) (fun g3 => ?_) (fun g3 => ?_)
                                          · rw [if_neg (by omega), if_neg (by omega)] at heq9
                                            refine v_iinc (pc := 254) C [(7, .int (nI (i + 1))), (8, .int (nI j9)), (6, .int (nI wh)), (5, .int (nI ES.length)), (0, .ref h), (3, .int (nI nj)), (4, .int (nI sh))] 0 (nI (i + 1)) d_Mo_compare_254 rfl (nI_inc1 _) (by decide) rfl ?_
                                            refine v_iinc (pc := 257) C [(8, .int (nI (j9 + 1))), (7, .int (nI (i + 1))), (6, .int (nI wh)), (5, .int (nI ES.length)), (0, .ref h), (3, .int (nI nj)), (4, .int (nI sh))] 1 (nI (j9 + 1)) d_Mo_compare_257 rfl (nI_inc1 _) (by decide) rfl ?_
                                            refine v_goto (pc := 260) C 117 d_Mo_compare_260 (by decide) ?_
                                            refine v_lsub [1, 0, 2, 3, 4, 5, 6] [(7, .int (nI (i + 1))), (8, .int (nI (j9 + 1))), (6, .int (nI wh)), (5, .int (nI ES.length)), (0, .ref h), (3, .int (nI nj)), (4, .int (nI sh))] rfl ?_
                                            exact ih3 (i + 1) (j9 + 1) (by omega) (by omega) (by omega) heq9
                                          · refine v_aload_n (pc := 221) C 4 d_Mo_compare_221 rfl rfl ?_
                                            refine v_get (pc := 222) (Cn := "WeightOrderModel") (T := T_Mo) (N := 17) (ci := 7) (v := .ref f1) C 0 16 rfl rfl hin_Mo (by decide) rfl k_478 rfl d_Mo_compare_222 ?_
                                            refine v_iconst (pc := 225) C (nI 4) d_Mo_compare_225 (by decide +kernel) ?_
                                            refine v_iload (pc := 226) C 0 d_Mo_compare_226 rfl ?_
                                            refine v_imul (pc := 228) C (nI (4 * i)) d_Mo_compare_228 (pk_mul _ _) ?_
                                            refine v_iload (pc := 229) C 2 d_Mo_compare_229 rfl ?_
                                            refine v_iadd (pc := 231) C (nI (4 * i + wh)) d_Mo_compare_231 (nI_add _ _) ?_
                                            refine v_iald (pc := 232) C 11 rfl (4 * i + wh) rfl (by omega) (by decide) d_Mo_compare_232 ?_
                                            refine v_seti (nI (comp (QA.getD i (0, 0, 0, 0)) wh)) va1 ?_
                                            refine v_aload_n (pc := 233) C 4 d_Mo_compare_233 rfl rfl ?_
                                            refine v_get (pc := 234) (Cn := "WeightOrderModel") (T := T_Mo) (N := 17) (ci := 7) (v := .ref fo) C 0 14 rfl rfl hin_Mo (by decide) rfl k_476 rfl d_Mo_compare_234 ?_
                                            refine v_iconst (pc := 237) C (nI 4) d_Mo_compare_237 (by decide +kernel) ?_
                                            refine v_iload (pc := 238) C 1 d_Mo_compare_238 rfl ?_
                                            refine v_imul (pc := 240) C (nI (4 * j9)) d_Mo_compare_240 (pk_mul _ _) ?_
                                            refine v_iload (pc := 241) C 2 d_Mo_compare_241 rfl ?_
                                            refine v_iadd (pc := 243) C (nI (4 * j9 + wh)) d_Mo_compare_243 (nI_add _ _) ?_
                                            refine v_iald (pc := 244) C 10 rfl (4 * j9 + wh) rfl (by omega) (by decide) d_Mo_compare_244 ?_
                                            refine v_seti (nI (comp (QB.getD j9 (0, 0, 0, 0)) wh)) vb1 ?_
                                            refine v_icmpN_ge (pc := 245) C 252 (comp (QA.getD i (0, 0, 0, 0)) wh) (comp (QB.getD j9 (0, 0, 0, 0)) wh) d_Mo_compare_245 (by decide) (by omega) (by omega) (fun g4 => ?_) (fun g4 => ?_)
                                            · have hv9 : cmpTo QA QB (wh + 1) = nI 1 := by rw [← heq9, if_neg (by omega), if_pos (by omega)]
                                              refine v_iconst (pc := 252) C (nI 1) d_Mo_compare_252 (by decide +kernel) ?_
                                              exact v_iret (pc := 253) C X d_Mo_compare_253 ⟨by rw [hsp]; rw [stay (by rw [hv9]; decide), hv9], by rw [hsp]; exact ⟨pa, ca, la, ro, co, ea, tx, sz, lf, fo, f1, nc, lz8, ET.length, td, P, C9, LN, RW, CO, EA, SZ, LF8, FO8, F1, tf, TL, rfl, hnc, hk5, hC, hA, hLM, hEM, htd, hti, hTx, hTf⟩⟩ (by decide) (by decide)
                                            · have hv9 : cmpTo QA QB (wh + 1) = -1 := by rw [← heq9, if_pos (by omega)]
                                              refine v_iconst (pc := 248) C (-1) d_Mo_compare_248 (by decide +kernel) ?_
                                              refine v_goto (pc := 249) C 253 d_Mo_compare_249 (by decide) ?_
                                              exact v_iret (pc := 253) C X d_Mo_compare_253 ⟨by rw [hsp]; rw [stay (by rw [hv9]; decide), hv9], by rw [hsp]; exact ⟨pa, ca, la, ro, co, ea, tx, sz, lf, fo, f1, nc, lz8, ET.length, td, P, C9, LN, RW, CO, EA, SZ, LF8, FO8, F1, tf, TL, rfl, hnc, hk5, hC, hA, hLM, hEM, htd, hti, hTx, hTf⟩⟩ (by decide) (by decide)
                                        · refine v_goto (pc := 191) C 263 d_Mo_compare_191 (by decide) ?_
                                          exact k263 (Or.inr g2)
                                    refine v_iload (pc := 145) C 1 d_Mo_compare_145 rfl ?_
                                    refine v_aload_n (pc := 147) C 4 d_Mo_compare_147 rfl rfl ?_
                                    refine v_get (pc := 148) (Cn := "WeightOrderModel") (T := T_Mo) (N := 17) (ci := 7) (v := .int (nI ET.length)) C 0 15 rfl rfl hin_Mo (by decide) rfl k_477 rfl d_Mo_compare_148 ?_
                                    refine v_icmpN_ge (pc := 151) C 175 j9 ET.length d_Mo_compare_151 (by decide) (by omega) (by omega) (fun g1 => ?_) (fun g1 => ?_)
                                    · exact k175 (fun z => absurd z (by omega))
                                    · obtain ⟨vb1, vb2⟩ := hvb j9 g1
                                      refine v_aload_n (pc := 154) C 4 d_Mo_compare_154 rfl rfl ?_
                                      refine v_get (pc := 155) (Cn := "WeightOrderModel") (T := T_Mo) (N := 17) (ci := 7) (v := .ref fo) C 0 14 rfl rfl hin_Mo (by decide) rfl k_476 rfl d_Mo_compare_155 ?_
                                      refine v_iconst (pc := 158) C (nI 4) d_Mo_compare_158 (by decide +kernel) ?_
                                      refine v_iload (pc := 159) C 1 d_Mo_compare_159 rfl ?_
                                      refine v_imul (pc := 161) C (nI (4 * j9)) d_Mo_compare_161 (pk_mul _ _) ?_
                                      refine v_iload (pc := 162) C 2 d_Mo_compare_162 rfl ?_
                                      refine v_iadd (pc := 164) C (nI (4 * j9 + wh)) d_Mo_compare_164 (nI_add _ _) ?_
                                      refine v_iald (pc := 165) C 10 rfl (4 * j9 + wh) rfl (by omega) (by decide) d_Mo_compare_165 ?_
                                      refine v_seti (nI (comp (QB.getD j9 (0, 0, 0, 0)) wh)) vb1 ?_
                                      refine v_ifN_ne (pc := 166) C 175 (comp (QB.getD j9 (0, 0, 0, 0)) wh) d_Mo_compare_166 (by decide) (by omega) (fun g2 => ?_) (fun g2 => ?_)
                                      · exact k175 (fun _ => by omega)
                                      · refine v_iinc (pc := 169) C [(8, .int (nI (j9 + 1))), (7, .int (nI i)), (6, .int (nI wh)), (5, .int (nI ES.length)), (0, .ref h), (3, .int (nI nj)), (4, .int (nI sh))] 1 (nI (j9 + 1)) d_Mo_compare_169 rfl (nI_inc1 _) (by decide) rfl ?_
                                        refine v_goto (pc := 172) C 145 d_Mo_compare_172 (by decide) ?_
                                        refine v_lsub [1, 0, 2, 3, 4, 5, 6] [(7, .int (nI i)), (8, .int (nI (j9 + 1))), (6, .int (nI wh)), (5, .int (nI ES.length)), (0, .ref h), (3, .int (nI nj)), (4, .int (nI sh))] rfl ?_
                                        exact ih4 (j9 + 1) (by omega) (by omega) (by omega) hia (by rw [← nz_skip1 (h := (fun i => comp (QB.getD i (0, 0, 0, 0)) wh)) g1 g2]; exact heq9)
                                refine v_iload (pc := 117) C 0 d_Mo_compare_117 rfl ?_
                                refine v_iload (pc := 119) C 3 d_Mo_compare_119 rfl ?_
                                refine v_icmpN_ge (pc := 121) C 145 i ES.length d_Mo_compare_121 (by decide) (by omega) (by omega) (fun g1 => ?_) (fun g1 => ?_)
                                · refine v_lsub [0, 1, 2, 3, 4, 5, 6] [(7, .int (nI i)), (8, .int (nI j)), (6, .int (nI wh)), (5, .int (nI ES.length)), (0, .ref h), (3, .int (nI nj)), (4, .int (nI sh))] rfl ?_
                                  exact jl (ET.length + 1) j (by omega) (Nat.le_refl _) hj (fun z => absurd z (by omega)) heq
                                · obtain ⟨va1, va2⟩ := hva i g1
                                  refine v_aload_n (pc := 124) C 4 d_Mo_compare_124 rfl rfl ?_
                                  refine v_get (pc := 125) (Cn := "WeightOrderModel") (T := T_Mo) (N := 17) (ci := 7) (v := .ref f1) C 0 16 rfl rfl hin_Mo (by decide) rfl k_478 rfl d_Mo_compare_125 ?_
                                  refine v_iconst (pc := 128) C (nI 4) d_Mo_compare_128 (by decide +kernel) ?_
                                  refine v_iload (pc := 129) C 0 d_Mo_compare_129 rfl ?_
                                  refine v_imul (pc := 131) C (nI (4 * i)) d_Mo_compare_131 (pk_mul _ _) ?_
                                  refine v_iload (pc := 132) C 2 d_Mo_compare_132 rfl ?_
                                  refine v_iadd (pc := 134) C (nI (4 * i + wh)) d_Mo_compare_134 (nI_add _ _) ?_
                                  refine v_iald (pc := 135) C 11 rfl (4 * i + wh) rfl (by omega) (by decide) d_Mo_compare_135 ?_
                                  refine v_seti (nI (comp (QA.getD i (0, 0, 0, 0)) wh)) va1 ?_
                                  refine v_ifN_ne (pc := 136) C 145 (comp (QA.getD i (0, 0, 0, 0)) wh) d_Mo_compare_136 (by decide) (by omega) (fun g2 => ?_) (fun g2 => ?_)
                                  · refine v_lsub [0, 1, 2, 3, 4, 5, 6] [(7, .int (nI i)), (8, .int (nI j)), (6, .int (nI wh)), (5, .int (nI ES.length)), (0, .ref h), (3, .int (nI nj)), (4, .int (nI sh))] rfl ?_
                                    exact jl (ET.length + 1) j (by omega) (Nat.le_refl _) hj (fun _ => by omega) heq
                                  · refine v_iinc (pc := 139) C [(7, .int (nI (i + 1))), (8, .int (nI j)), (6, .int (nI wh)), (5, .int (nI ES.length)), (0, .ref h), (3, .int (nI nj)), (4, .int (nI sh))] 0 (nI (i + 1)) d_Mo_compare_139 rfl (nI_inc1 _) (by decide) rfl ?_
                                    refine v_goto (pc := 142) C 117 d_Mo_compare_142 (by decide) ?_
                                    refine v_lsub [0, 1, 2, 3, 4, 5, 6] [(7, .int (nI (i + 1))), (8, .int (nI j)), (6, .int (nI wh)), (5, .int (nI ES.length)), (0, .ref h), (3, .int (nI nj)), (4, .int (nI sh))] rfl ?_
                                    exact ih3 (i + 1) j (by omega) (by omega) hj (by rw [← nz_skip1 (h := (fun i => comp (QA.getD i (0, 0, 0, 0)) wh)) g1 g2]; exact heq)
                            refine v_lsub [1, 0, 2, 3, 4, 5, 6] [(7, .int (nI 0)), (8, .int (nI 0)), (6, .int (nI wh)), (5, .int (nI ES.length)), (0, .ref h), (3, .int (nI nj)), (4, .int (nI sh))] rfl ?_
                            exact il (ES.length + ET.length + 1) 0 0 (by omega) (Nat.zero_le _) (Nat.zero_le _) hcs.symm
                          · refine v_iload (pc := 106) C 4 d_Mo_compare_106 rfl ?_
                            refine v_ifN_eq (pc := 108) C 298 sh d_Mo_compare_108 (by decide) (by omega) (fun hs => ?_) (fun hs => ?_)
                            · refine v_iconst (pc := 298) C (nI 0) d_Mo_compare_298 (by decide +kernel) ?_
                              exact v_iret (pc := 299) C X d_Mo_compare_299 ⟨by rw [hsp]; rw [show nj = 4 by omega, h43 hs (by rw [← hz]; congr 1; omega)]; rfl, by rw [hsp]; exact ⟨pa, ca, la, ro, co, ea, tx, sz, lf, fo, f1, nc, lz8, ET.length, td, P, C9, LN, RW, CO, EA, SZ, LF8, FO8, F1, tf, TL, rfl, hnc, hk5, hC, hA, hLM, hEM, htd, hti, hTx, hTf⟩⟩ (by decide) (by decide)
                            · have hw3 : wh ≤ 3 := by omega
                              have hva : ∀ i, i < ES.length → F1 (4 * i + wh) = nI (comp (QA.getD i (0, 0, 0, 0)) wh) ∧ comp (QA.getD i (0, 0, 0, 0)) wh < 65536 := fun i hi => ⟨fos_comp hG (hda i (by omega)) hw3, comp_lt (hoa _ (List.mem_of_getElem? (hda i (by omega))))⟩
                              have hvb : ∀ i, i < ET.length → FO8 (4 * i + wh) = nI (comp (QB.getD i (0, 0, 0, 0)) wh) ∧ comp (QB.getD i (0, 0, 0, 0)) wh < 65536 := fun i hi => ⟨fos_comp hF8 (hdb i (by omega)) hw3, comp_lt (hob _ (List.mem_of_getElem? (hdb i (by omega))))⟩
                              have hcs : cmpTo QA QB (wh + 1) = cmpL (nz (fun i => comp (QA.getD i (0, 0, 0, 0)) wh) ES.length 0) (nz (fun i => comp (QB.getD i (0, 0, 0, 0)) wh) ET.length 0) := by show (if cmpTo QA QB wh = 0 then _ else _) = _; rw [if_pos hz, ← hqa, ← hqb, nz_comp, nz_comp]
                              refine v_iconst (pc := 111) C (nI 0) d_Mo_compare_111 (by decide +kernel) ?_
                              refine v_istore (pc := 112) C [(7, .int (nI 0)), (6, .int (nI wh)), (5, .int (nI ES.length)), (0, .ref h), (3, .int (nI nj)), (4, .int (nI sh))] d_Mo_compare_112 (by decide) rfl ?_
                              refine v_iconst (pc := 114) C (nI 0) d_Mo_compare_114 (by decide +kernel) ?_
                              refine v_istore (pc := 115) C [(8, .int (nI 0)), (7, .int (nI 0)), (6, .int (nI wh)), (5, .int (nI ES.length)), (0, .ref h), (3, .int (nI nj)), (4, .int (nI sh))] d_Mo_compare_115 (by decide) rfl ?_
                              have il : ∀ (d3 : Nat) (i : Nat) (j : Nat), (ES.length - i) + (ET.length - j) < d3 → (i ≤ ES.length) → (j ≤ ET.length) → (cmpL (nz (fun i => comp (QA.getD i (0, 0, 0, 0)) wh) ES.length i) (nz (fun i => comp (QB.getD i (0, 0, 0, 0)) wh) ET.length j) = cmpTo QA QB (wh + 1)) → vv K ({ frames := 2, cells := 0, slots := 0, locals := 90 } : Room) G 9 0 0 ([(h, ob 7 [.int (nI 0), .ref pa, .ref ca, .int (nI nc), .ref la, .ref ro, .ref co, .ref ea, .int (nI A.length), .int td, .ref tx, .ref sz, .ref lf, .int (nI lz8), .ref fo, .int (nI ET.length), .ref f1]), (pa, aI G 5000 P), (ca, aI G 5000 C9), (la, aI G 500 LN), (ro, aI G 1500 RW), (co, aI G 500 CO), (ea, aI G 16000 EA), (tx, aII G 4 tf), (sz, aI G 4 SZ), (lf, aI G 200 LF8), (fo, aI G 6400 FO8), (f1, aI G 6400 F1)] ++ tpool G TL) 117 [(7, .int (nI i)), (8, .int (nI j)), (6, .int (nI wh)), (5, .int (nI ES.length)), (0, .ref h), (3, .int (nI nj)), (4, .int (nI sh))] [] := by
                                intro d3
                                induction d3 with
                                | zero => intro i j hm; exact absurd hm (Nat.not_lt_zero _)
                                | succ d3 ih3 =>
                                  intro i j hm hi hj heq
                                  have jl : ∀ (d4 : Nat) (j9 : Nat), ET.length - j9 < d4 → (j ≤ j9) → (j9 ≤ ET.length) → (i < ES.length → comp (QA.getD i (0, 0, 0, 0)) wh ≠ 0) → (cmpL (nz (fun i => comp (QA.getD i (0, 0, 0, 0)) wh) ES.length i) (nz (fun i => comp (QB.getD i (0, 0, 0, 0)) wh) ET.length j9) = cmpTo QA QB (wh + 1)) → vv K ({ frames := 2, cells := 0, slots := 0, locals := 90 } : Room) G 9 0 0 ([(h, ob 7 [.int (nI 0), .ref pa, .ref ca, .int (nI nc), .ref la, .ref ro, .ref co, .ref ea, .int (nI A.length), .int td, .ref tx, .ref sz, .ref lf, .int (nI lz8), .ref fo, .int (nI ET.length), .ref f1]), (pa, aI G 5000 P), (ca, aI G 5000 C9), (la, aI G 500 LN), (ro, aI G 1500 RW), (co, aI G 500 CO), (ea, aI G 16000 EA), (tx, aII G 4 tf), (sz, aI G 4 SZ), (lf, aI G 200 LF8), (fo, aI G 6400 FO8), (f1, aI G 6400 F1)] ++ tpool G TL) 145 [(7, .int (nI i)), (8, .int (nI j9)), (6, .int (nI wh)), (5, .int (nI ES.length)), (0, .ref h), (3, .int (nI nj)), (4, .int (nI sh))] [] := by
                                    intro d4
                                    induction d4 with
                                    | zero => intro j9 hm; exact absurd hm (Nat.not_lt_zero _)
                                    | succ d4 ih4 =>
                                      intro j9 hm hj0 hj9 hia heq9
                                      have k175 : (j9 < ET.length → comp (QB.getD j9 (0, 0, 0, 0)) wh ≠ 0) → vv K ({ frames := 2, cells := 0, slots := 0, locals := 90 } : Room) G 9 0 0 ([(h, ob 7 [.int (nI 0), .ref pa, .ref ca, .int (nI nc), .ref la, .ref ro, .ref co, .ref ea, .int (nI A.length), .int td, .ref tx, .ref sz, .ref lf, .int (nI lz8), .ref fo, .int (nI ET.length), .ref f1]), (pa, aI G 5000 P), (ca, aI G 5000 C9), (la, aI G 500 LN), (ro, aI G 1500 RW), (co, aI G 500 CO), (ea, aI G 16000 EA), (tx, aII G 4 tf), (sz, aI G 4 SZ), (lf, aI G 200 LF8), (fo, aI G 6400 FO8), (f1, aI G 6400 F1)] ++ tpool G TL) 175 [(7, .int (nI i)), (8, .int (nI j9)), (6, .int (nI wh)), (5, .int (nI ES.length)), (0, .ref h), (3, .int (nI nj)), (4, .int (nI sh))] [] := by
                                        intro  hjb
                                        have stay := fun (hx : ¬ cmpTo QA QB (wh + 1) = 0) => cmpTo_stay hx nj (by omega)
                                        have k263 : (i = ES.length ∨ j9 = ET.length) → vv K ({ frames := 2, cells := 0, slots := 0, locals := 90 } : Room) G 9 0 0 ([(h, ob 7 [.int (nI 0), .ref pa, .ref ca, .int (nI nc), .ref la, .ref ro, .ref co, .ref ea, .int (nI A.length), .int td, .ref tx, .ref sz, .ref lf, .int (nI lz8), .ref fo, .int (nI ET.length), .ref f1]), (pa, aI G 5000 P), (ca, aI G 5000 C9), (la, aI G 500 LN), (ro, aI G 1500 RW), (co, aI G 500 CO), (ea, aI G 16000 EA), (tx, aII G 4 tf), (sz, aI G 4 SZ), (lf, aI G 200 LF8), (fo, aI G 6400 FO8), (f1, aI G 6400 F1)] ++ tpool G TL) 263 [(7, .int (nI i)), (8, .int (nI j9)), (6, .int (nI wh)), (5, .int (nI ES.length)), (0, .ref h), (3, .int (nI nj)), (4, .int (nI sh))] [] := by
                                          intro  hend
                                          refine v_iload (pc := 263) C 0 d_Mo_compare_263 rfl ?_
                                          refine v_iload (pc := 265) C 3 d_Mo_compare_265 rfl ?_
                                          refine v_icmpN_lt (pc := 267) C 279 i ES.length d_Mo_compare_267 (by decide) (by omega) (by omega) (fun g1 => ?_) (fun g1 => ?_)
                                          · have hv9 : cmpTo QA QB (wh + 1) = nI 1 := by rw [← heq9, nz_cons g1 (hia g1), nz_end (n := ET.length) (by omega)]; rfl
                                            refine v_iload (pc := 279) C 0 d_Mo_compare_279 rfl ?_
                                            refine v_iload (pc := 281) C 3 d_Mo_compare_281 rfl ?_
                                            refine v_icmpN_ge (pc := 283) C 290 i ES.length d_Mo_compare_283 (by decide) (by omega) (by omega) (fun g2 => ?_) (fun g2 => ?_)
                                            · omega
                                            · refine v_iconst (pc := 286) C (nI 1) d_Mo_compare_286 (by decide +kernel) ?_
                                              refine v_goto (pc := 287) C 291 d_Mo_compare_287 (by decide) ?_
                                              exact v_iret (pc := 291) C X d_Mo_compare_291 ⟨by rw [hsp]; rw [stay (by rw [hv9]; decide), hv9], by rw [hsp]; exact ⟨pa, ca, la, ro, co, ea, tx, sz, lf, fo, f1, nc, lz8, ET.length, td, P, C9, LN, RW, CO, EA, SZ, LF8, FO8, F1, tf, TL, rfl, hnc, hk5, hC, hA, hLM, hEM, htd, hti, hTx, hTf⟩⟩ (by decide) (by decide)
                                          · refine v_iload (pc := 270) C 1 d_Mo_compare_270 rfl ?_
                                            refine v_aload_n (pc := 272) C 4 d_Mo_compare_272 rfl rfl ?_
                                            refine v_get (pc := 273) (Cn := "WeightOrderModel") (T := T_Mo) (N := 17) (ci := 7) (v := .int (nI ET.length)) C 0 15 rfl rfl hin_Mo (by decide) rfl k_477 rfl d_Mo_compare_273 ?_
                                            refine v_icmpN_ge (pc := 276) C 292 j9 ET.length d_Mo_compare_276 (by decide) (by omega) (by omega) (fun g2 => ?_) (fun g2 => ?_)
                                            · have hv9 : cmpTo QA QB (wh + 1) = nI 0 := by rw [← heq9, nz_end (n := ES.length) (by omega), nz_end (n := ET.length) (by omega)]; rfl
                                              refine v_iinc (pc := 292) C [(6, .int (nI (wh + 1))), (7, .int (nI i)), (8, .int (nI j9)), (5, .int (nI ES.length)), (0, .ref h), (3, .int (nI nj)), (4, .int (nI sh))] 2 (nI (wh + 1)) d_Mo_compare_292 rfl (nI_inc1 _) (by decide) rfl ?_
                                              refine v_goto (pc := 295) C 94 d_Mo_compare_295 (by decide) ?_
                                              refine v_lsub [0, 3, 4, 5, 6] [(6, .int (nI (wh + 1))), (5, .int (nI ES.length)), (0, .ref h), (3, .int (nI nj)), (4, .int (nI sh))] rfl ?_
                                              exact ih2 (wh + 1) (by omega) (by omega) hv9
                                            · have hv9 : cmpTo QA QB (wh + 1) = -1 := by rw [← heq9, nz_end (n := ES.length) (by omega), nz_cons (h := (fun i => comp (QB.getD i (0, 0, 0, 0)) wh)) g2 (hjb g2)]; rfl
                                              refine v_iload (pc := 279) C 0 d_Mo_compare_279 rfl ?_
                                              refine v_iload (pc := 281) C 3 d_Mo_compare_281 rfl ?_
                                              refine v_icmpN_ge (pc := 283) C 290 i ES.length d_Mo_compare_283 (by decide) (by omega) (by omega) (fun g3 => ?_) (fun g3 => ?_)
                                              · refine v_iconst (pc := 290) C (-1) d_Mo_compare_290 (by decide +kernel) ?_
                                                exact v_iret (pc := 291) C X d_Mo_compare_291 ⟨by rw [hsp]; rw [stay (by rw [hv9]; decide), hv9], by rw [hsp]; exact ⟨pa, ca, la, ro, co, ea, tx, sz, lf, fo, f1, nc, lz8, ET.length, td, P, C9, LN, RW, CO, EA, SZ, LF8, FO8, F1, tf, TL, rfl, hnc, hk5, hC, hA, hLM, hEM, htd, hti, hTx, hTf⟩⟩ (by decide) (by decide)
                                              · omega
                                        refine v_iload (pc := 175) C 0 d_Mo_compare_175 rfl ?_
                                        refine v_iload (pc := 177) C 3 d_Mo_compare_177 rfl ?_
                                        refine v_icmpN_eq (pc := 179) C 263 i ES.length d_Mo_compare_179 (by decide) (by omega) (by omega) (fun g1 => ?_) (fun g1 => ?_)
                                        · exact k263 (Or.inl g1)
                                        · refine v_iload (pc := 182) C 1 d_Mo_compare_182 rfl ?_
                                          refine v_aload_n (pc := 184) C 4 d_Mo_compare_184 rfl rfl ?_
                                          refine v_get (pc := 185) (Cn := "WeightOrderModel") (T := T_Mo) (N := 17) (ci := 7) (v := .int (nI ET.length)) C 0 15 rfl rfl hin_Mo (by decide) rfl k_477 rfl d_Mo_compare_185 ?_
                                          refine v_icmpN_ne (pc := 188) C 194 j9 ET.length d_Mo_compare_188 (by decide) (by omega) (by omega) (fun g2 => ?_) (fun g2 => ?_)
                                          · have hin : i < ES.length := by omega
                                            have hjn : j9 < ET.length := by omega
                                            obtain ⟨va1, va2⟩ := hva i hin
                                            obtain ⟨vb1, vb2⟩ := hvb j9 hjn
                                            rw [nz_cons hin (hia hin), nz_cons hjn (hjb hjn)] at heq9
                                            have heq9 : (if comp (QA.getD i (0, 0, 0, 0)) wh < comp (QB.getD j9 (0, 0, 0, 0)) wh then (-1 : Int32) else if comp (QB.getD j9 (0, 0, 0, 0)) wh < comp (QA.getD i (0, 0, 0, 0)) wh then nI 1 else cmpL (nz (fun i => comp (QA.getD i (0, 0, 0, 0)) wh) ES.length (i + 1)) (nz (fun i => comp (QB.getD i (0, 0, 0, 0)) wh) ET.length (j9 + 1))) = cmpTo QA QB (wh + 1) := heq9
                                            refine v_aload_n (pc := 194) C 4 d_Mo_compare_194 rfl rfl ?_
                                            refine v_get (pc := 195) (Cn := "WeightOrderModel") (T := T_Mo) (N := 17) (ci := 7) (v := .ref f1) C 0 16 rfl rfl hin_Mo (by decide) rfl k_478 rfl d_Mo_compare_195 ?_
                                            refine v_iconst (pc := 198) C (nI 4) d_Mo_compare_198 (by decide +kernel) ?_
                                            refine v_iload (pc := 199) C 0 d_Mo_compare_199 rfl ?_
                                            refine v_imul (pc := 201) C (nI (4 * i)) d_Mo_compare_201 (pk_mul _ _) ?_
                                            refine v_iload (pc := 202) C 2 d_Mo_compare_202 rfl ?_
                                            refine v_iadd (pc := 204) C (nI (4 * i + wh)) d_Mo_compare_204 (nI_add _ _) ?_
                                            refine v_iald (pc := 205) C 11 rfl (4 * i + wh) rfl (by omega) (by decide) d_Mo_compare_205 ?_
                                            refine v_seti (nI (comp (QA.getD i (0, 0, 0, 0)) wh)) va1 ?_
                                            refine v_aload_n (pc := 206) C 4 d_Mo_compare_206 rfl rfl ?_
                                            refine v_get (pc := 207) (Cn := "WeightOrderModel") (T := T_Mo) (N := 17) (ci := 7) (v := .ref fo) C 0 14 rfl rfl hin_Mo (by decide) rfl k_476 rfl d_Mo_compare_207 ?_
                                            refine v_iconst (pc := 210) C (nI 4) d_Mo_compare_210 (by decide +kernel) ?_
                                            refine v_iload (pc := 211) C 1 d_Mo_compare_211 rfl ?_
                                            refine v_imul (pc := 213) C (nI (4 * j9)) d_Mo_compare_213 (pk_mul _ _) ?_
                                            refine v_iload (pc := 214) C 2 d_Mo_compare_214 rfl ?_
                                            refine v_iadd (pc := 216) C (nI (4 * j9 + wh)) d_Mo_compare_216 (nI_add _ _) ?_
                                            refine v_iald (pc := 217) C 10 rfl (4 * j9 + wh) rfl (by omega) (by decide) d_Mo_compare_217 ?_
                                            refine v_seti (nI (comp (QB.getD j9 (0, 0, 0, 0)) wh)) vb1 ?_
                                            refine v_icmpN_eq (pc := 218) C 254 (comp (QA.getD i (0, 0, 0, 0)) wh) (comp (QB.getD j9 (0, 0, 0, 0)) wh) d_Mo_compare_218 (by decide) (by omega) (by omega) (fun g3 => ?_) (fun g3 => ?_)
                                            · rw [if_neg (by omega), if_neg (by omega)] at heq9
                                              refine v_iinc (pc := 254) C [(7, .int (nI (i + 1))), (8, .int (nI j9)), (6, .int (nI wh)), (5, .int (nI ES.length)), (0, .ref h), (3, .int (nI nj)), (4, .int (nI sh))] 0 (nI (i + 1)) d_Mo_compare_254 rfl (nI_inc1 _) (by decide) rfl ?_
                                              refine v_iinc (pc := 257) C [(8, .int (nI (j9 + 1))), (7, .int (nI (i + 1))), (6, .int (nI wh)), (5, .int (nI ES.length)), (0, .ref h), (3, .int (nI nj)), (4, .int (nI sh))] 1 (nI (j9 + 1)) d_Mo_compare_257 rfl (nI_inc1 _) (by decide) rfl ?_
                                              refine v_goto (pc := 260) C 117 d_Mo_compare_260 (by decide) ?_
                                              refine v_lsub [1, 0, 2, 3, 4, 5, 6] [(7, .int (nI (i + 1))), (8, .int (nI (j9 + 1))), (6, .int (nI wh)), (5, .int (nI ES.length)), (0, .ref h), (3, .int (nI nj)), (4, .int (nI sh))] rfl ?_
                                              exact ih3 (i + 1) (j9 + 1) (by omega) (by omega) (by omega) heq9
                                            · refine v_aload_n (pc := 221) C 4 d_Mo_compare_221 rfl rfl ?_
                                              refine v_get (pc := 222) (Cn := "WeightOrderModel") (T := T_Mo) (N := 17) (ci := 7) (v := .ref f1) C 0 16 rfl rfl hin_Mo (by decide) rfl k_478 rfl d_Mo_compare_222 ?_
                                              refine v_iconst (pc := 225) C (nI 4) d_Mo_compare_225 (by decide +kernel) ?_
                                              refine v_iload (pc := 226) C 0 d_Mo_compare_226 rfl ?_
                                              refine v_imul (pc := 228) C (nI (4 * i)) d_Mo_compare_228 (pk_mul _ _) ?_
                                              refine v_iload (pc := 229) C 2 d_Mo_compare_229 rfl ?_
                                              refine v_iadd (pc := 231) C (nI (4 * i + wh)) d_Mo_compare_231 (nI_add _ _) ?_
                                              refine v_iald (pc := 232) C 11 rfl (4 * i + wh) rfl (by omega) (by decide) d_Mo_compare_232 ?_
                                              refine v_seti (nI (comp (QA.getD i (0, 0, 0, 0)) wh)) va1 ?_
                                              refine v_aload_n (pc := 233) C 4 d_Mo_compare_233 rfl rfl ?_
                                              refine v_get (pc := 234) (Cn := "WeightOrderModel") (T := T_Mo) (N := 17) (ci := 7) (v := .ref fo) C 0 14 rfl rfl hin_Mo (by decide) rfl k_476 rfl d_Mo_compare_234 ?_
                                              refine v_iconst (pc := 237) C (nI 4) d_Mo_compare_237 (by decide +kernel) ?_
                                              refine v_iload (pc := 238) C 1 d_Mo_compare_238 rfl ?_
                                              refine v_imul (pc := 240) C (nI (4 * j9)) d_Mo_compare_240 (pk_mul _ _) ?_
                                              refine v_iload (pc := 241) C 2 d_Mo_compare_241 rfl ?_
                                              refine v_iadd (pc := 243) C (nI (4 * j9 + wh)) d_Mo_compare_243 (nI_add _ _) ?_
                                              refine v_iald (pc := 244) C 10 rfl (4 * j9 + wh) rfl (by omega) (by decide) d_Mo_compare_244 ?_
                                              refine v_seti (nI (comp (QB.getD j9 (0, 0, 0, 0)) wh)) vb1 ?_
                                              refine v_icmpN_ge (pc := 245) C 252 (comp (QA.getD i (0, 0, 0, 0)) wh) (comp (QB.getD j9 (0, 0, 0, 0)) wh) d_Mo_compare_245 (by decide) (by omega) (by omega) (fun g4 => ?_) (fun g4 => ?_)
                                              · have hv9 : cmpTo QA QB (wh + 1) = nI 1 := by rw [← heq9, if_neg (by omega), if_pos (by omega)]
                                                refine v_iconst (pc := 252) C (nI 1) d_Mo_compare_252 (by decide +kernel) ?_
                                                exact v_iret (pc := 253) C X d_Mo_compare_253 ⟨by rw [hsp]; rw [stay (by rw [hv9]; decide), hv9], by rw [hsp]; exact ⟨pa, ca, la, ro, co, ea, tx, sz, lf, fo, f1, nc, lz8, ET.length, td, P, C9, LN, RW, CO, EA, SZ, LF8, FO8, F1, tf, TL, rfl, hnc, hk5, hC, hA, hLM, hEM, htd, hti, hTx, hTf⟩⟩ (by decide) (by decide)
                                              · have hv9 : cmpTo QA QB (wh + 1) = -1 := by rw [← heq9, if_pos (by omega)]
                                                refine v_iconst (pc := 248) C (-1) d_Mo_compare_248 (by decide +kernel) ?_
                                                refine v_goto (pc := 249) C 253 d_Mo_compare_249 (by decide) ?_
                                                exact v_iret (pc := 253) C X d_Mo_compare_253 ⟨by rw [hsp]; rw [stay (by rw [hv9]; decide), hv9], by rw [hsp]; exact ⟨pa, ca, la, ro, co, ea, tx, sz, lf, fo, f1, nc, lz8, ET.length, td, P, C9, LN, RW, CO, EA, SZ, LF8, FO8, F1, tf, TL, rfl, hnc, hk5, hC, hA, hLM, hEM, htd, hti, hTx, hTf⟩⟩ (by decide) (by decide)
                                          · refine v_goto (pc := 191) C 263 d_Mo_compare_191 (by decide) ?_
                                            exact k263 (Or.inr g2)
                                      refine v_iload (pc := 145) C 1 d_Mo_compare_145 rfl ?_
                                      refine v_aload_n (pc := 147) C 4 d_Mo_compare_147 rfl rfl ?_
                                      refine v_get (pc := 148) (Cn := "WeightOrderModel") (T := T_Mo) (N := 17) (ci := 7) (v := .int (nI ET.length)) C 0 15 rfl rfl hin_Mo (by decide) rfl k_477 rfl d_Mo_compare_148 ?_
                                      refine v_icmpN_ge (pc := 151) C 175 j9 ET.length d_Mo_compare_151 (by decide) (by omega) (by omega) (fun g1 => ?_) (fun g1 => ?_)
                                      · exact k175 (fun z => absurd z (by omega))
                                      · obtain ⟨vb1, vb2⟩ := hvb j9 g1
                                        refine v_aload_n (pc := 154) C 4 d_Mo_compare_154 rfl rfl ?_
                                        refine v_get (pc := 155) (Cn := "WeightOrderModel") (T := T_Mo) (N := 17) (ci := 7) (v := .ref fo) C 0 14 rfl rfl hin_Mo (by decide) rfl k_476 rfl d_Mo_compare_155 ?_
                                        refine v_iconst (pc := 158) C (nI 4) d_Mo_compare_158 (by decide +kernel) ?_
                                        refine v_iload (pc := 159) C 1 d_Mo_compare_159 rfl ?_
                                        refine v_imul (pc := 161) C (nI (4 * j9)) d_Mo_compare_161 (pk_mul _ _) ?_
                                        refine v_iload (pc := 162) C 2 d_Mo_compare_162 rfl ?_
                                        refine v_iadd (pc := 164) C (nI (4 * j9 + wh)) d_Mo_compare_164 (nI_add _ _) ?_
                                        refine v_iald (pc := 165) C 10 rfl (4 * j9 + wh) rfl (by omega) (by decide) d_Mo_compare_165 ?_
                                        refine v_seti (nI (comp (QB.getD j9 (0, 0, 0, 0)) wh)) vb1 ?_
                                        refine v_ifN_ne (pc := 166) C 175 (comp (QB.getD j9 (0, 0, 0, 0)) wh) d_Mo_compare_166 (by decide) (by omega) (fun g2 => ?_) (fun g2 => ?_)
                                        · exact k175 (fun _ => by omega)
                                        · refine v_iinc (pc := 169) C [(8, .int (nI (j9 + 1))), (7, .int (nI i)), (6, .int (nI wh)), (5, .int (nI ES.length)), (0, .ref h), (3, .int (nI nj)), (4, .int (nI sh))] 1 (nI (j9 + 1)) d_Mo_compare_169 rfl (nI_inc1 _) (by decide) rfl ?_
                                          refine v_goto (pc := 172) C 145 d_Mo_compare_172 (by decide) ?_
                                          refine v_lsub [1, 0, 2, 3, 4, 5, 6] [(7, .int (nI i)), (8, .int (nI (j9 + 1))), (6, .int (nI wh)), (5, .int (nI ES.length)), (0, .ref h), (3, .int (nI nj)), (4, .int (nI sh))] rfl ?_
                                          exact ih4 (j9 + 1) (by omega) (by omega) (by omega) hia (by rw [← nz_skip1 (h := (fun i => comp (QB.getD i (0, 0, 0, 0)) wh)) g1 g2]; exact heq9)
                                  refine v_iload (pc := 117) C 0 d_Mo_compare_117 rfl ?_
                                  refine v_iload (pc := 119) C 3 d_Mo_compare_119 rfl ?_
                                  refine v_icmpN_ge (pc := 121) C 145 i ES.length d_Mo_compare_121 (by decide) (by omega) (by omega) (fun g1 => ?_) (fun g1 => ?_)
                                  · refine v_lsub [0, 1, 2, 3, 4, 5, 6] [(7, .int (nI i)), (8, .int (nI j)), (6, .int (nI wh)), (5, .int (nI ES.length)), (0, .ref h), (3, .int (nI nj)), (4, .int (nI sh))] rfl ?_
                                    exact jl (ET.length + 1) j (by omega) (Nat.le_refl _) hj (fun z => absurd z (by omega)) heq
                                  · obtain ⟨va1, va2⟩ := hva i g1
                                    refine v_aload_n (pc := 124) C 4 d_Mo_compare_124 rfl rfl ?_
                                    refine v_get (pc := 125) (Cn := "WeightOrderModel") (T := T_Mo) (N := 17) (ci := 7) (v := .ref f1) C 0 16 rfl rfl hin_Mo (by decide) rfl k_478 rfl d_Mo_compare_125 ?_
                                    refine v_iconst (pc := 128) C (nI 4) d_Mo_compare_128 (by decide +kernel) ?_
                                    refine v_iload (pc := 129) C 0 d_Mo_compare_129 rfl ?_
                                    refine v_imul (pc := 131) C (nI (4 * i)) d_Mo_compare_131 (pk_mul _ _) ?_
                                    refine v_iload (pc := 132) C 2 d_Mo_compare_132 rfl ?_
                                    refine v_iadd (pc := 134) C (nI (4 * i + wh)) d_Mo_compare_134 (nI_add _ _) ?_
                                    refine v_iald (pc := 135) C 11 rfl (4 * i + wh) rfl (by omega) (by decide) d_Mo_compare_135 ?_
                                    refine v_seti (nI (comp (QA.getD i (0, 0, 0, 0)) wh)) va1 ?_
                                    refine v_ifN_ne (pc := 136) C 145 (comp (QA.getD i (0, 0, 0, 0)) wh) d_Mo_compare_136 (by decide) (by omega) (fun g2 => ?_) (fun g2 => ?_)
                                    · refine v_lsub [0, 1, 2, 3, 4, 5, 6] [(7, .int (nI i)), (8, .int (nI j)), (6, .int (nI wh)), (5, .int (nI ES.length)), (0, .ref h), (3, .int (nI nj)), (4, .int (nI sh))] rfl ?_
                                      exact jl (ET.length + 1) j (by omega) (Nat.le_refl _) hj (fun _ => by omega) heq
                                    · refine v_iinc (pc := 139) C [(7, .int (nI (i + 1))), (8, .int (nI j)), (6, .int (nI wh)), (5, .int (nI ES.length)), (0, .ref h), (3, .int (nI nj)), (4, .int (nI sh))] 0 (nI (i + 1)) d_Mo_compare_139 rfl (nI_inc1 _) (by decide) rfl ?_
                                      refine v_goto (pc := 142) C 117 d_Mo_compare_142 (by decide) ?_
                                      refine v_lsub [0, 1, 2, 3, 4, 5, 6] [(7, .int (nI (i + 1))), (8, .int (nI j)), (6, .int (nI wh)), (5, .int (nI ES.length)), (0, .ref h), (3, .int (nI nj)), (4, .int (nI sh))] rfl ?_
                                      exact ih3 (i + 1) j (by omega) (by omega) hj (by rw [← nz_skip1 (h := (fun i => comp (QA.getD i (0, 0, 0, 0)) wh)) g1 g2]; exact heq)
                              refine v_lsub [1, 0, 2, 3, 4, 5, 6] [(7, .int (nI 0)), (8, .int (nI 0)), (6, .int (nI wh)), (5, .int (nI ES.length)), (0, .ref h), (3, .int (nI nj)), (4, .int (nI sh))] rfl ?_
                              exact il (ES.length + ET.length + 1) 0 0 (by omega) (Nat.zero_le _) (Nat.zero_le _) hcs.symm
                    refine v_lsub [0, 1, 2, 4, 5] [(6, .int (nI 0)), (5, .int (nI ES.length)), (0, .ref h), (3, .int (nI nj)), (4, .int (nI sh))] rfl ?_
                    exact lv 5 0 (by omega) (by omega) rfl
                  · refine v_aload_n (pc := 64) C 2 d_Mo_compare_64 rfl rfl ?_
                    refine v_get (pc := 65) (Cn := "WeightOrderModel") (T := T_Mo) (N := 17) (ci := 7) (v := .ref f1) C 0 16 rfl rfl hin_Mo (by decide) rfl k_478 rfl d_Mo_compare_65 ?_
                    refine v_iload (pc := 68) C 0 d_Mo_compare_68 rfl ?_
                    refine v_aload_n (pc := 70) C 2 d_Mo_compare_70 rfl rfl ?_
                    refine v_get (pc := 71) (Cn := "WeightOrderModel") (T := T_Mo) (N := 17) (ci := 7) (v := .ref fo) C 0 14 rfl rfl hin_Mo (by decide) rfl k_476 rfl d_Mo_compare_71 ?_
                    refine v_iload (pc := 74) C 0 d_Mo_compare_74 rfl ?_
                    refine v_iald (pc := 76) C 10 rfl k rfl (by omega) (by decide) d_Mo_compare_76 ?_
                    refine v_iast (pc := 77) C 11 ([(h, ob 7 [.int (nI 0), .ref pa, .ref ca, .int (nI nc), .ref la, .ref ro, .ref co, .ref ea, .int (nI A.length), .int td, .ref tx, .ref sz, .ref lf, .int (nI lz7), .ref fo, .int (nI ES.length), .ref f1]), (pa, aI G 5000 P), (ca, aI G 5000 C9), (la, aI G 500 LN), (ro, aI G 1500 RW), (co, aI G 500 CO), (ea, aI G 16000 EA), (tx, aII G 4 tf), (sz, aI G 4 SZ), (lf, aI G 200 LF7), (fo, aI G 6400 FO7), (f1, aI G 6400 (upd F1 k (FO7 k)))] ++ tpool G TL) rfl k rfl (by omega) (by decide) rfl d_Mo_compare_77 ?_
                    refine v_iinc (pc := 78) C [(6, .int (nI (k + 1))), (5, .int (nI ES.length)), (0, .ref h), (2, .int (nI uj)), (3, .int (nI nj)), (4, .int (nI sh))] 0 (nI (k + 1)) d_Mo_compare_78 rfl (nI_inc1 _) (by decide) rfl ?_
                    refine v_goto (pc := 81) C 55 d_Mo_compare_81 (by decide) ?_
                    refine v_lsub [0, 1, 2, 3, 4, 5] [(6, .int (nI (k + 1))), (5, .int (nI ES.length)), (0, .ref h), (2, .int (nI uj)), (3, .int (nI nj)), (4, .int (nI sh))] rfl ?_
                    exact ih (k + 1) _ (by omega) (by omega) (fun j hj => by
                      rcases Nat.lt_or_ge j k with c | c
                      · rw [pk_un (by omega)]; exact hg j c
                      · rw [show j = k by omega, pk_us])
              refine v_lsub [0, 1, 2, 4, 5, 6] [(6, .int (nI 0)), (5, .int (nI ES.length)), (0, .ref h), (2, .int (nI uj)), (3, .int (nI nj)), (4, .int (nI sh))] rfl ?_
              exact cp (4 * ES.length + 1) 0 F1 (by omega) (Nat.zero_le _) (fun j hj => absurd hj (Nat.not_lt_zero _))
            · refine v_aload_n (pc := 33) C 0 d_Mo_compare_33 rfl rfl ?_
              refine v_iconst (pc := 34) C (nI 1) d_Mo_compare_34 (by decide +kernel) ?_
              refine v_callV (pc := 35) (As := [.int (nI 1)]) (rest := []) C (c_Mo_fail _ G h pa ca la ro co ea tx sz lf fo f1 (nI 0) td nc A.length lz fz 1) l_Mo_63 ([(pa, aI G 5000 P), (ca, aI G 5000 C9), (la, aI G 500 LN), (ro, aI G 1500 RW), (co, aI G 500 CO), (ea, aI G 16000 EA), (tx, aII G 4 tf), (sz, aI G 4 SZ), (lf, aI G 200 LF), (fo, aI G 6400 FO), (f1, aI G 6400 F1)] ++ tpool G TL) (sp_poolR [1, 2, 3, 4, 5, 6, 7, 8, 9, 10, 11] [0] rfl rfl rfl) 0 rfl rfl rfl rfl rfl (Nat.le_of_ble_eq_true rfl) (by decide) (by decide) (by decide) (by decide) d_Mo_compare_35 (fun r w' hq => ?_)
              obtain ⟨rfl, rfl⟩ := hq
              refine v_swap ?_
              show vv K ({ frames := 2, cells := 0, slots := 0, locals := 90 } : Room) G 9 0 0 ([(pa, aI G 5000 P), (ca, aI G 5000 C9), (la, aI G 500 LN), (ro, aI G 1500 RW), (co, aI G 500 CO), (ea, aI G 16000 EA), (tx, aII G 4 tf), (sz, aI G 4 SZ), (lf, aI G 200 LF), (fo, aI G 6400 FO), (f1, aI G 6400 F1), (h, ob 7 [.int (nI 1), .ref pa, .ref ca, .int (nI nc), .ref la, .ref ro, .ref co, .ref ea, .int (nI A.length), .int td, .ref tx, .ref sz, .ref lf, .int (nI lz), .ref fo, .int (nI fz), .ref f1])] ++ tpool G TL) 38 [(0, .ref h), (1, .int rr), (2, .int uu), (3, .int nn), (4, .int (nI sh))] [.int (nI 0)]
              refine v_wsubP [11, 0, 1, 2, 3, 4, 5, 6, 7, 8, 9, 10] ([(h, ob 7 [.int (nI 1), .ref pa, .ref ca, .int (nI nc), .ref la, .ref ro, .ref co, .ref ea, .int (nI A.length), .int td, .ref tx, .ref sz, .ref lf, .int (nI lz), .ref fo, .int (nI fz), .ref f1]), (pa, aI G 5000 P), (ca, aI G 5000 C9), (la, aI G 500 LN), (ro, aI G 1500 RW), (co, aI G 500 CO), (ea, aI G 16000 EA), (tx, aII G 4 tf), (sz, aI G 4 SZ), (lf, aI G 200 LF), (fo, aI G 6400 FO), (f1, aI G 6400 F1)]) rfl rfl ?_
              exact v_iret (pc := 38) C X d_Mo_compare_38 ⟨by rw [show spCompare (cl, A, told, rws) rr uu nn sh = (1, nI 0, (cl, A, told, rws)) by unfold spCompare; rw [if_pos (Or.inr (Or.inr (Or.inr (Int32.not_le.mp h6))))]], by rw [show spCompare (cl, A, told, rws) rr uu nn sh = (1, nI 0, (cl, A, told, rws)) by unfold spCompare; rw [if_pos (Or.inr (Or.inr (Or.inr (Int32.not_le.mp h6))))]]; exact ⟨pa, ca, la, ro, co, ea, tx, sz, lf, fo, f1, nc, lz, fz, td, P, C9, LN, RW, CO, EA, SZ, LF, FO, F1, tf, TL, rfl, hnc, hk5, hC, hA, hLM, hEM, htd, hti, hTx, hTf⟩⟩ (by decide) (by decide)
