/-! WeightOrder.add, clear, count, weight, compare -/
theorem rowA_at {cl : Nat → Nat} {A : List (Nat × List E4)} {told : Option Nat} {RL : List RwX} {j : Nat} {y : RwX} (h : RL[j]? = some y) : rowA (cl, A, told, RL.map (·.2.1)) j = y.2.1 := by
  unfold rowA
  rw [List.getD_eq_getElem?_getD, List.getElem?_map, h]
  rfl
theorem els_at {cl : Nat → Nat} {L : List LnX} {told : Option Nat} {RL : List RwX} {j : Nat} {y : RwX} (h : RL[j]? = some y) : els (cl, absL L, told, RL.map (·.2.1)) j = takeR (fun k => fnd k L) cl (lnE L) 200 y.2.1 := by
  have h1 : (fun k => fndA k (absL L)) = fun k => fnd k L := funext (fun k => fnd_abs k L)
  have h2 : esA (absL L) = lnE L := funext (fun j => (lnE_abs L j).symm)
  unfold els
  show takeR (fun k => fndA k (absL L)) cl (esA (absL L)) 200 ((RL.map (·.2.1)).getD j []) = _
  rw [h1, h2, List.getD_eq_getElem?_getD, List.getElem?_map, h]
  rfl
theorem rows_set {RL : List RwX} {j : Nat} (y : RwX) : (RL.set j y).map (·.2.1) = (RL.map (·.2.1)).set j y.2.1 := List.map_set ..
theorem rok_set {RL : List RwX} {j : Nat} {y : RwX} (h : ROk RL) (hy : RwS y.2.1 y.2.2) : ROk (RL.set j y) := by
  refine ⟨by rw [List.length_set]; exact h.1, fun z hz => ?_⟩
  rcases List.mem_or_eq_of_mem_set hz with hz | rfl
  · exact h.2 z hz
  · exact hy
theorem rms_set {RL : List RwX} {j : Nat} {y z : RwX} {rmf : Nat → Option Nat} (h : RmS RL rmf) (hy : RL[j]? = some y) (e : z.1.1 = y.1.1) : RmS (RL.set j z) rmf := by
  intro i u hu
  rw [List.getElem?_set] at hu
  split at hu
  · rename_i c
    subst c
    split at hu
    · cases hu
      rw [e]; exact h j y hy
    · cases hu
  · exact h i u hu
theorem rws_add {rw : List Nat} {f : Nat → Int32} {x : Nat} (h : RwS rw f) (hl : rw.length < 200) (hx : x ≤ 1114111) : RwS (rw ++ [x]) (upd f rw.length (nI x)) := by
  refine ⟨by simp; omega, fun z hz => ?_, fun i z hz => ?_⟩
  · rcases List.mem_append.mp hz with hz | hz
    · exact h.2.1 z hz
    · rw [List.mem_singleton.mp hz]; exact hx
  · rcases Nat.lt_trichotomy i rw.length with c | c | c
    · rw [List.getElem?_append_left c] at hz
      rw [pk_un (by omega)]
      exact h.2.2 i z hz
    · rw [c, List.getElem?_append_right (Nat.le_refl _), Nat.sub_self] at hz
      cases hz
      rw [c, pk_us]
    · rw [List.getElem?_eq_none (by simp; omega)] at hz
      cases hz
theorem rws_nil {rw : List Nat} {f : Nat → Int32} (h : RwS rw f) : RwS [] f := ⟨by decide, fun _ h => absurd h List.not_mem_nil, fun i z h => by cases h⟩
theorem wt_comp {q : E4} (h : okQ q) {u : Nat} (hu : u ≤ 3) : wtN (pq q) u = comp q u := by
  obtain ⟨h1, h2, h3, h4⟩ := h
  unfold pq comp
  rcases (show u = 0 ∨ u = 1 ∨ u = 2 ∨ u = 3 by omega) with rfl | rfl | rfl | rfl
  · rw [wt_0 h1 h2 h3 h4]; rfl
  · rw [wt_1 h1 h2 h3 h4]; rfl
  · rw [wt_2 h1 h2 h3 h4]; rfl
  · rw [wt_3 h1 h2 h3 h4]; rfl
theorem pq_lt {q : E4} (h : okQ q) : pq q < 18446744073709551616 := pkN_lt h.1 h.2.1 h.2.2.1 h.2.2.2
theorem nz_lvl {q : List E4} (hq : ∀ e ∈ q, okQ e) {k : Nat} (hk : k ≤ 3) : nz (fun i => wtN (pq (q.getD i (0, 0, 0, 0))) k) q.length 0 = lvlL q k := by
  unfold nz lvlL
  congr 1
  rw [Nat.sub_zero]
  refine List.ext_getElem (by simp) (fun i h1 h2 => ?_)
  have hi : i < q.length := by simpa using h2
  simp only [List.getElem_map, List.getElem_range', Nat.zero_add, Nat.one_mul]
  rw [List.getD_eq_getElem?_getD, List.getElem?_eq_getElem hi]
  exact wt_comp (hq _ (List.getElem_mem hi)) hk
theorem cmpTo_stay {q r : List E4} {k : Nat} (h : ¬ cmpTo q r k = 0) : ∀ m, k ≤ m → cmpTo q r m = cmpTo q r k := by
  intro m
  induction m with
  | zero => intro hm; rw [show k = 0 by omega]
  | succ m ih =>
    intro hm
    rcases Nat.lt_or_ge m k with c | c
    · rw [show k = m + 1 by omega]
    · have := ih c
      show (if cmpTo q r m = 0 then _ else cmpTo q r m) = _
      rw [this, if_neg h]
theorem wi_i1 {i : Int32} {n : Nat} (hn : n ≤ 1600) (h : ¬ wi i (nI n - nI 1) = 0) : ∃ j, j < n ∧ i = nI j := by
  obtain ⟨h1, h2⟩ := wi_ne0 h
  obtain ⟨j, hj, rfl⟩ := nI_of h1
  refine ⟨j, ?_, rfl⟩
  rw [Int32.lt_iff_toInt_lt, pk_sub_toInt (by omega) (by decide), nI_toInt hj] at h2
  omega
theorem wi_i0 {i : Int32} {n : Nat} (hn : n ≤ 1600) (h : wi i (nI n - nI 1) = 0) : i < 0 ∨ nI n ≤ i := by
  rcases wi_eq0 h with h | h
  · exact Or.inl h
  · refine Or.inr ?_
    rw [Int32.lt_iff_toInt_lt, pk_sub_toInt (by omega) (by decide)] at h
    rw [Int32.le_iff_toInt_le, nI_toInt (by omega)]
    omega

set_option maxHeartbeats 4000000 in
set_option maxRecDepth 100000 in
theorem c_Wo_add (l : Launch) (htr : l.stackTraces = false) (G : Gx) (o k : Nat) (σ : Sg) (w : va_W) (rr pt : Int32) (hw : WoI G o k σ w)  : CTX l G y_Wo_add b_Wo_add 3 (some .int) ({ frames := 7, cells := 1, slots := 6, locals := 190 } : Room) w [.ref o, .int rr, .int pt] (fun r w' => (spAdd σ rr pt).1 = 0 ∧ r = some (.int (spAdd σ rr pt).2.1) ∧ WoI G o k (spAdd σ rr pt).2.2 w') (fun E w' => WoI G o k σ w' ∧ ((spAdd σ rr pt).1 = 1 ∧ E = "java/lang/IllegalArgumentException" ∨ (spAdd σ rr pt).1 = 2 ∧ E = "java/lang/IndexOutOfBoundsException")) := by
  obtain ⟨cl, A9, told, rws⟩ := σ
  obtain ⟨t, ta, tb, nc, s, nt, a, b, m, ra, x, p, c, st, e, v, en1, es1, eb1, e2, v2, en2, es2, eb2, td, ld, mf, rmf, kc, ks, fe, fe2, vc, vs, f, g, en, n0, k0, Fc, L, RL, rfl, hnc, hk5, hTc, hcl, hL, hT, hM, hA, htd, hRO, hRm, hRw⟩ := hw
  have hA : absL L = A9 := hA
  have hRw : RL.map (·.2.1) = rws := hRw
  subst hA; subst hRw
  refine ctx_of htr [(0, .ref o), (1, .int rr), (2, .int pt)] (by decide) (Nat.le_of_ble_eq_true rfl) rfl (fun K hKl C X Y => ?_)
  subst hKl
  refine v_iload_n (pc := 0) C 1 d_Wo_add_0 rfl rfl ?_
  refine v_iconst (pc := 1) C (nI 3) d_Wo_add_1 (by decide +kernel) ?_
  refine v_callS (pc := 2) (As := [.int rr, .int (nI 3)]) (rest := []) C (c_Wo_isWithin _ G rr (nI 3)) l_Wo_52 ([(o, ob 6 [.ref t, .ref s, .ref ra, .ref x, .ref e, .ref e2]), (t, ob 0 [.ref ta, .ref tb, .int (nI nc)]), (ta, aJ G 512 kc), (tb, aI G 512 vc), (s, ob 2 [.ref nt, .ref m, .int (nI L.length), va_rf (td)]), (nt, ob 0 [.ref a, .ref b, .int (nI L.length)]), (a, aJ G 500 ks), (b, aI G 500 vs), (m, aL G 500 mf), (ra, aR G 4 rmf), (x, ob 5 [.ref t, .ref s, .ref p, .ref c, .int (nI st), .int en, .long k0, .int n0, va_rf (ld)]), (p, aI G 200 f), (c, aI G 200 g), (e, ob 4 [.ref v, .int (nI en1), .int (nI es1), .int (nI eb1)]), (v, aJ G 1600 fe), (e2, ob 4 [.ref v2, .int (nI en2), .int (nI es2), .int (nI eb2)]), (v2, aJ G 1600 fe2)] ++ (rpool G RL ++ lpool G L)) (sp_poolR [0, 1, 2, 3, 4, 5, 6, 7, 8, 9, 10, 11, 12, 13, 14, 15, 16] [] rfl rfl rfl) rfl rfl (Nat.le_of_ble_eq_true rfl) (by decide) (by decide) (by decide) (by decide) d_Wo_add_2 (fun r w' hq => ?_)
  obtain ⟨rfl, rfl⟩ := hq
  refine v_swap ?_
  show vv K ({ frames := 7, cells := 1, slots := 6, locals := 190 } : Room) G 3 0 0 ([(o, ob 6 [.ref t, .ref s, .ref ra, .ref x, .ref e, .ref e2]), (t, ob 0 [.ref ta, .ref tb, .int (nI nc)]), (ta, aJ G 512 kc), (tb, aI G 512 vc), (s, ob 2 [.ref nt, .ref m, .int (nI L.length), va_rf (td)]), (nt, ob 0 [.ref a, .ref b, .int (nI L.length)]), (a, aJ G 500 ks), (b, aI G 500 vs), (m, aL G 500 mf), (ra, aR G 4 rmf), (x, ob 5 [.ref t, .ref s, .ref p, .ref c, .int (nI st), .int en, .long k0, .int n0, va_rf (ld)]), (p, aI G 200 f), (c, aI G 200 g), (e, ob 4 [.ref v, .int (nI en1), .int (nI es1), .int (nI eb1)]), (v, aJ G 1600 fe), (e2, ob 4 [.ref v2, .int (nI en2), .int (nI es2), .int (nI eb2)]), (v2, aJ G 1600 fe2)] ++ (rpool G RL ++ lpool G L)) 5 [(0, .ref o), (1, .int rr), (2, .int pt)] [.int (wi rr (nI 3))]
  refine v_if_eq (pc := 5) C 17 d_Wo_add_5 (by decide) (fun h1 => ?_) (fun h1 => ?_)
  · exact v_throw (pc := 17) C Y _ th_IAE d_Wo_add_17 d_Wo_add_20 d_Wo_add_21 d_Wo_add_24 (by decide) (by decide) (by decide) (by decide) ⟨⟨t, ta, tb, nc, s, nt, a, b, m, ra, x, p, c, st, e, v, en1, es1, eb1, e2, v2, en2, es2, eb2, td, ld, mf, rmf, kc, ks, fe, fe2, vc, vs, f, g, en, n0, k0, Fc, L, RL, rfl, hnc, hk5, hTc, hcl, hL, hT, hM, rfl, htd, hRO, hRm, rfl⟩, Or.inl ⟨by unfold spAdd; rw [if_pos (Or.inl (wi_eq0 h1))], rfl⟩⟩
  · refine v_iload_n (pc := 8) C 2 d_Wo_add_8 rfl rfl ?_
    refine v_ldc (pc := 9) C 1114111 k_167 d_Wo_add_9 ?_
    refine v_seti (nI 1114111) (by decide +kernel) ?_
    refine v_callS (pc := 11) (As := [.int pt, .int (nI 1114111)]) (rest := []) C (c_Wo_isWithin _ G pt (nI 1114111)) l_Wo_52 ([(o, ob 6 [.ref t, .ref s, .ref ra, .ref x, .ref e, .ref e2]), (t, ob 0 [.ref ta, .ref tb, .int (nI nc)]), (ta, aJ G 512 kc), (tb, aI G 512 vc), (s, ob 2 [.ref nt, .ref m, .int (nI L.length), va_rf (td)]), (nt, ob 0 [.ref a, .ref b, .int (nI L.length)]), (a, aJ G 500 ks), (b, aI G 500 vs), (m, aL G 500 mf), (ra, aR G 4 rmf), (x, ob 5 [.ref t, .ref s, .ref p, .ref c, .int (nI st), .int en, .long k0, .int n0, va_rf (ld)]), (p, aI G 200 f), (c, aI G 200 g), (e, ob 4 [.ref v, .int (nI en1), .int (nI es1), .int (nI eb1)]), (v, aJ G 1600 fe), (e2, ob 4 [.ref v2, .int (nI en2), .int (nI es2), .int (nI eb2)]), (v2, aJ G 1600 fe2)] ++ (rpool G RL ++ lpool G L)) (sp_poolR [0, 1, 2, 3, 4, 5, 6, 7, 8, 9, 10, 11, 12, 13, 14, 15, 16] [] rfl rfl rfl) rfl rfl (Nat.le_of_ble_eq_true rfl) (by decide) (by decide) (by decide) (by decide) d_Wo_add_11 (fun r w' hq => ?_)
    obtain ⟨rfl, rfl⟩ := hq
    refine v_swap ?_
    show vv K ({ frames := 7, cells := 1, slots := 6, locals := 190 } : Room) G 3 0 0 ([(o, ob 6 [.ref t, .ref s, .ref ra, .ref x, .ref e, .ref e2]), (t, ob 0 [.ref ta, .ref tb, .int (nI nc)]), (ta, aJ G 512 kc), (tb, aI G 512 vc), (s, ob 2 [.ref nt, .ref m, .int (nI L.length), va_rf (td)]), (nt, ob 0 [.ref a, .ref b, .int (nI L.length)]), (a, aJ G 500 ks), (b, aI G 500 vs), (m, aL G 500 mf), (ra, aR G 4 rmf), (x, ob 5 [.ref t, .ref s, .ref p, .ref c, .int (nI st), .int en, .long k0, .int n0, va_rf (ld)]), (p, aI G 200 f), (c, aI G 200 g), (e, ob 4 [.ref v, .int (nI en1), .int (nI es1), .int (nI eb1)]), (v, aJ G 1600 fe), (e2, ob 4 [.ref v2, .int (nI en2), .int (nI es2), .int (nI eb2)]), (v2, aJ G 1600 fe2)] ++ (rpool G RL ++ lpool G L)) 14 [(0, .ref o), (1, .int rr), (2, .int pt)] [.int (wi pt (nI 1114111))]
    refine v_if_ne (pc := 14) C 25 d_Wo_add_14 (by decide) (fun h2 => ?_) (fun h2 => ?_)
    · obtain ⟨rj, hrj, rfl⟩ := wi_nat (by decide) h1
      obtain ⟨pj, hpj, rfl⟩ := wi_nat (by decide) h2
      obtain ⟨y, hy⟩ : ∃ y, RL[rj]? = some y := ⟨_, List.getElem?_eq_getElem (by rw [hRO.1]; omega)⟩
      have hym := hRm rj y hy
      have hyo := hRO.2 y (List.mem_of_getElem? hy)
      have hsp0 : spAdd (cl, absL L, told, RL.map (·.2.1)) (nI rj) (nI pj) = if y.2.1.length = 200 then (2, nI 0, (cl, absL L, told, RL.map (·.2.1))) else (0, nI (y.2.1.length + 1), (cl, absL L, told, (RL.map (·.2.1)).set rj (y.2.1 ++ [pj]))) := by unfold spAdd; rw [if_neg (fun z => z.elim (nbad hrj (by decide)) (nbad hpj (by decide))), toN_nI (by omega), toN_nI (by omega)]; simp only [rowA_at hy]
      refine v_aload_n (pc := 25) C 0 d_Wo_add_25 rfl rfl ?_
      refine v_get (pc := 26) (Cn := "WeightOrder") (T := T_Wo) (N := 6) (ci := 6) (v := .ref ra) C 0 2 rfl rfl hin_Wo (by decide) rfl k_142 rfl d_Wo_add_26 ?_
      refine v_iload_n (pc := 29) C 1 d_Wo_add_29 rfl rfl ?_
      refine v_aaldR (pc := 30) C 9 rfl rj rfl (by omega) (by decide) d_Wo_add_30 ?_
      rw [hym]
      show vv K ({ frames := 7, cells := 1, slots := 6, locals := 190 } : Room) G 3 0 0 ([(o, ob 6 [.ref t, .ref s, .ref ra, .ref x, .ref e, .ref e2]), (t, ob 0 [.ref ta, .ref tb, .int (nI nc)]), (ta, aJ G 512 kc), (tb, aI G 512 vc), (s, ob 2 [.ref nt, .ref m, .int (nI L.length), va_rf (td)]), (nt, ob 0 [.ref a, .ref b, .int (nI L.length)]), (a, aJ G 500 ks), (b, aI G 500 vs), (m, aL G 500 mf), (ra, aR G 4 rmf), (x, ob 5 [.ref t, .ref s, .ref p, .ref c, .int (nI st), .int en, .long k0, .int n0, va_rf (ld)]), (p, aI G 200 f), (c, aI G 200 g), (e, ob 4 [.ref v, .int (nI en1), .int (nI es1), .int (nI eb1)]), (v, aJ G 1600 fe), (e2, ob 4 [.ref v2, .int (nI en2), .int (nI es2), .int (nI eb2)]), (v2, aJ G 1600 fe2)] ++ (rpool G RL ++ lpool G L)) 31 [(0, .ref o), (1, .int (nI rj)), (2, .int (nI pj))] [.ref y.1.1]
      obtain ⟨RA, RB, e1, -, e2q⟩ := lset_split hy
      rw [show rpool G RL = rpool G (RA ++ y :: RB) by rw [← e1]]
      refine v_rout ?_
      show vv K ({ frames := 7, cells := 1, slots := 6, locals := 190 } : Room) G 3 0 0 ([(o, ob 6 [.ref t, .ref s, .ref ra, .ref x, .ref e, .ref e2]), (t, ob 0 [.ref ta, .ref tb, .int (nI nc)]), (ta, aJ G 512 kc), (tb, aI G 512 vc), (s, ob 2 [.ref nt, .ref m, .int (nI L.length), va_rf (td)]), (nt, ob 0 [.ref a, .ref b, .int (nI L.length)]), (a, aJ G 500 ks), (b, aI G 500 vs), (m, aL G 500 mf), (ra, aR G 4 rmf), (x, ob 5 [.ref t, .ref s, .ref p, .ref c, .int (nI st), .int en, .long k0, .int n0, va_rf (ld)]), (p, aI G 200 f), (c, aI G 200 g), (e, ob 4 [.ref v, .int (nI en1), .int (nI es1), .int (nI eb1)]), (v, aJ G 1600 fe), (e2, ob 4 [.ref v2, .int (nI en2), .int (nI es2), .int (nI eb2)]), (v2, aJ G 1600 fe2), (y.1.1, ob 3 [.ref y.1.2, .int (nI y.2.1.length)]), (y.1.2, aI G 200 y.2.2)] ++ (rpool G (RA ++ RB) ++ lpool G L)) 31 [(0, .ref o), (1, .int (nI rj)), (2, .int (nI pj))] [.ref y.1.1]
      have hyl := hyo.1
      refine v_callV (pc := 31) (As := []) (rest := []) C (c_Ro_isFull _ G y.1.1 y.1.2 y.2.2 y.2.1.length hyo.1) l_Wo_107 ([(o, ob 6 [.ref t, .ref s, .ref ra, .ref x, .ref e, .ref e2]), (t, ob 0 [.ref ta, .ref tb, .int (nI nc)]), (ta, aJ G 512 kc), (tb, aI G 512 vc), (s, ob 2 [.ref nt, .ref m, .int (nI L.length), va_rf (td)]), (nt, ob 0 [.ref a, .ref b, .int (nI L.length)]), (a, aJ G 500 ks), (b, aI G 500 vs), (m, aL G 500 mf), (ra, aR G 4 rmf), (x, ob 5 [.ref t, .ref s, .ref p, .ref c, .int (nI st), .int en, .long k0, .int n0, va_rf (ld)]), (p, aI G 200 f), (c, aI G 200 g), (e, ob 4 [.ref v, .int (nI en1), .int (nI es1), .int (nI eb1)]), (v, aJ G 1600 fe), (e2, ob 4 [.ref v2, .int (nI en2), .int (nI es2), .int (nI eb2)]), (v2, aJ G 1600 fe2)] ++ (rpool G (RA ++ RB) ++ lpool G L)) (sp_poolR [0, 1, 2, 3, 4, 5, 6, 7, 8, 9, 10, 11, 12, 13, 14, 15, 16] [17, 18] rfl rfl rfl) 0 rfl rfl rfl rfl rfl (Nat.le_of_ble_eq_true rfl) (by decide) (by decide) (by decide) (by decide) d_Wo_add_31 (fun r w' hq => ?_)
      obtain ⟨rfl, rfl⟩ := hq
      refine v_swap ?_
      show vv K ({ frames := 7, cells := 1, slots := 6, locals := 190 } : Room) G 3 0 0 ([(o, ob 6 [.ref t, .ref s, .ref ra, .ref x, .ref e, .ref e2]), (t, ob 0 [.ref ta, .ref tb, .int (nI nc)]), (ta, aJ G 512 kc), (tb, aI G 512 vc), (s, ob 2 [.ref nt, .ref m, .int (nI L.length), va_rf (td)]), (nt, ob 0 [.ref a, .ref b, .int (nI L.length)]), (a, aJ G 500 ks), (b, aI G 500 vs), (m, aL G 500 mf), (ra, aR G 4 rmf), (x, ob 5 [.ref t, .ref s, .ref p, .ref c, .int (nI st), .int en, .long k0, .int n0, va_rf (ld)]), (p, aI G 200 f), (c, aI G 200 g), (e, ob 4 [.ref v, .int (nI en1), .int (nI es1), .int (nI eb1)]), (v, aJ G 1600 fe), (e2, ob 4 [.ref v2, .int (nI en2), .int (nI es2), .int (nI eb2)]), (v2, aJ G 1600 fe2), (y.1.1, ob 3 [.ref y.1.2, .int (nI y.2.1.length)]), (y.1.2, aI G 200 y.2.2)] ++ (rpool G (RA ++ RB) ++ lpool G L)) 34 [(0, .ref o), (1, .int (nI rj)), (2, .int (nI pj))] [.int (if y.2.1.length = 200 then nI 1 else nI 0)]
      by_cases h5 : y.2.1.length = 200
      · rw [if_pos h5]
        refine v_ifN_eq (pc := 34) C 45 1 d_Wo_add_34 (by decide) (by omega) (fun h6 => ?_) (fun h6 => ?_)
        · omega
        · refine v_wsubP [0, 1, 2, 3, 4, 5, 6, 7, 8, 9, 10, 11, 12, 13, 14, 15, 16, 17, 18] ([(o, ob 6 [.ref t, .ref s, .ref ra, .ref x, .ref e, .ref e2]), (t, ob 0 [.ref ta, .ref tb, .int (nI nc)]), (ta, aJ G 512 kc), (tb, aI G 512 vc), (s, ob 2 [.ref nt, .ref m, .int (nI L.length), va_rf (td)]), (nt, ob 0 [.ref a, .ref b, .int (nI L.length)]), (a, aJ G 500 ks), (b, aI G 500 vs), (m, aL G 500 mf), (ra, aR G 4 rmf), (x, ob 5 [.ref t, .ref s, .ref p, .ref c, .int (nI st), .int en, .long k0, .int n0, va_rf (ld)]), (p, aI G 200 f), (c, aI G 200 g), (e, ob 4 [.ref v, .int (nI en1), .int (nI es1), .int (nI eb1)]), (v, aJ G 1600 fe), (e2, ob 4 [.ref v2, .int (nI en2), .int (nI es2), .int (nI eb2)]), (v2, aJ G 1600 fe2), (y.1.1, ob 3 [.ref y.1.2, .int (nI y.2.1.length)]), (y.1.2, aI G 200 y.2.2)]) rfl rfl ?_
          refine v_rin (X := [(o, ob 6 [.ref t, .ref s, .ref ra, .ref x, .ref e, .ref e2]), (t, ob 0 [.ref ta, .ref tb, .int (nI nc)]), (ta, aJ G 512 kc), (tb, aI G 512 vc), (s, ob 2 [.ref nt, .ref m, .int (nI L.length), va_rf (td)]), (nt, ob 0 [.ref a, .ref b, .int (nI L.length)]), (a, aJ G 500 ks), (b, aI G 500 vs), (m, aL G 500 mf), (ra, aR G 4 rmf), (x, ob 5 [.ref t, .ref s, .ref p, .ref c, .int (nI st), .int en, .long k0, .int n0, va_rf (ld)]), (p, aI G 200 f), (c, aI G 200 g), (e, ob 4 [.ref v, .int (nI en1), .int (nI es1), .int (nI eb1)]), (v, aJ G 1600 fe), (e2, ob 4 [.ref v2, .int (nI en2), .int (nI es2), .int (nI eb2)]), (v2, aJ G 1600 fe2)]) (y := y) ?_
          rw [← e1]
          exact v_throw (pc := 37) C Y _ th_IOO d_Wo_add_37 d_Wo_add_40 d_Wo_add_41 d_Wo_add_44 (by decide) (by decide) (by decide) (by decide) ⟨⟨t, ta, tb, nc, s, nt, a, b, m, ra, x, p, c, st, e, v, en1, es1, eb1, e2, v2, en2, es2, eb2, td, ld, mf, rmf, kc, ks, fe, fe2, vc, vs, f, g, en, n0, k0, Fc, L, RL, rfl, hnc, hk5, hTc, hcl, hL, hT, hM, rfl, htd, hRO, hRm, rfl⟩, Or.inr ⟨by rw [hsp0, if_pos h5], rfl⟩⟩
      · rw [if_neg h5]
        refine v_ifN_eq (pc := 34) C 45 0 d_Wo_add_34 (by decide) (by omega) (fun h6 => ?_) (fun h6 => ?_)
        · have hsp : spAdd (cl, absL L, told, RL.map (·.2.1)) (nI rj) (nI pj) = (0, nI (y.2.1.length + 1), (cl, absL L, told, (RL.map (·.2.1)).set rj (y.2.1 ++ [pj]))) := by rw [hsp0, if_neg h5]
          refine v_aload_n (pc := 45) C 0 d_Wo_add_45 rfl rfl ?_
          refine v_get (pc := 46) (Cn := "WeightOrder") (T := T_Wo) (N := 6) (ci := 6) (v := .ref ra) C 0 2 rfl rfl hin_Wo (by decide) rfl k_142 rfl d_Wo_add_46 ?_
          refine v_iload_n (pc := 49) C 1 d_Wo_add_49 rfl rfl ?_
          refine v_aaldR (pc := 50) C 9 rfl rj rfl (by omega) (by decide) d_Wo_add_50 ?_
          rw [hym]
          show vv K ({ frames := 7, cells := 1, slots := 6, locals := 190 } : Room) G 3 0 0 ([(o, ob 6 [.ref t, .ref s, .ref ra, .ref x, .ref e, .ref e2]), (t, ob 0 [.ref ta, .ref tb, .int (nI nc)]), (ta, aJ G 512 kc), (tb, aI G 512 vc), (s, ob 2 [.ref nt, .ref m, .int (nI L.length), va_rf (td)]), (nt, ob 0 [.ref a, .ref b, .int (nI L.length)]), (a, aJ G 500 ks), (b, aI G 500 vs), (m, aL G 500 mf), (ra, aR G 4 rmf), (x, ob 5 [.ref t, .ref s, .ref p, .ref c, .int (nI st), .int en, .long k0, .int n0, va_rf (ld)]), (p, aI G 200 f), (c, aI G 200 g), (e, ob 4 [.ref v, .int (nI en1), .int (nI es1), .int (nI eb1)]), (v, aJ G 1600 fe), (e2, ob 4 [.ref v2, .int (nI en2), .int (nI es2), .int (nI eb2)]), (v2, aJ G 1600 fe2), (y.1.1, ob 3 [.ref y.1.2, .int (nI y.2.1.length)]), (y.1.2, aI G 200 y.2.2)] ++ (rpool G (RA ++ RB) ++ lpool G L)) 51 [(0, .ref o), (1, .int (nI rj)), (2, .int (nI pj))] [.ref y.1.1]
          refine v_iload_n (pc := 51) C 2 d_Wo_add_51 rfl rfl ?_
          refine v_callV (pc := 52) (As := [.int (nI pj)]) (rest := []) C (c_Ro_append _ G y.1.1 y.1.2 y.2.2 y.2.1.length (nI pj) (by omega)) l_Wo_108 ([(o, ob 6 [.ref t, .ref s, .ref ra, .ref x, .ref e, .ref e2]), (t, ob 0 [.ref ta, .ref tb, .int (nI nc)]), (ta, aJ G 512 kc), (tb, aI G 512 vc), (s, ob 2 [.ref nt, .ref m, .int (nI L.length), va_rf (td)]), (nt, ob 0 [.ref a, .ref b, .int (nI L.length)]), (a, aJ G 500 ks), (b, aI G 500 vs), (m, aL G 500 mf), (ra, aR G 4 rmf), (x, ob 5 [.ref t, .ref s, .ref p, .ref c, .int (nI st), .int en, .long k0, .int n0, va_rf (ld)]), (p, aI G 200 f), (c, aI G 200 g), (e, ob 4 [.ref v, .int (nI en1), .int (nI es1), .int (nI eb1)]), (v, aJ G 1600 fe), (e2, ob 4 [.ref v2, .int (nI en2), .int (nI es2), .int (nI eb2)]), (v2, aJ G 1600 fe2)] ++ (rpool G (RA ++ RB) ++ lpool G L)) (sp_poolR [0, 1, 2, 3, 4, 5, 6, 7, 8, 9, 10, 11, 12, 13, 14, 15, 16] [17, 18] rfl rfl rfl) 0 rfl rfl rfl rfl rfl (Nat.le_of_ble_eq_true rfl) (by decide) (by decide) (by decide) (by decide) d_Wo_add_52 (fun r w' hq => ?_)
          obtain ⟨rfl, rfl⟩ := hq
          refine v_swap ?_
          show vv K ({ frames := 7, cells := 1, slots := 6, locals := 190 } : Room) G 3 0 0 ([(o, ob 6 [.ref t, .ref s, .ref ra, .ref x, .ref e, .ref e2]), (t, ob 0 [.ref ta, .ref tb, .int (nI nc)]), (ta, aJ G 512 kc), (tb, aI G 512 vc), (s, ob 2 [.ref nt, .ref m, .int (nI L.length), va_rf (td)]), (nt, ob 0 [.ref a, .ref b, .int (nI L.length)]), (a, aJ G 500 ks), (b, aI G 500 vs), (m, aL G 500 mf), (ra, aR G 4 rmf), (x, ob 5 [.ref t, .ref s, .ref p, .ref c, .int (nI st), .int en, .long k0, .int n0, va_rf (ld)]), (p, aI G 200 f), (c, aI G 200 g), (e, ob 4 [.ref v, .int (nI en1), .int (nI es1), .int (nI eb1)]), (v, aJ G 1600 fe), (e2, ob 4 [.ref v2, .int (nI en2), .int (nI es2), .int (nI eb2)]), (v2, aJ G 1600 fe2), (y.1.1, ob 3 [.ref y.1.2, .int (nI (y.2.1.length + 1))]), (y.1.2, aI G 200 (upd y.2.2 y.2.1.length (nI pj)))] ++ (rpool G (RA ++ RB) ++ lpool G L)) 55 [(0, .ref o), (1, .int (nI rj)), (2, .int (nI pj))] []
          refine v_aload_n (pc := 55) C 0 d_Wo_add_55 rfl rfl ?_
          refine v_get (pc := 56) (Cn := "WeightOrder") (T := T_Wo) (N := 6) (ci := 6) (v := .ref ra) C 0 2 rfl rfl hin_Wo (by decide) rfl k_142 rfl d_Wo_add_56 ?_
          refine v_iload_n (pc := 59) C 1 d_Wo_add_59 rfl rfl ?_
          refine v_aaldR (pc := 60) C 9 rfl rj rfl (by omega) (by decide) d_Wo_add_60 ?_
          rw [hym]
          show vv K ({ frames := 7, cells := 1, slots := 6, locals := 190 } : Room) G 3 0 0 ([(o, ob 6 [.ref t, .ref s, .ref ra, .ref x, .ref e, .ref e2]), (t, ob 0 [.ref ta, .ref tb, .int (nI nc)]), (ta, aJ G 512 kc), (tb, aI G 512 vc), (s, ob 2 [.ref nt, .ref m, .int (nI L.length), va_rf (td)]), (nt, ob 0 [.ref a, .ref b, .int (nI L.length)]), (a, aJ G 500 ks), (b, aI G 500 vs), (m, aL G 500 mf), (ra, aR G 4 rmf), (x, ob 5 [.ref t, .ref s, .ref p, .ref c, .int (nI st), .int en, .long k0, .int n0, va_rf (ld)]), (p, aI G 200 f), (c, aI G 200 g), (e, ob 4 [.ref v, .int (nI en1), .int (nI es1), .int (nI eb1)]), (v, aJ G 1600 fe), (e2, ob 4 [.ref v2, .int (nI en2), .int (nI es2), .int (nI eb2)]), (v2, aJ G 1600 fe2), (y.1.1, ob 3 [.ref y.1.2, .int (nI (y.2.1.length + 1))]), (y.1.2, aI G 200 (upd y.2.2 y.2.1.length (nI pj)))] ++ (rpool G (RA ++ RB) ++ lpool G L)) 61 [(0, .ref o), (1, .int (nI rj)), (2, .int (nI pj))] [.ref y.1.1]
          refine v_getN (pc := 61) (Cn := "WeightOrder$Row") (T := T_Ro) (N := 2) (ci := 3) (v := .int (nI (y.2.1.length + 1))) C 17 1 rfl rfl hin_Ro (by decide) rfl k_79 rfl d_Wo_add_61 ?_
          refine v_wsubP [0, 1, 2, 3, 4, 5, 6, 7, 8, 9, 10, 11, 12, 13, 14, 15, 16, 17, 18] ([(o, ob 6 [.ref t, .ref s, .ref ra, .ref x, .ref e, .ref e2]), (t, ob 0 [.ref ta, .ref tb, .int (nI nc)]), (ta, aJ G 512 kc), (tb, aI G 512 vc), (s, ob 2 [.ref nt, .ref m, .int (nI L.length), va_rf (td)]), (nt, ob 0 [.ref a, .ref b, .int (nI L.length)]), (a, aJ G 500 ks), (b, aI G 500 vs), (m, aL G 500 mf), (ra, aR G 4 rmf), (x, ob 5 [.ref t, .ref s, .ref p, .ref c, .int (nI st), .int en, .long k0, .int n0, va_rf (ld)]), (p, aI G 200 f), (c, aI G 200 g), (e, ob 4 [.ref v, .int (nI en1), .int (nI es1), .int (nI eb1)]), (v, aJ G 1600 fe), (e2, ob 4 [.ref v2, .int (nI en2), .int (nI es2), .int (nI eb2)]), (v2, aJ G 1600 fe2), (y.1.1, ob 3 [.ref y.1.2, .int (nI (y.2.1.length + 1))]), (y.1.2, aI G 200 (upd y.2.2 y.2.1.length (nI pj)))]) rfl rfl ?_
          have hll : y.2.1.length + 1 = (y.2.1 ++ [pj]).length := by simp
          have e3 := e2q (y.1, y.2.1 ++ [pj], upd y.2.2 y.2.1.length (nI pj))
          rw [hll] at hsp ⊢
          refine v_rin (X := [(o, ob 6 [.ref t, .ref s, .ref ra, .ref x, .ref e, .ref e2]), (t, ob 0 [.ref ta, .ref tb, .int (nI nc)]), (ta, aJ G 512 kc), (tb, aI G 512 vc), (s, ob 2 [.ref nt, .ref m, .int (nI L.length), va_rf (td)]), (nt, ob 0 [.ref a, .ref b, .int (nI L.length)]), (a, aJ G 500 ks), (b, aI G 500 vs), (m, aL G 500 mf), (ra, aR G 4 rmf), (x, ob 5 [.ref t, .ref s, .ref p, .ref c, .int (nI st), .int en, .long k0, .int n0, va_rf (ld)]), (p, aI G 200 f), (c, aI G 200 g), (e, ob 4 [.ref v, .int (nI en1), .int (nI es1), .int (nI eb1)]), (v, aJ G 1600 fe), (e2, ob 4 [.ref v2, .int (nI en2), .int (nI es2), .int (nI eb2)]), (v2, aJ G 1600 fe2)]) (y := (y.1, y.2.1 ++ [pj], upd y.2.2 y.2.1.length (nI pj))) ?_
          rw [← e3]
          exact v_iret (pc := 64) C X d_Wo_add_64 ⟨by rw [hsp], by rw [hsp], by rw [hsp]; exact ⟨t, ta, tb, nc, s, nt, a, b, m, ra, x, p, c, st, e, v, en1, es1, eb1, e2, v2, en2, es2, eb2, td, ld, mf, rmf, kc, ks, fe, fe2, vc, vs, f, g, en, n0, k0, Fc, L, RL.set rj (y.1, y.2.1 ++ [pj], upd y.2.2 y.2.1.length (nI pj)), rfl, hnc, hk5, hTc, hcl, hL, hT, hM, rfl, htd, rok_set hRO (rws_add hyo (by omega) hpj), rms_set hRm hy rfl, rows_set _⟩⟩ (by decide) (by decide)
        · omega
    · exact v_throw (pc := 17) C Y _ th_IAE d_Wo_add_17 d_Wo_add_20 d_Wo_add_21 d_Wo_add_24 (by decide) (by decide) (by decide) (by decide) ⟨⟨t, ta, tb, nc, s, nt, a, b, m, ra, x, p, c, st, e, v, en1, es1, eb1, e2, v2, en2, es2, eb2, td, ld, mf, rmf, kc, ks, fe, fe2, vc, vs, f, g, en, n0, k0, Fc, L, RL, rfl, hnc, hk5, hTc, hcl, hL, hT, hM, rfl, htd, hRO, hRm, rfl⟩, Or.inl ⟨by unfold spAdd; rw [if_pos (Or.inr (wi_eq0 h2))], rfl⟩⟩

set_option maxHeartbeats 4000000 in
set_option maxRecDepth 100000 in
theorem c_Wo_clear (l : Launch) (htr : l.stackTraces = false) (G : Gx) (o k : Nat) (σ : Sg) (w : va_W) (rr : Int32) (hw : WoI G o k σ w)  : CTX l G y_Wo_clear b_Wo_clear 3 (some .int) ({ frames := 7, cells := 1, slots := 6, locals := 190 } : Room) w [.ref o, .int rr] (fun r w' => (spClear σ rr).1 = 0 ∧ r = some (.int (spClear σ rr).2.1) ∧ WoI G o k (spClear σ rr).2.2 w') (fun E w' => WoI G o k σ w' ∧ ((spClear σ rr).1 = 1 ∧ E = "java/lang/IllegalArgumentException" ∨ (spClear σ rr).1 = 2 ∧ E = "java/lang/IndexOutOfBoundsException")) := by
  obtain ⟨cl, A9, told, rws⟩ := σ
  obtain ⟨t, ta, tb, nc, s, nt, a, b, m, ra, x, p, c, st, e, v, en1, es1, eb1, e2, v2, en2, es2, eb2, td, ld, mf, rmf, kc, ks, fe, fe2, vc, vs, f, g, en, n0, k0, Fc, L, RL, rfl, hnc, hk5, hTc, hcl, hL, hT, hM, hA, htd, hRO, hRm, hRw⟩ := hw
  have hA : absL L = A9 := hA
  have hRw : RL.map (·.2.1) = rws := hRw
  subst hA; subst hRw
  refine ctx_of htr [(0, .ref o), (1, .int rr)] (by decide) (Nat.le_of_ble_eq_true rfl) rfl (fun K hKl C X Y => ?_)
  subst hKl
  refine v_iload_n (pc := 0) C 1 d_Wo_clear_0 rfl rfl ?_
  refine v_iconst (pc := 1) C (nI 3) d_Wo_clear_1 (by decide +kernel) ?_
  refine v_callS (pc := 2) (As := [.int rr, .int (nI 3)]) (rest := []) C (c_Wo_isWithin _ G rr (nI 3)) l_Wo_52 ([(o, ob 6 [.ref t, .ref s, .ref ra, .ref x, .ref e, .ref e2]), (t, ob 0 [.ref ta, .ref tb, .int (nI nc)]), (ta, aJ G 512 kc), (tb, aI G 512 vc), (s, ob 2 [.ref nt, .ref m, .int (nI L.length), va_rf (td)]), (nt, ob 0 [.ref a, .ref b, .int (nI L.length)]), (a, aJ G 500 ks), (b, aI G 500 vs), (m, aL G 500 mf), (ra, aR G 4 rmf), (x, ob 5 [.ref t, .ref s, .ref p, .ref c, .int (nI st), .int en, .long k0, .int n0, va_rf (ld)]), (p, aI G 200 f), (c, aI G 200 g), (e, ob 4 [.ref v, .int (nI en1), .int (nI es1), .int (nI eb1)]), (v, aJ G 1600 fe), (e2, ob 4 [.ref v2, .int (nI en2), .int (nI es2), .int (nI eb2)]), (v2, aJ G 1600 fe2)] ++ (rpool G RL ++ lpool G L)) (sp_poolR [0, 1, 2, 3, 4, 5, 6, 7, 8, 9, 10, 11, 12, 13, 14, 15, 16] [] rfl rfl rfl) rfl rfl (Nat.le_of_ble_eq_true rfl) (by decide) (by decide) (by decide) (by decide) d_Wo_clear_2 (fun r w' hq => ?_)
  obtain ⟨rfl, rfl⟩ := hq
  refine v_swap ?_
  show vv K ({ frames := 7, cells := 1, slots := 6, locals := 190 } : Room) G 3 0 0 ([(o, ob 6 [.ref t, .ref s, .ref ra, .ref x, .ref e, .ref e2]), (t, ob 0 [.ref ta, .ref tb, .int (nI nc)]), (ta, aJ G 512 kc), (tb, aI G 512 vc), (s, ob 2 [.ref nt, .ref m, .int (nI L.length), va_rf (td)]), (nt, ob 0 [.ref a, .ref b, .int (nI L.length)]), (a, aJ G 500 ks), (b, aI G 500 vs), (m, aL G 500 mf), (ra, aR G 4 rmf), (x, ob 5 [.ref t, .ref s, .ref p, .ref c, .int (nI st), .int en, .long k0, .int n0, va_rf (ld)]), (p, aI G 200 f), (c, aI G 200 g), (e, ob 4 [.ref v, .int (nI en1), .int (nI es1), .int (nI eb1)]), (v, aJ G 1600 fe), (e2, ob 4 [.ref v2, .int (nI en2), .int (nI es2), .int (nI eb2)]), (v2, aJ G 1600 fe2)] ++ (rpool G RL ++ lpool G L)) 5 [(0, .ref o), (1, .int rr)] [.int (wi rr (nI 3))]
  refine v_if_ne (pc := 5) C 16 d_Wo_clear_5 (by decide) (fun h1 => ?_) (fun h1 => ?_)
  · obtain ⟨rj, hrj, rfl⟩ := wi_nat (by decide) h1
    obtain ⟨y, hy⟩ : ∃ y, RL[rj]? = some y := ⟨_, List.getElem?_eq_getElem (by rw [hRO.1]; omega)⟩
    have hym := hRm rj y hy
    have hyo := hRO.2 y (List.mem_of_getElem? hy)
    have hsp : spClear (cl, absL L, told, RL.map (·.2.1)) (nI rj) = (0, nI y.2.1.length, (cl, absL L, told, (RL.map (·.2.1)).set rj [])) := by unfold spClear; rw [if_neg (nbad hrj (by decide)), toN_nI (by omega), rowA_at hy]
    refine v_aload_n (pc := 16) C 0 d_Wo_clear_16 rfl rfl ?_
    refine v_get (pc := 17) (Cn := "WeightOrder") (T := T_Wo) (N := 6) (ci := 6) (v := .ref ra) C 0 2 rfl rfl hin_Wo (by decide) rfl k_142 rfl d_Wo_clear_17 ?_
    refine v_iload_n (pc := 20) C 1 d_Wo_clear_20 rfl rfl ?_
    refine v_aaldR (pc := 21) C 9 rfl rj rfl (by omega) (by decide) d_Wo_clear_21 ?_
    rw [hym]
    show vv K ({ frames := 7, cells := 1, slots := 6, locals := 190 } : Room) G 3 0 0 ([(o, ob 6 [.ref t, .ref s, .ref ra, .ref x, .ref e, .ref e2]), (t, ob 0 [.ref ta, .ref tb, .int (nI nc)]), (ta, aJ G 512 kc), (tb, aI G 512 vc), (s, ob 2 [.ref nt, .ref m, .int (nI L.length), va_rf (td)]), (nt, ob 0 [.ref a, .ref b, .int (nI L.length)]), (a, aJ G 500 ks), (b, aI G 500 vs), (m, aL G 500 mf), (ra, aR G 4 rmf), (x, ob 5 [.ref t, .ref s, .ref p, .ref c, .int (nI st), .int en, .long k0, .int n0, va_rf (ld)]), (p, aI G 200 f), (c, aI G 200 g), (e, ob 4 [.ref v, .int (nI en1), .int (nI es1), .int (nI eb1)]), (v, aJ G 1600 fe), (e2, ob 4 [.ref v2, .int (nI en2), .int (nI es2), .int (nI eb2)]), (v2, aJ G 1600 fe2)] ++ (rpool G RL ++ lpool G L)) 22 [(0, .ref o), (1, .int (nI rj))] [.ref y.1.1]
    obtain ⟨RA, RB, e1, -, e2q⟩ := lset_split hy
    rw [show rpool G RL = rpool G (RA ++ y :: RB) by rw [← e1]]
    refine v_rout ?_
    show vv K ({ frames := 7, cells := 1, slots := 6, locals := 190 } : Room) G 3 0 0 ([(o, ob 6 [.ref t, .ref s, .ref ra, .ref x, .ref e, .ref e2]), (t, ob 0 [.ref ta, .ref tb, .int (nI nc)]), (ta, aJ G 512 kc), (tb, aI G 512 vc), (s, ob 2 [.ref nt, .ref m, .int (nI L.length), va_rf (td)]), (nt, ob 0 [.ref a, .ref b, .int (nI L.length)]), (a, aJ G 500 ks), (b, aI G 500 vs), (m, aL G 500 mf), (ra, aR G 4 rmf), (x, ob 5 [.ref t, .ref s, .ref p, .ref c, .int (nI st), .int en, .long k0, .int n0, va_rf (ld)]), (p, aI G 200 f), (c, aI G 200 g), (e, ob 4 [.ref v, .int (nI en1), .int (nI es1), .int (nI eb1)]), (v, aJ G 1600 fe), (e2, ob 4 [.ref v2, .int (nI en2), .int (nI es2), .int (nI eb2)]), (v2, aJ G 1600 fe2), (y.1.1, ob 3 [.ref y.1.2, .int (nI y.2.1.length)]), (y.1.2, aI G 200 y.2.2)] ++ (rpool G (RA ++ RB) ++ lpool G L)) 22 [(0, .ref o), (1, .int (nI rj))] [.ref y.1.1]
    refine v_getN (pc := 22) (Cn := "WeightOrder$Row") (T := T_Ro) (N := 2) (ci := 3) (v := .int (nI y.2.1.length)) C 17 1 rfl rfl hin_Ro (by decide) rfl k_79 rfl d_Wo_clear_22 ?_
    refine v_istore_n (pc := 25) C [(2, .int (nI y.2.1.length)), (0, .ref o), (1, .int (nI rj))] d_Wo_clear_25 rfl (by decide) rfl ?_
    refine v_aload_n (pc := 26) C 1 d_Wo_clear_26 rfl rfl ?_
    refine v_get (pc := 27) (Cn := "WeightOrder") (T := T_Wo) (N := 6) (ci := 6) (v := .ref ra) C 0 2 rfl rfl hin_Wo (by decide) rfl k_142 rfl d_Wo_clear_27 ?_
    refine v_iload_n (pc := 30) C 2 d_Wo_clear_30 rfl rfl ?_
    refine v_aaldR (pc := 31) C 9 rfl rj rfl (by omega) (by decide) d_Wo_clear_31 ?_
    rw [hym]
    show vv K ({ frames := 7, cells := 1, slots := 6, locals := 190 } : Room) G 3 0 0 ([(o, ob 6 [.ref t, .ref s, .ref ra, .ref x, .ref e, .ref e2]), (t, ob 0 [.ref ta, .ref tb, .int (nI nc)]), (ta, aJ G 512 kc), (tb, aI G 512 vc), (s, ob 2 [.ref nt, .ref m, .int (nI L.length), va_rf (td)]), (nt, ob 0 [.ref a, .ref b, .int (nI L.length)]), (a, aJ G 500 ks), (b, aI G 500 vs), (m, aL G 500 mf), (ra, aR G 4 rmf), (x, ob 5 [.ref t, .ref s, .ref p, .ref c, .int (nI st), .int en, .long k0, .int n0, va_rf (ld)]), (p, aI G 200 f), (c, aI G 200 g), (e, ob 4 [.ref v, .int (nI en1), .int (nI es1), .int (nI eb1)]), (v, aJ G 1600 fe), (e2, ob 4 [.ref v2, .int (nI en2), .int (nI es2), .int (nI eb2)]), (v2, aJ G 1600 fe2), (y.1.1, ob 3 [.ref y.1.2, .int (nI y.2.1.length)]), (y.1.2, aI G 200 y.2.2)] ++ (rpool G (RA ++ RB) ++ lpool G L)) 32 [(2, .int (nI y.2.1.length)), (0, .ref o), (1, .int (nI rj))] [.ref y.1.1]
    refine v_iconst (pc := 32) C (nI 0) d_Wo_clear_32 (by decide +kernel) ?_
    refine v_putN (pc := 33) (Cn := "WeightOrder$Row") (T := T_Ro) (N := 2) (ci := 3) (v := .int (nI 0)) C 17 1 rfl rfl hin_Ro (by decide) rfl ([(o, ob 6 [.ref t, .ref s, .ref ra, .ref x, .ref e, .ref e2]), (t, ob 0 [.ref ta, .ref tb, .int (nI nc)]), (ta, aJ G 512 kc), (tb, aI G 512 vc), (s, ob 2 [.ref nt, .ref m, .int (nI L.length), va_rf (td)]), (nt, ob 0 [.ref a, .ref b, .int (nI L.length)]), (a, aJ G 500 ks), (b, aI G 500 vs), (m, aL G 500 mf), (ra, aR G 4 rmf), (x, ob 5 [.ref t, .ref s, .ref p, .ref c, .int (nI st), .int en, .long k0, .int n0, va_rf (ld)]), (p, aI G 200 f), (c, aI G 200 g), (e, ob 4 [.ref v, .int (nI en1), .int (nI es1), .int (nI eb1)]), (v, aJ G 1600 fe), (e2, ob 4 [.ref v2, .int (nI en2), .int (nI es2), .int (nI eb2)]), (v2, aJ G 1600 fe2), (y.1.1, ob 3 [.ref y.1.2, .int (nI 0)]), (y.1.2, aI G 200 y.2.2)] ++ (rpool G (RA ++ RB) ++ lpool G L)) t_Ro t_Ro_ok n_Ro (.int) rfl rfl rfl (Nat.le_of_ble_eq_true rfl) rfl rfl k_79 d_Wo_clear_33 ?_
    refine v_iload_n (pc := 36) C 0 d_Wo_clear_36 rfl rfl ?_
    refine v_wsubP [0, 1, 2, 3, 4, 5, 6, 7, 8, 9, 10, 11, 12, 13, 14, 15, 16, 17, 18] ([(o, ob 6 [.ref t, .ref s, .ref ra, .ref x, .ref e, .ref e2]), (t, ob 0 [.ref ta, .ref tb, .int (nI nc)]), (ta, aJ G 512 kc), (tb, aI G 512 vc), (s, ob 2 [.ref nt, .ref m, .int (nI L.length), va_rf (td)]), (nt, ob 0 [.ref a, .ref b, .int (nI L.length)]), (a, aJ G 500 ks), (b, aI G 500 vs), (m, aL G 500 mf), (ra, aR G 4 rmf), (x, ob 5 [.ref t, .ref s, .ref p, .ref c, .int (nI st), .int en, .long k0, .int n0, va_rf (ld)]), (p, aI G 200 f), (c, aI G 200 g), (e, ob 4 [.ref v, .int (nI en1), .int (nI es1), .int (nI eb1)]), (v, aJ G 1600 fe), (e2, ob 4 [.ref v2, .int (nI en2), .int (nI es2), .int (nI eb2)]), (v2, aJ G 1600 fe2), (y.1.1, ob 3 [.ref y.1.2, .int (nI 0)]), (y.1.2, aI G 200 y.2.2)]) rfl rfl ?_
    have e3 := e2q (y.1, [], y.2.2)
    refine v_rin (X := [(o, ob 6 [.ref t, .ref s, .ref ra, .ref x, .ref e, .ref e2]), (t, ob 0 [.ref ta, .ref tb, .int (nI nc)]), (ta, aJ G 512 kc), (tb, aI G 512 vc), (s, ob 2 [.ref nt, .ref m, .int (nI L.length), va_rf (td)]), (nt, ob 0 [.ref a, .ref b, .int (nI L.length)]), (a, aJ G 500 ks), (b, aI G 500 vs), (m, aL G 500 mf), (ra, aR G 4 rmf), (x, ob 5 [.ref t, .ref s, .ref p, .ref c, .int (nI st), .int en, .long k0, .int n0, va_rf (ld)]), (p, aI G 200 f), (c, aI G 200 g), (e, ob 4 [.ref v, .int (nI en1), .int (nI es1), .int (nI eb1)]), (v, aJ G 1600 fe), (e2, ob 4 [.ref v2, .int (nI en2), .int (nI es2), .int (nI eb2)]), (v2, aJ G 1600 fe2)]) (y := (y.1, [], y.2.2)) ?_
    rw [← e3]
    exact v_iret (pc := 37) C X d_Wo_clear_37 ⟨by rw [hsp], by rw [hsp], by rw [hsp]; exact ⟨t, ta, tb, nc, s, nt, a, b, m, ra, x, p, c, st, e, v, en1, es1, eb1, e2, v2, en2, es2, eb2, td, ld, mf, rmf, kc, ks, fe, fe2, vc, vs, f, g, en, n0, k0, Fc, L, RL.set rj (y.1, [], y.2.2), rfl, hnc, hk5, hTc, hcl, hL, hT, hM, rfl, htd, rok_set hRO (rws_nil hyo), rms_set hRm hy rfl, rows_set _⟩⟩ (by decide) (by decide)
  · exact v_throw (pc := 8) C Y _ th_IAE d_Wo_clear_8 d_Wo_clear_11 d_Wo_clear_12 d_Wo_clear_15 (by decide) (by decide) (by decide) (by decide) ⟨⟨t, ta, tb, nc, s, nt, a, b, m, ra, x, p, c, st, e, v, en1, es1, eb1, e2, v2, en2, es2, eb2, td, ld, mf, rmf, kc, ks, fe, fe2, vc, vs, f, g, en, n0, k0, Fc, L, RL, rfl, hnc, hk5, hTc, hcl, hL, hT, hM, rfl, htd, hRO, hRm, rfl⟩, Or.inl ⟨by unfold spClear; rw [if_pos (wi_eq0 h1)], rfl⟩⟩
