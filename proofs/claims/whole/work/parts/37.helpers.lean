/-! The law's helpers: contracts -/
theorem woi_0 {G : Gx} {o k : Nat} {σ : Sg} {w : va_W} (h : WoI G o k σ w) : ∃ fs, w[0]? = some (o, ob 6 fs) := by
  obtain ⟨t, ta, tb, nc, s, nt, a, b, m, ra, x, p, c, st, e, v, en1, es1, eb1, e2, v2, en2, es2, eb2, td, ld, mf, rmf, kc, ks, fe, fe2, vc, vs, f, g, en, n0, k0, Fc, L, RL, rfl, -⟩ := h
  exact ⟨_, rfl⟩
theorem moi_0 {G : Gx} {h k : Nat} {σ : Sg} {fl : Int32} {w : va_W} (H : MoI G h k σ fl w) : ∃ fs, w[0]? = some (h, ob 7 fs) := by
  obtain ⟨pa, ca, la, ro, co, ea, tx, sz, lf, fo, f1, nc, lz, fz, td, P, C9, LN, RW, CO, EA, SZ, LF, FO, F1, tf, TL, rfl, -⟩ := H
  exact ⟨_, rfl⟩
theorem spOrder_s (σ : Sg) (p c : Int32) : (spOrder σ p c).1 ≤ 1 ∧ ((spOrder σ p c).1 ≠ 0 → (spOrder σ p c).2.2 = σ) := by
  unfold spOrder; split <;> simp
theorem spLine_s (σ : Sg) (n a b c : Int32) : (spLine σ n a b c).1 ≤ 2 ∧ ((spLine σ n a b c).1 ≠ 0 → (spLine σ n a b c).2.2 = σ) := by
  unfold spLine; split
  · simp
  · split <;> simp
theorem spElement_s (σ : Sg) (p s t : Int32) (v : Nat) : (spElement σ p s t v).1 ≤ 2 ∧ ((spElement σ p s t v).1 ≠ 0 → (spElement σ p s t v).2.2 = σ) := by
  unfold spElement; split
  · simp
  · split
    · simp
    · split <;> simp
theorem spAdd_s (σ : Sg) (r p : Int32) : (spAdd σ r p).1 ≤ 2 ∧ ((spAdd σ r p).1 ≠ 0 → (spAdd σ r p).2.2 = σ) := by
  unfold spAdd; split
  · simp
  · split <;> simp
theorem spClear_s (σ : Sg) (r : Int32) : (spClear σ r).1 ≤ 1 ∧ ((spClear σ r).1 ≠ 0 → (spClear σ r).2.2 = σ) := by
  unfold spClear; split <;> simp
theorem spCount_s (σ : Sg) (r : Int32) : (spCount σ r).1 ≤ 1 ∧ ((spCount σ r).1 ≠ 0 → (spCount σ r).2.2 = σ) := by
  unfold spCount; split <;> simp
theorem spWeight_s (σ : Sg) (r : Int32) (sh : Nat) (i u : Int32) : (spWeight σ r sh i u).1 ≤ 1 ∧ ((spWeight σ r sh i u).1 ≠ 0 → (spWeight σ r sh i u).2.2 = σ) := by
  unfold spWeight; split
  · simp
  · split <;> simp
theorem spCompare_s (σ : Sg) (r u n : Int32) (sh : Nat) : (spCompare σ r u n sh).1 ≤ 1 ∧ ((spCompare σ r u n sh).1 ≠ 0 → (spCompare σ r u n sh).2.2 = σ) := by
  unfold spCompare; split <;> simp

theorem cat_order_1 : Cat "WeightOrderLaw" [(0, 6, 9, 13)] 3 nIAE 9 := ⟨[], ⟨0, 6, 9, 13⟩, [], rfl, fun y h => absurd h List.not_mem_nil, by decide, by decide, k_162, k_173, rfl⟩
set_option maxHeartbeats 4000000 in
set_option maxRecDepth 100000 in
theorem c_La_order (l : Launch) (htr : l.stackTraces = false) (G : Gx) (o k : Nat) (σ : Sg) (w : va_W) (p0 p1 : Int32) (hw : WoI G o k σ w) (hk : k < 512) : CTH l G y_La_order b_La_order 4 (some .int) [(0, 6, 9, 13)] ({ frames := 8, cells := 1, slots := 6, locals := 250 } : Room) (w) [.ref o, .int p0, .int p1] (fun r w' => r = some (.int (nI (spOrder σ p0 p1).1)) ∧ WoI G o (k + 1) (spOrder σ p0 p1).2.2 w') := by
  obtain ⟨fs, hw0⟩ := woi_0 hw
  obtain ⟨hle, hsm⟩ := spOrder_s σ p0 p1
  refine th_of [(0, .ref o), (1, .int p0), (2, .int p1)] (by decide) (Nat.le_of_ble_eq_true rfl) rfl (fun K hKl C X Z => ?_)
  subst hKl
  refine v_aload_n (pc := 0) C 0 d_La_order_0 rfl rfl ?_
  refine v_iload_n (pc := 1) C 1 d_La_order_1 rfl rfl ?_
  refine v_iload_n (pc := 2) C 2 d_La_order_2 rfl rfl ?_
  refine v_callX (pc := 3) (As := [.int p0, .int p1]) (rest := []) C Z (c_Wo_order _ htr G o k σ w p0 p1 hw hk) l_La_7 k_163 ([]) (sp_perm (List.Perm.refl _)) 0 hw0 rfl rfl rfl rfl (Nat.le_of_ble_eq_true rfl) (by decide) (by decide) (by decide) (by decide) d_La_order_3 (fun r w' hq => ?_) (fun E w' hq => ?_)
  · obtain ⟨h0, rfl, hw2⟩ := hq
    show vv K ({ frames := 8, cells := 1, slots := 6, locals := 250 } : Room) G 4 1 6 ([] ++ w') 6 [(0, .ref o), (1, .int p0), (2, .int p1)] []
    refine v_goto (pc := 6) C 12 d_La_order_6 (by decide) ?_
    refine v_iconst (pc := 12) C (nI 0) d_La_order_12 (by decide +kernel) ?_
    exact v_iret (pc := 13) C X d_La_order_13 ⟨by rw [h0], hw2⟩ (by decide) (by decide)
  · obtain ⟨hw2, hc⟩ := hq
    rcases hc with ⟨h1, rfl⟩ | ⟨h1, rfl⟩
    · refine ⟨9, cat_order_1, fun q9 => ?_⟩
      rw [← hsm (by rw [h1]; decide)] at hw2
      show vv K ({ frames := 8, cells := 1, slots := 6, locals := 250 } : Room) G 4 1 6 ([] ++ w') 9 [(0, .ref o), (1, .int p0), (2, .int p1)] [.ref q9]
      refine v_astore_n (pc := 9) C [(3, .ref q9), (0, .ref o), (1, .int p0), (2, .int p1)] d_La_order_9 rfl (by decide) rfl ?_
      refine v_iconst (pc := 10) C (nI 1) d_La_order_10 (by decide +kernel) ?_
      exact v_iret (pc := 11) C X d_La_order_11 ⟨by rw [h1], hw2⟩ (by decide) (by decide)
    · omega

theorem l_La_48 : LkH "WeightOrderLaw" 48 y_La_order b_La_order 4 (some .int) [(0, 6, 9, 13)] 3 := ⟨k_159, k_160, k_0, k_161, ⟨by decide, by decide, by decide +kernel⟩⟩
theorem cat_line_1 : Cat "WeightOrderLaw" [(0, 14, 17, 13), (0, 14, 21, 19)] 9 nIAE 17 := ⟨[], ⟨0, 14, 17, 13⟩, [⟨0, 14, 21, 19⟩], rfl, fun y h => absurd h List.not_mem_nil, by decide, by decide, k_162, k_173, rfl⟩
theorem cat_line_2 : Cat "WeightOrderLaw" [(0, 14, 17, 13), (0, 14, 21, 19)] 9 nIOO 21 := ⟨[⟨0, 14, 17, 13⟩], ⟨0, 14, 21, 19⟩, [], rfl, (fun y h => by rw [List.mem_singleton.mp h]; exact ⟨by decide, by decide, rfl, k_162⟩), by decide, by decide, k_251, k_279, rfl⟩
set_option maxHeartbeats 4000000 in
set_option maxRecDepth 100000 in
theorem c_La_line (l : Launch) (htr : l.stackTraces = false) (G : Gx) (o k : Nat) (σ : Sg) (w : va_W) (out : Nat) (f : Nat → Int64) (p0 p1 p2 p3 : Int32) (hw : WoI G o k σ w)  : CTH l G y_La_line b_La_line 7 (some .int) [(0, 14, 17, 13), (0, 14, 21, 19)] ({ frames := 8, cells := 4, slots := 25, locals := 250 } : Room) ([(out, aJ G 1 f)] ++ w) [.ref o, .int p0, .int p1, .int p2, .int p3, .ref out] (fun r w' => r = some (.int (nI (spLine σ p0 p1 p2 p3).1)) ∧ ∃ f' w2, w' = [(out, aJ G 1 f')] ++ w2 ∧ WoI G o k (spLine σ p0 p1 p2 p3).2.2 w2 ∧ ((spLine σ p0 p1 p2 p3).1 = 0 → f' 0 = (spLine σ p0 p1 p2 p3).2.1.toInt64)) := by
  obtain ⟨fs, hw0⟩ := woi_0 hw
  obtain ⟨hle, hsm⟩ := spLine_s σ p0 p1 p2 p3
  refine th_of [(0, .ref o), (1, .int p0), (2, .int p1), (3, .int p2), (4, .int p3), (5, .ref out)] (by decide) (Nat.le_of_ble_eq_true rfl) rfl (fun K hKl C X Z => ?_)
  subst hKl
  show vv K ({ frames := 8, cells := 4, slots := 25, locals := 250 } : Room) G 7 0 0 ([(out, aJ G 1 f)] ++ w) 0 [(0, .ref o), (1, .int p0), (2, .int p1), (3, .int p2), (4, .int p3), (5, .ref out)] []
  refine v_aload (pc := 0) C 5 d_La_line_0 rfl ?_
  refine v_iconst (pc := 2) C (nI 0) d_La_line_2 (by decide +kernel) ?_
  refine v_aload_n (pc := 3) C 0 d_La_line_3 rfl rfl ?_
  refine v_iload_n (pc := 4) C 1 d_La_line_4 rfl rfl ?_
  refine v_iload_n (pc := 5) C 2 d_La_line_5 rfl rfl ?_
  refine v_iload_n (pc := 6) C 3 d_La_line_6 rfl rfl ?_
  refine v_iload (pc := 7) C 4 d_La_line_7 rfl ?_
  refine v_callX (pc := 9) (As := [.int p0, .int p1, .int p2, .int p3]) (rest := [.int (nI 0), .ref out]) C Z (c_Wo_line _ htr G o k σ w p0 p1 p2 p3 hw) l_La_15 k_252 ([(out, aJ G 1 f)]) (sp_perm (List.Perm.refl _)) 0 hw0 rfl rfl rfl rfl (Nat.le_of_ble_eq_true rfl) (by decide) (by decide) (by decide) (by decide) d_La_line_9 (fun r w' hq => ?_) (fun E w' hq => ?_)
  · obtain ⟨h0, rfl, hw2⟩ := hq
    show vv K ({ frames := 8, cells := 4, slots := 25, locals := 250 } : Room) G 7 4 25 ([(out, aJ G 1 f)] ++ w') 12 [(0, .ref o), (1, .int p0), (2, .int p1), (3, .int p2), (4, .int p3), (5, .ref out)] [.int ((spLine σ p0 p1 p2 p3).2.1), .int (nI 0), .ref out]
    refine v_i2l (pc := 12) C (((spLine σ p0 p1 p2 p3).2.1).toInt64) d_La_line_12 rfl ?_
    refine v_last (pc := 13) C 0 ([(out, aJ G 1 (vp_updL f 0 (((spLine σ p0 p1 p2 p3).2.1).toInt64)))] ++ w') rfl 0 rfl (by omega) (by decide) rfl d_La_line_13 ?_
    refine v_goto (pc := 14) C 25 d_La_line_14 (by decide) ?_
    refine v_iconst (pc := 25) C (nI 0) d_La_line_25 (by decide +kernel) ?_
    exact v_iret (pc := 26) C X d_La_line_26 ⟨by rw [h0], _, w', rfl, hw2, fun _ => if_pos rfl⟩ (by decide) (by decide)
  · obtain ⟨hw2, hc⟩ := hq
    rcases hc with ⟨h1, rfl⟩ | ⟨h1, rfl⟩
    · refine ⟨17, cat_line_1, fun q9 => ?_⟩
      rw [← hsm (by rw [h1]; decide)] at hw2
      show vv K ({ frames := 8, cells := 4, slots := 25, locals := 250 } : Room) G 7 4 25 ([(out, aJ G 1 f)] ++ w') 17 [(0, .ref o), (1, .int p0), (2, .int p1), (3, .int p2), (4, .int p3), (5, .ref out)] [.ref q9]
      refine v_astore (pc := 17) C [(6, .ref q9), (0, .ref o), (1, .int p0), (2, .int p1), (3, .int p2), (4, .int p3), (5, .ref out)] d_La_line_17 (by decide) rfl ?_
      refine v_iconst (pc := 19) C (nI 1) d_La_line_19 (by decide +kernel) ?_
      exact v_iret (pc := 20) C X d_La_line_20 ⟨by rw [h1], _, w', rfl, hw2, fun h => by rw [h1] at h; cases h⟩ (by decide) (by decide)
    · refine ⟨21, cat_line_2, fun q9 => ?_⟩
      rw [← hsm (by rw [h1]; decide)] at hw2
      show vv K ({ frames := 8, cells := 4, slots := 25, locals := 250 } : Room) G 7 4 25 ([(out, aJ G 1 f)] ++ w') 21 [(0, .ref o), (1, .int p0), (2, .int p1), (3, .int p2), (4, .int p3), (5, .ref out)] [.ref q9]
      refine v_astore (pc := 21) C [(6, .ref q9), (0, .ref o), (1, .int p0), (2, .int p1), (3, .int p2), (4, .int p3), (5, .ref out)] d_La_line_21 (by decide) rfl ?_
      refine v_iconst (pc := 23) C (nI 2) d_La_line_23 (by decide +kernel) ?_
      exact v_iret (pc := 24) C X d_La_line_24 ⟨by rw [h1], _, w', rfl, hw2, fun h => by rw [h1] at h; cases h⟩ (by decide) (by decide)

theorem l_La_58 : LkH "WeightOrderLaw" 58 y_La_line b_La_line 7 (some .int) [(0, 14, 17, 13), (0, 14, 21, 19)] 6 := ⟨k_248, k_249, k_0, k_250, ⟨by decide, by decide, by decide +kernel⟩⟩
theorem cat_element_1 : Cat "WeightOrderLaw" [(0, 14, 17, 13), (0, 14, 21, 19)] 9 nIAE 17 := ⟨[], ⟨0, 14, 17, 13⟩, [⟨0, 14, 21, 19⟩], rfl, fun y h => absurd h List.not_mem_nil, by decide, by decide, k_162, k_173, rfl⟩
theorem cat_element_2 : Cat "WeightOrderLaw" [(0, 14, 17, 13), (0, 14, 21, 19)] 9 nIOO 21 := ⟨[⟨0, 14, 17, 13⟩], ⟨0, 14, 21, 19⟩, [], rfl, (fun y h => by rw [List.mem_singleton.mp h]; exact ⟨by decide, by decide, rfl, k_162⟩), by decide, by decide, k_251, k_279, rfl⟩
set_option maxHeartbeats 4000000 in
set_option maxRecDepth 100000 in
theorem c_La_element (l : Launch) (htr : l.stackTraces = false) (G : Gx) (o k : Nat) (σ : Sg) (w : va_W) (out : Nat) (f : Nat → Int64) (p0 p1 p2 : Int32) (vb : Nat) (hw : WoI G o k σ w) (hvb : vb ≤ 1) : CTH l G y_La_element b_La_element 7 (some .int) [(0, 14, 17, 13), (0, 14, 21, 19)] ({ frames := 8, cells := 1, slots := 6, locals := 250 } : Room) ([(out, aJ G 1 f)] ++ w) [.ref o, .int p0, .int p1, .int p2, .int (nI vb), .ref out] (fun r w' => r = some (.int (nI (spElement σ p0 p1 p2 vb).1)) ∧ ∃ f' w2, w' = [(out, aJ G 1 f')] ++ w2 ∧ WoI G o k (spElement σ p0 p1 p2 vb).2.2 w2 ∧ ((spElement σ p0 p1 p2 vb).1 = 0 → f' 0 = (spElement σ p0 p1 p2 vb).2.1.toInt64)) := by
  obtain ⟨fs, hw0⟩ := woi_0 hw
  obtain ⟨hle, hsm⟩ := spElement_s σ p0 p1 p2 vb
  refine th_of [(0, .ref o), (1, .int p0), (2, .int p1), (3, .int p2), (4, .int (nI vb)), (5, .ref out)] (by decide) (Nat.le_of_ble_eq_true rfl) rfl (fun K hKl C X Z => ?_)
  subst hKl
  show vv K ({ frames := 8, cells := 1, slots := 6, locals := 250 } : Room) G 7 0 0 ([(out, aJ G 1 f)] ++ w) 0 [(0, .ref o), (1, .int p0), (2, .int p1), (3, .int p2), (4, .int (nI vb)), (5, .ref out)] []
  refine v_aload (pc := 0) C 5 d_La_element_0 rfl ?_
  refine v_iconst (pc := 2) C (nI 0) d_La_element_2 (by decide +kernel) ?_
  refine v_aload_n (pc := 3) C 0 d_La_element_3 rfl rfl ?_
  refine v_iload_n (pc := 4) C 1 d_La_element_4 rfl rfl ?_
  refine v_iload_n (pc := 5) C 2 d_La_element_5 rfl rfl ?_
  refine v_iload_n (pc := 6) C 3 d_La_element_6 rfl rfl ?_
  refine v_iload (pc := 7) C 4 d_La_element_7 rfl ?_
  refine v_callX (pc := 9) (As := [.int p0, .int p1, .int p2, .int (nI vb)]) (rest := [.int (nI 0), .ref out]) C Z (c_Wo_element _ htr G o k σ w p0 p1 p2 vb hw hvb) l_La_21 k_322 ([(out, aJ G 1 f)]) (sp_perm (List.Perm.refl _)) 0 hw0 rfl rfl rfl rfl (Nat.le_of_ble_eq_true rfl) (by decide) (by decide) (by decide) (by decide) d_La_element_9 (fun r w' hq => ?_) (fun E w' hq => ?_)
  · obtain ⟨h0, rfl, hw2⟩ := hq
    show vv K ({ frames := 8, cells := 1, slots := 6, locals := 250 } : Room) G 7 1 6 ([(out, aJ G 1 f)] ++ w') 12 [(0, .ref o), (1, .int p0), (2, .int p1), (3, .int p2), (4, .int (nI vb)), (5, .ref out)] [.int ((spElement σ p0 p1 p2 vb).2.1), .int (nI 0), .ref out]
    refine v_i2l (pc := 12) C (((spElement σ p0 p1 p2 vb).2.1).toInt64) d_La_element_12 rfl ?_
    refine v_last (pc := 13) C 0 ([(out, aJ G 1 (vp_updL f 0 (((spElement σ p0 p1 p2 vb).2.1).toInt64)))] ++ w') rfl 0 rfl (by omega) (by decide) rfl d_La_element_13 ?_
    refine v_goto (pc := 14) C 25 d_La_element_14 (by decide) ?_
    refine v_iconst (pc := 25) C (nI 0) d_La_element_25 (by decide +kernel) ?_
    exact v_iret (pc := 26) C X d_La_element_26 ⟨by rw [h0], _, w', rfl, hw2, fun _ => if_pos rfl⟩ (by decide) (by decide)
  · obtain ⟨hw2, hc⟩ := hq
    rcases hc with ⟨h1, rfl⟩ | ⟨h1, rfl⟩
    · refine ⟨17, cat_element_1, fun q9 => ?_⟩
      rw [← hsm (by rw [h1]; decide)] at hw2
      show vv K ({ frames := 8, cells := 1, slots := 6, locals := 250 } : Room) G 7 1 6 ([(out, aJ G 1 f)] ++ w') 17 [(0, .ref o), (1, .int p0), (2, .int p1), (3, .int p2), (4, .int (nI vb)), (5, .ref out)] [.ref q9]
      refine v_astore (pc := 17) C [(6, .ref q9), (0, .ref o), (1, .int p0), (2, .int p1), (3, .int p2), (4, .int (nI vb)), (5, .ref out)] d_La_element_17 (by decide) rfl ?_
      refine v_iconst (pc := 19) C (nI 1) d_La_element_19 (by decide +kernel) ?_
      exact v_iret (pc := 20) C X d_La_element_20 ⟨by rw [h1], _, w', rfl, hw2, fun h => by rw [h1] at h; cases h⟩ (by decide) (by decide)
    · refine ⟨21, cat_element_2, fun q9 => ?_⟩
      rw [← hsm (by rw [h1]; decide)] at hw2
      show vv K ({ frames := 8, cells := 1, slots := 6, locals := 250 } : Room) G 7 1 6 ([(out, aJ G 1 f)] ++ w') 21 [(0, .ref o), (1, .int p0), (2, .int p1), (3, .int p2), (4, .int (nI vb)), (5, .ref out)] [.ref q9]
      refine v_astore (pc := 21) C [(6, .ref q9), (0, .ref o), (1, .int p0), (2, .int p1), (3, .int p2), (4, .int (nI vb)), (5, .ref out)] d_La_element_21 (by decide) rfl ?_
      refine v_iconst (pc := 23) C (nI 2) d_La_element_23 (by decide +kernel) ?_
      exact v_iret (pc := 24) C X d_La_element_24 ⟨by rw [h1], _, w', rfl, hw2, fun h => by rw [h1] at h; cases h⟩ (by decide) (by decide)

theorem l_La_62 : LkH "WeightOrderLaw" 62 y_La_element b_La_element 7 (some .int) [(0, 14, 17, 13), (0, 14, 21, 19)] 6 := ⟨k_319, k_320, k_0, k_321, ⟨by decide, by decide, by decide +kernel⟩⟩
theorem cat_add_1 : Cat "WeightOrderLaw" [(0, 10, 13, 13), (0, 10, 17, 19)] 5 nIAE 13 := ⟨[], ⟨0, 10, 13, 13⟩, [⟨0, 10, 17, 19⟩], rfl, fun y h => absurd h List.not_mem_nil, by decide, by decide, k_162, k_173, rfl⟩
theorem cat_add_2 : Cat "WeightOrderLaw" [(0, 10, 13, 13), (0, 10, 17, 19)] 5 nIOO 17 := ⟨[⟨0, 10, 13, 13⟩], ⟨0, 10, 17, 19⟩, [], rfl, (fun y h => by rw [List.mem_singleton.mp h]; exact ⟨by decide, by decide, rfl, k_162⟩), by decide, by decide, k_251, k_279, rfl⟩
set_option maxHeartbeats 4000000 in
set_option maxRecDepth 100000 in
theorem c_La_add (l : Launch) (htr : l.stackTraces = false) (G : Gx) (o k : Nat) (σ : Sg) (w : va_W) (out : Nat) (f : Nat → Int64) (p0 p1 : Int32) (hw : WoI G o k σ w)  : CTH l G y_La_add b_La_add 5 (some .int) [(0, 10, 13, 13), (0, 10, 17, 19)] ({ frames := 8, cells := 1, slots := 6, locals := 250 } : Room) ([(out, aJ G 1 f)] ++ w) [.ref o, .int p0, .int p1, .ref out] (fun r w' => r = some (.int (nI (spAdd σ p0 p1).1)) ∧ ∃ f' w2, w' = [(out, aJ G 1 f')] ++ w2 ∧ WoI G o k (spAdd σ p0 p1).2.2 w2 ∧ ((spAdd σ p0 p1).1 = 0 → f' 0 = (spAdd σ p0 p1).2.1.toInt64)) := by
  obtain ⟨fs, hw0⟩ := woi_0 hw
  obtain ⟨hle, hsm⟩ := spAdd_s σ p0 p1
  refine th_of [(0, .ref o), (1, .int p0), (2, .int p1), (3, .ref out)] (by decide) (Nat.le_of_ble_eq_true rfl) rfl (fun K hKl C X Z => ?_)
  subst hKl
  show vv K ({ frames := 8, cells := 1, slots := 6, locals := 250 } : Room) G 5 0 0 ([(out, aJ G 1 f)] ++ w) 0 [(0, .ref o), (1, .int p0), (2, .int p1), (3, .ref out)] []
  refine v_aload_n (pc := 0) C 3 d_La_add_0 rfl rfl ?_
  refine v_iconst (pc := 1) C (nI 0) d_La_add_1 (by decide +kernel) ?_
  refine v_aload_n (pc := 2) C 0 d_La_add_2 rfl rfl ?_
  refine v_iload_n (pc := 3) C 1 d_La_add_3 rfl rfl ?_
  refine v_iload_n (pc := 4) C 2 d_La_add_4 rfl rfl ?_
  refine v_callX (pc := 5) (As := [.int p0, .int p1]) (rest := [.int (nI 0), .ref out]) C Z (c_Wo_add _ htr G o k σ w p0 p1 hw) l_La_25 k_341 ([(out, aJ G 1 f)]) (sp_perm (List.Perm.refl _)) 0 hw0 rfl rfl rfl rfl (Nat.le_of_ble_eq_true rfl) (by decide) (by decide) (by decide) (by decide) d_La_add_5 (fun r w' hq => ?_) (fun E w' hq => ?_)
  · obtain ⟨h0, rfl, hw2⟩ := hq
    show vv K ({ frames := 8, cells := 1, slots := 6, locals := 250 } : Room) G 5 1 6 ([(out, aJ G 1 f)] ++ w') 8 [(0, .ref o), (1, .int p0), (2, .int p1), (3, .ref out)] [.int ((spAdd σ p0 p1).2.1), .int (nI 0), .ref out]
    refine v_i2l (pc := 8) C (((spAdd σ p0 p1).2.1).toInt64) d_La_add_8 rfl ?_
    refine v_last (pc := 9) C 0 ([(out, aJ G 1 (vp_updL f 0 (((spAdd σ p0 p1).2.1).toInt64)))] ++ w') rfl 0 rfl (by omega) (by decide) rfl d_La_add_9 ?_
    refine v_goto (pc := 10) C 21 d_La_add_10 (by decide) ?_
    refine v_iconst (pc := 21) C (nI 0) d_La_add_21 (by decide +kernel) ?_
    exact v_iret (pc := 22) C X d_La_add_22 ⟨by rw [h0], _, w', rfl, hw2, fun _ => if_pos rfl⟩ (by decide) (by decide)
  · obtain ⟨hw2, hc⟩ := hq
    rcases hc with ⟨h1, rfl⟩ | ⟨h1, rfl⟩
    · refine ⟨13, cat_add_1, fun q9 => ?_⟩
      rw [← hsm (by rw [h1]; decide)] at hw2
      show vv K ({ frames := 8, cells := 1, slots := 6, locals := 250 } : Room) G 5 1 6 ([(out, aJ G 1 f)] ++ w') 13 [(0, .ref o), (1, .int p0), (2, .int p1), (3, .ref out)] [.ref q9]
      refine v_astore (pc := 13) C [(4, .ref q9), (0, .ref o), (1, .int p0), (2, .int p1), (3, .ref out)] d_La_add_13 (by decide) rfl ?_
      refine v_iconst (pc := 15) C (nI 1) d_La_add_15 (by decide +kernel) ?_
      exact v_iret (pc := 16) C X d_La_add_16 ⟨by rw [h1], _, w', rfl, hw2, fun h => by rw [h1] at h; cases h⟩ (by decide) (by decide)
    · refine ⟨17, cat_add_2, fun q9 => ?_⟩
      rw [← hsm (by rw [h1]; decide)] at hw2
      show vv K ({ frames := 8, cells := 1, slots := 6, locals := 250 } : Room) G 5 1 6 ([(out, aJ G 1 f)] ++ w') 17 [(0, .ref o), (1, .int p0), (2, .int p1), (3, .ref out)] [.ref q9]
      refine v_astore (pc := 17) C [(4, .ref q9), (0, .ref o), (1, .int p0), (2, .int p1), (3, .ref out)] d_La_add_17 (by decide) rfl ?_
      refine v_iconst (pc := 19) C (nI 2) d_La_add_19 (by decide +kernel) ?_
      exact v_iret (pc := 20) C X d_La_add_20 ⟨by rw [h1], _, w', rfl, hw2, fun h => by rw [h1] at h; cases h⟩ (by decide) (by decide)

theorem l_La_66 : LkH "WeightOrderLaw" 66 y_La_add b_La_add 5 (some .int) [(0, 10, 13, 13), (0, 10, 17, 19)] 4 := ⟨k_338, k_339, k_0, k_340, ⟨by decide, by decide, by decide +kernel⟩⟩
theorem cat_clear_1 : Cat "WeightOrderLaw" [(0, 9, 12, 13)] 4 nIAE 12 := ⟨[], ⟨0, 9, 12, 13⟩, [], rfl, fun y h => absurd h List.not_mem_nil, by decide, by decide, k_162, k_173, rfl⟩
set_option maxHeartbeats 4000000 in
set_option maxRecDepth 100000 in
theorem c_La_clear (l : Launch) (htr : l.stackTraces = false) (G : Gx) (o k : Nat) (σ : Sg) (w : va_W) (out : Nat) (f : Nat → Int64) (p0 : Int32) (hw : WoI G o k σ w)  : CTH l G y_La_clear b_La_clear 4 (some .int) [(0, 9, 12, 13)] ({ frames := 8, cells := 1, slots := 6, locals := 250 } : Room) ([(out, aJ G 1 f)] ++ w) [.ref o, .int p0, .ref out] (fun r w' => r = some (.int (nI (spClear σ p0).1)) ∧ ∃ f' w2, w' = [(out, aJ G 1 f')] ++ w2 ∧ WoI G o k (spClear σ p0).2.2 w2 ∧ ((spClear σ p0).1 = 0 → f' 0 = (spClear σ p0).2.1.toInt64)) := by
  obtain ⟨fs, hw0⟩ := woi_0 hw
  obtain ⟨hle, hsm⟩ := spClear_s σ p0
  refine th_of [(0, .ref o), (1, .int p0), (2, .ref out)] (by decide) (Nat.le_of_ble_eq_true rfl) rfl (fun K hKl C X Z => ?_)
  subst hKl
  show vv K ({ frames := 8, cells := 1, slots := 6, locals := 250 } : Room) G 4 0 0 ([(out, aJ G 1 f)] ++ w) 0 [(0, .ref o), (1, .int p0), (2, .ref out)] []
  refine v_aload_n (pc := 0) C 2 d_La_clear_0 rfl rfl ?_
  refine v_iconst (pc := 1) C (nI 0) d_La_clear_1 (by decide +kernel) ?_
  refine v_aload_n (pc := 2) C 0 d_La_clear_2 rfl rfl ?_
  refine v_iload_n (pc := 3) C 1 d_La_clear_3 rfl rfl ?_
  refine v_callX (pc := 4) (As := [.int p0]) (rest := [.int (nI 0), .ref out]) C Z (c_Wo_clear _ htr G o k σ w p0 hw) l_La_29 k_356 ([(out, aJ G 1 f)]) (sp_perm (List.Perm.refl _)) 0 hw0 rfl rfl rfl rfl (Nat.le_of_ble_eq_true rfl) (by decide) (by decide) (by decide) (by decide) d_La_clear_4 (fun r w' hq => ?_) (fun E w' hq => ?_)
  · obtain ⟨h0, rfl, hw2⟩ := hq
    show vv K ({ frames := 8, cells := 1, slots := 6, locals := 250 } : Room) G 4 1 6 ([(out, aJ G 1 f)] ++ w') 7 [(0, .ref o), (1, .int p0), (2, .ref out)] [.int ((spClear σ p0).2.1), .int (nI 0), .ref out]
    refine v_i2l (pc := 7) C (((spClear σ p0).2.1).toInt64) d_La_clear_7 rfl ?_
    refine v_last (pc := 8) C 0 ([(out, aJ G 1 (vp_updL f 0 (((spClear σ p0).2.1).toInt64)))] ++ w') rfl 0 rfl (by omega) (by decide) rfl d_La_clear_8 ?_
    refine v_goto (pc := 9) C 15 d_La_clear_9 (by decide) ?_
    refine v_iconst (pc := 15) C (nI 0) d_La_clear_15 (by decide +kernel) ?_
    exact v_iret (pc := 16) C X d_La_clear_16 ⟨by rw [h0], _, w', rfl, hw2, fun _ => if_pos rfl⟩ (by decide) (by decide)
  · obtain ⟨hw2, hc⟩ := hq
    rcases hc with ⟨h1, rfl⟩ | ⟨h1, rfl⟩
    · refine ⟨12, cat_clear_1, fun q9 => ?_⟩
      rw [← hsm (by rw [h1]; decide)] at hw2
      show vv K ({ frames := 8, cells := 1, slots := 6, locals := 250 } : Room) G 4 1 6 ([(out, aJ G 1 f)] ++ w') 12 [(0, .ref o), (1, .int p0), (2, .ref out)] [.ref q9]
      refine v_astore_n (pc := 12) C [(3, .ref q9), (0, .ref o), (1, .int p0), (2, .ref out)] d_La_clear_12 rfl (by decide) rfl ?_
      refine v_iconst (pc := 13) C (nI 1) d_La_clear_13 (by decide +kernel) ?_
      exact v_iret (pc := 14) C X d_La_clear_14 ⟨by rw [h1], _, w', rfl, hw2, fun h => by rw [h1] at h; cases h⟩ (by decide) (by decide)
    · omega

theorem l_La_70 : LkH "WeightOrderLaw" 70 y_La_clear b_La_clear 4 (some .int) [(0, 9, 12, 13)] 3 := ⟨k_353, k_354, k_0, k_355, ⟨by decide, by decide, by decide +kernel⟩⟩
theorem cat_count_1 : Cat "WeightOrderLaw" [(0, 10, 13, 13)] 5 nIAE 13 := ⟨[], ⟨0, 10, 13, 13⟩, [], rfl, fun y h => absurd h List.not_mem_nil, by decide, by decide, k_162, k_173, rfl⟩
set_option maxHeartbeats 4000000 in
set_option maxRecDepth 100000 in
theorem c_La_count (l : Launch) (htr : l.stackTraces = false) (G : Gx) (o k : Nat) (σ : Sg) (w : va_W) (out : Nat) (f : Nat → Int64) (p0 : Int32) (sh : Nat) (hw : WoI G o k σ w) (hsh : sh ≤ 1) : CTH l G y_La_count b_La_count 5 (some .int) [(0, 10, 13, 13)] ({ frames := 8, cells := 1, slots := 6, locals := 250 } : Room) ([(out, aJ G 1 f)] ++ w) [.ref o, .int p0, .int (nI sh), .ref out] (fun r w' => r = some (.int (nI (spCount σ p0).1)) ∧ ∃ f' w2, w' = [(out, aJ G 1 f')] ++ w2 ∧ WoI G o k (spCount σ p0).2.2 w2 ∧ ((spCount σ p0).1 = 0 → f' 0 = (spCount σ p0).2.1.toInt64)) := by
  obtain ⟨fs, hw0⟩ := woi_0 hw
  obtain ⟨hle, hsm⟩ := spCount_s σ p0
  refine th_of [(0, .ref o), (1, .int p0), (2, .int (nI sh)), (3, .ref out)] (by decide) (Nat.le_of_ble_eq_true rfl) rfl (fun K hKl C X Z => ?_)
  subst hKl
  show vv K ({ frames := 8, cells := 1, slots := 6, locals := 250 } : Room) G 5 0 0 ([(out, aJ G 1 f)] ++ w) 0 [(0, .ref o), (1, .int p0), (2, .int (nI sh)), (3, .ref out)] []
  refine v_aload_n (pc := 0) C 3 d_La_count_0 rfl rfl ?_
  refine v_iconst (pc := 1) C (nI 0) d_La_count_1 (by decide +kernel) ?_
  refine v_aload_n (pc := 2) C 0 d_La_count_2 rfl rfl ?_
  refine v_iload_n (pc := 3) C 1 d_La_count_3 rfl rfl ?_
  refine v_iload_n (pc := 4) C 2 d_La_count_4 rfl rfl ?_
  refine v_callX (pc := 5) (As := [.int p0, .int (nI sh)]) (rest := [.int (nI 0), .ref out]) C Z (c_Wo_count _ htr G o k σ w p0 sh hw hsh) l_La_33 k_363 ([(out, aJ G 1 f)]) (sp_perm (List.Perm.refl _)) 0 hw0 rfl rfl rfl rfl (Nat.le_of_ble_eq_true rfl) (by decide) (by decide) (by decide) (by decide) d_La_count_5 (fun r w' hq => ?_) (fun E w' hq => ?_)
  · obtain ⟨h0, rfl, hw2⟩ := hq
    show vv K ({ frames := 8, cells := 1, slots := 6, locals := 250 } : Room) G 5 1 6 ([(out, aJ G 1 f)] ++ w') 8 [(0, .ref o), (1, .int p0), (2, .int (nI sh)), (3, .ref out)] [.int ((spCount σ p0).2.1), .int (nI 0), .ref out]
    refine v_i2l (pc := 8) C (((spCount σ p0).2.1).toInt64) d_La_count_8 rfl ?_
    refine v_last (pc := 9) C 0 ([(out, aJ G 1 (vp_updL f 0 (((spCount σ p0).2.1).toInt64)))] ++ w') rfl 0 rfl (by omega) (by decide) rfl d_La_count_9 ?_
    refine v_goto (pc := 10) C 17 d_La_count_10 (by decide) ?_
    refine v_iconst (pc := 17) C (nI 0) d_La_count_17 (by decide +kernel) ?_
    exact v_iret (pc := 18) C X d_La_count_18 ⟨by rw [h0], _, w', rfl, hw2, fun _ => if_pos rfl⟩ (by decide) (by decide)
  · obtain ⟨hw2, hc⟩ := hq
    rcases hc with ⟨h1, rfl⟩ | ⟨h1, rfl⟩
    · refine ⟨13, cat_count_1, fun q9 => ?_⟩
      rw [← hsm (by rw [h1]; decide)] at hw2
      show vv K ({ frames := 8, cells := 1, slots := 6, locals := 250 } : Room) G 5 1 6 ([(out, aJ G 1 f)] ++ w') 13 [(0, .ref o), (1, .int p0), (2, .int (nI sh)), (3, .ref out)] [.ref q9]
      refine v_astore (pc := 13) C [(4, .ref q9), (0, .ref o), (1, .int p0), (2, .int (nI sh)), (3, .ref out)] d_La_count_13 (by decide) rfl ?_
      refine v_iconst (pc := 15) C (nI 1) d_La_count_15 (by decide +kernel) ?_
      exact v_iret (pc := 16) C X d_La_count_16 ⟨by rw [h1], _, w', rfl, hw2, fun h => by rw [h1] at h; cases h⟩ (by decide) (by decide)
    · omega

theorem l_La_74 : LkH "WeightOrderLaw" 74 y_La_count b_La_count 5 (some .int) [(0, 10, 13, 13)] 4 := ⟨k_360, k_361, k_0, k_362, ⟨by decide, by decide, by decide +kernel⟩⟩
theorem cat_weight_1 : Cat "WeightOrderLaw" [(0, 14, 17, 13)] 9 nIAE 17 := ⟨[], ⟨0, 14, 17, 13⟩, [], rfl, fun y h => absurd h List.not_mem_nil, by decide, by decide, k_162, k_173, rfl⟩
set_option maxHeartbeats 4000000 in
set_option maxRecDepth 100000 in
theorem c_La_weight (l : Launch) (htr : l.stackTraces = false) (G : Gx) (o k : Nat) (σ : Sg) (w : va_W) (out : Nat) (f : Nat → Int64) (p0 : Int32) (sh : Nat) (p1 p2 : Int32) (hw : WoI G o k σ w) (hsh : sh ≤ 1) : CTH l G y_La_weight b_La_weight 7 (some .int) [(0, 14, 17, 13)] ({ frames := 8, cells := 1, slots := 6, locals := 250 } : Room) ([(out, aJ G 1 f)] ++ w) [.ref o, .int p0, .int (nI sh), .int p1, .int p2, .ref out] (fun r w' => r = some (.int (nI (spWeight σ p0 sh p1 p2).1)) ∧ ∃ f' w2, w' = [(out, aJ G 1 f')] ++ w2 ∧ WoI G o k (spWeight σ p0 sh p1 p2).2.2 w2 ∧ ((spWeight σ p0 sh p1 p2).1 = 0 → f' 0 = (spWeight σ p0 sh p1 p2).2.1.toInt64)) := by
  obtain ⟨fs, hw0⟩ := woi_0 hw
  obtain ⟨hle, hsm⟩ := spWeight_s σ p0 sh p1 p2
  refine th_of [(0, .ref o), (1, .int p0), (2, .int (nI sh)), (3, .int p1), (4, .int p2), (5, .ref out)] (by decide) (Nat.le_of_ble_eq_true rfl) rfl (fun K hKl C X Z => ?_)
  subst hKl
  show vv K ({ frames := 8, cells := 1, slots := 6, locals := 250 } : Room) G 7 0 0 ([(out, aJ G 1 f)] ++ w) 0 [(0, .ref o), (1, .int p0), (2, .int (nI sh)), (3, .int p1), (4, .int p2), (5, .ref out)] []
  refine v_aload (pc := 0) C 5 d_La_weight_0 rfl ?_
  refine v_iconst (pc := 2) C (nI 0) d_La_weight_2 (by decide +kernel) ?_
  refine v_aload_n (pc := 3) C 0 d_La_weight_3 rfl rfl ?_
  refine v_iload_n (pc := 4) C 1 d_La_weight_4 rfl rfl ?_
  refine v_iload_n (pc := 5) C 2 d_La_weight_5 rfl rfl ?_
  refine v_iload_n (pc := 6) C 3 d_La_weight_6 rfl rfl ?_
  refine v_iload (pc := 7) C 4 d_La_weight_7 rfl ?_
  refine v_callX (pc := 9) (As := [.int p0, .int (nI sh), .int p1, .int p2]) (rest := [.int (nI 0), .ref out]) C Z (c_Wo_weight _ htr G o k σ w p0 sh p1 p2 hw hsh) l_La_37 k_432 ([(out, aJ G 1 f)]) (sp_perm (List.Perm.refl _)) 0 hw0 rfl rfl rfl rfl (Nat.le_of_ble_eq_true rfl) (by decide) (by decide) (by decide) (by decide) d_La_weight_9 (fun r w' hq => ?_) (fun E w' hq => ?_)
  · obtain ⟨h0, rfl, hw2⟩ := hq
    show vv K ({ frames := 8, cells := 1, slots := 6, locals := 250 } : Room) G 7 1 6 ([(out, aJ G 1 f)] ++ w') 12 [(0, .ref o), (1, .int p0), (2, .int (nI sh)), (3, .int p1), (4, .int p2), (5, .ref out)] [.int ((spWeight σ p0 sh p1 p2).2.1), .int (nI 0), .ref out]
    refine v_i2l (pc := 12) C (((spWeight σ p0 sh p1 p2).2.1).toInt64) d_La_weight_12 rfl ?_
    refine v_last (pc := 13) C 0 ([(out, aJ G 1 (vp_updL f 0 (((spWeight σ p0 sh p1 p2).2.1).toInt64)))] ++ w') rfl 0 rfl (by omega) (by decide) rfl d_La_weight_13 ?_
    refine v_goto (pc := 14) C 21 d_La_weight_14 (by decide) ?_
    refine v_iconst (pc := 21) C (nI 0) d_La_weight_21 (by decide +kernel) ?_
    exact v_iret (pc := 22) C X d_La_weight_22 ⟨by rw [h0], _, w', rfl, hw2, fun _ => if_pos rfl⟩ (by decide) (by decide)
  · obtain ⟨hw2, hc⟩ := hq
    rcases hc with ⟨h1, rfl⟩ | ⟨h1, rfl⟩
    · refine ⟨17, cat_weight_1, fun q9 => ?_⟩
      rw [← hsm (by rw [h1]; decide)] at hw2
      show vv K ({ frames := 8, cells := 1, slots := 6, locals := 250 } : Room) G 7 1 6 ([(out, aJ G 1 f)] ++ w') 17 [(0, .ref o), (1, .int p0), (2, .int (nI sh)), (3, .int p1), (4, .int p2), (5, .ref out)] [.ref q9]
      refine v_astore (pc := 17) C [(6, .ref q9), (0, .ref o), (1, .int p0), (2, .int (nI sh)), (3, .int p1), (4, .int p2), (5, .ref out)] d_La_weight_17 (by decide) rfl ?_
      refine v_iconst (pc := 19) C (nI 1) d_La_weight_19 (by decide +kernel) ?_
      exact v_iret (pc := 20) C X d_La_weight_20 ⟨by rw [h1], _, w', rfl, hw2, fun h => by rw [h1] at h; cases h⟩ (by decide) (by decide)
    · omega

theorem l_La_78 : LkH "WeightOrderLaw" 78 y_La_weight b_La_weight 7 (some .int) [(0, 14, 17, 13)] 6 := ⟨k_429, k_430, k_0, k_431, ⟨by decide, by decide, by decide +kernel⟩⟩
theorem cat_compare_1 : Cat "WeightOrderLaw" [(0, 14, 17, 13)] 9 nIAE 17 := ⟨[], ⟨0, 14, 17, 13⟩, [], rfl, fun y h => absurd h List.not_mem_nil, by decide, by decide, k_162, k_173, rfl⟩
set_option maxHeartbeats 4000000 in
set_option maxRecDepth 100000 in
theorem c_La_compare (l : Launch) (htr : l.stackTraces = false) (G : Gx) (o k : Nat) (σ : Sg) (w : va_W) (out : Nat) (f : Nat → Int64) (p0 p1 p2 : Int32) (sh : Nat) (hw : WoI G o k σ w) (hsh : sh ≤ 1) : CTH l G y_La_compare b_La_compare 7 (some .int) [(0, 14, 17, 13)] ({ frames := 8, cells := 1, slots := 6, locals := 250 } : Room) ([(out, aJ G 1 f)] ++ w) [.ref o, .int p0, .int p1, .int p2, .int (nI sh), .ref out] (fun r w' => r = some (.int (nI (spCompare σ p0 p1 p2 sh).1)) ∧ ∃ f' w2, w' = [(out, aJ G 1 f')] ++ w2 ∧ WoI G o k (spCompare σ p0 p1 p2 sh).2.2 w2 ∧ ((spCompare σ p0 p1 p2 sh).1 = 0 → f' 0 = (spCompare σ p0 p1 p2 sh).2.1.toInt64)) := by
  obtain ⟨fs, hw0⟩ := woi_0 hw
  obtain ⟨hle, hsm⟩ := spCompare_s σ p0 p1 p2 sh
  refine th_of [(0, .ref o), (1, .int p0), (2, .int p1), (3, .int p2), (4, .int (nI sh)), (5, .ref out)] (by decide) (Nat.le_of_ble_eq_true rfl) rfl (fun K hKl C X Z => ?_)
  subst hKl
  show vv K ({ frames := 8, cells := 1, slots := 6, locals := 250 } : Room) G 7 0 0 ([(out, aJ G 1 f)] ++ w) 0 [(0, .ref o), (1, .int p0), (2, .int p1), (3, .int p2), (4, .int (nI sh)), (5, .ref out)] []
  refine v_aload (pc := 0) C 5 d_La_compare_0 rfl ?_
  refine v_iconst (pc := 2) C (nI 0) d_La_compare_2 (by decide +kernel) ?_
  refine v_aload_n (pc := 3) C 0 d_La_compare_3 rfl rfl ?_
  refine v_iload_n (pc := 4) C 1 d_La_compare_4 rfl rfl ?_
  refine v_iload_n (pc := 5) C 2 d_La_compare_5 rfl rfl ?_
  refine v_iload_n (pc := 6) C 3 d_La_compare_6 rfl rfl ?_
  refine v_iload (pc := 7) C 4 d_La_compare_7 rfl ?_
  refine v_callX (pc := 9) (As := [.int p0, .int p1, .int p2, .int (nI sh)]) (rest := [.int (nI 0), .ref out]) C Z (c_Wo_compare _ htr G o k σ w p0 p1 p2 sh hw hsh) l_La_41 k_440 ([(out, aJ G 1 f)]) (sp_perm (List.Perm.refl _)) 0 hw0 rfl rfl rfl rfl (Nat.le_of_ble_eq_true rfl) (by decide) (by decide) (by decide) (by decide) d_La_compare_9 (fun r w' hq => ?_) (fun E w' hq => ?_)
  · obtain ⟨h0, rfl, hw2⟩ := hq
    show vv K ({ frames := 8, cells := 1, slots := 6, locals := 250 } : Room) G 7 1 6 ([(out, aJ G 1 f)] ++ w') 12 [(0, .ref o), (1, .int p0), (2, .int p1), (3, .int p2), (4, .int (nI sh)), (5, .ref out)] [.int ((spCompare σ p0 p1 p2 sh).2.1), .int (nI 0), .ref out]
    refine v_i2l (pc := 12) C (((spCompare σ p0 p1 p2 sh).2.1).toInt64) d_La_compare_12 rfl ?_
    refine v_last (pc := 13) C 0 ([(out, aJ G 1 (vp_updL f 0 (((spCompare σ p0 p1 p2 sh).2.1).toInt64)))] ++ w') rfl 0 rfl (by omega) (by decide) rfl d_La_compare_13 ?_
    refine v_goto (pc := 14) C 21 d_La_compare_14 (by decide) ?_
    refine v_iconst (pc := 21) C (nI 0) d_La_compare_21 (by decide +kernel) ?_
    exact v_iret (pc := 22) C X d_La_compare_22 ⟨by rw [h0], _, w', rfl, hw2, fun _ => if_pos rfl⟩ (by decide) (by decide)
  · obtain ⟨hw2, hc⟩ := hq
    rcases hc with ⟨h1, rfl⟩ | ⟨h1, rfl⟩
    · refine ⟨17, cat_compare_1, fun q9 => ?_⟩
      rw [← hsm (by rw [h1]; decide)] at hw2
      show vv K ({ frames := 8, cells := 1, slots := 6, locals := 250 } : Room) G 7 1 6 ([(out, aJ G 1 f)] ++ w') 17 [(0, .ref o), (1, .int p0), (2, .int p1), (3, .int p2), (4, .int (nI sh)), (5, .ref out)] [.ref q9]
      refine v_astore (pc := 17) C [(6, .ref q9), (0, .ref o), (1, .int p0), (2, .int p1), (3, .int p2), (4, .int (nI sh)), (5, .ref out)] d_La_compare_17 (by decide) rfl ?_
      refine v_iconst (pc := 19) C (nI 1) d_La_compare_19 (by decide +kernel) ?_
      exact v_iret (pc := 20) C X d_La_compare_20 ⟨by rw [h1], _, w', rfl, hw2, fun h => by rw [h1] at h; cases h⟩ (by decide) (by decide)
    · omega

theorem l_La_82 : LkH "WeightOrderLaw" 82 y_La_compare b_La_compare 7 (some .int) [(0, 14, 17, 13)] 6 := ⟨k_437, k_438, k_0, k_439, ⟨by decide, by decide, by decide +kernel⟩⟩
set_option maxHeartbeats 4000000 in
set_option maxRecDepth 100000 in
theorem m_thrown (l : Launch) (G : Gx) (h k : Nat) (σ : Sg) (fl : Int32) (w : va_W) (hw : MoI G h k σ fl w) : CT l G y_Mo_thrown b_Mo_thrown 1 (some .int) ({ frames := 0, cells := 0, slots := 0, locals := 0 } : Room) w [.ref h] (fun r w' => r = some (.int fl) ∧ MoI G h k σ fl w') := by
  obtain ⟨cl, A, told, rws⟩ := σ
  obtain ⟨pa, ca, la, ro, co, ea, tx, sz, lf, fo, f1, nc, lz, fz, td, P, C9, LN, RW, CO, EA, SZ, LF, FO, F1, tf, TL, rfl, hnc, hk5, hC, hA, hLM, hEM, htd, hti, hTx, hTf⟩ := hw
  refine ct_of [(0, .ref h)] (by decide) (Nat.le_of_ble_eq_true rfl) rfl (fun K hKl hNI C X => ?_)
  subst hKl
  show vv K ({ frames := 0, cells := 0, slots := 0, locals := 0 } : Room) G 1 0 0 ([(h, ob 7 [.int fl, .ref pa, .ref ca, .int (nI nc), .ref la, .ref ro, .ref co, .ref ea, .int (nI A.length), .int td, .ref tx, .ref sz, .ref lf, .int (nI lz), .ref fo, .int (nI fz), .ref f1]), (pa, aI G 5000 P), (ca, aI G 5000 C9), (la, aI G 500 LN), (ro, aI G 1500 RW), (co, aI G 500 CO), (ea, aI G 16000 EA), (tx, aII G 4 tf), (sz, aI G 4 SZ), (lf, aI G 200 LF), (fo, aI G 6400 FO), (f1, aI G 6400 F1)] ++ tpool G TL) 0 [(0, .ref h)] []
  refine v_aload_n (pc := 0) C 0 d_Mo_thrown_0 rfl rfl ?_
  refine v_get (pc := 1) (Cn := "WeightOrderModel") (T := T_Mo) (N := 17) (ci := 7) (v := .int fl) C 0 0 rfl rfl hin_Mo (by decide) rfl k_462 rfl d_Mo_thrown_1 ?_
  exact v_iret (pc := 4) C X d_Mo_thrown_4 ⟨rfl, ⟨pa, ca, la, ro, co, ea, tx, sz, lf, fo, f1, nc, lz, fz, td, P, C9, LN, RW, CO, EA, SZ, LF, FO, F1, tf, TL, rfl, hnc, hk5, hC, hA, hLM, hEM, htd, hti, hTx, hTf⟩⟩ (by decide) (by decide)
