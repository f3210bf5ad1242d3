/-! leaves: isWithin, Row, Line, the numbers of keys and weights -/
/-- isWithin's answer -/
def wi (x y : Int32) : Int32 := if x < 0 ∨ y < x then nI 0 else nI 1
theorem wi_0 {x y : Int32} (h : x < 0 ∨ y < x) : wi x y = nI 0 := by unfold wi; rw [if_pos h]
theorem wi_1 {x y : Int32} (h : ¬ x < 0) (h2 : ¬ y < x) : wi x y = nI 1 := by unfold wi; rw [if_neg (fun q => q.elim h h2)]
theorem wi_eq0 {x y : Int32} (h : wi x y = 0) : x < 0 ∨ y < x := by
  by_cases h1 : x < 0 ∨ y < x
  · exact h1
  · unfold wi at h; rw [if_neg h1] at h; exact absurd h (by decide)
theorem wi_ne0 {x y : Int32} (h : ¬ wi x y = 0) : ¬ x < 0 ∧ ¬ y < x := by
  by_cases h1 : x < 0 ∨ y < x
  · exact absurd (by rw [wi_0 h1]; rfl) h
  · exact ⟨fun q => h1 (Or.inl q), fun q => h1 (Or.inr q)⟩

set_option maxHeartbeats 4000000 in
set_option maxRecDepth 100000 in
/-- isWithin -/
theorem c_Wo_isWithin (l : Launch) (G : Gx) (x y : Int32)  : CT l G y_Wo_isWithin b_Wo_isWithin 2 (some .boolean) ({ frames := 0, cells := 0, slots := 0, locals := 0 } : Room) ([]) [.int x, .int y] (fun r w' => w' = [] ∧ r = some (.int (wi x y))) := by
  refine ct_of [(0, .int x), (1, .int y)] (by decide) (Nat.le_of_ble_eq_true rfl) rfl (fun K hKl hNI C X => ?_)
  subst hKl
  refine v_iload_n (pc := 0) C 0 d_Wo_isWithin_0 rfl rfl ?_
  refine v_if_lt (pc := 1) C 13 d_Wo_isWithin_1 (by decide) (fun h1 => ?_) (fun h1 => ?_)
  · refine v_iconst (pc := 13) C (nI 0) d_Wo_isWithin_13 (by decide +kernel) ?_
    exact v_zret (pc := 14) C X rfl d_Wo_isWithin_14 ⟨rfl, by rw [wi_0 (Or.inl h1)]⟩ (by decide) (by decide)
  · refine v_iload_n (pc := 4) C 0 d_Wo_isWithin_4 rfl rfl ?_
    refine v_iload_n (pc := 5) C 1 d_Wo_isWithin_5 rfl rfl ?_
    refine v_icmp_gt (pc := 6) C 13 d_Wo_isWithin_6 (by decide) (fun h6 => ?_) (fun h6 => ?_)
    · refine v_iconst (pc := 13) C (nI 0) d_Wo_isWithin_13 (by decide +kernel) ?_
      exact v_zret (pc := 14) C X rfl d_Wo_isWithin_14 ⟨rfl, by rw [wi_0 (Or.inr h6)]⟩ (by decide) (by decide)
    · refine v_iconst (pc := 9) C (nI 1) d_Wo_isWithin_9 (by decide +kernel) ?_
      refine v_goto (pc := 10) C 14 d_Wo_isWithin_10 (by decide) ?_
      exact v_zret (pc := 14) C X rfl d_Wo_isWithin_14 ⟨rfl, by rw [wi_1 h1 h6]⟩ (by decide) (by decide)

set_option maxHeartbeats 4000000 in
set_option maxRecDepth 100000 in
theorem c_Ro_isFull (l : Launch) (G : Gx) (a p : Nat) (f : Nat → Int32) (n : Nat) (hn : n ≤ 200) : CT l G y_Ro_isFull b_Ro_isFull 1 (some .boolean) ({ frames := 0, cells := 0, slots := 0, locals := 0 } : Room) ([(a, ob 3 [.ref p, .int (nI n)]), (p, aI G 200 f)]) [.ref a] (fun r w' => w' = [(a, ob 3 [.ref p, .int (nI n)]), (p, aI G 200 f)] ∧ r = some (.int (if n = 200 then nI 1 else nI 0))) := by
  refine ct_of [(0, .ref a)] (by decide) (Nat.le_of_ble_eq_true rfl) rfl (fun K hKl hNI C X => ?_)
  subst hKl
  refine v_aload_n (pc := 0) C 0 d_Ro_isFull_0 rfl rfl ?_
  refine v_get (pc := 1) (Cn := "WeightOrder$Row") (T := T_Ro) (N := 2) (ci := 3) (v := .int (nI n)) C 0 1 rfl rfl hin_Ro (by decide) rfl k_77 rfl d_Ro_isFull_1 ?_
  refine v_aload_n (pc := 4) C 0 d_Ro_isFull_4 rfl rfl ?_
  refine v_get (pc := 5) (Cn := "WeightOrder$Row") (T := T_Ro) (N := 2) (ci := 3) (v := .ref p) C 0 0 rfl rfl hin_Ro (by decide) rfl k_75 rfl d_Ro_isFull_5 ?_
  refine v_alenI (pc := 8) C 1 rfl d_Ro_isFull_8 ?_
  refine v_icmpN_ne (pc := 9) C 16 n 200 d_Ro_isFull_9 (by decide) (by omega) (by omega) (fun hc => ?_) (fun hc => ?_)
  · refine v_iconst (pc := 16) C (nI 0) d_Ro_isFull_16 (by decide +kernel) ?_
    exact v_zret (pc := 17) C X rfl d_Ro_isFull_17 ⟨rfl, by rw [if_neg hc]⟩ (by decide) (by decide)
  · refine v_iconst (pc := 12) C (nI 1) d_Ro_isFull_12 (by decide +kernel) ?_
    refine v_goto (pc := 13) C 17 d_Ro_isFull_13 (by decide) ?_
    exact v_zret (pc := 17) C X rfl d_Ro_isFull_17 ⟨rfl, by rw [if_pos hc]⟩ (by decide) (by decide)

set_option maxHeartbeats 4000000 in
set_option maxRecDepth 100000 in
theorem c_Li_isFull (l : Launch) (G : Gx) (a p q : Nat) (f : Nat → Int64) (g : Nat → Int32) (n : Nat) (hn : n ≤ 8) : CT l G y_Li_isFull b_Li_isFull 1 (some .boolean) ({ frames := 0, cells := 0, slots := 0, locals := 0 } : Room) ([(a, ob 1 [.ref p, .ref q, .int (nI n)]), (p, aJ G 8 f), (q, aZ G 8 g)]) [.ref a] (fun r w' => w' = [(a, ob 1 [.ref p, .ref q, .int (nI n)]), (p, aJ G 8 f), (q, aZ G 8 g)] ∧ r = some (.int (if n = 8 then nI 1 else nI 0))) := by
  refine ct_of [(0, .ref a)] (by decide) (Nat.le_of_ble_eq_true rfl) rfl (fun K hKl hNI C X => ?_)
  subst hKl
  refine v_aload_n (pc := 0) C 0 d_Li_isFull_0 rfl rfl ?_
  refine v_get (pc := 1) (Cn := "WeightOrder$Line") (T := T_Li) (N := 3) (ci := 1) (v := .int (nI n)) C 0 2 rfl rfl hin_Li (by decide) rfl k_306 rfl d_Li_isFull_1 ?_
  refine v_aload_n (pc := 4) C 0 d_Li_isFull_4 rfl rfl ?_
  refine v_get (pc := 5) (Cn := "WeightOrder$Line") (T := T_Li) (N := 3) (ci := 1) (v := .ref p) C 0 0 rfl rfl hin_Li (by decide) rfl k_302 rfl d_Li_isFull_5 ?_
  refine v_alenJ (pc := 8) C 1 rfl d_Li_isFull_8 ?_
  refine v_icmpN_ne (pc := 9) C 16 n 8 d_Li_isFull_9 (by decide) (by omega) (by omega) (fun hc => ?_) (fun hc => ?_)
  · refine v_iconst (pc := 16) C (nI 0) d_Li_isFull_16 (by decide +kernel) ?_
    exact v_zret (pc := 17) C X rfl d_Li_isFull_17 ⟨rfl, by rw [if_neg hc]⟩ (by decide) (by decide)
  · refine v_iconst (pc := 12) C (nI 1) d_Li_isFull_12 (by decide +kernel) ?_
    refine v_goto (pc := 13) C 17 d_Li_isFull_13 (by decide) ?_
    exact v_zret (pc := 17) C X rfl d_Li_isFull_17 ⟨rfl, by rw [if_pos hc]⟩ (by decide) (by decide)

set_option maxHeartbeats 4000000 in
set_option maxRecDepth 100000 in
theorem c_Ro_append (l : Launch) (G : Gx) (a p : Nat) (f : Nat → Int32) (n : Nat) (x : Int32) (hn : n < 200) : CT l G y_Ro_append b_Ro_append 2 none ({ frames := 0, cells := 0, slots := 0, locals := 0 } : Room) ([(a, ob 3 [.ref p, .int (nI n)]), (p, aI G 200 f)]) [.ref a, .int x] (fun r w' => w' = [(a, ob 3 [.ref p, .int (nI (n + 1))]), (p, aI G 200 (upd f n x))] ∧ r = none) := by
  refine ct_of [(0, .ref a), (1, .int x)] (by decide) (Nat.le_of_ble_eq_true rfl) rfl (fun K hKl hNI C X => ?_)
  subst hKl
  refine v_aload_n (pc := 0) C 0 d_Ro_append_0 rfl rfl ?_
  refine v_get (pc := 1) (Cn := "WeightOrder$Row") (T := T_Ro) (N := 2) (ci := 3) (v := .ref p) C 0 0 rfl rfl hin_Ro (by decide) rfl k_75 rfl d_Ro_append_1 ?_
  refine v_aload_n (pc := 4) C 0 d_Ro_append_4 rfl rfl ?_
  refine v_get (pc := 5) (Cn := "WeightOrder$Row") (T := T_Ro) (N := 2) (ci := 3) (v := .int (nI n)) C 0 1 rfl rfl hin_Ro (by decide) rfl k_77 rfl d_Ro_append_5 ?_
  refine v_iload_n (pc := 8) C 1 d_Ro_append_8 rfl rfl ?_
  refine v_iast (pc := 9) C 1 ([(a, ob 3 [.ref p, .int (nI n)]), (p, aI G 200 (upd f n x))]) rfl n rfl (by omega) (by decide) rfl d_Ro_append_9 ?_
  refine v_aload_n (pc := 10) C 0 d_Ro_append_10 rfl rfl ?_
  refine v_dup (pc := 11) C d_Ro_append_11 rfl ?_
  refine v_get (pc := 12) (Cn := "WeightOrder$Row") (T := T_Ro) (N := 2) (ci := 3) (v := .int (nI n)) C 0 1 rfl rfl hin_Ro (by decide) rfl k_77 rfl d_Ro_append_12 ?_
  refine v_iconst (pc := 15) C (nI 1) d_Ro_append_15 (by decide +kernel) ?_
  refine v_iadd (pc := 16) C (nI (n + 1)) d_Ro_append_16 (nI_add _ _) ?_
  refine v_put (pc := 17) (Cn := "WeightOrder$Row") (T := T_Ro) (N := 2) (ci := 3) (v := .int (nI (n + 1))) C 0 1 rfl rfl hin_Ro (by decide) rfl ([(a, ob 3 [.ref p, .int (nI (n + 1))]), (p, aI G 200 (upd f n x))]) t_Ro t_Ro_ok n_Ro (.int) rfl rfl rfl (Nat.le_of_ble_eq_true rfl) rfl rfl k_77 d_Ro_append_17 ?_
  exact v_vret (pc := 20) C X d_Ro_append_20 ⟨rfl, rfl⟩ (by decide) (by decide)

set_option maxHeartbeats 4000000 in
set_option maxRecDepth 100000 in
theorem c_Li_append (l : Launch) (G : Gx) (a p q : Nat) (f : Nat → Int64) (g : Nat → Int32) (n : Nat) (x : Int64) (z : Int32) (hn : n < 8) : CT l G y_Li_append b_Li_append 4 none ({ frames := 0, cells := 0, slots := 0, locals := 0 } : Room) ([(a, ob 1 [.ref p, .ref q, .int (nI n)]), (p, aJ G 8 f), (q, aZ G 8 g)]) [.ref a, .long x, .int z] (fun r w' => w' = [(a, ob 1 [.ref p, .ref q, .int (nI (n + 1))]), (p, aJ G 8 (vp_updL f n x)), (q, aZ G 8 (upd g n (vp_nar .boolean z)))] ∧ r = none) := by
  refine ct_of [(0, .ref a), (1, .long x), (3, .int z)] (by decide) (Nat.le_of_ble_eq_true rfl) rfl (fun K hKl hNI C X => ?_)
  subst hKl
  refine v_aload_n (pc := 0) C 0 d_Li_append_0 rfl rfl ?_
  refine v_get (pc := 1) (Cn := "WeightOrder$Line") (T := T_Li) (N := 3) (ci := 1) (v := .ref p) C 0 0 rfl rfl hin_Li (by decide) rfl k_302 rfl d_Li_append_1 ?_
  refine v_aload_n (pc := 4) C 0 d_Li_append_4 rfl rfl ?_
  refine v_get (pc := 5) (Cn := "WeightOrder$Line") (T := T_Li) (N := 3) (ci := 1) (v := .int (nI n)) C 0 2 rfl rfl hin_Li (by decide) rfl k_306 rfl d_Li_append_5 ?_
  refine v_lload_n (pc := 8) C 1 d_Li_append_8 rfl rfl ?_
  refine v_last (pc := 9) C 1 ([(a, ob 1 [.ref p, .ref q, .int (nI n)]), (p, aJ G 8 (vp_updL f n x)), (q, aZ G 8 g)]) rfl n rfl (by omega) (by decide) rfl d_Li_append_9 ?_
  refine v_aload_n (pc := 10) C 0 d_Li_append_10 rfl rfl ?_
  refine v_get (pc := 11) (Cn := "WeightOrder$Line") (T := T_Li) (N := 3) (ci := 1) (v := .ref q) C 0 1 rfl rfl hin_Li (by decide) rfl k_304 rfl d_Li_append_11 ?_
  refine v_aload_n (pc := 14) C 0 d_Li_append_14 rfl rfl ?_
  refine v_get (pc := 15) (Cn := "WeightOrder$Line") (T := T_Li) (N := 3) (ci := 1) (v := .int (nI n)) C 0 2 rfl rfl hin_Li (by decide) rfl k_306 rfl d_Li_append_15 ?_
  refine v_iload_n (pc := 18) C 2 d_Li_append_18 rfl rfl ?_
  refine v_zast (pc := 19) C 2 ([(a, ob 1 [.ref p, .ref q, .int (nI n)]), (p, aJ G 8 (vp_updL f n x)), (q, aZ G 8 (upd g n (vp_nar .boolean z)))]) rfl n rfl (by omega) (by decide) rfl d_Li_append_19 ?_
  refine v_aload_n (pc := 20) C 0 d_Li_append_20 rfl rfl ?_
  refine v_dup (pc := 21) C d_Li_append_21 rfl ?_
  refine v_get (pc := 22) (Cn := "WeightOrder$Line") (T := T_Li) (N := 3) (ci := 1) (v := .int (nI n)) C 0 2 rfl rfl hin_Li (by decide) rfl k_306 rfl d_Li_append_22 ?_
  refine v_iconst (pc := 25) C (nI 1) d_Li_append_25 (by decide +kernel) ?_
  refine v_iadd (pc := 26) C (nI (n + 1)) d_Li_append_26 (nI_add _ _) ?_
  refine v_put (pc := 27) (Cn := "WeightOrder$Line") (T := T_Li) (N := 3) (ci := 1) (v := .int (nI (n + 1))) C 0 2 rfl rfl hin_Li (by decide) rfl ([(a, ob 1 [.ref p, .ref q, .int (nI (n + 1))]), (p, aJ G 8 (vp_updL f n x)), (q, aZ G 8 (upd g n (vp_nar .boolean z)))]) t_Li t_Li_ok n_Li (.int) rfl rfl rfl (Nat.le_of_ble_eq_true rfl) rfl rfl k_306 d_Li_append_27 ?_
  exact v_vret (pc := 30) C X d_Li_append_30 ⟨rfl, rfl⟩ (by decide) (by decide)
