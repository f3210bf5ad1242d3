/-! Elements: what was found for a row -/
/-- an element: p, s, t and variable (0, 1), or p, s, t and the fourth -/
abbrev E4 : Type := Nat × Nat × Nat × Nat
def okR (e : E4) : Prop := e.1 < 65536 ∧ e.2.1 < 65536 ∧ e.2.2.1 < 65536 ∧ e.2.2.2 ≤ 1
def okQ (e : E4) : Prop := e.1 < 65536 ∧ e.2.1 < 65536 ∧ e.2.2.1 < 65536 ∧ e.2.2.2 < 65536
def pq (e : E4) : Nat := pkN e.1 e.2.1 e.2.2.1 e.2.2.2
/-- one element with its fourth: what stands behind it is behind a variable one (0, 1), its weights -/
def shE (sh b : Nat) (e : E4) : Nat × E4 :=
  if sh = 0 then (b, (e.1, e.2.1, e.2.2.1, 0))
  else if 0 < e.1 then (e.2.2.2, if e.2.2.2 = 0 then (e.1, e.2.1, e.2.2.1, 65535) else (0, 0, 0, e.1))
  else (b, if b ≠ 0 ∨ (e.2.1 = 0 ∧ e.2.2.1 = 0) then (0, 0, 0, 0) else (0, e.2.1, e.2.2.1, 65535))
theorem pq_0 : pq (0, 0, 0, 0) = 0 := by simp [pq, pkN]
def shF (sh : Nat) : Nat → List E4 → Nat
  | b, [] => b
  | b, e :: es => shF sh (shE sh b e).1 es
def shL (sh : Nat) : Nat → List E4 → List E4
  | _, [] => []
  | b, e :: es => (shE sh b e).2 :: shL sh (shE sh b e).1 es
theorem shF_app (sh : Nat) (es fs : List E4) : ∀ b, shF sh b (es ++ fs) = shF sh (shF sh b es) fs := by
  induction es with
  | nil => intro b; rfl
  | cons e es ih => intro b; exact ih _
theorem shL_app (sh : Nat) (es fs : List E4) : ∀ b, shL sh b (es ++ fs) = shL sh b es ++ shL sh (shF sh b es) fs := by
  induction es with
  | nil => intro b; rfl
  | cons e es ih => intro b; exact congrArg (List.cons _) (ih _)
theorem shL_len (sh : Nat) (es : List E4) : ∀ b, (shL sh b es).length = es.length := by
  induction es with
  | nil => intro b; rfl
  | cons e es ih => intro b; exact congrArg Nat.succ (ih _)
theorem shE_b {sh b : Nat} {e : E4} (hb : b ≤ 1) (he : okR e) : (shE sh b e).1 ≤ 1 := by
  unfold shE
  split
  · exact hb
  · split
    · exact he.2.2.2
    · exact hb
theorem z0 : (0 : Nat) < 65536 := by decide
theorem z5 : (65535 : Nat) < 65536 := by decide
theorem shE_ok {sh b : Nat} {e : E4} (he : okR e) : okQ (shE sh b e).2 := by
  obtain ⟨h1, h2, h3, h4⟩ := he
  unfold shE
  split
  · exact ⟨h1, h2, h3, z0⟩
  · split
    · show okQ (if _ then _ else _)
      split
      · exact ⟨h1, h2, h3, z5⟩
      · exact ⟨z0, z0, z0, h1⟩
    · show okQ (if _ then _ else _)
      split
      · exact ⟨z0, z0, z0, z0⟩
      · exact ⟨z0, h2, h3, z5⟩
theorem shL_ok {sh : Nat} {es : List E4} : ∀ {b : Nat}, (∀ e ∈ es, okR e) → ∀ q ∈ shL sh b es, okQ q := by
  induction es with
  | nil => intro b h q hq; exact absurd hq List.not_mem_nil
  | cons e es ih =>
    intro b h q hq
    rcases List.mem_cons.mp hq with rfl | hq
    · exact shE_ok (h e List.mem_cons_self)
    · exact ih (fun x hx => h x (List.mem_cons_of_mem _ hx)) q hq
theorem shF_b {sh : Nat} {es : List E4} : ∀ {b : Nat}, b ≤ 1 → (∀ e ∈ es, okR e) → shF sh b es ≤ 1 := by
  induction es with
  | nil => intro b hb h; exact hb
  | cons e es ih => intro b hb h; exact ih (shE_b hb (h e List.mem_cons_self)) (fun x hx => h x (List.mem_cons_of_mem _ hx))
/-- the array holds the shifted elements of es -/
def ElS (sh : Nat) (es : List E4) (f : Nat → Int64) : Prop := (∀ e ∈ es, okR e) ∧ ∀ i q, (shL sh 0 es)[i]? = some q → f i = lN (pq q)
theorem els_nil (sh : Nat) (f : Nat → Int64) : ElS sh [] f := ⟨fun _ h => absurd h List.not_mem_nil, fun i q h => by cases h⟩
theorem els_add {sh : Nat} {es : List E4} {f : Nat → Int64} {e : E4} (h : ElS sh es f) (he : okR e) : ElS sh (es ++ [e]) (vp_updL f es.length (lN (pq (shE sh (shF sh 0 es) e).2))) := by
  refine ⟨fun x hx => ?_, fun i q hq => ?_⟩
  · rcases List.mem_append.mp hx with hx | hx
    · exact h.1 x hx
    · rw [List.mem_singleton.mp hx]; exact he
  · rw [shL_app] at hq
    rcases Nat.lt_trichotomy i es.length with c | c | c
    · rw [List.getElem?_append_left (by rw [shL_len]; exact c)] at hq
      rw [pk_uLn (by omega)]
      exact h.2 i q hq
    · rw [List.getElem?_append_right (by rw [shL_len]; omega), shL_len, c, Nat.sub_self] at hq
      cases hq
      rw [c, pk_uLs]
    · rw [List.getElem?_append_right (by rw [shL_len]; omega), shL_len] at hq
      have : (shL sh (shF sh 0 es) [e]).length ≤ i - es.length := by rw [shL_len]; simp; omega
      rw [List.getElem?_eq_none this] at hq
      cases hq
theorem nar_b {v : Nat} (hv : v ≤ 1) : narrow .boolean (.int (nI v)) = .int (nI v) := by rcases (show v = 0 ∨ v = 1 by omega) with rfl | rfl <;> rfl
theorem fit_b {v : Nat} (hv : v ≤ 1) : fits .boolean (.int (nI v)) = true := by rcases (show v = 0 ∨ v = 1 by omega) with rfl | rfl <;> rfl
theorem vpn_b {v : Nat} (hv : v ≤ 1) : vp_nar .boolean (nI v) = nI v := by rcases (show v = 0 ∨ v = 1 by omega) with rfl | rfl <;> rfl
theorem shE_s1 {b : Nat} {e : E4} (hp : 0 < e.1) (hv : e.2.2.2 = 0) : shE 1 b e = (0, (e.1, e.2.1, e.2.2.1, 65535)) := by unfold shE; rw [if_neg (by decide), if_pos hp, if_pos hv, hv]
theorem shE_s2 {b : Nat} {e : E4} (hp : 0 < e.1) (hv : ¬ e.2.2.2 = 0) : shE 1 b e = (e.2.2.2, (0, 0, 0, e.1)) := by unfold shE; rw [if_neg (by decide), if_pos hp, if_neg hv]
theorem shE_s3 {b : Nat} {e : E4} (hp : ¬ 0 < e.1) (hv : b ≠ 0 ∨ (e.2.1 = 0 ∧ e.2.2.1 = 0)) : shE 1 b e = (b, (0, 0, 0, 0)) := by unfold shE; rw [if_neg (by decide), if_neg hp, if_pos hv]
theorem shE_s4 {b : Nat} {e : E4} (hp : ¬ 0 < e.1) (hv : ¬ (b ≠ 0 ∨ (e.2.1 = 0 ∧ e.2.2.1 = 0))) : shE 1 b e = (b, (0, e.2.1, e.2.2.1, 65535)) := by unfold shE; rw [if_neg (by decide), if_neg hp, if_neg hv]
theorem shE_0 {b : Nat} {e : E4} : shE 0 b e = (b, (e.1, e.2.1, e.2.2.1, 0)) := by unfold shE; rw [if_pos rfl]

set_option maxHeartbeats 4000000 in
set_option maxRecDepth 100000 in
theorem c_El_begin (l : Launch) (G : Gx) (x y n s0 b0 sh : Nat) (f : Nat → Int64) (hsh : sh ≤ 1) : CT l G y_El_begin b_El_begin 2 none ({ frames := 0, cells := 0, slots := 0, locals := 0 } : Room) ([(x, ob 4 [.ref y, .int (nI n), .int (nI s0), .int (nI b0)]), (y, aJ G 1600 f)]) [.ref x, .int (nI sh)] (fun r w' => w' = [(x, ob 4 [.ref y, .int (nI 0), .int (nI sh), .int (nI 0)]), (y, aJ G 1600 f)] ∧ r = none) := by
  refine ct_of [(0, .ref x), (1, .int (nI sh))] (by decide) (Nat.le_of_ble_eq_true rfl) rfl (fun K hKl hNI C X => ?_)
  subst hKl
  refine v_aload_n (pc := 0) C 0 d_El_begin_0 rfl rfl ?_
  refine v_iconst (pc := 1) C (nI 0) d_El_begin_1 (by decide +kernel) ?_
  refine v_put (pc := 2) (Cn := "WeightOrder$Elements") (T := T_El) (N := 4) (ci := 4) (v := .int (nI 0)) C 0 1 rfl rfl hin_El (by decide) rfl ([(x, ob 4 [.ref y, .int (nI 0), .int (nI s0), .int (nI b0)]), (y, aJ G 1600 f)]) t_El t_El_ok n_El (.int) rfl rfl rfl (Nat.le_of_ble_eq_true rfl) rfl rfl k_127 d_El_begin_2 ?_
  refine v_aload_n (pc := 5) C 0 d_El_begin_5 rfl rfl ?_
  refine v_iload_n (pc := 6) C 1 d_El_begin_6 rfl rfl ?_
  refine v_put (pc := 7) (Cn := "WeightOrder$Elements") (T := T_El) (N := 4) (ci := 4) (v := .int (nI sh)) C 0 2 rfl rfl hin_El (by decide) rfl ([(x, ob 4 [.ref y, .int (nI 0), .int (nI sh), .int (nI b0)]), (y, aJ G 1600 f)]) t_El t_El_ok n_El (.boolean) rfl (nar_b hsh) (fit_b hsh) (Nat.le_of_ble_eq_true rfl) rfl rfl k_129 d_El_begin_7 ?_
  refine v_aload_n (pc := 10) C 0 d_El_begin_10 rfl rfl ?_
  refine v_iconst (pc := 11) C (nI 0) d_El_begin_11 (by decide +kernel) ?_
  refine v_put (pc := 12) (Cn := "WeightOrder$Elements") (T := T_El) (N := 4) (ci := 4) (v := .int (nI 0)) C 0 3 rfl rfl hin_El (by decide) rfl ([(x, ob 4 [.ref y, .int (nI 0), .int (nI sh), .int (nI 0)]), (y, aJ G 1600 f)]) t_El t_El_ok n_El (.boolean) rfl rfl rfl (Nat.le_of_ble_eq_true rfl) rfl rfl k_130 d_El_begin_12 ?_
  exact v_vret (pc := 15) C X d_El_begin_15 ⟨rfl, rfl⟩ (by decide) (by decide)

set_option maxHeartbeats 4000000 in
set_option maxRecDepth 100000 in
theorem c_El_shift (l : Launch) (G : Gx) (x y n sh b : Nat) (e : E4) (he : okR e) (hb : b ≤ 1) : CT l G y_El_shift b_El_shift 5 (some .long) ({ frames := 1, cells := 0, slots := 0, locals := 22 } : Room) ([(x, ob 4 [.ref y, .int (nI n), .int (nI sh), .int (nI b)])]) [.ref x, .long (lN (pkN e.1 e.2.1 e.2.2.1 0)), .int (nI e.2.2.2)] (fun r w' => w' = [(x, ob 4 [.ref y, .int (nI n), .int (nI sh), .int (nI ((shE 1 b e).1))])] ∧ r = some (.long (lN (pq (shE 1 b e).2)))) := by
  refine ct_of [(0, .ref x), (1, .long (lN (pkN e.1 e.2.1 e.2.2.1 0))), (3, .int (nI e.2.2.2))] (by decide) (Nat.le_of_ble_eq_true rfl) rfl (fun K hKl hNI C X => ?_)
  subst hKl
  obtain ⟨hp, hs, ht, hv⟩ := id he
  refine v_lload_n (pc := 0) C 1 d_El_shift_0 rfl rfl ?_
  refine v_iconst (pc := 1) C (nI 0) d_El_shift_1 (by decide +kernel) ?_
  refine v_callS (pc := 2) (As := [.long (lN (pkN e.1 e.2.1 e.2.2.1 0)), .int (nI 0)]) (rest := []) C (c_Wo_weightOf _ G (pkN e.1 e.2.1 e.2.2.1 0) 0 (pkN_lt hp hs ht (by decide)) (by decide)) l_El_48 ([(x, ob 4 [.ref y, .int (nI n), .int (nI sh), .int (nI b)])]) (sp_pos [0] [] rfl rfl rfl) rfl rfl (Nat.le_of_ble_eq_true rfl) (by decide) (by decide) (by decide) (by decide) d_El_shift_2 (fun r w' hq => ?_)
  obtain ⟨rfl, rfl⟩ := hq
  show vv K ({ frames := 1, cells := 0, slots := 0, locals := 22 } : Room) G 5 0 0 ([(x, ob 4 [.ref y, .int (nI n), .int (nI sh), .int (nI b)])]) 5 [(0, .ref x), (1, .long (lN (pkN e.1 e.2.1 e.2.2.1 0))), (3, .int (nI e.2.2.2))] [.int (nI (wtN (pkN e.1 e.2.1 e.2.2.1 0) 0))]
  refine v_seti (nI e.1) (by rw [wt_0 hp hs ht (by decide)]) ?_
  refine v_istore (pc := 5) C [(4, .int (nI e.1)), (0, .ref x), (1, .long (lN (pkN e.1 e.2.1 e.2.2.1 0))), (3, .int (nI e.2.2.2))] d_El_shift_5 (by decide) rfl ?_
  refine v_iload (pc := 7) C 0 d_El_shift_7 rfl ?_
  refine v_ifN_le (pc := 9) C 33 e.1 d_El_shift_9 (by decide) (by omega) (fun h1 => ?_) (fun h1 => ?_)
  · have hp0 : e.1 = 0 := by omega
    refine v_aload_n (pc := 33) C 1 d_El_shift_33 rfl rfl ?_
    refine v_get (pc := 34) (Cn := "WeightOrder$Elements") (T := T_El) (N := 4) (ci := 4) (v := .int (nI b)) C 0 3 rfl rfl hin_El (by decide) rfl k_130 rfl d_El_shift_34 ?_
    refine v_ifN_ne (pc := 37) C 46 b d_El_shift_37 (by decide) (by omega) (fun h3 => ?_) (fun h3 => ?_)
    · refine v_lconst (pc := 46) C (lN 0) d_El_shift_46 (by decide +kernel) ?_
      refine v_goto (pc := 47) C 55 d_El_shift_47 (by decide) ?_
      exact v_lret (pc := 55) C X d_El_shift_55 ⟨by rw [shE_s3 (by omega) (Or.inl h3)], by rw [shE_s3 (by omega) (Or.inl h3), pq_0]⟩ (by decide) (by decide)
    · refine v_lload_n (pc := 40) C 2 d_El_shift_40 rfl rfl ?_
      refine v_lconst (pc := 41) C (lN 0) d_El_shift_41 (by decide +kernel) ?_
      refine v_lcmp (pc := 42) C d_El_shift_42 ?_
      refine v_if_ne (pc := 43) C 50 d_El_shift_43 (by decide) (fun h4 => ?_) (fun h4 => ?_)
      · have h5 : ¬ (b ≠ 0 ∨ (e.2.1 = 0 ∧ e.2.2.1 = 0)) := by
          intro q
          rcases q with q | q
          · exact q h3
          · exact h4 (lgc_eq.mpr (congrArg lN (pkN_eq0.mpr ⟨hp0, q.1, q.2⟩)))
        refine v_lload_n (pc := 50) C 2 d_El_shift_50 rfl rfl ?_
        refine v_ldc2 (pc := 51) C 65535 k_412 d_El_shift_51 ?_
        refine v_setl (lN 65535) (by decide +kernel) ?_
        refine v_lor (pc := 54) C (lN (pkN e.1 e.2.1 e.2.2.1 65535)) d_El_shift_54 (pk_orF hp hs ht) ?_
        exact v_lret (pc := 55) C X d_El_shift_55 ⟨by rw [shE_s4 (by omega) h5], by rw [shE_s4 (by omega) h5]; exact congrArg (fun z => some (Value.long (lN z))) (by unfold pq; rw [hp0])⟩ (by decide) (by decide)
      · have h5 : pkN e.1 e.2.1 e.2.2.1 0 = 0 := by
          have := lgc_eq.mp h4
          have hlt := pkN_lt (f := 0) hp hs ht (by decide)
          have h6 := congrArg (fun z : Int64 => z.toBitVec.toNat) this
          simp only [wb_tn (by rw [pw64]; exact hlt), wb_tn (n := 0) (by decide)] at h6
          exact h6
        refine v_lconst (pc := 46) C (lN 0) d_El_shift_46 (by decide +kernel) ?_
        refine v_goto (pc := 47) C 55 d_El_shift_47 (by decide) ?_
        exact v_lret (pc := 55) C X d_El_shift_55 ⟨by rw [shE_s3 (by omega) (Or.inr ⟨(pkN_eq0.mp h5).2.1, (pkN_eq0.mp h5).2.2⟩)], by rw [shE_s3 (by omega) (Or.inr ⟨(pkN_eq0.mp h5).2.1, (pkN_eq0.mp h5).2.2⟩), pq_0]⟩ (by decide) (by decide)
  · refine v_aload_n (pc := 12) C 1 d_El_shift_12 rfl rfl ?_
    refine v_iload_n (pc := 13) C 3 d_El_shift_13 rfl rfl ?_
    refine v_put (pc := 14) (Cn := "WeightOrder$Elements") (T := T_El) (N := 4) (ci := 4) (v := .int (nI e.2.2.2)) C 0 3 rfl rfl hin_El (by decide) rfl ([(x, ob 4 [.ref y, .int (nI n), .int (nI sh), .int (nI e.2.2.2)])]) t_El t_El_ok n_El (.boolean) rfl (nar_b hv) (fit_b hv) (Nat.le_of_ble_eq_true rfl) rfl rfl k_130 d_El_shift_14 ?_
    refine v_iload_n (pc := 17) C 3 d_El_shift_17 rfl rfl ?_
    refine v_ifN_eq (pc := 18) C 27 e.2.2.2 d_El_shift_18 (by decide) (by omega) (fun h2 => ?_) (fun h2 => ?_)
    · refine v_lload_n (pc := 27) C 2 d_El_shift_27 rfl rfl ?_
      refine v_ldc2 (pc := 28) C 65535 k_412 d_El_shift_28 ?_
      refine v_setl (lN 65535) (by decide +kernel) ?_
      refine v_lor (pc := 31) C (lN (pkN e.1 e.2.1 e.2.2.1 65535)) d_El_shift_31 (pk_orF hp hs ht) ?_
      exact v_lret (pc := 32) C X d_El_shift_32 ⟨by rw [shE_s1 h1 h2, h2], by rw [shE_s1 h1 h2]; rfl⟩ (by decide) (by decide)
    · refine v_iload (pc := 21) C 0 d_El_shift_21 rfl ?_
      refine v_i2l (pc := 23) C (lN e.1) d_El_shift_23 (nI_l (by omega)) ?_
      refine v_goto (pc := 24) C 32 d_El_shift_24 (by decide) ?_
      exact v_lret (pc := 32) C X d_El_shift_32 ⟨by rw [shE_s2 h1 h2], by rw [shE_s2 h1 h2]; exact congrArg (fun z => some (Value.long (lN z))) (by unfold pq pkN; simp)⟩ (by decide) (by decide)

set_option maxHeartbeats 4000000 in
set_option maxRecDepth 100000 in
theorem c_El_append (l : Launch) (G : Gx) (x y sh : Nat) (es : List E4) (f : Nat → Int64) (e : E4) (hsh : sh ≤ 1) (hE : ElS sh es f) (he : okR e) (hlen : es.length < 1600) : CT l G y_El_append b_El_append 4 none ({ frames := 2, cells := 0, slots := 0, locals := 46 } : Room) ([(x, ob 4 [.ref y, .int (nI es.length), .int (nI sh), .int (nI (shF sh 0 es))]), (y, aJ G 1600 f)]) [.ref x, .long (lN (pkN e.1 e.2.1 e.2.2.1 0)), .int (nI e.2.2.2)] (fun r w' => r = none ∧ ∃ f', w' = [(x, ob 4 [.ref y, .int (nI ((es ++ [e]).length)), .int (nI sh), .int (nI (shF sh 0 (es ++ [e])))]), (y, aJ G 1600 f')] ∧ ElS sh (es ++ [e]) f') := by
  refine ct_of [(0, .ref x), (1, .long (lN (pkN e.1 e.2.1 e.2.2.1 0))), (3, .int (nI e.2.2.2))] (by decide) (Nat.le_of_ble_eq_true rfl) rfl (fun K hKl hNI C X => ?_)
  subst hKl
  have hl1 : (es ++ [e]).length = es.length + 1 := by simp
  have hsf : shF sh 0 (es ++ [e]) = (shE sh (shF sh 0 es) e).1 := by rw [shF_app]; rfl
  have hadd := els_add hE he
  have hb := shF_b (sh := sh) (b := 0) (by decide) hE.1
  refine v_aload_n (pc := 0) C 0 d_El_append_0 rfl rfl ?_
  refine v_get (pc := 1) (Cn := "WeightOrder$Elements") (T := T_El) (N := 4) (ci := 4) (v := .int (nI es.length)) C 0 1 rfl rfl hin_El (by decide) rfl k_127 rfl d_El_append_1 ?_
  refine v_aload_n (pc := 4) C 0 d_El_append_4 rfl rfl ?_
  refine v_get (pc := 5) (Cn := "WeightOrder$Elements") (T := T_El) (N := 4) (ci := 4) (v := .ref y) C 0 0 rfl rfl hin_El (by decide) rfl k_125 rfl d_El_append_5 ?_
  refine v_alenJ (pc := 8) C 1 rfl d_El_append_8 ?_
  refine v_icmpN_ge (pc := 9) C 48 es.length 1600 d_El_append_9 (by decide) (by omega) (by omega) (fun h1 => ?_) (fun h1 => ?_)
  · omega
  · refine v_aload_n (pc := 12) C 0 d_El_append_12 rfl rfl ?_
    refine v_get (pc := 13) (Cn := "WeightOrder$Elements") (T := T_El) (N := 4) (ci := 4) (v := .ref y) C 0 0 rfl rfl hin_El (by decide) rfl k_125 rfl d_El_append_13 ?_
    refine v_aload_n (pc := 16) C 0 d_El_append_16 rfl rfl ?_
    refine v_get (pc := 17) (Cn := "WeightOrder$Elements") (T := T_El) (N := 4) (ci := 4) (v := .int (nI es.length)) C 0 1 rfl rfl hin_El (by decide) rfl k_127 rfl d_El_append_17 ?_
    refine v_aload_n (pc := 20) C 0 d_El_append_20 rfl rfl ?_
    refine v_get (pc := 21) (Cn := "WeightOrder$Elements") (T := T_El) (N := 4) (ci := 4) (v := .int (nI sh)) C 0 2 rfl rfl hin_El (by decide) rfl k_129 rfl d_El_append_21 ?_
    refine v_ifN_eq (pc := 24) C 36 sh d_El_append_24 (by decide) (by omega) (fun h2 => ?_) (fun h2 => ?_)
    · subst h2
      refine v_lload_n (pc := 36) C 1 d_El_append_36 rfl rfl ?_
      refine v_last (pc := 37) C 1 ([(x, ob 4 [.ref y, .int (nI es.length), .int (nI 0), .int (nI (shF 0 0 es))]), (y, aJ G 1600 (vp_updL f es.length (lN (pkN e.1 e.2.1 e.2.2.1 0))))]) rfl es.length rfl (by omega) (by decide) rfl d_El_append_37 ?_
      refine v_aload_n (pc := 38) C 0 d_El_append_38 rfl rfl ?_
      refine v_dup (pc := 39) C d_El_append_39 rfl ?_
      refine v_get (pc := 40) (Cn := "WeightOrder$Elements") (T := T_El) (N := 4) (ci := 4) (v := .int (nI es.length)) C 0 1 rfl rfl hin_El (by decide) rfl k_127 rfl d_El_append_40 ?_
      refine v_iconst (pc := 43) C (nI 1) d_El_append_43 (by decide +kernel) ?_
      refine v_iadd (pc := 44) C (nI (es.length + 1)) d_El_append_44 (nI_add _ _) ?_
      refine v_put (pc := 45) (Cn := "WeightOrder$Elements") (T := T_El) (N := 4) (ci := 4) (v := .int (nI (es.length + 1))) C 0 1 rfl rfl hin_El (by decide) rfl ([(x, ob 4 [.ref y, .int (nI (es.length + 1)), .int (nI 0), .int (nI (shF 0 0 es))]), (y, aJ G 1600 (vp_updL f es.length (lN (pkN e.1 e.2.1 e.2.2.1 0))))]) t_El t_El_ok n_El (.int) rfl rfl rfl (Nat.le_of_ble_eq_true rfl) rfl rfl k_127 d_El_append_45 ?_
      exact v_vret (pc := 48) C X d_El_append_48 ⟨rfl, vp_updL f es.length (lN (pkN e.1 e.2.1 e.2.2.1 0)), by rw [hl1, hsf, shE_0], by rw [shE_0] at hadd; exact hadd⟩ (by decide) (by decide)
    · have hs1 : sh = 1 := by omega
      subst hs1
      refine v_aload_n (pc := 27) C 0 d_El_append_27 rfl rfl ?_
      refine v_lload_n (pc := 28) C 1 d_El_append_28 rfl rfl ?_
      refine v_iload_n (pc := 29) C 2 d_El_append_29 rfl rfl ?_
      refine v_callV (pc := 30) (As := [.long (lN (pkN e.1 e.2.1 e.2.2.1 0)), .int (nI e.2.2.2)]) (rest := [.int (nI es.length), .ref y]) C (c_El_shift _ G x y es.length 1 (shF 1 0 es) e he hb) l_El_26 ([(y, aJ G 1600 f)]) (sp_pos [1] [0] rfl rfl rfl) 0 rfl rfl rfl rfl rfl (Nat.le_of_ble_eq_true rfl) (by decide) (by decide) (by decide) (by decide) d_El_append_30 (fun r w' hq => ?_)
      obtain ⟨rfl, rfl⟩ := hq
      show vv K ({ frames := 2, cells := 0, slots := 0, locals := 46 } : Room) G 4 0 0 ([(y, aJ G 1600 f), (x, ob 4 [.ref y, .int (nI es.length), .int (nI 1), .int (nI ((shE 1 (shF 1 0 es) e).1))])]) 33 [(0, .ref x), (1, .long (lN (pkN e.1 e.2.1 e.2.2.1 0))), (3, .int (nI e.2.2.2))] [.long (lN (pq (shE 1 (shF 1 0 es) e).2)), .int (nI es.length), .ref y]
      refine v_goto (pc := 33) C 37 d_El_append_33 (by decide) ?_
      refine v_last (pc := 37) C 0 ([(y, aJ G 1600 (vp_updL f es.length (lN (pq (shE 1 (shF 1 0 es) e).2)))), (x, ob 4 [.ref y, .int (nI es.length), .int (nI 1), .int (nI ((shE 1 (shF 1 0 es) e).1))])]) rfl es.length rfl (by omega) (by decide) rfl d_El_append_37 ?_
      refine v_aload_n (pc := 38) C 0 d_El_append_38 rfl rfl ?_
      refine v_dup (pc := 39) C d_El_append_39 rfl ?_
      refine v_get (pc := 40) (Cn := "WeightOrder$Elements") (T := T_El) (N := 4) (ci := 4) (v := .int (nI es.length)) C 1 1 rfl rfl hin_El (by decide) rfl k_127 rfl d_El_append_40 ?_
      refine v_iconst (pc := 43) C (nI 1) d_El_append_43 (by decide +kernel) ?_
      refine v_iadd (pc := 44) C (nI (es.length + 1)) d_El_append_44 (nI_add _ _) ?_
      refine v_put (pc := 45) (Cn := "WeightOrder$Elements") (T := T_El) (N := 4) (ci := 4) (v := .int (nI (es.length + 1))) C 1 1 rfl rfl hin_El (by decide) rfl ([(y, aJ G 1600 (vp_updL f es.length (lN (pq (shE 1 (shF 1 0 es) e).2)))), (x, ob 4 [.ref y, .int (nI (es.length + 1)), .int (nI 1), .int (nI ((shE 1 (shF 1 0 es) e).1))])]) t_El t_El_ok n_El (.int) rfl rfl rfl (Nat.le_of_ble_eq_true rfl) rfl rfl k_127 d_El_append_45 ?_
      refine v_wsub [1, 0] ([(x, ob 4 [.ref y, .int (nI (es.length + 1)), .int (nI 1), .int (nI ((shE 1 (shF 1 0 es) e).1))]), (y, aJ G 1600 (vp_updL f es.length (lN (pq (shE 1 (shF 1 0 es) e).2))))]) rfl rfl ?_
      exact v_vret (pc := 48) C X d_El_append_48 ⟨rfl, vp_updL f es.length (lN (pq (shE 1 (shF 1 0 es) e).2)), by rw [hl1, hsf], hadd⟩ (by decide) (by decide)

/-- the arrays of a Line hold es -/
def LnS (es : List E4) (fp : Nat → Int64) (fv : Nat → Int32) : Prop := (∀ e ∈ es, okR e) ∧ ∀ i e, es[i]? = some e → fp i = lN (pkN e.1 e.2.1 e.2.2.1 0) ∧ fv i = nI e.2.2.2

set_option maxHeartbeats 4000000 in
set_option maxRecDepth 100000 in
theorem c_El_appendLine (l : Launch) (G : Gx) (x y a p q sh : Nat) (es ls : List E4) (f fp : Nat → Int64) (fv : Nat → Int32) (hsh : sh ≤ 1) (hE : ElS sh es f) (hL : LnS ls fp fv) (h8 : ls.length ≤ 8) (hlen : (es ++ ls).length ≤ 1600) : CT l G y_El_appendLine b_El_appendLine 3 none ({ frames := 3, cells := 0, slots := 0, locals := 69 } : Room) ([(x, ob 4 [.ref y, .int (nI es.length), .int (nI sh), .int (nI (shF sh 0 es))]), (y, aJ G 1600 f), (a, ob 1 [.ref p, .ref q, .int (nI ls.length)]), (p, aJ G 8 fp), (q, aZ G 8 fv)]) [.ref x, .ref a] (fun r w' => r = none ∧ ∃ f', w' = [(x, ob 4 [.ref y, .int (nI ((es ++ ls).length)), .int (nI sh), .int (nI (shF sh 0 (es ++ ls)))]), (y, aJ G 1600 f'), (a, ob 1 [.ref p, .ref q, .int (nI ls.length)]), (p, aJ G 8 fp), (q, aZ G 8 fv)] ∧ ElS sh (es ++ ls) f') := by
  refine ct_of [(0, .ref x), (1, .ref a)] (by decide) (Nat.le_of_ble_eq_true rfl) rfl (fun K hKl hNI C X => ?_)
  subst hKl
  have hla : (es ++ ls).length = es.length + ls.length := by simp
  refine v_iconst (pc := 0) C (nI 0) d_El_appendLine_0 (by decide +kernel) ?_
  refine v_istore_n (pc := 1) C [(2, .int (nI 0)), (0, .ref x), (1, .ref a)] d_El_appendLine_1 rfl (by decide) rfl ?_
  have loop : ∀ (d : Nat) (i : Nat) (g : Nat → Int64), ls.length - i < d → (i ≤ ls.length) → (ElS sh (es ++ ls.take i) g) → vv K ({ frames := 3, cells := 0, slots := 0, locals := 69 } : Room) G 3 0 0 ([(x, ob 4 [.ref y, .int (nI ((es ++ ls.take i).length)), .int (nI sh), .int (nI (shF sh 0 (es ++ ls.take i)))]), (y, aJ G 1600 g), (a, ob 1 [.ref p, .ref q, .int (nI ls.length)]), (p, aJ G 8 fp), (q, aZ G 8 fv)]) 2 [(2, .int (nI i)), (0, .ref x), (1, .ref a)] [] := by
    intro d
    induction d with
    | zero => intro i g hm; exact absurd hm (Nat.not_lt_zero _)
    | succ d ih =>
      intro i g hm hi hg
      refine v_iload_n (pc := 2) C 0 d_El_appendLine_2 rfl rfl ?_
      refine v_aload_n (pc := 3) C 2 d_El_appendLine_3 rfl rfl ?_
      refine v_getN (pc := 4) (Cn := "WeightOrder$Line") (T := T_Li) (N := 3) (ci := 1) (v := .int (nI ls.length)) C 2 2 rfl rfl hin_Li (by decide) rfl k_307 rfl d_El_appendLine_4 ?_
      refine v_icmpN_ge (pc := 7) C 32 i ls.length d_El_appendLine_7 (by decide) (by omega) (by omega) (fun hc => ?_) (fun hc => ?_)
      · have hie : i = ls.length := by omega
        rw [hie, List.take_length] at hg
        exact v_vret (pc := 32) C X d_El_appendLine_32 ⟨rfl, g, by rw [hie, List.take_length], hg⟩ (by decide) (by decide)
      · obtain ⟨e, he⟩ : ∃ e, ls[i]? = some e := ⟨_, List.getElem?_eq_getElem hc⟩
        have hoe := hL.1 e (List.mem_of_getElem? he)
        have hie := hL.2 i e he
        have htk : ls.take (i + 1) = ls.take i ++ [e] := by rw [List.take_add_one, he]; rfl
        have hlt : (es ++ ls.take i).length < 1600 := by rw [List.length_append, List.length_take]; omega
        refine v_aload_n (pc := 10) C 1 d_El_appendLine_10 rfl rfl ?_
        refine v_aload_n (pc := 11) C 2 d_El_appendLine_11 rfl rfl ?_
        refine v_getN (pc := 12) (Cn := "WeightOrder$Line") (T := T_Li) (N := 3) (ci := 1) (v := .ref p) C 2 0 rfl rfl hin_Li (by decide) rfl k_303 rfl d_El_appendLine_12 ?_
        refine v_iload_n (pc := 15) C 0 d_El_appendLine_15 rfl rfl ?_
        refine v_lald (pc := 16) C 3 rfl i rfl (by omega) (by decide) d_El_appendLine_16 ?_
        refine v_setl (lN (pkN e.1 e.2.1 e.2.2.1 0)) hie.1 ?_
        refine v_aload_n (pc := 17) C 2 d_El_appendLine_17 rfl rfl ?_
        refine v_getN (pc := 18) (Cn := "WeightOrder$Line") (T := T_Li) (N := 3) (ci := 1) (v := .ref q) C 2 1 rfl rfl hin_Li (by decide) rfl k_305 rfl d_El_appendLine_18 ?_
        refine v_iload_n (pc := 21) C 0 d_El_appendLine_21 rfl rfl ?_
        refine v_zald (pc := 22) C 4 rfl i rfl (by omega) (by decide) d_El_appendLine_22 ?_
        refine v_seti (nI e.2.2.2) hie.2 ?_
        refine v_callV (pc := 23) (As := [.long (lN (pkN e.1 e.2.1 e.2.2.1 0)), .int (nI e.2.2.2)]) (rest := []) C (c_El_append _ G x y sh (es ++ ls.take i) g e hsh hg hoe hlt) l_El_38 ([(a, ob 1 [.ref p, .ref q, .int (nI ls.length)]), (p, aJ G 8 fp), (q, aZ G 8 fv)]) (sp_pos [2, 3, 4] [0, 1] rfl rfl rfl) 0 rfl rfl rfl rfl rfl (Nat.le_of_ble_eq_true rfl) (by decide) (by decide) (by decide) (by decide) d_El_appendLine_23 (fun r w' hq => ?_)
        obtain ⟨rfl, g2, rfl, hg2⟩ := hq
        show vv K ({ frames := 3, cells := 0, slots := 0, locals := 69 } : Room) G 3 0 0 ([(a, ob 1 [.ref p, .ref q, .int (nI ls.length)]), (p, aJ G 8 fp), (q, aZ G 8 fv), (x, ob 4 [.ref y, .int (nI ((es ++ ls.take i ++ [e]).length)), .int (nI sh), .int (nI (shF sh 0 (es ++ ls.take i ++ [e])))]), (y, aJ G 1600 g2)]) 26 [(2, .int (nI i)), (0, .ref x), (1, .ref a)] []
        rw [List.append_assoc, ← htk] at hg2 ⊢
        refine v_iinc (pc := 26) C [(2, .int (nI (i + 1))), (0, .ref x), (1, .ref a)] 0 (nI (i + 1)) d_El_appendLine_26 rfl (nI_inc1 _) (by decide) rfl ?_
        refine v_goto (pc := 29) C 2 d_El_appendLine_29 (by decide) ?_
        refine v_wsub [3, 4, 0, 1, 2] ([(x, ob 4 [.ref y, .int (nI ((es ++ ls.take (i + 1)).length)), .int (nI sh), .int (nI (shF sh 0 (es ++ ls.take (i + 1))))]), (y, aJ G 1600 g2), (a, ob 1 [.ref p, .ref q, .int (nI ls.length)]), (p, aJ G 8 fp), (q, aZ G 8 fv)]) rfl rfl ?_
        refine v_lsub [0, 1, 2] [(2, .int (nI (i + 1))), (0, .ref x), (1, .ref a)] rfl ?_
        exact ih (i + 1) g2 (by omega) (by omega) hg2
  have hE0 : ElS sh (es ++ ls.take 0) f := by rw [List.take_zero, List.append_nil]; exact hE
  have := loop (ls.length + 1) 0 f (by omega) (by omega) hE0
  rw [List.take_zero, List.append_nil] at this
  exact this

def impE (p : Nat) : List E4 := [(64448 + p / 32768, 32, 2, 0), (p % 32768 + 32768, 0, 0, 0)]
theorem imp_ok {p : Nat} (hp : p ≤ 1114111) : ∀ e ∈ impE p, okR e := by
  intro e he
  rcases List.mem_cons.mp he with rfl | he
  · exact ⟨show 64448 + p / 32768 < 65536 by omega, show (32 : Nat) < 65536 by decide, show (2 : Nat) < 65536 by decide, Nat.zero_le _⟩
  · rw [List.mem_singleton.mp he]
    exact ⟨show p % 32768 + 32768 < 65536 by omega, z0, z0, Nat.zero_le _⟩

set_option maxHeartbeats 4000000 in
set_option maxRecDepth 100000 in
theorem c_El_appendImplicit (l : Launch) (G : Gx) (x y sh : Nat) (es : List E4) (f : Nat → Int64) (p : Nat) (hsh : sh ≤ 1) (hE : ElS sh es f) (hp : p ≤ 1114111) (hlen : es.length + 2 ≤ 1600) : CT l G y_El_appendImplicit b_El_appendImplicit 2 none ({ frames := 3, cells := 0, slots := 0, locals := 69 } : Room) ([(x, ob 4 [.ref y, .int (nI es.length), .int (nI sh), .int (nI (shF sh 0 es))]), (y, aJ G 1600 f)]) [.ref x, .int (nI p)] (fun r w' => r = none ∧ ∃ f', w' = [(x, ob 4 [.ref y, .int (nI ((es ++ impE p).length)), .int (nI sh), .int (nI (shF sh 0 (es ++ impE p)))]), (y, aJ G 1600 f')] ∧ ElS sh (es ++ impE p) f') := by
  refine ct_of [(0, .ref x), (1, .int (nI p))] (by decide) (Nat.le_of_ble_eq_true rfl) rfl (fun K hKl hNI C X => ?_)
  subst hKl
  have o1 := imp_ok hp _ (List.mem_cons_self (a := (64448 + p / 32768, 32, 2, 0)))
  have o2 := imp_ok hp (p % 32768 + 32768, 0, 0, 0) (List.mem_cons_of_mem _ List.mem_cons_self)
  refine v_aload_n (pc := 0) C 0 d_El_appendImplicit_0 rfl rfl ?_
  refine v_ldc (pc := 1) C 64448 k_398 d_El_appendImplicit_1 ?_
  refine v_seti (nI 64448) (by decide +kernel) ?_
  refine v_iload_n (pc := 3) C 1 d_El_appendImplicit_3 rfl rfl ?_
  refine v_ldc (pc := 4) C 32768 k_399 d_El_appendImplicit_4 ?_
  refine v_seti (nI 32768) (by decide +kernel) ?_
  refine v_idiv (pc := 6) C (nI (p / 32768)) d_El_appendImplicit_6 (by decide) (pk_div (by omega) (by decide) (by decide)) ?_
  refine v_iadd (pc := 7) C (nI (64448 + (p / 32768))) d_El_appendImplicit_7 (nI_add _ _) ?_
  refine v_bipush (pc := 8) C (nI 32) d_El_appendImplicit_8 (by decide +kernel) ?_
  refine v_iconst (pc := 10) C (nI 2) d_El_appendImplicit_10 (by decide +kernel) ?_
  refine v_callS (pc := 11) (As := [.int (nI (64448 + (p / 32768))), .int (nI 32), .int (nI 2)]) (rest := [.ref x]) C (c_Wo_pack _ G (64448 + p / 32768) 32 2 o1.1 (by decide) (by decide)) l_El_44 ([(x, ob 4 [.ref y, .int (nI es.length), .int (nI sh), .int (nI (shF sh 0 es))]), (y, aJ G 1600 f)]) (sp_pos [0, 1] [] rfl rfl rfl) rfl rfl (Nat.le_of_ble_eq_true rfl) (by decide) (by decide) (by decide) (by decide) d_El_appendImplicit_11 (fun r w' hq => ?_)
  obtain ⟨rfl, rfl⟩ := hq
  show vv K ({ frames := 3, cells := 0, slots := 0, locals := 69 } : Room) G 2 0 0 ([(x, ob 4 [.ref y, .int (nI es.length), .int (nI sh), .int (nI (shF sh 0 es))]), (y, aJ G 1600 f)]) 14 [(0, .ref x), (1, .int (nI p))] [.long (lN (pkN (64448 + p / 32768) 32 2 0)), .ref x]
  refine v_iconst (pc := 14) C (nI 0) d_El_appendImplicit_14 (by decide +kernel) ?_
  refine v_callV (pc := 15) (As := [.long (lN (pkN (64448 + p / 32768) 32 2 0)), .int (nI 0)]) (rest := []) C (c_El_append _ G x y sh es f (64448 + p / 32768, 32, 2, 0) hsh hE o1 (by omega)) l_El_38 ([]) (sp_pos [] [0, 1] rfl rfl rfl) 0 rfl rfl rfl rfl rfl (Nat.le_of_ble_eq_true rfl) (by decide) (by decide) (by decide) (by decide) d_El_appendImplicit_15 (fun r w' hq => ?_)
  obtain ⟨rfl, g, rfl, hg⟩ := hq
  show vv K ({ frames := 3, cells := 0, slots := 0, locals := 69 } : Room) G 2 0 0 ([(x, ob 4 [.ref y, .int (nI ((es ++ [(64448 + p / 32768, 32, 2, 0)]).length)), .int (nI sh), .int (nI (shF sh 0 (es ++ [(64448 + p / 32768, 32, 2, 0)])))]), (y, aJ G 1600 g)]) 18 [(0, .ref x), (1, .int (nI p))] []
  refine v_aload_n (pc := 18) C 0 d_El_appendImplicit_18 rfl rfl ?_
  refine v_iload_n (pc := 19) C 1 d_El_appendImplicit_19 rfl rfl ?_
  refine v_ldc (pc := 20) C 32768 k_399 d_El_appendImplicit_20 ?_
  refine v_seti (nI 32768) (by decide +kernel) ?_
  refine v_irem (pc := 22) C (nI (p % 32768)) d_El_appendImplicit_22 (by decide) (pk_rem (by omega) (by decide) (by decide)) ?_
  refine v_ldc (pc := 23) C 32768 k_399 d_El_appendImplicit_23 ?_
  refine v_seti (nI 32768) (by decide +kernel) ?_
  refine v_iadd (pc := 25) C (nI (p % 32768 + 32768)) d_El_appendImplicit_25 (nI_add _ _) ?_
  refine v_iconst (pc := 26) C (nI 0) d_El_appendImplicit_26 (by decide +kernel) ?_
  refine v_iconst (pc := 27) C (nI 0) d_El_appendImplicit_27 (by decide +kernel) ?_
  refine v_callS (pc := 28) (As := [.int (nI (p % 32768 + 32768)), .int (nI 0), .int (nI 0)]) (rest := [.ref x]) C (c_Wo_pack _ G (p % 32768 + 32768) 0 0 o2.1 (by decide) (by decide)) l_El_44 ([(x, ob 4 [.ref y, .int (nI ((es ++ [(64448 + p / 32768, 32, 2, 0)]).length)), .int (nI sh), .int (nI (shF sh 0 (es ++ [(64448 + p / 32768, 32, 2, 0)])))]), (y, aJ G 1600 g)]) (sp_pos [0, 1] [] rfl rfl rfl) rfl rfl (Nat.le_of_ble_eq_true rfl) (by decide) (by decide) (by decide) (by decide) d_El_appendImplicit_28 (fun r w' hq => ?_)
  obtain ⟨rfl, rfl⟩ := hq
  show vv K ({ frames := 3, cells := 0, slots := 0, locals := 69 } : Room) G 2 0 0 ([(x, ob 4 [.ref y, .int (nI ((es ++ [(64448 + p / 32768, 32, 2, 0)]).length)), .int (nI sh), .int (nI (shF sh 0 (es ++ [(64448 + p / 32768, 32, 2, 0)])))]), (y, aJ G 1600 g)]) 31 [(0, .ref x), (1, .int (nI p))] [.long (lN (pkN (p % 32768 + 32768) 0 0 0)), .ref x]
  refine v_iconst (pc := 31) C (nI 0) d_El_appendImplicit_31 (by decide +kernel) ?_
  refine v_callV (pc := 32) (As := [.long (lN (pkN (p % 32768 + 32768) 0 0 0)), .int (nI 0)]) (rest := []) C (c_El_append _ G x y sh (es ++ [(64448 + p / 32768, 32, 2, 0)]) g (p % 32768 + 32768, 0, 0, 0) hsh hg o2 (by simp; omega)) l_El_38 ([]) (sp_pos [] [0, 1] rfl rfl rfl) 0 rfl rfl rfl rfl rfl (Nat.le_of_ble_eq_true rfl) (by decide) (by decide) (by decide) (by decide) d_El_appendImplicit_32 (fun r w' hq => ?_)
  obtain ⟨rfl, g2, rfl, hg2⟩ := hq
  show vv K ({ frames := 3, cells := 0, slots := 0, locals := 69 } : Room) G 2 0 0 ([(x, ob 4 [.ref y, .int (nI ((es ++ [(64448 + p / 32768, 32, 2, 0)] ++ [(p % 32768 + 32768, 0, 0, 0)]).length)), .int (nI sh), .int (nI (shF sh 0 (es ++ [(64448 + p / 32768, 32, 2, 0)] ++ [(p % 32768 + 32768, 0, 0, 0)])))]), (y, aJ G 1600 g2)]) 35 [(0, .ref x), (1, .int (nI p))] []
  have hap : es ++ [(64448 + p / 32768, 32, 2, 0)] ++ [(p % 32768 + 32768, 0, 0, 0)] = es ++ impE p := by rw [List.append_assoc]; rfl
  exact v_vret (pc := 35) C X d_El_appendImplicit_35 ⟨rfl, g2, by rw [hap], by rw [← hap]; exact hg2⟩ (by decide) (by decide)

set_option maxHeartbeats 4000000 in
set_option maxRecDepth 100000 in
theorem c_El_nextWithWeight (l : Launch) (G : Gx) (x y n sh b : Nat) (f : Nat → Int64) (g : Nat → Nat) (fr k : Nat) (hn : n ≤ 1600) (hfr : fr ≤ n) (hk : k ≤ 3) (hg : ∀ i, i < n → f i = lN (g i) ∧ g i < 18446744073709551616) : CT l G y_El_nextWithWeight b_El_nextWithWeight 4 (some .int) ({ frames := 1, cells := 0, slots := 0, locals := 22 } : Room) ([(x, ob 4 [.ref y, .int (nI n), .int (nI sh), .int (nI b)]), (y, aJ G 1600 f)]) [.ref x, .int (nI fr), .int (nI k)] (fun r w' => w' = [(x, ob 4 [.ref y, .int (nI n), .int (nI sh), .int (nI b)]), (y, aJ G 1600 f)] ∧ ∃ j, r = some (.int (nI j)) ∧ fr ≤ j ∧ j ≤ n ∧ (∀ i, fr ≤ i → i < j → wtN (g i) k = 0) ∧ (j < n → wtN (g j) k ≠ 0)) := by
  refine ct_of [(0, .ref x), (1, .int (nI fr)), (2, .int (nI k))] (by decide) (Nat.le_of_ble_eq_true rfl) rfl (fun K hKl hNI C X => ?_)
  subst hKl
  refine v_iload_n (pc := 0) C 1 d_El_nextWithWeight_0 rfl rfl ?_
  refine v_istore_n (pc := 1) C [(3, .int (nI fr)), (0, .ref x), (1, .int (nI fr)), (2, .int (nI k))] d_El_nextWithWeight_1 rfl (by decide) rfl ?_
  have loop : ∀ (d : Nat) (j : Nat), n - j < d → (fr ≤ j) → (j ≤ n) → (∀ i, fr ≤ i → i < j → wtN (g i) k = 0) → vv K ({ frames := 1, cells := 0, slots := 0, locals := 22 } : Room) G 4 0 0 ([(x, ob 4 [.ref y, .int (nI n), .int (nI sh), .int (nI b)]), (y, aJ G 1600 f)]) 2 [(3, .int (nI j)), (0, .ref x), (2, .int (nI k))] [] := by
    intro d
    induction d with
    | zero => intro j hm; exact absurd hm (Nat.not_lt_zero _)
    | succ d ih =>
      intro j hm h1 h2 h3
      refine v_iload_n (pc := 2) C 0 d_El_nextWithWeight_2 rfl rfl ?_
      refine v_aload_n (pc := 3) C 1 d_El_nextWithWeight_3 rfl rfl ?_
      refine v_get (pc := 4) (Cn := "WeightOrder$Elements") (T := T_El) (N := 4) (ci := 4) (v := .int (nI n)) C 0 1 rfl rfl hin_El (by decide) rfl k_127 rfl d_El_nextWithWeight_4 ?_
      refine v_icmpN_ge (pc := 7) C 29 j n d_El_nextWithWeight_7 (by decide) (by omega) (by omega) (fun hc => ?_) (fun hc => ?_)
      · refine v_iload_n (pc := 29) C 0 d_El_nextWithWeight_29 rfl rfl ?_
        exact v_iret (pc := 30) C X d_El_nextWithWeight_30 ⟨rfl, j, rfl, h1, h2, h3, fun z => by omega⟩ (by decide) (by decide)
      · refine v_aload_n (pc := 10) C 1 d_El_nextWithWeight_10 rfl rfl ?_
        refine v_get (pc := 11) (Cn := "WeightOrder$Elements") (T := T_El) (N := 4) (ci := 4) (v := .ref y) C 0 0 rfl rfl hin_El (by decide) rfl k_125 rfl d_El_nextWithWeight_11 ?_
        refine v_iload_n (pc := 14) C 0 d_El_nextWithWeight_14 rfl rfl ?_
        refine v_lald (pc := 15) C 1 rfl j rfl (by omega) (by decide) d_El_nextWithWeight_15 ?_
        refine v_setl (lN (g j)) (hg j hc).1 ?_
        refine v_iload_n (pc := 16) C 2 d_El_nextWithWeight_16 rfl rfl ?_
        refine v_callS (pc := 17) (As := [.long (lN (g j)), .int (nI k)]) (rest := []) C (c_Wo_weightOf _ G (g j) k (hg j hc).2 hk) l_El_48 ([(x, ob 4 [.ref y, .int (nI n), .int (nI sh), .int (nI b)]), (y, aJ G 1600 f)]) (sp_pos [0, 1] [] rfl rfl rfl) rfl rfl (Nat.le_of_ble_eq_true rfl) (by decide) (by decide) (by decide) (by decide) d_El_nextWithWeight_17 (fun r w' hq => ?_)
        obtain ⟨rfl, rfl⟩ := hq
        show vv K ({ frames := 1, cells := 0, slots := 0, locals := 22 } : Room) G 4 0 0 ([(x, ob 4 [.ref y, .int (nI n), .int (nI sh), .int (nI b)]), (y, aJ G 1600 f)]) 20 [(3, .int (nI j)), (0, .ref x), (2, .int (nI k))] [.int (nI (wtN (g j) k))]
        have hw := wtN_lt (g j) k
        refine v_ifN_ne (pc := 20) C 29 (wtN (g j) k) d_El_nextWithWeight_20 (by decide) (by omega) (fun hz => ?_) (fun hz => ?_)
        · refine v_iload_n (pc := 29) C 0 d_El_nextWithWeight_29 rfl rfl ?_
          exact v_iret (pc := 30) C X d_El_nextWithWeight_30 ⟨rfl, j, rfl, h1, h2, h3, fun z => hz⟩ (by decide) (by decide)
        · refine v_iinc (pc := 23) C [(3, .int (nI (j + 1))), (0, .ref x), (2, .int (nI k))] 0 (nI (j + 1)) d_El_nextWithWeight_23 rfl (nI_inc1 _) (by decide) rfl ?_
          refine v_goto (pc := 26) C 2 d_El_nextWithWeight_26 (by decide) ?_
          refine v_lsub [0, 1, 2] [(3, .int (nI (j + 1))), (0, .ref x), (2, .int (nI k))] rfl ?_
          exact ih (j + 1) (by omega) (by omega) (by omega) (fun i a b => by
            rcases Nat.lt_or_ge i j with c | c
            · exact h3 i a c
            · have e : i = j := by omega
              rw [e]; exact hz)
  refine v_lsub [0, 1, 3] [(3, .int (nI fr)), (0, .ref x), (2, .int (nI k))] rfl ?_
  exact loop (n + 1) fr (by omega) (Nat.le_refl _) hfr (fun i a b => absurd b (by omega))
