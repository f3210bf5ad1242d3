/-! How a row is taken apart, as the document says it; then the Finder -/
section SPEC
variable (fi : Nat → Option Nat) (cl : Nat → Nat)
/-- the key of the first m points -/
def keyP (row : List Nat) (m : Nat) : Nat := (row.take m).foldl kx 0
/-- the longest beginning of at most m points with a line: its key, its length, the line -/
def bestN (row : List Nat) : Nat → Option (Nat × Nat × Nat)
  | 0 => none
  | m + 1 => match fi (keyP row (m + 1)) with
    | some i => some (keyP row (m + 1), m + 1, i)
    | none => bestN row m
/-- what stands behind: the line in the end, and what is left -/
def beh : Nat → Nat → Nat → Nat → List Nat → List Nat → Nat × List Nat
  | _, _, i, _, P, [] => (i, P)
  | k, n, i, most, P, x :: xs =>
    if cl x = 0 ∨ 3 ≤ n then (i, P ++ x :: xs)
    else match (if most < cl x then fi (kx k x) else none) with
      | some j => beh (kx k x) (n + 1) j most P xs
      | none => beh k n i (max most (cl x)) (P ++ [x]) xs
variable (es : Nat → List E4)
/-- one step: the elements, and what is left -/
def stepR (row : List Nat) : List E4 × List Nat := match bestN fi row (min 3 row.length) with
  | none => (impE (row.headD 0), row.tail)
  | some (k, n, i) => (es (beh fi cl k n i 0 [] (row.drop n)).1, (beh fi cl k n i 0 [] (row.drop n)).2)
def takeR : Nat → List Nat → List E4
  | 0, _ => []
  | f + 1, row => if row = [] then [] else (stepR fi cl es row).1 ++ takeR f (stepR fi cl es row).2
end SPEC
theorem keyP_0 (row : List Nat) : keyP row 0 = 0 := rfl
theorem keyP_succ {row : List Nat} {m x : Nat} (h : row[m]? = some x) : keyP row (m + 1) = kx (keyP row m) x := by
  unfold keyP
  rw [List.take_add_one, h, List.foldl_append]
  rfl
theorem keyP_lt {row : List Nat} (hr : ∀ x ∈ row, x ≤ 1114111) : ∀ m, m ≤ row.length → keyP row m < 2097152 ^ m := by
  intro m
  induction m with
  | zero => intro _; show (0 : Nat) < 1; decide
  | succ m ih =>
    intro hm
    have hx : row[m]? = some row[m] := List.getElem?_eq_getElem hm
    have h1 := ih (by omega)
    have h2 := hr _ (List.getElem_mem hm)
    rw [keyP_succ hx, Nat.pow_succ]
    unfold kx
    omega
theorem beh_len (fi : Nat → Option Nat) (cl : Nat → Nat) : ∀ (xs : List Nat) (k n i most : Nat) (P : List Nat), (beh fi cl k n i most P xs).2.length ≤ P.length + xs.length := by
  intro xs
  induction xs with
  | nil => intro k n i most P; exact Nat.le_refl _
  | cons x xs ih =>
    intro k n i most P
    unfold beh
    split
    · simp
    · split
      · have := ih (kx k x) (n + 1) (by assumption) most P
        simp only [List.length_cons]
        omega
      · have := ih k n i (max most (cl x)) (P ++ [x])
        simp only [List.length_append, List.length_cons, List.length_nil] at this ⊢
        omega
theorem beh_mem (fi : Nat → Option Nat) (cl : Nat → Nat) (Q : Nat → Prop) : ∀ (xs : List Nat) (k n i most : Nat) (P : List Nat), (∀ x ∈ P, Q x) → (∀ x ∈ xs, Q x) → ∀ x ∈ (beh fi cl k n i most P xs).2, Q x := by
  intro xs
  induction xs with
  | nil => intro k n i most P hP _; exact hP
  | cons y xs ih =>
    intro k n i most P hP hx
    unfold beh
    split
    · intro x h
      rcases List.mem_append.mp h with h | h
      · exact hP x h
      · exact hx x h
    · split
      · exact ih _ _ _ _ _ hP (fun x h => hx x (List.mem_cons_of_mem _ h))
      · refine ih _ _ _ _ _ (fun x h => ?_) (fun x h => hx x (List.mem_cons_of_mem _ h))
        rcases List.mem_append.mp h with h | h
        · exact hP x h
        · rw [List.mem_singleton.mp h]; exact hx y List.mem_cons_self
theorem bestN_len {fi : Nat → Option Nat} {row : List Nat} : ∀ {m k n i : Nat}, bestN fi row m = some (k, n, i) → 1 ≤ n ∧ n ≤ m ∧ k = keyP row n ∧ fi k = some i := by
  intro m
  induction m with
  | zero => intro k n i h; cases h
  | succ m ih =>
    intro k n i h
    unfold bestN at h
    split at h
    · rename_i j hj
      cases h
      exact ⟨by omega, Nat.le_refl _, rfl, hj⟩
    · have := ih h
      exact ⟨this.1, by omega, this.2.2⟩
/-- the finder's two arrays hold rem from st on -/
def FnS (cl : Nat → Nat) (pts pcs : Nat → Int32) (st : Nat) (rem : List Nat) : Prop := (∀ x ∈ rem, x ≤ 1114111) ∧ ∀ j x, rem[j]? = some x → pts (st + j) = nI x ∧ pcs (st + j) = nI (cl x)
theorem fns_drop {cl : Nat → Nat} {pts pcs : Nat → Int32} {st : Nat} {rem : List Nat} (h : FnS cl pts pcs st rem) (n : Nat) : FnS cl pts pcs (st + n) (rem.drop n) := by
  refine ⟨fun x hx => h.1 x (List.mem_of_mem_drop hx), fun j x hx => ?_⟩
  rw [List.getElem?_drop] at hx
  have := h.2 (n + j) x hx
  rw [← Nat.add_assoc] at this
  exact this
theorem fns_gap {cl : Nat → Nat} {pts pcs : Nat → Int32} {st : Nat} {P : List Nat} {y : Nat} {xs : List Nat} (h : FnS cl pts pcs st (P ++ y :: xs)) : FnS cl (va_cpy pts pts st (st + 1) P.length) (va_cpy pcs pcs st (st + 1) P.length) (st + 1) (P ++ xs) := by
  refine ⟨fun x hx => h.1 x ?_, fun j x hx => ?_⟩
  · rcases List.mem_append.mp hx with hx | hx
    · exact List.mem_append_left _ hx
    · exact List.mem_append_right _ (List.mem_cons_of_mem _ hx)
  · rcases Nat.lt_or_ge j P.length with c | c
    · rw [pk_cpy_in (by omega) (by omega), pk_cpy_in (by omega) (by omega)]
      have e : st + (st + 1 + j - (st + 1)) = st + j := by omega
      rw [e]
      refine h.2 j x ?_
      rw [List.getElem?_append_left c] at hx ⊢
      exact hx
    · rw [pk_cpy_out (Or.inr (by omega)), pk_cpy_out (Or.inr (by omega))]
      have e : st + 1 + j = st + (j + 1) := by omega
      rw [e]
      refine h.2 (j + 1) x ?_
      rw [List.getElem?_append_right c] at hx
      rw [List.getElem?_append_right (by omega), show j + 1 - P.length = (j - P.length) + 1 by omega]
      exact hx
theorem v_mmax {K : Kx} {R : Room} {G : Gx} {nL cells slots : Nat} {w : va_W} {pc : Nat} {lv : List (Nat × Value)} {st : List Value} {cc : ByteArray} {own : String} (C : CX K G nL cc own) {ix : Nat} (a b : Nat) (ha : a < 2147483648) (hb : b < 2147483648) (hw : Cond.methodLink own ix ⟨"java/lang/Math", "max", "(II)I"⟩ ∈ gwords) (hfr : 1 ≤ R.frames) (hlo : (st.map fun v => v.category).sum + 13 ≤ R.locals) (h1 : cells ≤ R.cells) (h2 : slots ≤ R.slots) (hd : decode cc pc = .ok (.invokestatic ix, 3)) (kk : vv K R G nL cells slots w (pc + 3) lv (.int (nI (max a b)) :: st)) : vv K R G nL cells slots w pc lv (.int (nI b) :: .int (nI a) :: st) := by
  obtain ⟨p, l, e, s, m, args, below, meth, c, Q, A⟩ := K
  intro H locs ls hP hD hS hl
  refine va_mmax C.1 C.2.1 (C.2.2.1.trans hl.1.symm) C.2.2.2.1 (C.2.2.2.2.1 _ hw) (C.2.2.2.2.1 _ k_418) (C.2.2.2.2.1 _ k_15) (C.2.2.2.2.1 _ k_419) hfr hlo h1 h2 hd ?_
  have e1 : (if nI a < nI b then nI b else nI a) = nI (max a b) := by
    by_cases c : a < b
    · rw [if_pos ((nI_ltN ha hb).mpr c), Nat.max_eq_right (Nat.le_of_lt c)]
    · rw [if_neg (fun z => c ((nI_ltN ha hb).mp z)), Nat.max_eq_left (Nat.le_of_not_lt c)]
  rw [e1]
  exact kk H locs ls hP hD hS hl

theorem v_aloadN {K : Kx} {R : Room} {G : Gx} {nL cells slots : Nat} {w : va_W} {pc : Nat} {lv : List (Nat × Value)} {st : List Value} {cc : ByteArray} {own : String} (C : CX K G nL cc own) (k : Nat) {i : Nat} (hd : decode cc pc = .ok (.aload i, 2)) (hk : lv[k]? = some (i, .null)) (kk : vv K R G nL cells slots w (pc + 2) lv (.null :: st)) : vv K R G nL cells slots w pc lv st := by
  obtain ⟨p, l, e, s, m, args, below, meth, c, Q, A⟩ := K
  intro H locs ls hP hD hS hl
  exact lv_aloadN C.1 C.2.1 hd (lv_at hl k hk) (kk H locs ls hP hD hS hl)
theorem v_astoreN {K : Kx} {R : Room} {G : Gx} {nL cells slots : Nat} {w : va_W} {pc : Nat} {lv : List (Nat × Value)} {st : List Value} {cc : ByteArray} {own : String} (C : CX K G nL cc own) (lv' : List (Nat × Value)) {i : Nat} (hd : decode cc pc = .ok (.astore i, 2)) (hn : i < nL) (hl' : (i, Value.null) :: lv.filter (fun q => !(q.1 == i) && !(q.1 + 1 == i && q.2.category == 2)) = lv') (kk : vv K R G nL cells slots w (pc + 2) lv' st) : vv K R G nL cells slots w pc lv (.null :: st) := by
  obtain ⟨p, l, e, s, m, args, below, meth, c, Q, A⟩ := K
  intro H locs ls hP hD hS hl
  exact lv_astoreN C.1 C.2.1 hd hl hn hl' (fun ls' h' => kk H locs ls' hP hD hS h')

set_option maxHeartbeats 4000000 in
set_option maxRecDepth 100000 in
theorem c_Fi_become (l : Launch) (G : Gx) (x t s p c : Nat) (st en n0 n1 : Int32) (k0 k1 : Int64) (ld : Option Nat) (a : Nat)  : CT l G y_Fi_become b_Fi_become 5 none ({ frames := 0, cells := 0, slots := 0, locals := 0 } : Room) ([(x, ob 5 [.ref t, .ref s, .ref p, .ref c, .int st, .int en, .long k0, .int n0, va_rf (ld)])]) [.ref x, .long k1, .int n1, .ref a] (fun r w' => w' = [(x, ob 5 [.ref t, .ref s, .ref p, .ref c, .int st, .int en, .long k1, .int n1, .ref a])] ∧ r = none) := by
  refine ct_of [(0, .ref x), (1, .long k1), (3, .int n1), (4, .ref a)] (by decide) (Nat.le_of_ble_eq_true rfl) rfl (fun K hKl hNI C X => ?_)
  subst hKl
  refine v_aload_n (pc := 0) C 0 d_Fi_become_0 rfl rfl ?_
  refine v_lload_n (pc := 1) C 1 d_Fi_become_1 rfl rfl ?_
  refine v_put (pc := 2) (Cn := "WeightOrder$Finder") (T := T_Fi) (N := 9) (ci := 5) (v := .long k1) C 0 6 rfl rfl hin_Fi (by decide) rfl ([(x, ob 5 [.ref t, .ref s, .ref p, .ref c, .int st, .int en, .long k1, .int n0, va_rf (ld)])]) t_Fi t_Fi_ok n_Fi (.long) rfl rfl rfl (Nat.le_of_ble_eq_true rfl) rfl rfl k_97 d_Fi_become_2 ?_
  refine v_aload_n (pc := 5) C 0 d_Fi_become_5 rfl rfl ?_
  refine v_iload_n (pc := 6) C 2 d_Fi_become_6 rfl rfl ?_
  refine v_put (pc := 7) (Cn := "WeightOrder$Finder") (T := T_Fi) (N := 9) (ci := 5) (v := .int n1) C 0 7 rfl rfl hin_Fi (by decide) rfl ([(x, ob 5 [.ref t, .ref s, .ref p, .ref c, .int st, .int en, .long k1, .int n1, va_rf (ld)])]) t_Fi t_Fi_ok n_Fi (.int) rfl rfl rfl (Nat.le_of_ble_eq_true rfl) rfl rfl k_98 d_Fi_become_7 ?_
  refine v_aload_n (pc := 10) C 0 d_Fi_become_10 rfl rfl ?_
  refine v_aload (pc := 11) C 3 d_Fi_become_11 rfl ?_
  refine v_put (pc := 13) (Cn := "WeightOrder$Finder") (T := T_Fi) (N := 9) (ci := 5) (v := .ref a) C 0 8 rfl rfl hin_Fi (by decide) rfl ([(x, ob 5 [.ref t, .ref s, .ref p, .ref c, .int st, .int en, .long k1, .int n1, .ref a])]) t_Fi t_Fi_ok n_Fi (.object "WeightOrder$Line") rfl rfl rfl (Nat.le_of_ble_eq_true rfl) rfl rfl k_99 d_Fi_become_13 ?_
  exact v_vret (pc := 16) C X d_Fi_become_16 ⟨rfl, rfl⟩ (by decide) (by decide)

set_option maxHeartbeats 4000000 in
set_option maxRecDepth 100000 in
theorem c_Fi_closeGap (l : Launch) (G : Gx) (x t s p c st d : Nat) (en n0 : Int32) (k0 : Int64) (ld : Option Nat) (f g : Nat → Int32) (h : st + d < 200) : CT l G y_Fi_closeGap b_Fi_closeGap 2 none ({ frames := 1, cells := 0, slots := 0, locals := 60 } : Room) ([(x, ob 5 [.ref t, .ref s, .ref p, .ref c, .int (nI st), .int en, .long k0, .int n0, va_rf (ld)]), (p, aI G 200 f), (c, aI G 200 g)]) [.ref x, .int (nI (st + d))] (fun r w' => w' = [(x, ob 5 [.ref t, .ref s, .ref p, .ref c, .int (nI (st + 1)), .int en, .long k0, .int n0, va_rf (ld)]), (p, aI G 200 (va_cpy f f st (st + 1) d)), (c, aI G 200 (va_cpy g g st (st + 1) d))] ∧ r = none) := by
  refine ct_of [(0, .ref x), (1, .int (nI (st + d)))] (by decide) (Nat.le_of_ble_eq_true rfl) rfl (fun K hKl hNI C X => ?_)
  subst hKl
  have hd : st + d - st = d := by omega
  refine v_aload_n (pc := 0) C 0 d_Fi_closeGap_0 rfl rfl ?_
  refine v_get (pc := 1) (Cn := "WeightOrder$Finder") (T := T_Fi) (N := 9) (ci := 5) (v := .ref p) C 0 2 rfl rfl hin_Fi (by decide) rfl k_93 rfl d_Fi_closeGap_1 ?_
  refine v_aload_n (pc := 4) C 0 d_Fi_closeGap_4 rfl rfl ?_
  refine v_get (pc := 5) (Cn := "WeightOrder$Finder") (T := T_Fi) (N := 9) (ci := 5) (v := .int (nI st)) C 0 4 rfl rfl hin_Fi (by decide) rfl k_95 rfl d_Fi_closeGap_5 ?_
  refine v_aload_n (pc := 8) C 0 d_Fi_closeGap_8 rfl rfl ?_
  refine v_get (pc := 9) (Cn := "WeightOrder$Finder") (T := T_Fi) (N := 9) (ci := 5) (v := .ref p) C 0 2 rfl rfl hin_Fi (by decide) rfl k_93 rfl d_Fi_closeGap_9 ?_
  refine v_aload_n (pc := 12) C 0 d_Fi_closeGap_12 rfl rfl ?_
  refine v_get (pc := 13) (Cn := "WeightOrder$Finder") (T := T_Fi) (N := 9) (ci := 5) (v := .int (nI st)) C 0 4 rfl rfl hin_Fi (by decide) rfl k_95 rfl d_Fi_closeGap_13 ?_
  refine v_iconst (pc := 16) C (nI 1) d_Fi_closeGap_16 (by decide +kernel) ?_
  refine v_iadd (pc := 17) C (nI (st + 1)) d_Fi_closeGap_17 (nI_add _ _) ?_
  refine v_iload_n (pc := 18) C 1 d_Fi_closeGap_18 rfl rfl ?_
  refine v_aload_n (pc := 19) C 0 d_Fi_closeGap_19 rfl rfl ?_
  refine v_get (pc := 20) (Cn := "WeightOrder$Finder") (T := T_Fi) (N := 9) (ci := 5) (v := .int (nI st)) C 0 4 rfl rfl hin_Fi (by decide) rfl k_95 rfl d_Fi_closeGap_20 ?_
  refine v_isub (pc := 23) C (nI (st + d - st)) d_Fi_closeGap_23 (pk_sub (by omega)) ?_
  rw [hd]
  refine v_copyI (pc := 24) C 1 1 ([(x, ob 5 [.ref t, .ref s, .ref p, .ref c, .int (nI st), .int en, .long k0, .int n0, va_rf (ld)]), (p, aI G 200 (va_cpy f f st (st + 1) d)), (c, aI G 200 g)]) rfl rfl st (st + 1) d (by omega) (by omega) (by decide) (by decide) k_424 rfl (by decide) (by decide) d_Fi_closeGap_24 ?_
  refine v_aload_n (pc := 27) C 0 d_Fi_closeGap_27 rfl rfl ?_
  refine v_get (pc := 28) (Cn := "WeightOrder$Finder") (T := T_Fi) (N := 9) (ci := 5) (v := .ref c) C 0 3 rfl rfl hin_Fi (by decide) rfl k_94 rfl d_Fi_closeGap_28 ?_
  refine v_aload_n (pc := 31) C 0 d_Fi_closeGap_31 rfl rfl ?_
  refine v_get (pc := 32) (Cn := "WeightOrder$Finder") (T := T_Fi) (N := 9) (ci := 5) (v := .int (nI st)) C 0 4 rfl rfl hin_Fi (by decide) rfl k_95 rfl d_Fi_closeGap_32 ?_
  refine v_aload_n (pc := 35) C 0 d_Fi_closeGap_35 rfl rfl ?_
  refine v_get (pc := 36) (Cn := "WeightOrder$Finder") (T := T_Fi) (N := 9) (ci := 5) (v := .ref c) C 0 3 rfl rfl hin_Fi (by decide) rfl k_94 rfl d_Fi_closeGap_36 ?_
  refine v_aload_n (pc := 39) C 0 d_Fi_closeGap_39 rfl rfl ?_
  refine v_get (pc := 40) (Cn := "WeightOrder$Finder") (T := T_Fi) (N := 9) (ci := 5) (v := .int (nI st)) C 0 4 rfl rfl hin_Fi (by decide) rfl k_95 rfl d_Fi_closeGap_40 ?_
  refine v_iconst (pc := 43) C (nI 1) d_Fi_closeGap_43 (by decide +kernel) ?_
  refine v_iadd (pc := 44) C (nI (st + 1)) d_Fi_closeGap_44 (nI_add _ _) ?_
  refine v_iload_n (pc := 45) C 1 d_Fi_closeGap_45 rfl rfl ?_
  refine v_aload_n (pc := 46) C 0 d_Fi_closeGap_46 rfl rfl ?_
  refine v_get (pc := 47) (Cn := "WeightOrder$Finder") (T := T_Fi) (N := 9) (ci := 5) (v := .int (nI st)) C 0 4 rfl rfl hin_Fi (by decide) rfl k_95 rfl d_Fi_closeGap_47 ?_
  refine v_isub (pc := 50) C (nI (st + d - st)) d_Fi_closeGap_50 (pk_sub (by omega)) ?_
  rw [hd]
  refine v_copyI (pc := 51) C 2 2 ([(x, ob 5 [.ref t, .ref s, .ref p, .ref c, .int (nI st), .int en, .long k0, .int n0, va_rf (ld)]), (p, aI G 200 (va_cpy f f st (st + 1) d)), (c, aI G 200 (va_cpy g g st (st + 1) d))]) rfl rfl st (st + 1) d (by omega) (by omega) (by decide) (by decide) k_424 rfl (by decide) (by decide) d_Fi_closeGap_51 ?_
  refine v_aload_n (pc := 54) C 0 d_Fi_closeGap_54 rfl rfl ?_
  refine v_dup (pc := 55) C d_Fi_closeGap_55 rfl ?_
  refine v_get (pc := 56) (Cn := "WeightOrder$Finder") (T := T_Fi) (N := 9) (ci := 5) (v := .int (nI st)) C 0 4 rfl rfl hin_Fi (by decide) rfl k_95 rfl d_Fi_closeGap_56 ?_
  refine v_iconst (pc := 59) C (nI 1) d_Fi_closeGap_59 (by decide +kernel) ?_
  refine v_iadd (pc := 60) C (nI (st + 1)) d_Fi_closeGap_60 (nI_add _ _) ?_
  refine v_put (pc := 61) (Cn := "WeightOrder$Finder") (T := T_Fi) (N := 9) (ci := 5) (v := .int (nI (st + 1))) C 0 4 rfl rfl hin_Fi (by decide) rfl ([(x, ob 5 [.ref t, .ref s, .ref p, .ref c, .int (nI (st + 1)), .int en, .long k0, .int n0, va_rf (ld)]), (p, aI G 200 (va_cpy f f st (st + 1) d)), (c, aI G 200 (va_cpy g g st (st + 1) d))]) t_Fi t_Fi_ok n_Fi (.int) rfl rfl rfl (Nat.le_of_ble_eq_true rfl) rfl rfl k_95 d_Fi_closeGap_61 ?_
  exact v_vret (pc := 64) C X d_Fi_closeGap_64 ⟨rfl, rfl⟩ (by decide) (by decide)
