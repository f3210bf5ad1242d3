/-! The reference: lineOf, line -/
theorem fndA_some {k i : Nat} {A : List (Nat × List E4)} {x : Nat × List E4} (hx : A[i]? = some x) (hk : x.1 = k) (hn : ∀ j y, j < i → A[j]? = some y → y.1 ≠ k) : fndA k A = some i := by
  unfold fndA
  obtain ⟨hi, e⟩ := List.getElem?_eq_some_iff.mp hx
  refine List.findIdx?_eq_some_iff_getElem.mpr ⟨hi, by rw [e, hk]; simp, fun j hj => ?_⟩
  have := hn j A[j] hj (List.getElem?_eq_getElem (by omega))
  simpa using this
theorem fndA_none {k : Nat} {A : List (Nat × List E4)} (hn : ∀ j y, j < A.length → A[j]? = some y → y.1 ≠ k) : fndA k A = none := by
  unfold fndA
  refine List.findIdx?_eq_none_iff.mpr (fun x hx => ?_)
  obtain ⟨j, hj⟩ := List.getElem?_of_mem hx
  have := hn j x (List.getElem?_eq_some_iff.mp hj).1 hj
  simpa using this
theorem fndA_at {k i : Nat} {A : List (Nat × List E4)} (h : fndA k A = some i) : ∃ x, A[i]? = some x ∧ x.1 = k := by
  obtain ⟨hi, h1, -⟩ := List.findIdx?_eq_some_iff_getElem.mp h
  exact ⟨A[i], List.getElem?_eq_getElem hi, by simpa using h1⟩
theorem fiI_some (i : Nat) : fiI (some i) = nI i := rfl

set_option maxHeartbeats 4000000 in
set_option maxRecDepth 100000 in
theorem c_Mo_lineOf (l : Launch) (G : Gx) (h pa ca la ro co ea tx sz lf fo f1 : Nat) (fl td : Int32) (nc lz fz : Nat) (LN RW : Nat → Int32) (A : List (Nat × List E4)) (n a b c : Nat) (hA : A.length ≤ 500) (hL : LM LN RW A) (h1 : 1 ≤ n) (h3 : n ≤ 3) (ha : a ≤ 1114111) (hb : b ≤ 1114111) (hc : c ≤ 1114111) : CT l G y_Mo_lineOf b_Mo_lineOf 6 (some .int) ({ frames := 0, cells := 0, slots := 0, locals := 0 } : Room) ([(h, ob 7 [.int fl, .ref pa, .ref ca, .int (nI nc), .ref la, .ref ro, .ref co, .ref ea, .int (nI A.length), .int td, .ref tx, .ref sz, .ref lf, .int (nI lz), .ref fo, .int (nI fz), .ref f1]), (la, aI G 500 LN), (ro, aI G 1500 RW)]) [.ref h, .int (nI n), .int (nI a), .int (nI b), .int (nI c)] (fun r w' => w' = [(h, ob 7 [.int fl, .ref pa, .ref ca, .int (nI nc), .ref la, .ref ro, .ref co, .ref ea, .int (nI A.length), .int td, .ref tx, .ref sz, .ref lf, .int (nI lz), .ref fo, .int (nI fz), .ref f1]), (la, aI G 500 LN), (ro, aI G 1500 RW)] ∧ r = some (.int (fiI (fndA (keyN n a b c) A)))) := by
  refine ct_of [(0, .ref h), (1, .int (nI n)), (2, .int (nI a)), (3, .int (nI b)), (4, .int (nI c))] (by decide) (Nat.le_of_ble_eq_true rfl) rfl (fun K hKl hNI C X => ?_)
  subst hKl
  refine v_iconst (pc := 0) C (nI 0) d_Mo_lineOf_0 (by decide +kernel) ?_
  refine v_istore (pc := 1) C [(5, .int (nI 0)), (0, .ref h), (1, .int (nI n)), (2, .int (nI a)), (3, .int (nI b)), (4, .int (nI c))] d_Mo_lineOf_1 (by decide) rfl ?_
  have loop : ∀ (d : Nat) (k : Nat), A.length - k < d → (k ≤ A.length) → (∀ j y, j < k → A[j]? = some y → y.1 ≠ keyN n a b c) → vv K ({ frames := 0, cells := 0, slots := 0, locals := 0 } : Room) G 6 0 0 ([(h, ob 7 [.int fl, .ref pa, .ref ca, .int (nI nc), .ref la, .ref ro, .ref co, .ref ea, .int (nI A.length), .int td, .ref tx, .ref sz, .ref lf, .int (nI lz), .ref fo, .int (nI fz), .ref f1]), (la, aI G 500 LN), (ro, aI G 1500 RW)]) 3 [(5, .int (nI k)), (0, .ref h), (1, .int (nI n)), (2, .int (nI a)), (3, .int (nI b)), (4, .int (nI c))] [] := by
    intro d
    induction d with
    | zero => intro k hm; exact absurd hm (Nat.not_lt_zero _)
    | succ d ih =>
      intro k hm hk hn
      refine v_iload (pc := 3) C 0 d_Mo_lineOf_3 rfl ?_
      refine v_aload_n (pc := 5) C 1 d_Mo_lineOf_5 rfl rfl ?_
      refine v_get (pc := 6) (Cn := "WeightOrderModel") (T := T_Mo) (N := 17) (ci := 7) (v := .int (nI A.length)) C 0 8 rfl rfl hin_Mo (by decide) rfl k_470 rfl d_Mo_lineOf_6 ?_
      refine v_icmpN_ge (pc := 9) C 86 k A.length d_Mo_lineOf_9 (by decide) (by omega) (by omega) (fun hd => ?_) (fun hd => ?_)
      · refine v_iconst (pc := 86) C (-1) d_Mo_lineOf_86 (by decide +kernel) ?_
        exact v_iret (pc := 87) C X d_Mo_lineOf_87 ⟨rfl, by rw [fndA_none (fun j y hj hy => hn j y (by omega) hy)]; rfl⟩ (by decide) (by decide)
      · obtain ⟨x, hx⟩ : ∃ x, A[k]? = some x := ⟨_, List.getElem?_eq_getElem hd⟩
        obtain ⟨n2, a2, b2, c2, e1, e2, e3, e4, g1, g3, ga, gb, gc, gk⟩ := hL k x hx
        have hinj := keyN_inj h1 h3 g1 g3 ha hb hc ga gb gc
        refine v_aload_n (pc := 12) C 1 d_Mo_lineOf_12 rfl rfl ?_
        refine v_get (pc := 13) (Cn := "WeightOrderModel") (T := T_Mo) (N := 17) (ci := 7) (v := .ref la) C 0 4 rfl rfl hin_Mo (by decide) rfl k_466 rfl d_Mo_lineOf_13 ?_
        refine v_iload (pc := 16) C 0 d_Mo_lineOf_16 rfl ?_
        refine v_iald (pc := 18) C 1 rfl k rfl (by omega) (by decide) d_Mo_lineOf_18 ?_
        refine v_seti (nI n2) e1 ?_
        refine v_iload_n (pc := 19) C 2 d_Mo_lineOf_19 rfl rfl ?_
        refine v_icmpN_ne (pc := 20) C 80 n2 n d_Mo_lineOf_20 (by decide) (by omega) (by omega) (fun q1 => ?_) (fun q1 => ?_)
        · refine v_iinc (pc := 80) C [(5, .int (nI (k + 1))), (0, .ref h), (1, .int (nI n)), (2, .int (nI a)), (3, .int (nI b)), (4, .int (nI c))] 0 (nI (k + 1)) d_Mo_lineOf_80 rfl (nI_inc1 _) (by decide) rfl ?_
          refine v_goto (pc := 83) C 3 d_Mo_lineOf_83 (by decide) ?_
          refine v_lsub [0, 1, 2, 3, 4, 5] [(5, .int (nI (k + 1))), (0, .ref h), (1, .int (nI n)), (2, .int (nI a)), (3, .int (nI b)), (4, .int (nI c))] rfl ?_
          exact ih (k + 1) (by omega) (by omega) (fun j y hj hy => by
            rcases Nat.lt_or_ge j k with c9 | c9
            · exact hn j y c9 hy
            · have ej : j = k := by omega
              subst ej
              cases Option.some.inj (hy.symm.trans hx)
              rw [gk]; intro z; have z := hinj.mp z; exact q1 z.1)
        · refine v_aload_n (pc := 23) C 1 d_Mo_lineOf_23 rfl rfl ?_
          refine v_get (pc := 24) (Cn := "WeightOrderModel") (T := T_Mo) (N := 17) (ci := 7) (v := .ref ro) C 0 5 rfl rfl hin_Mo (by decide) rfl k_467 rfl d_Mo_lineOf_24 ?_
          refine v_iconst (pc := 27) C (nI 3) d_Mo_lineOf_27 (by decide +kernel) ?_
          refine v_iload (pc := 28) C 0 d_Mo_lineOf_28 rfl ?_
          refine v_imul (pc := 30) C (nI (3 * k)) d_Mo_lineOf_30 (pk_mul _ _) ?_
          refine v_iald (pc := 31) C 2 rfl (3 * k) rfl (by omega) (by decide) d_Mo_lineOf_31 ?_
          refine v_seti (nI a2) e2 ?_
          refine v_iload_n (pc := 32) C 3 d_Mo_lineOf_32 rfl rfl ?_
          refine v_icmpN_ne (pc := 33) C 80 a2 a d_Mo_lineOf_33 (by decide) (by omega) (by omega) (fun q2 => ?_) (fun q2 => ?_)
          · refine v_iinc (pc := 80) C [(5, .int (nI (k + 1))), (0, .ref h), (1, .int (nI n)), (2, .int (nI a)), (3, .int (nI b)), (4, .int (nI c))] 0 (nI (k + 1)) d_Mo_lineOf_80 rfl (nI_inc1 _) (by decide) rfl ?_
            refine v_goto (pc := 83) C 3 d_Mo_lineOf_83 (by decide) ?_
            refine v_lsub [0, 1, 2, 3, 4, 5] [(5, .int (nI (k + 1))), (0, .ref h), (1, .int (nI n)), (2, .int (nI a)), (3, .int (nI b)), (4, .int (nI c))] rfl ?_
            exact ih (k + 1) (by omega) (by omega) (fun j y hj hy => by
              rcases Nat.lt_or_ge j k with c9 | c9
              · exact hn j y c9 hy
              · have ej : j = k := by omega
                subst ej
                cases Option.some.inj (hy.symm.trans hx)
                rw [gk]; intro z; have z := hinj.mp z; exact q2 z.2.1)
          · refine v_iload_n (pc := 36) C 2 d_Mo_lineOf_36 rfl rfl ?_
            refine v_iconst (pc := 37) C (nI 2) d_Mo_lineOf_37 (by decide +kernel) ?_
            refine v_icmpN_lt (pc := 38) C 56 n 2 d_Mo_lineOf_38 (by decide) (by omega) (by omega) (fun q3 => ?_) (fun q3 => ?_)
            · refine v_iload_n (pc := 56) C 2 d_Mo_lineOf_56 rfl rfl ?_
              refine v_iconst (pc := 57) C (nI 3) d_Mo_lineOf_57 (by decide +kernel) ?_
              refine v_icmpN_lt (pc := 58) C 77 n 3 d_Mo_lineOf_58 (by decide) (by omega) (by omega) (fun q5 => ?_) (fun q5 => ?_)
              · refine v_iload (pc := 77) C 0 d_Mo_lineOf_77 rfl ?_
                exact v_iret (pc := 79) C X d_Mo_lineOf_79 ⟨rfl, by rw [fndA_some hx (by rw [gk]; exact hinj.mpr ⟨q1, q2, Or.inl q3, Or.inl q5⟩) hn]; rfl⟩ (by decide) (by decide)
              · refine v_aload_n (pc := 61) C 1 d_Mo_lineOf_61 rfl rfl ?_
                refine v_get (pc := 62) (Cn := "WeightOrderModel") (T := T_Mo) (N := 17) (ci := 7) (v := .ref ro) C 0 5 rfl rfl hin_Mo (by decide) rfl k_467 rfl d_Mo_lineOf_62 ?_
                refine v_iconst (pc := 65) C (nI 3) d_Mo_lineOf_65 (by decide +kernel) ?_
                refine v_iload (pc := 66) C 0 d_Mo_lineOf_66 rfl ?_
                refine v_imul (pc := 68) C (nI (3 * k)) d_Mo_lineOf_68 (pk_mul _ _) ?_
                refine v_iconst (pc := 69) C (nI 2) d_Mo_lineOf_69 (by decide +kernel) ?_
                refine v_iadd (pc := 70) C (nI (3 * k + 2)) d_Mo_lineOf_70 (nI_add _ _) ?_
                refine v_iald (pc := 71) C 2 rfl (3 * k + 2) rfl (by omega) (by decide) d_Mo_lineOf_71 ?_
                refine v_seti (nI c2) e4 ?_
                refine v_iload (pc := 72) C 5 d_Mo_lineOf_72 rfl ?_
                refine v_icmpN_ne (pc := 74) C 80 c2 c d_Mo_lineOf_74 (by decide) (by omega) (by omega) (fun q6 => ?_) (fun q6 => ?_)
                · refine v_iinc (pc := 80) C [(5, .int (nI (k + 1))), (0, .ref h), (1, .int (nI n)), (2, .int (nI a)), (3, .int (nI b)), (4, .int (nI c))] 0 (nI (k + 1)) d_Mo_lineOf_80 rfl (nI_inc1 _) (by decide) rfl ?_
                  refine v_goto (pc := 83) C 3 d_Mo_lineOf_83 (by decide) ?_
                  refine v_lsub [0, 1, 2, 3, 4, 5] [(5, .int (nI (k + 1))), (0, .ref h), (1, .int (nI n)), (2, .int (nI a)), (3, .int (nI b)), (4, .int (nI c))] rfl ?_
                  exact ih (k + 1) (by omega) (by omega) (fun j y hj hy => by
                    rcases Nat.lt_or_ge j k with c9 | c9
                    · exact hn j y c9 hy
                    · have ej : j = k := by omega
                      subst ej
                      cases Option.some.inj (hy.symm.trans hx)
                      rw [gk]; intro z; have z := hinj.mp z; omega)
                · refine v_iload (pc := 77) C 0 d_Mo_lineOf_77 rfl ?_
                  exact v_iret (pc := 79) C X d_Mo_lineOf_79 ⟨rfl, by rw [fndA_some hx (by rw [gk]; exact hinj.mpr ⟨q1, q2, Or.inl q3, Or.inr q6⟩) hn]; rfl⟩ (by decide) (by decide)
            · refine v_aload_n (pc := 41) C 1 d_Mo_lineOf_41 rfl rfl ?_
              refine v_get (pc := 42) (Cn := "WeightOrderModel") (T := T_Mo) (N := 17) (ci := 7) (v := .ref ro) C 0 5 rfl rfl hin_Mo (by decide) rfl k_467 rfl d_Mo_lineOf_42 ?_
              refine v_iconst (pc := 45) C (nI 3) d_Mo_lineOf_45 (by decide +kernel) ?_
              refine v_iload (pc := 46) C 0 d_Mo_lineOf_46 rfl ?_
              refine v_imul (pc := 48) C (nI (3 * k)) d_Mo_lineOf_48 (pk_mul _ _) ?_
              refine v_iconst (pc := 49) C (nI 1) d_Mo_lineOf_49 (by decide +kernel) ?_
              refine v_iadd (pc := 50) C (nI (3 * k + 1)) d_Mo_lineOf_50 (nI_add _ _) ?_
              refine v_iald (pc := 51) C 2 rfl (3 * k + 1) rfl (by omega) (by decide) d_Mo_lineOf_51 ?_
              refine v_seti (nI b2) e3 ?_
              refine v_iload_n (pc := 52) C 4 d_Mo_lineOf_52 rfl rfl ?_
              refine v_icmpN_ne (pc := 53) C 80 b2 b d_Mo_lineOf_53 (by decide) (by omega) (by omega) (fun q4 => ?_) (fun q4 => ?_)
              · refine v_iinc (pc := 80) C [(5, .int (nI (k + 1))), (0, .ref h), (1, .int (nI n)), (2, .int (nI a)), (3, .int (nI b)), (4, .int (nI c))] 0 (nI (k + 1)) d_Mo_lineOf_80 rfl (nI_inc1 _) (by decide) rfl ?_
                refine v_goto (pc := 83) C 3 d_Mo_lineOf_83 (by decide) ?_
                refine v_lsub [0, 1, 2, 3, 4, 5] [(5, .int (nI (k + 1))), (0, .ref h), (1, .int (nI n)), (2, .int (nI a)), (3, .int (nI b)), (4, .int (nI c))] rfl ?_
                exact ih (k + 1) (by omega) (by omega) (fun j y hj hy => by
                  rcases Nat.lt_or_ge j k with c9 | c9
                  · exact hn j y c9 hy
                  · have ej : j = k := by omega
                    subst ej
                    cases Option.some.inj (hy.symm.trans hx)
                    rw [gk]; intro z; have z := hinj.mp z; omega)
              · refine v_iload_n (pc := 56) C 2 d_Mo_lineOf_56 rfl rfl ?_
                refine v_iconst (pc := 57) C (nI 3) d_Mo_lineOf_57 (by decide +kernel) ?_
                refine v_icmpN_lt (pc := 58) C 77 n 3 d_Mo_lineOf_58 (by decide) (by omega) (by omega) (fun q5 => ?_) (fun q5 => ?_)
                · refine v_iload (pc := 77) C 0 d_Mo_lineOf_77 rfl ?_
                  exact v_iret (pc := 79) C X d_Mo_lineOf_79 ⟨rfl, by rw [fndA_some hx (by rw [gk]; exact hinj.mpr ⟨q1, q2, Or.inr q4, Or.inl q5⟩) hn]; rfl⟩ (by decide) (by decide)
                · refine v_aload_n (pc := 61) C 1 d_Mo_lineOf_61 rfl rfl ?_
                  refine v_get (pc := 62) (Cn := "WeightOrderModel") (T := T_Mo) (N := 17) (ci := 7) (v := .ref ro) C 0 5 rfl rfl hin_Mo (by decide) rfl k_467 rfl d_Mo_lineOf_62 ?_
                  refine v_iconst (pc := 65) C (nI 3) d_Mo_lineOf_65 (by decide +kernel) ?_
                  refine v_iload (pc := 66) C 0 d_Mo_lineOf_66 rfl ?_
                  refine v_imul (pc := 68) C (nI (3 * k)) d_Mo_lineOf_68 (pk_mul _ _) ?_
                  refine v_iconst (pc := 69) C (nI 2) d_Mo_lineOf_69 (by decide +kernel) ?_
                  refine v_iadd (pc := 70) C (nI (3 * k + 2)) d_Mo_lineOf_70 (nI_add _ _) ?_
                  refine v_iald (pc := 71) C 2 rfl (3 * k + 2) rfl (by omega) (by decide) d_Mo_lineOf_71 ?_
                  refine v_seti (nI c2) e4 ?_
                  refine v_iload (pc := 72) C 5 d_Mo_lineOf_72 rfl ?_
                  refine v_icmpN_ne (pc := 74) C 80 c2 c d_Mo_lineOf_74 (by decide) (by omega) (by omega) (fun q6 => ?_) (fun q6 => ?_)
                  · refine v_iinc (pc := 80) C [(5, .int (nI (k + 1))), (0, .ref h), (1, .int (nI n)), (2, .int (nI a)), (3, .int (nI b)), (4, .int (nI c))] 0 (nI (k + 1)) d_Mo_lineOf_80 rfl (nI_inc1 _) (by decide) rfl ?_
                    refine v_goto (pc := 83) C 3 d_Mo_lineOf_83 (by decide) ?_
                    refine v_lsub [0, 1, 2, 3, 4, 5] [(5, .int (nI (k + 1))), (0, .ref h), (1, .int (nI n)), (2, .int (nI a)), (3, .int (nI b)), (4, .int (nI c))] rfl ?_
                    exact ih (k + 1) (by omega) (by omega) (fun j y hj hy => by
                      rcases Nat.lt_or_ge j k with c9 | c9
                      · exact hn j y c9 hy
                      · have ej : j = k := by omega
                        subst ej
                        cases Option.some.inj (hy.symm.trans hx)
                        rw [gk]; intro z; have z := hinj.mp z; omega)
                  · refine v_iload (pc := 77) C 0 d_Mo_lineOf_77 rfl ?_
                    exact v_iret (pc := 79) C X d_Mo_lineOf_79 ⟨rfl, by rw [fndA_some hx (by rw [gk]; exact hinj.mpr ⟨q1, q2, Or.inr q4, Or.inr q6⟩) hn]; rfl⟩ (by decide) (by decide)
  refine v_lsub [0, 1, 2, 3, 4, 5] [(5, .int (nI 0)), (0, .ref h), (1, .int (nI n)), (2, .int (nI a)), (3, .int (nI b)), (4, .int (nI c))] rfl ?_
  exact loop (A.length + 1) 0 (by omega) (Nat.zero_le _) (fun j y hj => absurd hj (Nat.not_lt_zero _))

theorem lm_tell {LN RW : Nat → Int32} {A : List (Nat × List E4)} {n a b c : Nat} (h : LM LN RW A) (h1 : 1 ≤ n) (h3 : n ≤ 3) (ha : a ≤ 1114111) (hb : b ≤ 1114111) (hc : c ≤ 1114111) : LM (upd LN (tellI (keyN n a b c) A) (nI n)) (upd (upd (upd RW (3 * tellI (keyN n a b c) A) (nI a)) (3 * tellI (keyN n a b c) A + 1) (nI b)) (3 * tellI (keyN n a b c) A + 2) (nI c)) (tellA (keyN n a b c) A) := by
  generalize hk : keyN n a b c = k
  have key : ∀ (i0 : Nat) (i : Nat) (x : Nat × List E4), (i = i0 → x.1 = k) → (i ≠ i0 → A[i]? = some x) → ∃ n' a' b' c', (upd LN i0 (nI n)) i = nI n' ∧ (upd (upd (upd RW (3 * i0) (nI a)) (3 * i0 + 1) (nI b)) (3 * i0 + 2) (nI c)) (3 * i) = nI a' ∧ (upd (upd (upd RW (3 * i0) (nI a)) (3 * i0 + 1) (nI b)) (3 * i0 + 2) (nI c)) (3 * i + 1) = nI b' ∧ (upd (upd (upd RW (3 * i0) (nI a)) (3 * i0 + 1) (nI b)) (3 * i0 + 2) (nI c)) (3 * i + 2) = nI c' ∧ 1 ≤ n' ∧ n' ≤ 3 ∧ a' ≤ 1114111 ∧ b' ≤ 1114111 ∧ c' ≤ 1114111 ∧ x.1 = keyN n' a' b' c' := by
    intro i0 i x hx hne
    by_cases ci : i = i0
    · refine ⟨n, a, b, c, ?_, ?_, ?_, ?_, h1, h3, ha, hb, hc, (hx ci).trans hk.symm⟩
      · rw [ci, pk_us]
      · rw [ci, pk_un (by omega), pk_un (by omega), pk_us]
      · rw [ci, pk_un (by omega), pk_us]
      · rw [ci, pk_us]
    · obtain ⟨n2, a2, b2, c2, e1, e2, e3, e4, r⟩ := h i x (hne ci)
      refine ⟨n2, a2, b2, c2, ?_, ?_, ?_, ?_, r⟩
      · rw [pk_un ci]; exact e1
      · rw [pk_un (by omega), pk_un (by omega), pk_un (by omega)]; exact e2
      · rw [pk_un (by omega), pk_un (by omega), pk_un (by omega)]; exact e3
      · rw [pk_un (by omega), pk_un (by omega), pk_un (by omega)]; exact e4
  intro i x hx
  unfold tellA at hx
  unfold tellI
  cases hf : fndA k A with
  | none =>
    rw [hf] at hx
    refine key A.length i x (fun e => ?_) (fun e => ?_)
    · rw [e, List.getElem?_append_right (Nat.le_refl _), Nat.sub_self] at hx
      cases hx; rfl
    · have : i < A.length := by
        have := (List.getElem?_eq_some_iff.mp hx).1
        simp at this; omega
      rw [List.getElem?_append_left this] at hx
      exact hx
  | some j =>
    rw [hf] at hx
    obtain ⟨y, hy, hyk⟩ := fndA_at hf
    have hj := (List.getElem?_eq_some_iff.mp hy).1
    refine key j i x (fun e => ?_) (fun e => ?_)
    · rw [e, List.getElem?_set] at hx
      simp [hj] at hx
      rw [← hx]
    · rw [List.getElem?_set, if_neg (fun z => e z.symm)] at hx
      exact hx
theorem em_tell {CO EA : Nat → Int32} {A : List (Nat × List E4)} (k : Nat) (h : EM CO EA A) : EM (upd CO (tellI k A) (nI 0)) EA (tellA k A) := by
  have key : ∀ (i0 : Nat) (i : Nat) (x : Nat × List E4), (i = i0 → x.2 = []) → (i ≠ i0 → A[i]? = some x) → (upd CO i0 (nI 0)) i = nI x.2.length ∧ x.2.length ≤ 8 ∧ ∀ j e, x.2[j]? = some e → okR e ∧ EA (4 * (8 * i + j)) = nI e.1 ∧ EA (4 * (8 * i + j) + 1) = nI e.2.1 ∧ EA (4 * (8 * i + j) + 2) = nI e.2.2.1 ∧ EA (4 * (8 * i + j) + 3) = nI e.2.2.2 := by
    intro i0 i x hx hne
    by_cases ci : i = i0
    · rw [hx ci, ci, pk_us]
      exact ⟨rfl, by decide, fun j e he => by cases he⟩
    · rw [pk_un ci]
      exact h i x (hne ci)
  intro i x hx
  unfold tellA at hx
  unfold tellI
  cases hf : fndA k A with
  | none =>
    rw [hf] at hx
    refine key A.length i x (fun e => ?_) (fun e => ?_)
    · rw [e, List.getElem?_append_right (Nat.le_refl _), Nat.sub_self] at hx
      cases hx; rfl
    · have : i < A.length := by
        have := (List.getElem?_eq_some_iff.mp hx).1
        simp at this; omega
      rw [List.getElem?_append_left this] at hx
      exact hx
  | some j =>
    rw [hf] at hx
    obtain ⟨y, hy, hyk⟩ := fndA_at hf
    have hj := (List.getElem?_eq_some_iff.mp hy).1
    refine key j i x (fun e => ?_) (fun e => ?_)
    · rw [e, List.getElem?_set] at hx
      simp [hj] at hx
      rw [← hx]
    · rw [List.getElem?_set, if_neg (fun z => e z.symm)] at hx
      exact hx
theorem tell_len {k : Nat} {A : List (Nat × List E4)} : (tellA k A).length = if fndA k A = none then A.length + 1 else A.length := by
  unfold tellA
  cases hf : fndA k A with
  | none => simp
  | some j => simp
theorem tellI_lt {k : Nat} {A : List (Nat × List E4)} : tellI k A < (tellA k A).length := by
  rw [tell_len]
  unfold tellI
  cases hf : fndA k A with
  | none => simp
  | some j =>
    obtain ⟨y, hy, -⟩ := fndA_at hf
    simpa using (List.getElem?_eq_some_iff.mp hy).1

set_option maxHeartbeats 4000000 in
set_option maxRecDepth 100000 in
theorem c_Mo_line (l : Launch) (G : Gx) (h pa ca la ro co ea tx sz lf fo f1 : Nat) (fl td : Int32) (nc lz fz : Nat) (LN RW CO EA : Nat → Int32) (A : List (Nat × List E4)) (na pa9 pb9 pd9 : Int32) (hA : A.length ≤ 500) (hL : LM LN RW A) (hE : EM CO EA A) : CT l G y_Mo_line b_Mo_line 6 (some .int) ({ frames := 1, cells := 0, slots := 0, locals := 60 } : Room) ([(h, ob 7 [.int fl, .ref pa, .ref ca, .int (nI nc), .ref la, .ref ro, .ref co, .ref ea, .int (nI A.length), .int td, .ref tx, .ref sz, .ref lf, .int (nI lz), .ref fo, .int (nI fz), .ref f1]), (la, aI G 500 LN), (ro, aI G 1500 RW), (co, aI G 500 CO)]) [.ref h, .int na, .int pa9, .int pb9, .int pd9] (fun r w' => ((na < nI 1 ∨ nI 3 < na ∨ badN pa9 1114111 ∨ badN pb9 1114111 ∨ badN pd9 1114111) ∧ r = some (.int (nI 0)) ∧ w' = [(h, ob 7 [.int (nI 1), .ref pa, .ref ca, .int (nI nc), .ref la, .ref ro, .ref co, .ref ea, .int (nI A.length), .int td, .ref tx, .ref sz, .ref lf, .int (nI lz), .ref fo, .int (nI fz), .ref f1]), (la, aI G 500 LN), (ro, aI G 1500 RW), (co, aI G 500 CO)]) ∨ (¬ (na < nI 1 ∨ nI 3 < na ∨ badN pa9 1114111 ∨ badN pb9 1114111 ∨ badN pd9 1114111) ∧ (fndA (keyN (toN na) (toN pa9) (toN pb9) (toN pd9)) A = none ∧ A.length = 500) ∧ r = some (.int (nI 0)) ∧ w' = [(h, ob 7 [.int (nI 2), .ref pa, .ref ca, .int (nI nc), .ref la, .ref ro, .ref co, .ref ea, .int (nI A.length), .int td, .ref tx, .ref sz, .ref lf, .int (nI lz), .ref fo, .int (nI fz), .ref f1]), (la, aI G 500 LN), (ro, aI G 1500 RW), (co, aI G 500 CO)]) ∨ (¬ (na < nI 1 ∨ nI 3 < na ∨ badN pa9 1114111 ∨ badN pb9 1114111 ∨ badN pd9 1114111) ∧ ¬ (fndA (keyN (toN na) (toN pa9) (toN pb9) (toN pd9)) A = none ∧ A.length = 500) ∧ r = some (.int (nI (tellA (keyN (toN na) (toN pa9) (toN pb9) (toN pd9)) A).length)) ∧ ∃ LN' RW' CO', w' = [(h, ob 7 [.int (nI 0), .ref pa, .ref ca, .int (nI nc), .ref la, .ref ro, .ref co, .ref ea, .int (nI ((tellA (keyN (toN na) (toN pa9) (toN pb9) (toN pd9)) A).length)), .int (nI (tellI (keyN (toN na) (toN pa9) (toN pb9) (toN pd9)) A)), .ref tx, .ref sz, .ref lf, .int (nI lz), .ref fo, .int (nI fz), .ref f1]), (la, aI G 500 LN'), (ro, aI G 1500 RW'), (co, aI G 500 CO')] ∧ (tellA (keyN (toN na) (toN pa9) (toN pb9) (toN pd9)) A).length ≤ 500 ∧ LM LN' RW' (tellA (keyN (toN na) (toN pa9) (toN pb9) (toN pd9)) A) ∧ EM CO' EA (tellA (keyN (toN na) (toN pa9) (toN pb9) (toN pd9)) A))) := by
  refine ct_of [(0, .ref h), (1, .int na), (2, .int pa9), (3, .int pb9), (4, .int pd9)] (by decide) (Nat.le_of_ble_eq_true rfl) rfl (fun K hKl hNI C X => ?_)
  subst hKl
  refine v_aload_n (pc := 0) C 0 d_Mo_line_0 rfl rfl ?_
  refine v_iconst (pc := 1) C (nI 0) d_Mo_line_1 (by decide +kernel) ?_
  refine v_put (pc := 2) (Cn := "WeightOrderModel") (T := T_Mo) (N := 17) (ci := 7) (v := .int (nI 0)) C 0 0 rfl rfl hin_Mo (by decide) rfl ([(h, ob 7 [.int (nI 0), .ref pa, .ref ca, .int (nI nc), .ref la, .ref ro, .ref co, .ref ea, .int (nI A.length), .int td, .ref tx, .ref sz, .ref lf, .int (nI lz), .ref fo, .int (nI fz), .ref f1]), (la, aI G 500 LN), (ro, aI G 1500 RW), (co, aI G 500 CO)]) t_Mo t_Mo_ok n_Mo (.int) rfl rfl rfl (Nat.le_of_ble_eq_true rfl) rfl rfl k_462 d_Mo_line_2 ?_
  refine v_iload_n (pc := 5) C 1 d_Mo_line_5 rfl rfl ?_
  refine v_iconst (pc := 6) C (nI 1) d_Mo_line_6 (by decide +kernel) ?_
  refine v_icmp_lt (pc := 7) C 40 d_Mo_line_7 (by decide) (fun h1 => ?_) (fun h1 => ?_)
  · refine v_aload_n (pc := 40) C 0 d_Mo_line_40 rfl rfl ?_
    refine v_iconst (pc := 41) C (nI 1) d_Mo_line_41 (by decide +kernel) ?_
    refine v_callV (pc := 42) (As := [.int (nI 1)]) (rest := []) C (c_Mo_fail _ G h pa ca la ro co ea tx sz lf fo f1 (nI 0) td nc A.length lz fz 1) l_Mo_63 ([(la, aI G 500 LN), (ro, aI G 1500 RW), (co, aI G 500 CO)]) (sp_pos [1, 2, 3] [0] rfl rfl rfl) 0 rfl rfl rfl rfl rfl (Nat.le_of_ble_eq_true rfl) (by decide) (by decide) (by decide) (by decide) d_Mo_line_42 (fun r w' hq => ?_)
    obtain ⟨rfl, rfl⟩ := hq
    show vv K ({ frames := 1, cells := 0, slots := 0, locals := 60 } : Room) G 6 0 0 ([(la, aI G 500 LN), (ro, aI G 1500 RW), (co, aI G 500 CO), (h, ob 7 [.int (nI 1), .ref pa, .ref ca, .int (nI nc), .ref la, .ref ro, .ref co, .ref ea, .int (nI A.length), .int td, .ref tx, .ref sz, .ref lf, .int (nI lz), .ref fo, .int (nI fz), .ref f1])]) 45 [(0, .ref h), (1, .int na), (2, .int pa9), (3, .int pb9), (4, .int pd9)] [.int (nI 0)]
    refine v_wsub [3, 0, 1, 2] ([(h, ob 7 [.int (nI 1), .ref pa, .ref ca, .int (nI nc), .ref la, .ref ro, .ref co, .ref ea, .int (nI A.length), .int td, .ref tx, .ref sz, .ref lf, .int (nI lz), .ref fo, .int (nI fz), .ref f1]), (la, aI G 500 LN), (ro, aI G 1500 RW), (co, aI G 500 CO)]) rfl rfl ?_
    exact v_iret (pc := 45) C X d_Mo_line_45 (Or.inl ⟨Or.inl h1, rfl, rfl⟩) (by decide) (by decide)
  · refine v_iload_n (pc := 10) C 1 d_Mo_line_10 rfl rfl ?_
    refine v_iconst (pc := 11) C (nI 3) d_Mo_line_11 (by decide +kernel) ?_
    refine v_icmp_gt (pc := 12) C 40 d_Mo_line_12 (by decide) (fun h2 => ?_) (fun h2 => ?_)
    · refine v_aload_n (pc := 40) C 0 d_Mo_line_40 rfl rfl ?_
      refine v_iconst (pc := 41) C (nI 1) d_Mo_line_41 (by decide +kernel) ?_
      refine v_callV (pc := 42) (As := [.int (nI 1)]) (rest := []) C (c_Mo_fail _ G h pa ca la ro co ea tx sz lf fo f1 (nI 0) td nc A.length lz fz 1) l_Mo_63 ([(la, aI G 500 LN), (ro, aI G 1500 RW), (co, aI G 500 CO)]) (sp_pos [1, 2, 3] [0] rfl rfl rfl) 0 rfl rfl rfl rfl rfl (Nat.le_of_ble_eq_true rfl) (by decide) (by decide) (by decide) (by decide) d_Mo_line_42 (fun r w' hq => ?_)
      obtain ⟨rfl, rfl⟩ := hq
      show vv K ({ frames := 1, cells := 0, slots := 0, locals := 60 } : Room) G 6 0 0 ([(la, aI G 500 LN), (ro, aI G 1500 RW), (co, aI G 500 CO), (h, ob 7 [.int (nI 1), .ref pa, .ref ca, .int (nI nc), .ref la, .ref ro, .ref co, .ref ea, .int (nI A.length), .int td, .ref tx, .ref sz, .ref lf, .int (nI lz), .ref fo, .int (nI fz), .ref f1])]) 45 [(0, .ref h), (1, .int na), (2, .int pa9), (3, .int pb9), (4, .int pd9)] [.int (nI 0)]
      refine v_wsub [3, 0, 1, 2] ([(h, ob 7 [.int (nI 1), .ref pa, .ref ca, .int (nI nc), .ref la, .ref ro, .ref co, .ref ea, .int (nI A.length), .int td, .ref tx, .ref sz, .ref lf, .int (nI lz), .ref fo, .int (nI fz), .ref f1]), (la, aI G 500 LN), (ro, aI G 1500 RW), (co, aI G 500 CO)]) rfl rfl ?_
      exact v_iret (pc := 45) C X d_Mo_line_45 (Or.inl ⟨Or.inr (Or.inl h2), rfl, rfl⟩) (by decide) (by decide)
    · refine v_aload_n (pc := 15) C 0 d_Mo_line_15 rfl rfl ?_
      refine v_iload_n (pc := 16) C 2 d_Mo_line_16 rfl rfl ?_
      refine v_callV (pc := 17) (As := [.int pa9]) (rest := []) C (c_Mo_out _ G h pa ca la ro co ea tx sz lf fo f1 (nI 0) td nc A.length lz fz pa9) l_Mo_53 ([(la, aI G 500 LN), (ro, aI G 1500 RW), (co, aI G 500 CO)]) (sp_pos [1, 2, 3] [0] rfl rfl rfl) 0 rfl rfl rfl rfl rfl (Nat.le_of_ble_eq_true rfl) (by decide) (by decide) (by decide) (by decide) d_Mo_line_17 (fun r w' hq => ?_)
      obtain ⟨rfl, rfl⟩ := hq
      show vv K ({ frames := 1, cells := 0, slots := 0, locals := 60 } : Room) G 6 0 0 ([(la, aI G 500 LN), (ro, aI G 1500 RW), (co, aI G 500 CO), (h, ob 7 [.int (nI 0), .ref pa, .ref ca, .int (nI nc), .ref la, .ref ro, .ref co, .ref ea, .int (nI A.length), .int td, .ref tx, .ref sz, .ref lf, .int (nI lz), .ref fo, .int (nI fz), .ref f1])]) 20 [(0, .ref h), (1, .int na), (2, .int pa9), (3, .int pb9), (4, .int pd9)] [.int (ou pa9)]
      refine v_if_ne (pc := 20) C 40 d_Mo_line_20 (by decide) (fun h3 => ?_) (fun h3 => ?_)
      · refine v_aload_n (pc := 40) C 0 d_Mo_line_40 rfl rfl ?_
        refine v_iconst (pc := 41) C (nI 1) d_Mo_line_41 (by decide +kernel) ?_
        refine v_callV (pc := 42) (As := [.int (nI 1)]) (rest := []) C (c_Mo_fail _ G h pa ca la ro co ea tx sz lf fo f1 (nI 0) td nc A.length lz fz 1) l_Mo_63 ([(la, aI G 500 LN), (ro, aI G 1500 RW), (co, aI G 500 CO)]) (sp_pos [0, 1, 2] [3] rfl rfl rfl) 0 rfl rfl rfl rfl rfl (Nat.le_of_ble_eq_true rfl) (by decide) (by decide) (by decide) (by decide) d_Mo_line_42 (fun r w' hq => ?_)
        obtain ⟨rfl, rfl⟩ := hq
        show vv K ({ frames := 1, cells := 0, slots := 0, locals := 60 } : Room) G 6 0 0 ([(la, aI G 500 LN), (ro, aI G 1500 RW), (co, aI G 500 CO), (h, ob 7 [.int (nI 1), .ref pa, .ref ca, .int (nI nc), .ref la, .ref ro, .ref co, .ref ea, .int (nI A.length), .int td, .ref tx, .ref sz, .ref lf, .int (nI lz), .ref fo, .int (nI fz), .ref f1])]) 45 [(0, .ref h), (1, .int na), (2, .int pa9), (3, .int pb9), (4, .int pd9)] [.int (nI 0)]
        refine v_wsub [3, 0, 1, 2] ([(h, ob 7 [.int (nI 1), .ref pa, .ref ca, .int (nI nc), .ref la, .ref ro, .ref co, .ref ea, .int (nI A.length), .int td, .ref tx, .ref sz, .ref lf, .int (nI lz), .ref fo, .int (nI fz), .ref f1]), (la, aI G 500 LN), (ro, aI G 1500 RW), (co, aI G 500 CO)]) rfl rfl ?_
        exact v_iret (pc := 45) C X d_Mo_line_45 (Or.inl ⟨Or.inr (Or.inr (Or.inl (ou_1 h3))), rfl, rfl⟩) (by decide) (by decide)
      · refine v_aload_n (pc := 23) C 0 d_Mo_line_23 rfl rfl ?_
        refine v_iload_n (pc := 24) C 3 d_Mo_line_24 rfl rfl ?_
        refine v_callV (pc := 25) (As := [.int pb9]) (rest := []) C (c_Mo_out _ G h pa ca la ro co ea tx sz lf fo f1 (nI 0) td nc A.length lz fz pb9) l_Mo_53 ([(la, aI G 500 LN), (ro, aI G 1500 RW), (co, aI G 500 CO)]) (sp_pos [0, 1, 2] [3] rfl rfl rfl) 0 rfl rfl rfl rfl rfl (Nat.le_of_ble_eq_true rfl) (by decide) (by decide) (by decide) (by decide) d_Mo_line_25 (fun r w' hq => ?_)
        obtain ⟨rfl, rfl⟩ := hq
        show vv K ({ frames := 1, cells := 0, slots := 0, locals := 60 } : Room) G 6 0 0 ([(la, aI G 500 LN), (ro, aI G 1500 RW), (co, aI G 500 CO), (h, ob 7 [.int (nI 0), .ref pa, .ref ca, .int (nI nc), .ref la, .ref ro, .ref co, .ref ea, .int (nI A.length), .int td, .ref tx, .ref sz, .ref lf, .int (nI lz), .ref fo, .int (nI fz), .ref f1])]) 28 [(0, .ref h), (1, .int na), (2, .int pa9), (3, .int pb9), (4, .int pd9)] [.int (ou pb9)]
        refine v_if_ne (pc := 28) C 40 d_Mo_line_28 (by decide) (fun h4 => ?_) (fun h4 => ?_)
        · refine v_aload_n (pc := 40) C 0 d_Mo_line_40 rfl rfl ?_
          refine v_iconst (pc := 41) C (nI 1) d_Mo_line_41 (by decide +kernel) ?_
          refine v_callV (pc := 42) (As := [.int (nI 1)]) (rest := []) C (c_Mo_fail _ G h pa ca la ro co ea tx sz lf fo f1 (nI 0) td nc A.length lz fz 1) l_Mo_63 ([(la, aI G 500 LN), (ro, aI G 1500 RW), (co, aI G 500 CO)]) (sp_pos [0, 1, 2] [3] rfl rfl rfl) 0 rfl rfl rfl rfl rfl (Nat.le_of_ble_eq_true rfl) (by decide) (by decide) (by decide) (by decide) d_Mo_line_42 (fun r w' hq => ?_)
          obtain ⟨rfl, rfl⟩ := hq
          show vv K ({ frames := 1, cells := 0, slots := 0, locals := 60 } : Room) G 6 0 0 ([(la, aI G 500 LN), (ro, aI G 1500 RW), (co, aI G 500 CO), (h, ob 7 [.int (nI 1), .ref pa, .ref ca, .int (nI nc), .ref la, .ref ro, .ref co, .ref ea, .int (nI A.length), .int td, .ref tx, .ref sz, .ref lf, .int (nI lz), .ref fo, .int (nI fz), .ref f1])]) 45 [(0, .ref h), (1, .int na), (2, .int pa9), (3, .int pb9), (4, .int pd9)] [.int (nI 0)]
          refine v_wsub [3, 0, 1, 2] ([(h, ob 7 [.int (nI 1), .ref pa, .ref ca, .int (nI nc), .ref la, .ref ro, .ref co, .ref ea, .int (nI A.length), .int td, .ref tx, .ref sz, .ref lf, .int (nI lz), .ref fo, .int (nI fz), .ref f1]), (la, aI G 500 LN), (ro, aI G 1500 RW), (co, aI G 500 CO)]) rfl rfl ?_
          exact v_iret (pc := 45) C X d_Mo_line_45 (Or.inl ⟨Or.inr (Or.inr (Or.inr (Or.inl (ou_1 h4)))), rfl, rfl⟩) (by decide) (by decide)
        · refine v_aload_n (pc := 31) C 0 d_Mo_line_31 rfl rfl ?_
          refine v_iload (pc := 32) C 4 d_Mo_line_32 rfl ?_
          refine v_callV (pc := 34) (As := [.int pd9]) (rest := []) C (c_Mo_out _ G h pa ca la ro co ea tx sz lf fo f1 (nI 0) td nc A.length lz fz pd9) l_Mo_53 ([(la, aI G 500 LN), (ro, aI G 1500 RW), (co, aI G 500 CO)]) (sp_pos [0, 1, 2] [3] rfl rfl rfl) 0 rfl rfl rfl rfl rfl (Nat.le_of_ble_eq_true rfl) (by decide) (by decide) (by decide) (by decide) d_Mo_line_34 (fun r w' hq => ?_)
          obtain ⟨rfl, rfl⟩ := hq
          show vv K ({ frames := 1, cells := 0, slots := 0, locals := 60 } : Room) G 6 0 0 ([(la, aI G 500 LN), (ro, aI G 1500 RW), (co, aI G 500 CO), (h, ob 7 [.int (nI 0), .ref pa, .ref ca, .int (nI nc), .ref la, .ref ro, .ref co, .ref ea, .int (nI A.length), .int td, .ref tx, .ref sz, .ref lf, .int (nI lz), .ref fo, .int (nI fz), .ref f1])]) 37 [(0, .ref h), (1, .int na), (2, .int pa9), (3, .int pb9), (4, .int pd9)] [.int (ou pd9)]
          refine v_if_eq (pc := 37) C 46 d_Mo_line_37 (by decide) (fun h5 => ?_) (fun h5 => ?_)
          · have hnb : ¬ (na < nI 1 ∨ nI 3 < na ∨ badN pa9 1114111 ∨ badN pb9 1114111 ∨ badN pd9 1114111) := fun z => z.elim h1 (fun z => z.elim h2 (fun z => z.elim (ou_0 h3) (fun z => z.elim (ou_0 h4) (ou_0 h5))))
            obtain ⟨nj, hn1, hn3, rfl⟩ := rng (by decide) (by decide) h1 h2
            obtain ⟨aj, haj, rfl⟩ := nb_nat (by decide) (ou_0 h3)
            obtain ⟨bj, hbj, rfl⟩ := nb_nat (by decide) (ou_0 h4)
            obtain ⟨dj, hdj, rfl⟩ := nb_nat (by decide) (ou_0 h5)
            have hkey : keyN (toN (nI nj)) (toN (nI aj)) (toN (nI bj)) (toN (nI dj)) = keyN nj aj bj dj := by rw [toN_nI (by omega), toN_nI (by omega), toN_nI (by omega), toN_nI (by omega)]
            rw [hkey] at X
            refine v_aload_n (pc := 46) C 0 d_Mo_line_46 rfl rfl ?_
            refine v_iload_n (pc := 47) C 1 d_Mo_line_47 rfl rfl ?_
            refine v_iload_n (pc := 48) C 2 d_Mo_line_48 rfl rfl ?_
            refine v_iload_n (pc := 49) C 3 d_Mo_line_49 rfl rfl ?_
            refine v_iload (pc := 50) C 4 d_Mo_line_50 rfl ?_
            show vv K ({ frames := 1, cells := 0, slots := 0, locals := 60 } : Room) G 6 0 0 ([(la, aI G 500 LN), (ro, aI G 1500 RW), (co, aI G 500 CO), (h, ob 7 [.int (nI 0), .ref pa, .ref ca, .int (nI nc), .ref la, .ref ro, .ref co, .ref ea, .int (nI A.length), .int td, .ref tx, .ref sz, .ref lf, .int (nI lz), .ref fo, .int (nI fz), .ref f1])]) 52 [(0, .ref h), (1, .int (nI nj)), (2, .int (nI aj)), (3, .int (nI bj)), (4, .int (nI dj))] [.int (nI dj), .int (nI bj), .int (nI aj), .int (nI nj), .ref h]
            refine v_callV (pc := 52) (As := [.int (nI nj), .int (nI aj), .int (nI bj), .int (nI dj)]) (rest := []) C (c_Mo_lineOf _ G h pa ca la ro co ea tx sz lf fo f1 (nI 0) td nc lz fz LN RW A nj aj bj dj hA hL hn1 hn3 haj hbj hdj) l_Mo_67 ([(co, aI G 500 CO)]) (sp_pos [2] [3, 0, 1] rfl rfl rfl) 0 rfl rfl rfl rfl rfl (Nat.le_of_ble_eq_true rfl) (by decide) (by decide) (by decide) (by decide) d_Mo_line_52 (fun r w' hq => ?_)
            obtain ⟨rfl, rfl⟩ := hq
            show vv K ({ frames := 1, cells := 0, slots := 0, locals := 60 } : Room) G 6 0 0 ([(co, aI G 500 CO), (h, ob 7 [.int (nI 0), .ref pa, .ref ca, .int (nI nc), .ref la, .ref ro, .ref co, .ref ea, .int (nI A.length), .int td, .ref tx, .ref sz, .ref lf, .int (nI lz), .ref fo, .int (nI fz), .ref f1]), (la, aI G 500 LN), (ro, aI G 1500 RW)]) 55 [(0, .ref h), (1, .int (nI nj)), (2, .int (nI aj)), (3, .int (nI bj)), (4, .int (nI dj))] [.int (fiI (fndA (keyN nj aj bj dj) A))]
            have hlm := lm_tell hL hn1 hn3 haj hbj hdj
            generalize keyN nj aj bj dj = key at hlm X ⊢
            have hem := em_tell key hE
            have htl := tell_len (k := key) (A := A)
            cases hf : fndA key A with
            | none =>
              show vv K ({ frames := 1, cells := 0, slots := 0, locals := 60 } : Room) G 6 0 0 ([(co, aI G 500 CO), (h, ob 7 [.int (nI 0), .ref pa, .ref ca, .int (nI nc), .ref la, .ref ro, .ref co, .ref ea, .int (nI A.length), .int td, .ref tx, .ref sz, .ref lf, .int (nI lz), .ref fo, .int (nI fz), .ref f1]), (la, aI G 500 LN), (ro, aI G 1500 RW)]) 55 [(0, .ref h), (1, .int (nI nj)), (2, .int (nI aj)), (3, .int (nI bj)), (4, .int (nI dj))] [.int (-1)]
              rw [if_pos hf] at htl
              have hti : tellI key A = A.length := by unfold tellI; rw [hf]; rfl
              refine v_istore (pc := 55) C [(5, .int (-1)), (0, .ref h), (1, .int (nI nj)), (2, .int (nI aj)), (3, .int (nI bj)), (4, .int (nI dj))] d_Mo_line_55 (by decide) rfl ?_
              refine v_iload (pc := 57) C 0 d_Mo_line_57 rfl ?_
              refine v_if_ge (pc := 59) C 78 d_Mo_line_59 (by decide) (fun h6 => ?_) (fun h6 => ?_)
              · exact absurd h6 (by decide)
              · refine v_aload_n (pc := 62) C 1 d_Mo_line_62 rfl rfl ?_
                refine v_get (pc := 63) (Cn := "WeightOrderModel") (T := T_Mo) (N := 17) (ci := 7) (v := .int (nI A.length)) C 1 8 rfl rfl hin_Mo (by decide) rfl k_470 rfl d_Mo_line_63 ?_
                refine v_sipush (pc := 66) C (nI 500) d_Mo_line_66 (by decide +kernel) ?_
                refine v_icmpN_ne (pc := 69) C 78 A.length 500 d_Mo_line_69 (by decide) (by omega) (by omega) (fun h7 => ?_) (fun h7 => ?_)
                · refine v_iload (pc := 78) C 0 d_Mo_line_78 rfl ?_
                  refine v_if_ge (pc := 80) C 99 d_Mo_line_80 (by decide) (fun h8 => ?_) (fun h8 => ?_)
                  · exact absurd h8 (by decide)
                  · refine v_aload_n (pc := 83) C 1 d_Mo_line_83 rfl rfl ?_
                    refine v_get (pc := 84) (Cn := "WeightOrderModel") (T := T_Mo) (N := 17) (ci := 7) (v := .int (nI A.length)) C 1 8 rfl rfl hin_Mo (by decide) rfl k_470 rfl d_Mo_line_84 ?_
                    refine v_istore (pc := 87) C [(5, .int (nI A.length)), (0, .ref h), (1, .int (nI nj)), (2, .int (nI aj)), (3, .int (nI bj)), (4, .int (nI dj))] d_Mo_line_87 (by decide) rfl ?_
                    refine v_aload_n (pc := 89) C 1 d_Mo_line_89 rfl rfl ?_
                    refine v_dup (pc := 90) C d_Mo_line_90 rfl ?_
                    refine v_get (pc := 91) (Cn := "WeightOrderModel") (T := T_Mo) (N := 17) (ci := 7) (v := .int (nI A.length)) C 1 8 rfl rfl hin_Mo (by decide) rfl k_470 rfl d_Mo_line_91 ?_
                    refine v_iconst (pc := 94) C (nI 1) d_Mo_line_94 (by decide +kernel) ?_
                    refine v_iadd (pc := 95) C (nI (A.length + 1)) d_Mo_line_95 (nI_add _ _) ?_
                    refine v_put (pc := 96) (Cn := "WeightOrderModel") (T := T_Mo) (N := 17) (ci := 7) (v := .int (nI (A.length + 1))) C 1 8 rfl rfl hin_Mo (by decide) rfl ([(co, aI G 500 CO), (h, ob 7 [.int (nI 0), .ref pa, .ref ca, .int (nI nc), .ref la, .ref ro, .ref co, .ref ea, .int (nI (A.length + 1)), .int td, .ref tx, .ref sz, .ref lf, .int (nI lz), .ref fo, .int (nI fz), .ref f1]), (la, aI G 500 LN), (ro, aI G 1500 RW)]) t_Mo t_Mo_ok n_Mo (.int) rfl rfl rfl (Nat.le_of_ble_eq_true rfl) rfl rfl k_470 d_Mo_line_96 ?_
                    refine v_aload_n (pc := 99) C 1 d_Mo_line_99 rfl rfl ?_
                    refine v_get (pc := 100) (Cn := "WeightOrderModel") (T := T_Mo) (N := 17) (ci := 7) (v := .ref la) C 1 4 rfl rfl hin_Mo (by decide) rfl k_466 rfl d_Mo_line_100 ?_
                    refine v_iload (pc := 103) C 0 d_Mo_line_103 rfl ?_
                    refine v_iload_n (pc := 105) C 2 d_Mo_line_105 rfl rfl ?_
                    refine v_iast (pc := 106) C 2 ([(co, aI G 500 CO), (h, ob 7 [.int (nI 0), .ref pa, .ref ca, .int (nI nc), .ref la, .ref ro, .ref co, .ref ea, .int (nI (A.length + 1)), .int td, .ref tx, .ref sz, .ref lf, .int (nI lz), .ref fo, .int (nI fz), .ref f1]), (la, aI G 500 (upd LN A.length (nI nj))), (ro, aI G 1500 RW)]) rfl A.length rfl (by omega) (by decide) rfl d_Mo_line_106 ?_
                    refine v_aload_n (pc := 107) C 1 d_Mo_line_107 rfl rfl ?_
                    refine v_get (pc := 108) (Cn := "WeightOrderModel") (T := T_Mo) (N := 17) (ci := 7) (v := .ref ro) C 1 5 rfl rfl hin_Mo (by decide) rfl k_467 rfl d_Mo_line_108 ?_
                    refine v_iconst (pc := 111) C (nI 3) d_Mo_line_111 (by decide +kernel) ?_
                    refine v_iload (pc := 112) C 0 d_Mo_line_112 rfl ?_
                    refine v_imul (pc := 114) C (nI (3 * A.length)) d_Mo_line_114 (pk_mul _ _) ?_
                    refine v_iload_n (pc := 115) C 3 d_Mo_line_115 rfl rfl ?_
                    refine v_iast (pc := 116) C 3 ([(co, aI G 500 CO), (h, ob 7 [.int (nI 0), .ref pa, .ref ca, .int (nI nc), .ref la, .ref ro, .ref co, .ref ea, .int (nI (A.length + 1)), .int td, .ref tx, .ref sz, .ref lf, .int (nI lz), .ref fo, .int (nI fz), .ref f1]), (la, aI G 500 (upd LN A.length (nI nj))), (ro, aI G 1500 (upd RW (3 * A.length) (nI aj)))]) rfl (3 * A.length) rfl (by omega) (by decide) rfl d_Mo_line_116 ?_
                    refine v_aload_n (pc := 117) C 1 d_Mo_line_117 rfl rfl ?_
                    refine v_get (pc := 118) (Cn := "WeightOrderModel") (T := T_Mo) (N := 17) (ci := 7) (v := .ref ro) C 1 5 rfl rfl hin_Mo (by decide) rfl k_467 rfl d_Mo_line_118 ?_
                    refine v_iconst (pc := 121) C (nI 3) d_Mo_line_121 (by decide +kernel) ?_
                    refine v_iload (pc := 122) C 0 d_Mo_line_122 rfl ?_
                    refine v_imul (pc := 124) C (nI (3 * A.length)) d_Mo_line_124 (pk_mul _ _) ?_
                    refine v_iconst (pc := 125) C (nI 1) d_Mo_line_125 (by decide +kernel) ?_
                    refine v_iadd (pc := 126) C (nI (3 * A.length + 1)) d_Mo_line_126 (nI_add _ _) ?_
                    refine v_iload_n (pc := 127) C 4 d_Mo_line_127 rfl rfl ?_
                    refine v_iast (pc := 128) C 3 ([(co, aI G 500 CO), (h, ob 7 [.int (nI 0), .ref pa, .ref ca, .int (nI nc), .ref la, .ref ro, .ref co, .ref ea, .int (nI (A.length + 1)), .int td, .ref tx, .ref sz, .ref lf, .int (nI lz), .ref fo, .int (nI fz), .ref f1]), (la, aI G 500 (upd LN A.length (nI nj))), (ro, aI G 1500 (upd (upd RW (3 * A.length) (nI aj)) (3 * A.length + 1) (nI bj)))]) rfl (3 * A.length + 1) rfl (by omega) (by decide) rfl d_Mo_line_128 ?_
                    refine v_aload_n (pc := 129) C 1 d_Mo_line_129 rfl rfl ?_
                    refine v_get (pc := 130) (Cn := "WeightOrderModel") (T := T_Mo) (N := 17) (ci := 7) (v := .ref ro) C 1 5 rfl rfl hin_Mo (by decide) rfl k_467 rfl d_Mo_line_130 ?_
                    refine v_iconst (pc := 133) C (nI 3) d_Mo_line_133 (by decide +kernel) ?_
                    refine v_iload (pc := 134) C 0 d_Mo_line_134 rfl ?_
                    refine v_imul (pc := 136) C (nI (3 * A.length)) d_Mo_line_136 (pk_mul _ _) ?_
                    refine v_iconst (pc := 137) C (nI 2) d_Mo_line_137 (by decide +kernel) ?_
                    refine v_iadd (pc := 138) C (nI (3 * A.length + 2)) d_Mo_line_138 (nI_add _ _) ?_
                    refine v_iload (pc := 139) C 5 d_Mo_line_139 rfl ?_
                    refine v_iast (pc := 141) C 3 ([(co, aI G 500 CO), (h, ob 7 [.int (nI 0), .ref pa, .ref ca, .int (nI nc), .ref la, .ref ro, .ref co, .ref ea, .int (nI (A.length + 1)), .int td, .ref tx, .ref sz, .ref lf, .int (nI lz), .ref fo, .int (nI fz), .ref f1]), (la, aI G 500 (upd LN A.length (nI nj))), (ro, aI G 1500 (upd (upd (upd RW (3 * A.length) (nI aj)) (3 * A.length + 1) (nI bj)) (3 * A.length + 2) (nI dj)))]) rfl (3 * A.length + 2) rfl (by omega) (by decide) rfl d_Mo_line_141 ?_
                    refine v_aload_n (pc := 142) C 1 d_Mo_line_142 rfl rfl ?_
                    refine v_get (pc := 143) (Cn := "WeightOrderModel") (T := T_Mo) (N := 17) (ci := 7) (v := .ref co) C 1 6 rfl rfl hin_Mo (by decide) rfl k_468 rfl d_Mo_line_143 ?_
                    refine v_iload (pc := 146) C 0 d_Mo_line_146 rfl ?_
                    refine v_iconst (pc := 148) C (nI 0) d_Mo_line_148 (by decide +kernel) ?_
                    refine v_iast (pc := 149) C 0 ([(co, aI G 500 (upd CO A.length (nI 0))), (h, ob 7 [.int (nI 0), .ref pa, .ref ca, .int (nI nc), .ref la, .ref ro, .ref co, .ref ea, .int (nI (A.length + 1)), .int td, .ref tx, .ref sz, .ref lf, .int (nI lz), .ref fo, .int (nI fz), .ref f1]), (la, aI G 500 (upd LN A.length (nI nj))), (ro, aI G 1500 (upd (upd (upd RW (3 * A.length) (nI aj)) (3 * A.length + 1) (nI bj)) (3 * A.length + 2) (nI dj)))]) rfl A.length rfl (by omega) (by decide) rfl d_Mo_line_149 ?_
                    refine v_aload_n (pc := 150) C 1 d_Mo_line_150 rfl rfl ?_
                    refine v_iload (pc := 151) C 0 d_Mo_line_151 rfl ?_
                    refine v_put (pc := 153) (Cn := "WeightOrderModel") (T := T_Mo) (N := 17) (ci := 7) (v := .int (nI A.length)) C 1 9 rfl rfl hin_Mo (by decide) rfl ([(co, aI G 500 (upd CO A.length (nI 0))), (h, ob 7 [.int (nI 0), .ref pa, .ref ca, .int (nI nc), .ref la, .ref ro, .ref co, .ref ea, .int (nI (A.length + 1)), .int (nI A.length), .ref tx, .ref sz, .ref lf, .int (nI lz), .ref fo, .int (nI fz), .ref f1]), (la, aI G 500 (upd LN A.length (nI nj))), (ro, aI G 1500 (upd (upd (upd RW (3 * A.length) (nI aj)) (3 * A.length + 1) (nI bj)) (3 * A.length + 2) (nI dj)))]) t_Mo t_Mo_ok n_Mo (.int) rfl rfl rfl (Nat.le_of_ble_eq_true rfl) rfl rfl k_471 d_Mo_line_153 ?_
                    refine v_aload_n (pc := 156) C 1 d_Mo_line_156 rfl rfl ?_
                    refine v_get (pc := 157) (Cn := "WeightOrderModel") (T := T_Mo) (N := 17) (ci := 7) (v := .int (nI (A.length + 1))) C 1 8 rfl rfl hin_Mo (by decide) rfl k_470 rfl d_Mo_line_157 ?_
                    refine v_wsub [1, 2, 3, 0] ([(h, ob 7 [.int (nI 0), .ref pa, .ref ca, .int (nI nc), .ref la, .ref ro, .ref co, .ref ea, .int (nI (A.length + 1)), .int (nI A.length), .ref tx, .ref sz, .ref lf, .int (nI lz), .ref fo, .int (nI fz), .ref f1]), (la, aI G 500 (upd LN A.length (nI nj))), (ro, aI G 1500 (upd (upd (upd RW (3 * A.length) (nI aj)) (3 * A.length + 1) (nI bj)) (3 * A.length + 2) (nI dj))), (co, aI G 500 (upd CO A.length (nI 0)))]) rfl rfl ?_
                    exact v_iret (pc := 160) C X d_Mo_line_160 (Or.inr (Or.inr ⟨hnb, fun z => h7 z.2, by rw [htl], upd LN A.length (nI nj), _, _, by rw [htl, hti], by omega, by rw [hti] at hlm; exact hlm, by rw [hti] at hem; exact hem⟩)) (by decide) (by decide)
                · refine v_aload_n (pc := 72) C 1 d_Mo_line_72 rfl rfl ?_
                  refine v_iconst (pc := 73) C (nI 2) d_Mo_line_73 (by decide +kernel) ?_
                  refine v_callV (pc := 74) (As := [.int (nI 2)]) (rest := []) C (c_Mo_fail _ G h pa ca la ro co ea tx sz lf fo f1 (nI 0) td nc A.length lz fz 2) l_Mo_63 ([(co, aI G 500 CO), (la, aI G 500 LN), (ro, aI G 1500 RW)]) (sp_pos [0, 2, 3] [1] rfl rfl rfl) 0 rfl rfl rfl rfl rfl (Nat.le_of_ble_eq_true rfl) (by decide) (by decide) (by decide) (by decide) d_Mo_line_74 (fun r w' hq => ?_)
                  obtain ⟨rfl, rfl⟩ := hq
                  show vv K ({ frames := 1, cells := 0, slots := 0, locals := 60 } : Room) G 6 0 0 ([(co, aI G 500 CO), (la, aI G 500 LN), (ro, aI G 1500 RW), (h, ob 7 [.int (nI 2), .ref pa, .ref ca, .int (nI nc), .ref la, .ref ro, .ref co, .ref ea, .int (nI A.length), .int td, .ref tx, .ref sz, .ref lf, .int (nI lz), .ref fo, .int (nI fz), .ref f1])]) 77 [(5, .int (-1)), (0, .ref h), (1, .int (nI nj)), (2, .int (nI aj)), (3, .int (nI bj)), (4, .int (nI dj))] [.int (nI 0)]
                  refine v_wsub [3, 1, 2, 0] ([(h, ob 7 [.int (nI 2), .ref pa, .ref ca, .int (nI nc), .ref la, .ref ro, .ref co, .ref ea, .int (nI A.length), .int td, .ref tx, .ref sz, .ref lf, .int (nI lz), .ref fo, .int (nI fz), .ref f1]), (la, aI G 500 LN), (ro, aI G 1500 RW), (co, aI G 500 CO)]) rfl rfl ?_
                  exact v_iret (pc := 77) C X d_Mo_line_77 (Or.inr (Or.inl ⟨hnb, ⟨hf, h7⟩, rfl, rfl⟩)) (by decide) (by decide)
            | some i =>
              obtain ⟨x, hx, hxk⟩ := fndA_at hf
              have hi := (List.getElem?_eq_some_iff.mp hx).1
              rw [if_neg (by rw [hf]; exact fun z => by cases z)] at htl
              have hti : tellI key A = i := by unfold tellI; rw [hf]; rfl
              show vv K ({ frames := 1, cells := 0, slots := 0, locals := 60 } : Room) G 6 0 0 ([(co, aI G 500 CO), (h, ob 7 [.int (nI 0), .ref pa, .ref ca, .int (nI nc), .ref la, .ref ro, .ref co, .ref ea, .int (nI A.length), .int td, .ref tx, .ref sz, .ref lf, .int (nI lz), .ref fo, .int (nI fz), .ref f1]), (la, aI G 500 LN), (ro, aI G 1500 RW)]) 55 [(0, .ref h), (1, .int (nI nj)), (2, .int (nI aj)), (3, .int (nI bj)), (4, .int (nI dj))] [.int (nI i)]
              refine v_istore (pc := 55) C [(5, .int (nI i)), (0, .ref h), (1, .int (nI nj)), (2, .int (nI aj)), (3, .int (nI bj)), (4, .int (nI dj))] d_Mo_line_55 (by decide) rfl ?_
              refine v_iload (pc := 57) C 0 d_Mo_line_57 rfl ?_
              refine v_ifN_ge (pc := 59) C 78 i d_Mo_line_59 (by decide) (by omega) (fun h6 => ?_) (fun h6 => ?_)
              · refine v_iload (pc := 78) C 0 d_Mo_line_78 rfl ?_
                refine v_ifN_ge (pc := 80) C 99 i d_Mo_line_80 (by decide) (by omega) (fun h8 => ?_) (fun h8 => ?_)
                · refine v_aload_n (pc := 99) C 1 d_Mo_line_99 rfl rfl ?_
                  refine v_get (pc := 100) (Cn := "WeightOrderModel") (T := T_Mo) (N := 17) (ci := 7) (v := .ref la) C 1 4 rfl rfl hin_Mo (by decide) rfl k_466 rfl d_Mo_line_100 ?_
                  refine v_iload (pc := 103) C 0 d_Mo_line_103 rfl ?_
                  refine v_iload_n (pc := 105) C 2 d_Mo_line_105 rfl rfl ?_
                  refine v_iast (pc := 106) C 2 ([(co, aI G 500 CO), (h, ob 7 [.int (nI 0), .ref pa, .ref ca, .int (nI nc), .ref la, .ref ro, .ref co, .ref ea, .int (nI A.length), .int td, .ref tx, .ref sz, .ref lf, .int (nI lz), .ref fo, .int (nI fz), .ref f1]), (la, aI G 500 (upd LN i (nI nj))), (ro, aI G 1500 RW)]) rfl i rfl (by omega) (by decide) rfl d_Mo_line_106 ?_
                  refine v_aload_n (pc := 107) C 1 d_Mo_line_107 rfl rfl ?_
                  refine v_get (pc := 108) (Cn := "WeightOrderModel") (T := T_Mo) (N := 17) (ci := 7) (v := .ref ro) C 1 5 rfl rfl hin_Mo (by decide) rfl k_467 rfl d_Mo_line_108 ?_
                  refine v_iconst (pc := 111) C (nI 3) d_Mo_line_111 (by decide +kernel) ?_
                  refine v_iload (pc := 112) C 0 d_Mo_line_112 rfl ?_
                  refine v_imul (pc := 114) C (nI (3 * i)) d_Mo_line_114 (pk_mul _ _) ?_
                  refine v_iload_n (pc := 115) C 3 d_Mo_line_115 rfl rfl ?_
                  refine v_iast (pc := 116) C 3 ([(co, aI G 500 CO), (h, ob 7 [.int (nI 0), .ref pa, .ref ca, .int (nI nc), .ref la, .ref ro, .ref co, .ref ea, .int (nI A.length), .int td, .ref tx, .ref sz, .ref lf, .int (nI lz), .ref fo, .int (nI fz), .ref f1]), (la, aI G 500 (upd LN i (nI nj))), (ro, aI G 1500 (upd RW (3 * i) (nI aj)))]) rfl (3 * i) rfl (by omega) (by decide) rfl d_Mo_line_116 ?_
                  refine v_aload_n (pc := 117) C 1 d_Mo_line_117 rfl rfl ?_
                  refine v_get (pc := 118) (Cn := "WeightOrderModel") (T := T_Mo) (N := 17) (ci := 7) (v := .ref ro) C 1 5 rfl rfl hin_Mo (by decide) rfl k_467 rfl d_Mo_line_118 ?_
                  refine v_iconst (pc := 121) C (nI 3) d_Mo_line_121 (by decide +kernel) ?_
                  refine v_iload (pc := 122) C 0 d_Mo_line_122 rfl ?_
                  refine v_imul (pc := 124) C (nI (3 * i)) d_Mo_line_124 (pk_mul _ _) ?_
                  refine v_iconst (pc := 125) C (nI 1) d_Mo_line_125 (by decide +kernel) ?_
                  refine v_iadd (pc := 126) C (nI (3 * i + 1)) d_Mo_line_126 (nI_add _ _) ?_
                  refine v_iload_n (pc := 127) C 4 d_Mo_line_127 rfl rfl ?_
                  refine v_iast (pc := 128) C 3 ([(co, aI G 500 CO), (h, ob 7 [.int (nI 0), .ref pa, .ref ca, .int (nI nc), .ref la, .ref ro, .ref co, .ref ea, .int (nI A.length), .int td, .ref tx, .ref sz, .ref lf, .int (nI lz), .ref fo, .int (nI fz), .ref f1]), (la, aI G 500 (upd LN i (nI nj))), (ro, aI G 1500 (upd (upd RW (3 * i) (nI aj)) (3 * i + 1) (nI bj)))]) rfl (3 * i + 1) rfl (by omega) (by decide) rfl d_Mo_line_128 ?_
                  refine v_aload_n (pc := 129) C 1 d_Mo_line_129 rfl rfl ?_
                  refine v_get (pc := 130) (Cn := "WeightOrderModel") (T := T_Mo) (N := 17) (ci := 7) (v := .ref ro) C 1 5 rfl rfl hin_Mo (by decide) rfl k_467 rfl d_Mo_line_130 ?_
                  refine v_iconst (pc := 133) C (nI 3) d_Mo_line_133 (by decide +kernel) ?_
                  refine v_iload (pc := 134) C 0 d_Mo_line_134 rfl ?_
                  refine v_imul (pc := 136) C (nI (3 * i)) d_Mo_line_136 (pk_mul _ _) ?_
                  refine v_iconst (pc := 137) C (nI 2) d_Mo_line_137 (by decide +kernel) ?_
                  refine v_iadd (pc := 138) C (nI (3 * i + 2)) d_Mo_line_138 (nI_add _ _) ?_
                  refine v_iload (pc := 139) C 5 d_Mo_line_139 rfl ?_
                  refine v_iast (pc := 141) C 3 ([(co, aI G 500 CO), (h, ob 7 [.int (nI 0), .ref pa, .ref ca, .int (nI nc), .ref la, .ref ro, .ref co, .ref ea, .int (nI A.length), .int td, .ref tx, .ref sz, .ref lf, .int (nI lz), .ref fo, .int (nI fz), .ref f1]), (la, aI G 500 (upd LN i (nI nj))), (ro, aI G 1500 (upd (upd (upd RW (3 * i) (nI aj)) (3 * i + 1) (nI bj)) (3 * i + 2) (nI dj)))]) rfl (3 * i + 2) rfl (by omega) (by decide) rfl d_Mo_line_141 ?_
                  refine v_aload_n (pc := 142) C 1 d_Mo_line_142 rfl rfl ?_
                  refine v_get (pc := 143) (Cn := "WeightOrderModel") (T := T_Mo) (N := 17) (ci := 7) (v := .ref co) C 1 6 rfl rfl hin_Mo (by decide) rfl k_468 rfl d_Mo_line_143 ?_
                  refine v_iload (pc := 146) C 0 d_Mo_line_146 rfl ?_
                  refine v_iconst (pc := 148) C (nI 0) d_Mo_line_148 (by decide +kernel) ?_
                  refine v_iast (pc := 149) C 0 ([(co, aI G 500 (upd CO i (nI 0))), (h, ob 7 [.int (nI 0), .ref pa, .ref ca, .int (nI nc), .ref la, .ref ro, .ref co, .ref ea, .int (nI A.length), .int td, .ref tx, .ref sz, .ref lf, .int (nI lz), .ref fo, .int (nI fz), .ref f1]), (la, aI G 500 (upd LN i (nI nj))), (ro, aI G 1500 (upd (upd (upd RW (3 * i) (nI aj)) (3 * i + 1) (nI bj)) (3 * i + 2) (nI dj)))]) rfl i rfl (by omega) (by decide) rfl d_Mo_line_149 ?_
                  refine v_aload_n (pc := 150) C 1 d_Mo_line_150 rfl rfl ?_
                  refine v_iload (pc := 151) C 0 d_Mo_line_151 rfl ?_
                  refine v_put (pc := 153) (Cn := "WeightOrderModel") (T := T_Mo) (N := 17) (ci := 7) (v := .int (nI i)) C 1 9 rfl rfl hin_Mo (by decide) rfl ([(co, aI G 500 (upd CO i (nI 0))), (h, ob 7 [.int (nI 0), .ref pa, .ref ca, .int (nI nc), .ref la, .ref ro, .ref co, .ref ea, .int (nI A.length), .int (nI i), .ref tx, .ref sz, .ref lf, .int (nI lz), .ref fo, .int (nI fz), .ref f1]), (la, aI G 500 (upd LN i (nI nj))), (ro, aI G 1500 (upd (upd (upd RW (3 * i) (nI aj)) (3 * i + 1) (nI bj)) (3 * i + 2) (nI dj)))]) t_Mo t_Mo_ok n_Mo (.int) rfl rfl rfl (Nat.le_of_ble_eq_true rfl) rfl rfl k_471 d_Mo_line_153 ?_
                  refine v_aload_n (pc := 156) C 1 d_Mo_line_156 rfl rfl ?_
                  refine v_get (pc := 157) (Cn := "WeightOrderModel") (T := T_Mo) (N := 17) (ci := 7) (v := .int (nI A.length)) C 1 8 rfl rfl hin_Mo (by decide) rfl k_470 rfl d_Mo_line_157 ?_
                  refine v_wsub [1, 2, 3, 0] ([(h, ob 7 [.int (nI 0), .ref pa, .ref ca, .int (nI nc), .ref la, .ref ro, .ref co, .ref ea, .int (nI A.length), .int (nI i), .ref tx, .ref sz, .ref lf, .int (nI lz), .ref fo, .int (nI fz), .ref f1]), (la, aI G 500 (upd LN i (nI nj))), (ro, aI G 1500 (upd (upd (upd RW (3 * i) (nI aj)) (3 * i + 1) (nI bj)) (3 * i + 2) (nI dj))), (co, aI G 500 (upd CO i (nI 0)))]) rfl rfl ?_
                  exact v_iret (pc := 160) C X d_Mo_line_160 (Or.inr (Or.inr ⟨hnb, fun z => (by rw [hf] at z; cases z.1), by rw [htl], upd LN i (nI nj), _, _, by rw [htl, hti], by omega, by rw [hti] at hlm; exact hlm, by rw [hti] at hem; exact hem⟩)) (by decide) (by decide)
                · omega
              · omega
          · refine v_aload_n (pc := 40) C 0 d_Mo_line_40 rfl rfl ?_
            refine v_iconst (pc := 41) C (nI 1) d_Mo_line_41 (by decide +kernel) ?_
            refine v_callV (pc := 42) (As := [.int (nI 1)]) (rest := []) C (c_Mo_fail _ G h pa ca la ro co ea tx sz lf fo f1 (nI 0) td nc A.length lz fz 1) l_Mo_63 ([(la, aI G 500 LN), (ro, aI G 1500 RW), (co, aI G 500 CO)]) (sp_pos [0, 1, 2] [3] rfl rfl rfl) 0 rfl rfl rfl rfl rfl (Nat.le_of_ble_eq_true rfl) (by decide) (by decide) (by decide) (by decide) d_Mo_line_42 (fun r w' hq => ?_)
            obtain ⟨rfl, rfl⟩ := hq
            show vv K ({ frames := 1, cells := 0, slots := 0, locals := 60 } : Room) G 6 0 0 ([(la, aI G 500 LN), (ro, aI G 1500 RW), (co, aI G 500 CO), (h, ob 7 [.int (nI 1), .ref pa, .ref ca, .int (nI nc), .ref la, .ref ro, .ref co, .ref ea, .int (nI A.length), .int td, .ref tx, .ref sz, .ref lf, .int (nI lz), .ref fo, .int (nI fz), .ref f1])]) 45 [(0, .ref h), (1, .int na), (2, .int pa9), (3, .int pb9), (4, .int pd9)] [.int (nI 0)]
            refine v_wsub [3, 0, 1, 2] ([(h, ob 7 [.int (nI 1), .ref pa, .ref ca, .int (nI nc), .ref la, .ref ro, .ref co, .ref ea, .int (nI A.length), .int td, .ref tx, .ref sz, .ref lf, .int (nI lz), .ref fo, .int (nI fz), .ref f1]), (la, aI G 500 LN), (ro, aI G 1500 RW), (co, aI G 500 CO)]) rfl rfl ?_
            exact v_iret (pc := 45) C X d_Mo_line_45 (Or.inl ⟨Or.inr (Or.inr (Or.inr (Or.inr (ou_1 h5)))), rfl, rfl⟩) (by decide) (by decide)
