/-! Finder.seekBehind -/
theorem beh_nil (fi : Nat → Option Nat) (cl : Nat → Nat) (k n i most : Nat) (P : List Nat) : beh fi cl k n i most P [] = (i, P) := by unfold beh; rfl
theorem beh_stop {fi : Nat → Option Nat} {cl : Nat → Nat} {k n i most : Nat} {P : List Nat} {x : Nat} {xs : List Nat} (h : cl x = 0 ∨ 3 ≤ n) : beh fi cl k n i most P (x :: xs) = (i, P ++ x :: xs) := by
  rw [beh, if_pos h]
theorem beh_pass {fi : Nat → Option Nat} {cl : Nat → Nat} {k n i most : Nat} {P : List Nat} {x : Nat} {xs : List Nat} (h : ¬ (cl x = 0 ∨ 3 ≤ n)) (h2 : cl x ≤ most ∨ fi (kx k x) = none) : beh fi cl k n i most P (x :: xs) = beh fi cl k n i (max most (cl x)) (P ++ [x]) xs := by
  have e : (if most < cl x then fi (kx k x) else none) = none := by
    rcases h2 with h2 | h2
    · rw [if_neg (by omega)]
    · rw [h2]; split <;> rfl
  rw [beh, if_neg h]
  simp only [e]
theorem beh_grow {fi : Nat → Option Nat} {cl : Nat → Nat} {k n i most j : Nat} {P : List Nat} {x : Nat} {xs : List Nat} (h : ¬ (cl x = 0 ∨ 3 ≤ n)) (h2 : most < cl x) (h3 : fi (kx k x) = some j) : beh fi cl k n i most P (x :: xs) = beh fi cl (kx k x) (n + 1) j most P xs := by
  have e : (if most < cl x then fi (kx k x) else none) = some j := by rw [if_pos h2, h3]
  rw [beh, if_neg h]
  simp only [e]
theorem kx_pow {k n x : Nat} (h : k < 2097152 ^ n) (hx : x ≤ 1114111) : kx k x < 2097152 ^ (n + 1) := by
  rw [Nat.pow_succ]; unfold kx; omega
theorem pow_le2 {k n : Nat} (h : k < 2097152 ^ n) (hn : n ≤ 2) : k < 4398046511104 := Nat.lt_of_lt_of_le h (Nat.le_trans (Nat.pow_le_pow_right (by decide) hn) (by decide))

set_option maxHeartbeats 4000000 in
set_option maxRecDepth 100000 in
theorem c_Fi_seekBehind (l : Launch) (G : Gx) (x t p c st k0 n0 i0 : Nat) (z0 : LnX) (f g : Nat → Int32) (cl : Nat → Nat) (rem : List Nat) (s nt a b m : Nat) (td : Option Nat) (ks : Nat → Int64) (vs : Nat → Int32) (mf : Nat → Option Nat) (L : List LnX) (hF : FnS cl f g st rem) (hst : st + rem.length ≤ 200) (hz : L[i0]? = some z0) (hk : k0 < 2097152 ^ n0) (hn : n0 ≤ 3) (hcl : ∀ x, x ≤ 1114111 → cl x ≤ 254) (hL : LOk L) (hT : TB ks vs L.length (fun j => (fnd j L).map nI)) (hM : MdS L mf) : CT l G y_Fi_seekBehind b_Fi_seekBehind 4 none ({ frames := 3, cells := 0, slots := 0, locals := 83 } : Room) ([(x, ob 5 [.ref t, .ref s, .ref p, .ref c, .int (nI st), .int (nI (st + rem.length)), .long (lN k0), .int (nI n0), .ref z0.1.1]), (p, aI G 200 f), (c, aI G 200 g), (s, ob 2 [.ref nt, .ref m, .int (nI L.length), va_rf (td)]), (nt, ob 0 [.ref a, .ref b, .int (nI L.length)]), (a, aJ G 500 ks), (b, aI G 500 vs), (m, aL G 500 mf)]) [.ref x] (fun r w' => r = none ∧ ∃ st' kv nv z f' g', w' = [(x, ob 5 [.ref t, .ref s, .ref p, .ref c, .int (nI st'), .int (nI (st + rem.length)), .long kv, .int nv, .ref z.1.1]), (p, aI G 200 f'), (c, aI G 200 g'), (s, ob 2 [.ref nt, .ref m, .int (nI L.length), va_rf (td)]), (nt, ob 0 [.ref a, .ref b, .int (nI L.length)]), (a, aJ G 500 ks), (b, aI G 500 vs), (m, aL G 500 mf)] ∧ L[(beh (fun k => fnd k L) cl k0 n0 i0 0 [] rem).1]? = some z ∧ FnS cl f' g' st' (beh (fun k => fnd k L) cl k0 n0 i0 0 [] rem).2 ∧ st' + (beh (fun k => fnd k L) cl k0 n0 i0 0 [] rem).2.length = st + rem.length) := by
  refine ct_of [(0, .ref x)] (by decide) (Nat.le_of_ble_eq_true rfl) rfl (fun K hKl hNI C X => ?_)
  subst hKl
  refine v_iconst (pc := 0) C (nI 0) d_Fi_seekBehind_0 (by decide +kernel) ?_
  refine v_istore_n (pc := 1) C [(1, .int (nI 0)), (0, .ref x)] d_Fi_seekBehind_1 rfl (by decide) rfl ?_
  refine v_aload_n (pc := 2) C 1 d_Fi_seekBehind_2 rfl rfl ?_
  refine v_get (pc := 3) (Cn := "WeightOrder$Finder") (T := T_Fi) (N := 9) (ci := 5) (v := .int (nI st)) C 0 4 rfl rfl hin_Fi (by decide) rfl k_95 rfl d_Fi_seekBehind_3 ?_
  refine v_istore_n (pc := 6) C [(2, .int (nI st)), (1, .int (nI 0)), (0, .ref x)] d_Fi_seekBehind_6 rfl (by decide) rfl ?_
  have loop : ∀ (d : Nat) (xs : List Nat) (P : List Nat) (ii : Nat) (st1 : Nat) (k : Nat) (n : Nat) (j : Nat) (z : LnX) (mo : Nat) (f1 : Nat → Int32) (g1 : Nat → Int32), xs.length < d → (ii = st1 + P.length) → (FnS cl f1 g1 st1 (P ++ xs)) → (st1 + (P ++ xs).length = st + rem.length) → (L[j]? = some z) → (k < 2097152 ^ n) → (n ≤ 3) → (mo ≤ 254) → (beh (fun k => fnd k L) cl k n j mo P xs = beh (fun k => fnd k L) cl k0 n0 i0 0 [] rem) → vv K ({ frames := 3, cells := 0, slots := 0, locals := 83 } : Room) G 4 0 0 ([(x, ob 5 [.ref t, .ref s, .ref p, .ref c, .int (nI st1), .int (nI (st + rem.length)), .long (lN k), .int (nI n), .ref z.1.1]), (p, aI G 200 f1), (c, aI G 200 g1), (s, ob 2 [.ref nt, .ref m, .int (nI L.length), va_rf (td)]), (nt, ob 0 [.ref a, .ref b, .int (nI L.length)]), (a, aJ G 500 ks), (b, aI G 500 vs), (m, aL G 500 mf)]) 7 [(2, .int (nI ii)), (1, .int (nI mo)), (0, .ref x)] [] := by
    intro d
    induction d with
    | zero => intro xs P ii st1 k n j z mo f1 g1 hm; exact absurd hm (Nat.not_lt_zero _)
    | succ d ih =>
      intro xs P ii st1 k n j z mo f1 g1 hm hii hF1 hen hz1 hk1 hn1 hmo heq
      rw [List.length_append] at hen
      cases xs with
      | nil =>
        rw [beh_nil] at heq
        rw [List.append_nil] at hF1
        have hen : st1 + P.length = st + rem.length := hen
        refine v_iload_n (pc := 7) C 0 d_Fi_seekBehind_7 rfl rfl ?_
        refine v_aload_n (pc := 8) C 2 d_Fi_seekBehind_8 rfl rfl ?_
        refine v_get (pc := 9) (Cn := "WeightOrder$Finder") (T := T_Fi) (N := 9) (ci := 5) (v := .int (nI (st + rem.length))) C 0 5 rfl rfl hin_Fi (by decide) rfl k_96 rfl d_Fi_seekBehind_9 ?_
        refine v_icmpN_ge (pc := 12) C 118 ii (st + rem.length) d_Fi_seekBehind_12 (by decide) (by omega) (by omega) (fun hc => ?_) (fun hc => ?_)
        · exact v_vret (pc := 118) C X d_Fi_seekBehind_118 ⟨rfl, st1, lN k, nI n, z, f1, g1, rfl, by rw [← heq]; exact hz1, by rw [← heq]; exact hF1, by rw [← heq]; exact hen⟩ (by decide) (by decide)
        · omega
      | cons y ys =>
        rw [List.length_cons] at hen hm
        have hy0 : (P ++ y :: ys)[P.length]? = some y := by rw [List.getElem?_append_right (Nat.le_refl _), Nat.sub_self]; rfl
        have hy1 := hF1.1 y (List.mem_of_getElem? hy0)
        have hy2 := hF1.2 P.length y hy0
        rw [← hii] at hy2
        have hcy := hcl y hy1
        refine v_iload_n (pc := 7) C 0 d_Fi_seekBehind_7 rfl rfl ?_
        refine v_aload_n (pc := 8) C 2 d_Fi_seekBehind_8 rfl rfl ?_
        refine v_get (pc := 9) (Cn := "WeightOrder$Finder") (T := T_Fi) (N := 9) (ci := 5) (v := .int (nI (st + rem.length))) C 0 5 rfl rfl hin_Fi (by decide) rfl k_96 rfl d_Fi_seekBehind_9 ?_
        refine v_icmpN_ge (pc := 12) C 118 ii (st + rem.length) d_Fi_seekBehind_12 (by decide) (by omega) (by omega) (fun hc => ?_) (fun hc => ?_)
        · omega
        · refine v_aload_n (pc := 15) C 2 d_Fi_seekBehind_15 rfl rfl ?_
          refine v_get (pc := 16) (Cn := "WeightOrder$Finder") (T := T_Fi) (N := 9) (ci := 5) (v := .ref c) C 0 3 rfl rfl hin_Fi (by decide) rfl k_94 rfl d_Fi_seekBehind_16 ?_
          refine v_iload_n (pc := 19) C 0 d_Fi_seekBehind_19 rfl rfl ?_
          refine v_iald (pc := 20) C 2 rfl ii rfl (by omega) (by decide) d_Fi_seekBehind_20 ?_
          refine v_seti (nI (cl y)) hy2.2 ?_
          refine v_ifN_le (pc := 21) C 118 (cl y) d_Fi_seekBehind_21 (by decide) (by omega) (fun h0 => ?_) (fun h0 => ?_)
          · rw [beh_stop (Or.inl (by omega))] at heq
            exact v_vret (pc := 118) C X d_Fi_seekBehind_118 ⟨rfl, st1, lN k, nI n, z, f1, g1, rfl, by rw [← heq]; exact hz1, by rw [← heq]; exact hF1, by rw [← heq, List.length_append, List.length_cons]; exact hen⟩ (by decide) (by decide)
          · refine v_aload_n (pc := 24) C 2 d_Fi_seekBehind_24 rfl rfl ?_
            refine v_get (pc := 25) (Cn := "WeightOrder$Finder") (T := T_Fi) (N := 9) (ci := 5) (v := .int (nI n)) C 0 7 rfl rfl hin_Fi (by decide) rfl k_98 rfl d_Fi_seekBehind_25 ?_
            refine v_iconst (pc := 28) C (nI 3) d_Fi_seekBehind_28 (by decide +kernel) ?_
            refine v_icmpN_ge (pc := 29) C 118 n 3 d_Fi_seekBehind_29 (by decide) (by omega) (by omega) (fun h3 => ?_) (fun h3 => ?_)
            · rw [beh_stop (Or.inr h3)] at heq
              exact v_vret (pc := 118) C X d_Fi_seekBehind_118 ⟨rfl, st1, lN k, nI n, z, f1, g1, rfl, by rw [← heq]; exact hz1, by rw [← heq]; exact hF1, by rw [← heq, List.length_append, List.length_cons]; exact hen⟩ (by decide) (by decide)
            · refine v_null (pc := 32) C d_Fi_seekBehind_32 ?_
              refine v_astore_nN (pc := 33) C [(3, .null), (2, .int (nI ii)), (1, .int (nI mo)), (0, .ref x)] d_Fi_seekBehind_33 rfl (by decide) rfl ?_
              refine v_aload_n (pc := 34) C 3 d_Fi_seekBehind_34 rfl rfl ?_
              refine v_get (pc := 35) (Cn := "WeightOrder$Finder") (T := T_Fi) (N := 9) (ci := 5) (v := .ref c) C 0 3 rfl rfl hin_Fi (by decide) rfl k_94 rfl d_Fi_seekBehind_35 ?_
              refine v_iload_n (pc := 38) C 1 d_Fi_seekBehind_38 rfl rfl ?_
              refine v_iald (pc := 39) C 2 rfl ii rfl (by omega) (by decide) d_Fi_seekBehind_39 ?_
              refine v_seti (nI (cl y)) hy2.2 ?_
              have hgo : ¬ (cl y = 0 ∨ 3 ≤ n) := by omega
              refine v_iload_n (pc := 40) C 2 d_Fi_seekBehind_40 rfl rfl ?_
              refine v_icmpN_le (pc := 41) C 65 (cl y) mo d_Fi_seekBehind_41 (by decide) (by omega) (by omega) (fun h4 => ?_) (fun h4 => ?_)
              · refine v_aload_nN (pc := 65) C 0 d_Fi_seekBehind_65 rfl rfl ?_
                refine v_ifnonnullN (pc := 66) C d_Fi_seekBehind_66 ?_
                refine v_iload_n (pc := 69) C 2 d_Fi_seekBehind_69 rfl rfl ?_
                refine v_aload_n (pc := 70) C 3 d_Fi_seekBehind_70 rfl rfl ?_
                refine v_get (pc := 71) (Cn := "WeightOrder$Finder") (T := T_Fi) (N := 9) (ci := 5) (v := .ref c) C 0 3 rfl rfl hin_Fi (by decide) rfl k_94 rfl d_Fi_seekBehind_71 ?_
                refine v_iload_n (pc := 74) C 1 d_Fi_seekBehind_74 rfl rfl ?_
                refine v_iald (pc := 75) C 2 rfl ii rfl (by omega) (by decide) d_Fi_seekBehind_75 ?_
                refine v_seti (nI (cl y)) hy2.2 ?_
                refine v_mmax (pc := 76) C mo (cl y) (by omega) (by omega) k_417 (by decide) (by decide) (by decide) (by decide) d_Fi_seekBehind_76 ?_
                refine v_istore_n (pc := 79) C [(1, .int (nI (max mo (cl y)))), (3, .null), (2, .int (nI ii)), (0, .ref x)] d_Fi_seekBehind_79 rfl (by decide) rfl ?_
                refine v_goto (pc := 80) C 112 d_Fi_seekBehind_80 (by decide) ?_
                refine v_iinc (pc := 112) C [(2, .int (nI (ii + 1))), (1, .int (nI (max mo (cl y)))), (3, .null), (0, .ref x)] 2 (nI (ii + 1)) d_Fi_seekBehind_112 rfl (nI_inc1 _) (by decide) rfl ?_
                refine v_goto (pc := 115) C 7 d_Fi_seekBehind_115 (by decide) ?_
                refine v_wsub [0, 1, 2, 3, 4, 5, 6, 7] ([(x, ob 5 [.ref t, .ref s, .ref p, .ref c, .int (nI st1), .int (nI (st + rem.length)), .long (lN k), .int (nI n), .ref z.1.1]), (p, aI G 200 f1), (c, aI G 200 g1), (s, ob 2 [.ref nt, .ref m, .int (nI L.length), va_rf (td)]), (nt, ob 0 [.ref a, .ref b, .int (nI L.length)]), (a, aJ G 500 ks), (b, aI G 500 vs), (m, aL G 500 mf)]) rfl rfl ?_
                refine v_lsub [0, 1, 3] [(2, .int (nI (ii + 1))), (1, .int (nI (max mo (cl y)))), (0, .ref x)] rfl ?_
                rw [beh_pass hgo (Or.inl h4)] at heq
                exact ih ys (P ++ [y]) (ii + 1) st1 k n j z (max mo (cl y)) f1 g1 (by omega) (by rw [List.length_append, List.length_singleton]; omega) (by rw [List.append_assoc]; exact hF1) (by rw [List.append_assoc, List.length_append]; exact hen) hz1 hk1 hn1 (by omega) heq
              · have hk2 := pow_le2 hk1 (show n ≤ 2 by omega)
                refine v_aload_n (pc := 44) C 3 d_Fi_seekBehind_44 rfl rfl ?_
                refine v_get (pc := 45) (Cn := "WeightOrder$Finder") (T := T_Fi) (N := 9) (ci := 5) (v := .ref s) C 0 1 rfl rfl hin_Fi (by decide) rfl k_92 rfl d_Fi_seekBehind_45 ?_
                refine v_aload_n (pc := 48) C 3 d_Fi_seekBehind_48 rfl rfl ?_
                refine v_get (pc := 49) (Cn := "WeightOrder$Finder") (T := T_Fi) (N := 9) (ci := 5) (v := .long (lN k)) C 0 6 rfl rfl hin_Fi (by decide) rfl k_97 rfl d_Fi_seekBehind_49 ?_
                refine v_aload_n (pc := 52) C 3 d_Fi_seekBehind_52 rfl rfl ?_
                refine v_get (pc := 53) (Cn := "WeightOrder$Finder") (T := T_Fi) (N := 9) (ci := 5) (v := .ref p) C 0 2 rfl rfl hin_Fi (by decide) rfl k_93 rfl d_Fi_seekBehind_53 ?_
                refine v_iload_n (pc := 56) C 1 d_Fi_seekBehind_56 rfl rfl ?_
                refine v_iald (pc := 57) C 1 rfl ii rfl (by omega) (by decide) d_Fi_seekBehind_57 ?_
                refine v_seti (nI y) hy2.1 ?_
                refine v_callS (pc := 58) (As := [.long (lN k), .int (nI y)]) (rest := [.ref s]) C (c_Wo_longerKey _ G k y hy1 hk2) l_Fi_80 ([(x, ob 5 [.ref t, .ref s, .ref p, .ref c, .int (nI st1), .int (nI (st + rem.length)), .long (lN k), .int (nI n), .ref z.1.1]), (p, aI G 200 f1), (c, aI G 200 g1), (s, ob 2 [.ref nt, .ref m, .int (nI L.length), va_rf (td)]), (nt, ob 0 [.ref a, .ref b, .int (nI L.length)]), (a, aJ G 500 ks), (b, aI G 500 vs), (m, aL G 500 mf)]) (sp_pos [0, 1, 2, 3, 4, 5, 6, 7] [] rfl rfl rfl) rfl rfl (Nat.le_of_ble_eq_true rfl) (by decide) (by decide) (by decide) (by decide) d_Fi_seekBehind_58 (fun r w' hq => ?_)
                obtain ⟨rfl, rfl⟩ := hq
                show vv K ({ frames := 3, cells := 0, slots := 0, locals := 83 } : Room) G 4 0 0 ([(x, ob 5 [.ref t, .ref s, .ref p, .ref c, .int (nI st1), .int (nI (st + rem.length)), .long (lN k), .int (nI n), .ref z.1.1]), (p, aI G 200 f1), (c, aI G 200 g1), (s, ob 2 [.ref nt, .ref m, .int (nI L.length), va_rf (td)]), (nt, ob 0 [.ref a, .ref b, .int (nI L.length)]), (a, aJ G 500 ks), (b, aI G 500 vs), (m, aL G 500 mf)]) 61 [(3, .null), (2, .int (nI ii)), (1, .int (nI mo)), (0, .ref x)] [.long (lN (kx k y)), .ref s]
                refine v_callV (pc := 61) (As := [.long (lN (kx k y))]) (rest := []) C (c_Ls_find _ G s nt a b m td ks vs mf L (kx k y) hL hT hM (kx_lt hy1 hk2)) l_Fi_84 ([(x, ob 5 [.ref t, .ref s, .ref p, .ref c, .int (nI st1), .int (nI (st + rem.length)), .long (lN k), .int (nI n), .ref z.1.1]), (p, aI G 200 f1), (c, aI G 200 g1)]) (sp_pos [0, 1, 2] [3, 4, 5, 6, 7] rfl rfl rfl) 0 rfl rfl rfl rfl rfl (Nat.le_of_ble_eq_true rfl) (by decide) (by decide) (by decide) (by decide) d_Fi_seekBehind_61 (fun r w' hq => ?_)
                obtain ⟨rfl, rfl⟩ := hq
                show vv K ({ frames := 3, cells := 0, slots := 0, locals := 83 } : Room) G 4 0 0 ([(x, ob 5 [.ref t, .ref s, .ref p, .ref c, .int (nI st1), .int (nI (st + rem.length)), .long (lN k), .int (nI n), .ref z.1.1]), (p, aI G 200 f1), (c, aI G 200 g1), (s, ob 2 [.ref nt, .ref m, .int (nI L.length), va_rf (td)]), (nt, ob 0 [.ref a, .ref b, .int (nI L.length)]), (a, aJ G 500 ks), (b, aI G 500 vs), (m, aL G 500 mf)]) 64 [(3, .null), (2, .int (nI ii)), (1, .int (nI mo)), (0, .ref x)] [va_rf (adr (kx k y) L)]
                cases hf : fnd (kx k y) L with
                | none =>
                  rw [show adr (kx k y) L = none by unfold adr; rw [hf]; rfl]
                  show vv K ({ frames := 3, cells := 0, slots := 0, locals := 83 } : Room) G 4 0 0 ([(x, ob 5 [.ref t, .ref s, .ref p, .ref c, .int (nI st1), .int (nI (st + rem.length)), .long (lN k), .int (nI n), .ref z.1.1]), (p, aI G 200 f1), (c, aI G 200 g1), (s, ob 2 [.ref nt, .ref m, .int (nI L.length), va_rf (td)]), (nt, ob 0 [.ref a, .ref b, .int (nI L.length)]), (a, aJ G 500 ks), (b, aI G 500 vs), (m, aL G 500 mf)]) 64 [(3, .null), (2, .int (nI ii)), (1, .int (nI mo)), (0, .ref x)] [.null]
                  refine v_astore_nN (pc := 64) C [(3, .null), (2, .int (nI ii)), (1, .int (nI mo)), (0, .ref x)] d_Fi_seekBehind_64 rfl (by decide) rfl ?_
                  refine v_aload_nN (pc := 65) C 0 d_Fi_seekBehind_65 rfl rfl ?_
                  refine v_ifnonnullN (pc := 66) C d_Fi_seekBehind_66 ?_
                  refine v_iload_n (pc := 69) C 2 d_Fi_seekBehind_69 rfl rfl ?_
                  refine v_aload_n (pc := 70) C 3 d_Fi_seekBehind_70 rfl rfl ?_
                  refine v_get (pc := 71) (Cn := "WeightOrder$Finder") (T := T_Fi) (N := 9) (ci := 5) (v := .ref c) C 0 3 rfl rfl hin_Fi (by decide) rfl k_94 rfl d_Fi_seekBehind_71 ?_
                  refine v_iload_n (pc := 74) C 1 d_Fi_seekBehind_74 rfl rfl ?_
                  refine v_iald (pc := 75) C 2 rfl ii rfl (by omega) (by decide) d_Fi_seekBehind_75 ?_
                  refine v_seti (nI (cl y)) hy2.2 ?_
                  refine v_mmax (pc := 76) C mo (cl y) (by omega) (by omega) k_417 (by decide) (by decide) (by decide) (by decide) d_Fi_seekBehind_76 ?_
                  refine v_istore_n (pc := 79) C [(1, .int (nI (max mo (cl y)))), (3, .null), (2, .int (nI ii)), (0, .ref x)] d_Fi_seekBehind_79 rfl (by decide) rfl ?_
                  refine v_goto (pc := 80) C 112 d_Fi_seekBehind_80 (by decide) ?_
                  refine v_iinc (pc := 112) C [(2, .int (nI (ii + 1))), (1, .int (nI (max mo (cl y)))), (3, .null), (0, .ref x)] 2 (nI (ii + 1)) d_Fi_seekBehind_112 rfl (nI_inc1 _) (by decide) rfl ?_
                  refine v_goto (pc := 115) C 7 d_Fi_seekBehind_115 (by decide) ?_
                  refine v_wsub [0, 1, 2, 3, 4, 5, 6, 7] ([(x, ob 5 [.ref t, .ref s, .ref p, .ref c, .int (nI st1), .int (nI (st + rem.length)), .long (lN k), .int (nI n), .ref z.1.1]), (p, aI G 200 f1), (c, aI G 200 g1), (s, ob 2 [.ref nt, .ref m, .int (nI L.length), va_rf (td)]), (nt, ob 0 [.ref a, .ref b, .int (nI L.length)]), (a, aJ G 500 ks), (b, aI G 500 vs), (m, aL G 500 mf)]) rfl rfl ?_
                  refine v_lsub [0, 1, 3] [(2, .int (nI (ii + 1))), (1, .int (nI (max mo (cl y)))), (0, .ref x)] rfl ?_
                  rw [beh_pass hgo (Or.inr hf)] at heq
                  exact ih ys (P ++ [y]) (ii + 1) st1 k n j z (max mo (cl y)) f1 g1 (by omega) (by rw [List.length_append, List.length_singleton]; omega) (by rw [List.append_assoc]; exact hF1) (by rw [List.append_assoc, List.length_append]; exact hen) hz1 hk1 hn1 (by omega) heq
                | some j2 =>
                  obtain ⟨z2, hz2, hzk⟩ := fnd_some hf
                  rw [show adr (kx k y) L = some z2.1.1 by unfold adr; rw [hf]; show (L[j2]?.map _) = _; rw [hz2]; rfl]
                  show vv K ({ frames := 3, cells := 0, slots := 0, locals := 83 } : Room) G 4 0 0 ([(x, ob 5 [.ref t, .ref s, .ref p, .ref c, .int (nI st1), .int (nI (st + rem.length)), .long (lN k), .int (nI n), .ref z.1.1]), (p, aI G 200 f1), (c, aI G 200 g1), (s, ob 2 [.ref nt, .ref m, .int (nI L.length), va_rf (td)]), (nt, ob 0 [.ref a, .ref b, .int (nI L.length)]), (a, aJ G 500 ks), (b, aI G 500 vs), (m, aL G 500 mf)]) 64 [(3, .null), (2, .int (nI ii)), (1, .int (nI mo)), (0, .ref x)] [.ref z2.1.1]
                  refine v_astore_n (pc := 64) C [(3, .ref z2.1.1), (2, .int (nI ii)), (1, .int (nI mo)), (0, .ref x)] d_Fi_seekBehind_64 rfl (by decide) rfl ?_
                  refine v_aload_n (pc := 65) C 0 d_Fi_seekBehind_65 rfl rfl ?_
                  refine v_ifnonnull (pc := 66) C 83 d_Fi_seekBehind_66 (by decide) ?_
                  refine v_aload_n (pc := 83) C 3 d_Fi_seekBehind_83 rfl rfl ?_
                  refine v_aload_n (pc := 84) C 3 d_Fi_seekBehind_84 rfl rfl ?_
                  refine v_get (pc := 85) (Cn := "WeightOrder$Finder") (T := T_Fi) (N := 9) (ci := 5) (v := .long (lN k)) C 0 6 rfl rfl hin_Fi (by decide) rfl k_97 rfl d_Fi_seekBehind_85 ?_
                  refine v_aload_n (pc := 88) C 3 d_Fi_seekBehind_88 rfl rfl ?_
                  refine v_get (pc := 89) (Cn := "WeightOrder$Finder") (T := T_Fi) (N := 9) (ci := 5) (v := .ref p) C 0 2 rfl rfl hin_Fi (by decide) rfl k_93 rfl d_Fi_seekBehind_89 ?_
                  refine v_iload_n (pc := 92) C 1 d_Fi_seekBehind_92 rfl rfl ?_
                  refine v_iald (pc := 93) C 1 rfl ii rfl (by omega) (by decide) d_Fi_seekBehind_93 ?_
                  refine v_seti (nI y) hy2.1 ?_
                  refine v_callS (pc := 94) (As := [.long (lN k), .int (nI y)]) (rest := [.ref x]) C (c_Wo_longerKey _ G k y hy1 hk2) l_Fi_80 ([(x, ob 5 [.ref t, .ref s, .ref p, .ref c, .int (nI st1), .int (nI (st + rem.length)), .long (lN k), .int (nI n), .ref z.1.1]), (p, aI G 200 f1), (c, aI G 200 g1), (s, ob 2 [.ref nt, .ref m, .int (nI L.length), va_rf (td)]), (nt, ob 0 [.ref a, .ref b, .int (nI L.length)]), (a, aJ G 500 ks), (b, aI G 500 vs), (m, aL G 500 mf)]) (sp_pos [0, 1, 2, 3, 4, 5, 6, 7] [] rfl rfl rfl) rfl rfl (Nat.le_of_ble_eq_true rfl) (by decide) (by decide) (by decide) (by decide) d_Fi_seekBehind_94 (fun r w' hq => ?_)
                  obtain ⟨rfl, rfl⟩ := hq
                  show vv K ({ frames := 3, cells := 0, slots := 0, locals := 83 } : Room) G 4 0 0 ([(x, ob 5 [.ref t, .ref s, .ref p, .ref c, .int (nI st1), .int (nI (st + rem.length)), .long (lN k), .int (nI n), .ref z.1.1]), (p, aI G 200 f1), (c, aI G 200 g1), (s, ob 2 [.ref nt, .ref m, .int (nI L.length), va_rf (td)]), (nt, ob 0 [.ref a, .ref b, .int (nI L.length)]), (a, aJ G 500 ks), (b, aI G 500 vs), (m, aL G 500 mf)]) 97 [(3, .ref z2.1.1), (2, .int (nI ii)), (1, .int (nI mo)), (0, .ref x)] [.long (lN (kx k y)), .ref x]
                  refine v_aload_n (pc := 97) C 3 d_Fi_seekBehind_97 rfl rfl ?_
                  refine v_get (pc := 98) (Cn := "WeightOrder$Finder") (T := T_Fi) (N := 9) (ci := 5) (v := .int (nI n)) C 0 7 rfl rfl hin_Fi (by decide) rfl k_98 rfl d_Fi_seekBehind_98 ?_
                  refine v_iconst (pc := 101) C (nI 1) d_Fi_seekBehind_101 (by decide +kernel) ?_
                  refine v_iadd (pc := 102) C (nI (n + 1)) d_Fi_seekBehind_102 (nI_add _ _) ?_
                  refine v_aload_n (pc := 103) C 0 d_Fi_seekBehind_103 rfl rfl ?_
                  refine v_callV (pc := 104) (As := [.long (lN (kx k y)), .int (nI (n + 1)), .ref z2.1.1]) (rest := []) C (c_Fi_become _ G x t s p c (nI st1) (nI (st + rem.length)) (nI n) (nI (n + 1)) (lN k) (lN (kx k y)) (some z.1.1) z2.1.1) l_Fi_90 ([(p, aI G 200 f1), (c, aI G 200 g1), (s, ob 2 [.ref nt, .ref m, .int (nI L.length), va_rf (td)]), (nt, ob 0 [.ref a, .ref b, .int (nI L.length)]), (a, aJ G 500 ks), (b, aI G 500 vs), (m, aL G 500 mf)]) (sp_pos [1, 2, 3, 4, 5, 6, 7] [0] rfl rfl rfl) 0 rfl rfl rfl rfl rfl (Nat.le_of_ble_eq_true rfl) (by decide) (by decide) (by decide) (by decide) d_Fi_seekBehind_104 (fun r w' hq => ?_)
                  obtain ⟨rfl, rfl⟩ := hq
                  show vv K ({ frames := 3, cells := 0, slots := 0, locals := 83 } : Room) G 4 0 0 ([(p, aI G 200 f1), (c, aI G 200 g1), (s, ob 2 [.ref nt, .ref m, .int (nI L.length), va_rf (td)]), (nt, ob 0 [.ref a, .ref b, .int (nI L.length)]), (a, aJ G 500 ks), (b, aI G 500 vs), (m, aL G 500 mf), (x, ob 5 [.ref t, .ref s, .ref p, .ref c, .int (nI st1), .int (nI (st + rem.length)), .long (lN (kx k y)), .int (nI (n + 1)), .ref z2.1.1])]) 107 [(3, .ref z2.1.1), (2, .int (nI ii)), (1, .int (nI mo)), (0, .ref x)] []
                  subst hii
                  refine v_aload_n (pc := 107) C 3 d_Fi_seekBehind_107 rfl rfl ?_
                  refine v_iload_n (pc := 108) C 1 d_Fi_seekBehind_108 rfl rfl ?_
                  refine v_callV (pc := 109) (As := [.int (nI (st1 + P.length))]) (rest := []) C (c_Fi_closeGap _ G x t s p c st1 P.length (nI (st + rem.length)) (nI (n + 1)) (lN (kx k y)) (some z2.1.1) f1 g1 (by omega)) l_Fi_104 ([(s, ob 2 [.ref nt, .ref m, .int (nI L.length), va_rf (td)]), (nt, ob 0 [.ref a, .ref b, .int (nI L.length)]), (a, aJ G 500 ks), (b, aI G 500 vs), (m, aL G 500 mf)]) (sp_pos [2, 3, 4, 5, 6] [7, 0, 1] rfl rfl rfl) 0 rfl rfl rfl rfl rfl (Nat.le_of_ble_eq_true rfl) (by decide) (by decide) (by decide) (by decide) d_Fi_seekBehind_109 (fun r w' hq => ?_)
                  obtain ⟨rfl, rfl⟩ := hq
                  show vv K ({ frames := 3, cells := 0, slots := 0, locals := 83 } : Room) G 4 0 0 ([(s, ob 2 [.ref nt, .ref m, .int (nI L.length), va_rf (td)]), (nt, ob 0 [.ref a, .ref b, .int (nI L.length)]), (a, aJ G 500 ks), (b, aI G 500 vs), (m, aL G 500 mf), (x, ob 5 [.ref t, .ref s, .ref p, .ref c, .int (nI (st1 + 1)), .int (nI (st + rem.length)), .long (lN (kx k y)), .int (nI (n + 1)), .ref z2.1.1]), (p, aI G 200 (va_cpy f1 f1 st1 (st1 + 1) P.length)), (c, aI G 200 (va_cpy g1 g1 st1 (st1 + 1) P.length))]) 112 [(3, .ref z2.1.1), (2, .int (nI (st1 + P.length))), (1, .int (nI mo)), (0, .ref x)] []
                  refine v_iinc (pc := 112) C [(2, .int (nI (st1 + P.length + 1))), (3, .ref z2.1.1), (1, .int (nI mo)), (0, .ref x)] 1 (nI (st1 + P.length + 1)) d_Fi_seekBehind_112 rfl (nI_inc1 _) (by decide) rfl ?_
                  refine v_goto (pc := 115) C 7 d_Fi_seekBehind_115 (by decide) ?_
                  refine v_wsub [5, 6, 7, 0, 1, 2, 3, 4] ([(x, ob 5 [.ref t, .ref s, .ref p, .ref c, .int (nI (st1 + 1)), .int (nI (st + rem.length)), .long (lN (kx k y)), .int (nI (n + 1)), .ref z2.1.1]), (p, aI G 200 (va_cpy f1 f1 st1 (st1 + 1) P.length)), (c, aI G 200 (va_cpy g1 g1 st1 (st1 + 1) P.length)), (s, ob 2 [.ref nt, .ref m, .int (nI L.length), va_rf (td)]), (nt, ob 0 [.ref a, .ref b, .int (nI L.length)]), (a, aJ G 500 ks), (b, aI G 500 vs), (m, aL G 500 mf)]) rfl rfl ?_
                  refine v_lsub [0, 2, 3] [(2, .int (nI (st1 + P.length + 1))), (1, .int (nI mo)), (0, .ref x)] rfl ?_
                  rw [beh_grow hgo h4 hf] at heq
                  exact ih ys P (st1 + P.length + 1) (st1 + 1) (kx k y) (n + 1) j2 z2 mo _ _ (by omega) (by omega) (fns_gap hF1) (by rw [List.length_append]; omega) hz2 (kx_pow hk1 hy1) (by omega) hmo heq
  refine v_lsub [0, 1, 2] [(2, .int (nI st)), (1, .int (nI 0)), (0, .ref x)] rfl ?_
  exact loop (rem.length + 1) rem [] st st k0 n0 i0 z0 0 f g (by omega) rfl hF rfl hz hk hn (by omega) rfl
