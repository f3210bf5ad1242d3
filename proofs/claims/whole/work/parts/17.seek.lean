/-! Finder.load and the seeking -/
def ClS (F : Nat → Option Int32) (cl : Nat → Nat) : Prop := ∀ x, x ≤ 1114111 → (F x).getD (nI 0) = nI (cl x) ∧ cl x ≤ 254
def RwS (rw : List Nat) (f : Nat → Int32) : Prop := rw.length ≤ 200 ∧ (∀ x ∈ rw, x ≤ 1114111) ∧ ∀ j x, rw[j]? = some x → f j = nI x

set_option maxHeartbeats 4000000 in
set_option maxRecDepth 100000 in
theorem c_Fi_load (l : Launch) (G : Gx) (x t s p c r u a b nc : Nat) (st0 en0 n0 : Int32) (k0 : Int64) (ld : Option Nat) (f g rf vc : Nat → Int32) (kc : Nat → Int64) (rw : List Nat) (Fc : Nat → Option Int32) (cl : Nat → Nat) (hR : RwS rw rf) (hnc : nc ≤ 512) (hT : TB kc vc nc Fc) (hcl : ClS Fc cl) : CT l G y_Fi_load b_Fi_load 3 none ({ frames := 2, cells := 0, slots := 0, locals := 49 } : Room) ([(x, ob 5 [.ref t, .ref s, .ref p, .ref c, .int st0, .int en0, .long k0, .int n0, va_rf (ld)]), (p, aI G 200 f), (c, aI G 200 g), (r, ob 3 [.ref u, .int (nI rw.length)]), (u, aI G 200 rf), (t, ob 0 [.ref a, .ref b, .int (nI nc)]), (a, aJ G 512 kc), (b, aI G 512 vc)]) [.ref x, .ref r] (fun r' w' => r' = none ∧ ∃ f' g', w' = [(x, ob 5 [.ref t, .ref s, .ref p, .ref c, .int (nI 0), .int (nI rw.length), .long k0, .int n0, va_rf (ld)]), (p, aI G 200 f'), (c, aI G 200 g'), (r, ob 3 [.ref u, .int (nI rw.length)]), (u, aI G 200 rf), (t, ob 0 [.ref a, .ref b, .int (nI nc)]), (a, aJ G 512 kc), (b, aI G 512 vc)] ∧ FnS cl f' g' 0 rw) := by
  refine ct_of [(0, .ref x), (1, .ref r)] (by decide) (Nat.le_of_ble_eq_true rfl) rfl (fun K hKl hNI C X => ?_)
  subst hKl
  obtain ⟨hr1, hr2, hr3⟩ := hR
  refine v_aload_n (pc := 0) C 0 d_Fi_load_0 rfl rfl ?_
  refine v_iconst (pc := 1) C (nI 0) d_Fi_load_1 (by decide +kernel) ?_
  refine v_put (pc := 2) (Cn := "WeightOrder$Finder") (T := T_Fi) (N := 9) (ci := 5) (v := .int (nI 0)) C 0 4 rfl rfl hin_Fi (by decide) rfl ([(x, ob 5 [.ref t, .ref s, .ref p, .ref c, .int (nI 0), .int en0, .long k0, .int n0, va_rf (ld)]), (p, aI G 200 f), (c, aI G 200 g), (r, ob 3 [.ref u, .int (nI rw.length)]), (u, aI G 200 rf), (t, ob 0 [.ref a, .ref b, .int (nI nc)]), (a, aJ G 512 kc), (b, aI G 512 vc)]) t_Fi t_Fi_ok n_Fi (.int) rfl rfl rfl (Nat.le_of_ble_eq_true rfl) rfl rfl k_95 d_Fi_load_2 ?_
  refine v_aload_n (pc := 5) C 0 d_Fi_load_5 rfl rfl ?_
  refine v_aload_n (pc := 6) C 1 d_Fi_load_6 rfl rfl ?_
  refine v_getN (pc := 7) (Cn := "WeightOrder$Row") (T := T_Ro) (N := 2) (ci := 3) (v := .int (nI rw.length)) C 3 1 rfl rfl hin_Ro (by decide) rfl k_78 rfl d_Fi_load_7 ?_
  refine v_put (pc := 10) (Cn := "WeightOrder$Finder") (T := T_Fi) (N := 9) (ci := 5) (v := .int (nI rw.length)) C 0 5 rfl rfl hin_Fi (by decide) rfl ([(x, ob 5 [.ref t, .ref s, .ref p, .ref c, .int (nI 0), .int (nI rw.length), .long k0, .int n0, va_rf (ld)]), (p, aI G 200 f), (c, aI G 200 g), (r, ob 3 [.ref u, .int (nI rw.length)]), (u, aI G 200 rf), (t, ob 0 [.ref a, .ref b, .int (nI nc)]), (a, aJ G 512 kc), (b, aI G 512 vc)]) t_Fi t_Fi_ok n_Fi (.int) rfl rfl rfl (Nat.le_of_ble_eq_true rfl) rfl rfl k_96 d_Fi_load_10 ?_
  refine v_iconst (pc := 13) C (nI 0) d_Fi_load_13 (by decide +kernel) ?_
  refine v_istore_n (pc := 14) C [(2, .int (nI 0)), (0, .ref x), (1, .ref r)] d_Fi_load_14 rfl (by decide) rfl ?_
  have loop : ∀ (d : Nat) (i : Nat) (f1 : Nat → Int32) (g1 : Nat → Int32), rw.length - i < d → (i ≤ rw.length) → (∀ j x, j < i → rw[j]? = some x → f1 j = nI x ∧ g1 j = nI (cl x)) → vv K ({ frames := 2, cells := 0, slots := 0, locals := 49 } : Room) G 3 0 0 ([(x, ob 5 [.ref t, .ref s, .ref p, .ref c, .int (nI 0), .int (nI rw.length), .long k0, .int n0, va_rf (ld)]), (p, aI G 200 f1), (c, aI G 200 g1), (r, ob 3 [.ref u, .int (nI rw.length)]), (u, aI G 200 rf), (t, ob 0 [.ref a, .ref b, .int (nI nc)]), (a, aJ G 512 kc), (b, aI G 512 vc)]) 15 [(2, .int (nI i)), (0, .ref x), (1, .ref r)] [] := by
    intro d
    induction d with
    | zero => intro i f1 g1 hm; exact absurd hm (Nat.not_lt_zero _)
    | succ d ih =>
      intro i f1 g1 hm hi hf
      refine v_iload_n (pc := 15) C 0 d_Fi_load_15 rfl rfl ?_
      refine v_aload_n (pc := 16) C 1 d_Fi_load_16 rfl rfl ?_
      refine v_get (pc := 17) (Cn := "WeightOrder$Finder") (T := T_Fi) (N := 9) (ci := 5) (v := .int (nI rw.length)) C 0 5 rfl rfl hin_Fi (by decide) rfl k_96 rfl d_Fi_load_17 ?_
      refine v_icmpN_ge (pc := 20) C 62 i rw.length d_Fi_load_20 (by decide) (by omega) (by omega) (fun hc => ?_) (fun hc => ?_)
      · exact v_vret (pc := 62) C X d_Fi_load_62 ⟨rfl, f1, g1, rfl, hr2, fun j x hx => by rw [Nat.zero_add]; exact hf j x (by have := (List.getElem?_eq_some_iff.mp hx).1; omega) hx⟩ (by decide) (by decide)
      · obtain ⟨y, hy⟩ : ∃ y, rw[i]? = some y := ⟨_, List.getElem?_eq_getElem hc⟩
        have hy1 := hr2 y (List.mem_of_getElem? hy)
        have hy2 := hcl y hy1
        refine v_aload_n (pc := 23) C 1 d_Fi_load_23 rfl rfl ?_
        refine v_get (pc := 24) (Cn := "WeightOrder$Finder") (T := T_Fi) (N := 9) (ci := 5) (v := .ref p) C 0 2 rfl rfl hin_Fi (by decide) rfl k_93 rfl d_Fi_load_24 ?_
        refine v_iload_n (pc := 27) C 0 d_Fi_load_27 rfl rfl ?_
        refine v_aload_n (pc := 28) C 2 d_Fi_load_28 rfl rfl ?_
        refine v_getN (pc := 29) (Cn := "WeightOrder$Row") (T := T_Ro) (N := 2) (ci := 3) (v := .ref u) C 3 0 rfl rfl hin_Ro (by decide) rfl k_76 rfl d_Fi_load_29 ?_
        refine v_iload_n (pc := 32) C 0 d_Fi_load_32 rfl rfl ?_
        refine v_iald (pc := 33) C 4 rfl i rfl (by omega) (by decide) d_Fi_load_33 ?_
        refine v_seti (nI y) (hr3 i y hy) ?_
        refine v_iast (pc := 34) C 1 ([(x, ob 5 [.ref t, .ref s, .ref p, .ref c, .int (nI 0), .int (nI rw.length), .long k0, .int n0, va_rf (ld)]), (p, aI G 200 (upd f1 i (nI y))), (c, aI G 200 g1), (r, ob 3 [.ref u, .int (nI rw.length)]), (u, aI G 200 rf), (t, ob 0 [.ref a, .ref b, .int (nI nc)]), (a, aJ G 512 kc), (b, aI G 512 vc)]) rfl i rfl (by omega) (by decide) rfl d_Fi_load_34 ?_
        refine v_aload_n (pc := 35) C 1 d_Fi_load_35 rfl rfl ?_
        refine v_get (pc := 36) (Cn := "WeightOrder$Finder") (T := T_Fi) (N := 9) (ci := 5) (v := .ref c) C 0 3 rfl rfl hin_Fi (by decide) rfl k_94 rfl d_Fi_load_36 ?_
        refine v_iload_n (pc := 39) C 0 d_Fi_load_39 rfl rfl ?_
        refine v_aload_n (pc := 40) C 1 d_Fi_load_40 rfl rfl ?_
        refine v_get (pc := 41) (Cn := "WeightOrder$Finder") (T := T_Fi) (N := 9) (ci := 5) (v := .ref t) C 0 0 rfl rfl hin_Fi (by decide) rfl k_91 rfl d_Fi_load_41 ?_
        refine v_aload_n (pc := 44) C 1 d_Fi_load_44 rfl rfl ?_
        refine v_get (pc := 45) (Cn := "WeightOrder$Finder") (T := T_Fi) (N := 9) (ci := 5) (v := .ref p) C 0 2 rfl rfl hin_Fi (by decide) rfl k_93 rfl d_Fi_load_45 ?_
        refine v_iload_n (pc := 48) C 0 d_Fi_load_48 rfl rfl ?_
        refine v_iald (pc := 49) C 1 rfl i rfl (by omega) (by decide) d_Fi_load_49 ?_
        refine v_seti (nI y) pk_us ?_
        refine v_i2l (pc := 50) C (lN y) d_Fi_load_50 (nI_l (by omega)) ?_
        refine v_iconst (pc := 51) C (nI 0) d_Fi_load_51 (by decide +kernel) ?_
        refine v_callV (pc := 52) (As := [.long (lN y), .int (nI 0)]) (rest := [.int (nI i), .ref c]) C (c_Ta_valueOf _ G t a b 512 kc vc nc Fc y (nI 0) (by decide) hnc hT (by omega)) l_Fi_53 ([(x, ob 5 [.ref t, .ref s, .ref p, .ref c, .int (nI 0), .int (nI rw.length), .long k0, .int n0, va_rf (ld)]), (p, aI G 200 (upd f1 i (nI y))), (c, aI G 200 g1), (r, ob 3 [.ref u, .int (nI rw.length)]), (u, aI G 200 rf)]) (sp_pos [0, 1, 2, 3, 4] [5, 6, 7] rfl rfl rfl) 0 rfl rfl rfl rfl rfl (Nat.le_of_ble_eq_true rfl) (by decide) (by decide) (by decide) (by decide) d_Fi_load_52 (fun r w' hq => ?_)
        obtain ⟨rfl, rfl⟩ := hq
        show vv K ({ frames := 2, cells := 0, slots := 0, locals := 49 } : Room) G 3 0 0 ([(x, ob 5 [.ref t, .ref s, .ref p, .ref c, .int (nI 0), .int (nI rw.length), .long k0, .int n0, va_rf (ld)]), (p, aI G 200 (upd f1 i (nI y))), (c, aI G 200 g1), (r, ob 3 [.ref u, .int (nI rw.length)]), (u, aI G 200 rf), (t, ob 0 [.ref a, .ref b, .int (nI nc)]), (a, aJ G 512 kc), (b, aI G 512 vc)]) 55 [(2, .int (nI i)), (0, .ref x), (1, .ref r)] [.int ((Fc y).getD (nI 0)), .int (nI i), .ref c]
        refine v_seti (nI (cl y)) hy2.1 ?_
        refine v_iast (pc := 55) C 2 ([(x, ob 5 [.ref t, .ref s, .ref p, .ref c, .int (nI 0), .int (nI rw.length), .long k0, .int n0, va_rf (ld)]), (p, aI G 200 (upd f1 i (nI y))), (c, aI G 200 (upd g1 i (nI (cl y)))), (r, ob 3 [.ref u, .int (nI rw.length)]), (u, aI G 200 rf), (t, ob 0 [.ref a, .ref b, .int (nI nc)]), (a, aJ G 512 kc), (b, aI G 512 vc)]) rfl i rfl (by omega) (by decide) rfl d_Fi_load_55 ?_
        refine v_iinc (pc := 56) C [(2, .int (nI (i + 1))), (0, .ref x), (1, .ref r)] 0 (nI (i + 1)) d_Fi_load_56 rfl (nI_inc1 _) (by decide) rfl ?_
        refine v_goto (pc := 59) C 15 d_Fi_load_59 (by decide) ?_
        refine v_lsub [0, 1, 2] [(2, .int (nI (i + 1))), (0, .ref x), (1, .ref r)] rfl ?_
        refine ih (i + 1) _ _ (by omega) (by omega) (fun j z hj hz => ?_)
        rcases Nat.lt_or_ge j i with c9 | c9
        · rw [pk_un (by omega), pk_un (by omega)]; exact hf j z c9 hz
        · have e : j = i := by omega
          subst e
          rw [pk_us, pk_us]
          cases Option.some.inj (hz.symm.trans hy)
          exact ⟨rfl, rfl⟩
  refine v_lsub [0, 1, 2] [(2, .int (nI 0)), (0, .ref x), (1, .ref r)] rfl ?_
  exact loop (rw.length + 1) 0 f g (by omega) (by omega) (fun j x hj => absurd hj (Nat.not_lt_zero _))

/-- the fields key, length, line of the finder hold what was found -/
def BsS (L : List LnX) (o : Option (Nat × Nat × Nat)) (kv : Int64) (nv : Int32) (ld : Option Nat) : Prop := match o with
  | none => ld = none
  | some (k, n, i) => kv = lN k ∧ nv = nI n ∧ ∃ z, L[i]? = some z ∧ ld = some z.1.1

set_option maxHeartbeats 4000000 in
set_option maxRecDepth 100000 in
theorem c_Fi_seekBeginning (l : Launch) (G : Gx) (x t p c st : Nat) (k0 : Int64) (n0 : Int32) (l0 : Option Nat) (f g : Nat → Int32) (cl : Nat → Nat) (rem : List Nat) (s nt a b m : Nat) (td : Option Nat) (ks : Nat → Int64) (vs : Nat → Int32) (mf : Nat → Option Nat) (L : List LnX) (hF : FnS cl f g st rem) (hst : st + rem.length ≤ 200) (hL : LOk L) (hT : TB ks vs L.length (fun j => (fnd j L).map nI)) (hM : MdS L mf) : CT l G y_Fi_seekBeginning b_Fi_seekBeginning 5 none ({ frames := 3, cells := 0, slots := 0, locals := 72 } : Room) ([(x, ob 5 [.ref t, .ref s, .ref p, .ref c, .int (nI st), .int (nI (st + rem.length)), .long k0, .int n0, va_rf (l0)]), (p, aI G 200 f), (s, ob 2 [.ref nt, .ref m, .int (nI L.length), va_rf (td)]), (nt, ob 0 [.ref a, .ref b, .int (nI L.length)]), (a, aJ G 500 ks), (b, aI G 500 vs), (m, aL G 500 mf)]) [.ref x] (fun r w' => r = none ∧ ∃ kv nv ld, w' = [(x, ob 5 [.ref t, .ref s, .ref p, .ref c, .int (nI st), .int (nI (st + rem.length)), .long kv, .int nv, va_rf (ld)]), (p, aI G 200 f), (s, ob 2 [.ref nt, .ref m, .int (nI L.length), va_rf (td)]), (nt, ob 0 [.ref a, .ref b, .int (nI L.length)]), (a, aJ G 500 ks), (b, aI G 500 vs), (m, aL G 500 mf)] ∧ BsS L (bestN (fun k => fnd k L) rem (min 3 rem.length)) kv nv ld) := by
  refine ct_of [(0, .ref x)] (by decide) (Nat.le_of_ble_eq_true rfl) rfl (fun K hKl hNI C X => ?_)
  subst hKl
  refine v_aload_n (pc := 0) C 0 d_Fi_seekBeginning_0 rfl rfl ?_
  refine v_null (pc := 1) C d_Fi_seekBeginning_1 ?_
  refine v_put (pc := 2) (Cn := "WeightOrder$Finder") (T := T_Fi) (N := 9) (ci := 5) (v := .null) C 0 8 rfl rfl hin_Fi (by decide) rfl ([(x, ob 5 [.ref t, .ref s, .ref p, .ref c, .int (nI st), .int (nI (st + rem.length)), .long k0, .int n0, .null]), (p, aI G 200 f), (s, ob 2 [.ref nt, .ref m, .int (nI L.length), va_rf (td)]), (nt, ob 0 [.ref a, .ref b, .int (nI L.length)]), (a, aJ G 500 ks), (b, aI G 500 vs), (m, aL G 500 mf)]) t_Fi t_Fi_ok n_Fi (.object "WeightOrder$Line") rfl rfl rfl (Nat.le_of_ble_eq_true rfl) rfl rfl k_99 d_Fi_seekBeginning_2 ?_
  refine v_lconst (pc := 5) C (lN 0) d_Fi_seekBeginning_5 (by decide +kernel) ?_
  refine v_lstore_n (pc := 6) C [(1, .long (lN 0)), (0, .ref x)] d_Fi_seekBeginning_6 rfl (by decide) rfl ?_
  refine v_iconst (pc := 7) C (nI 1) d_Fi_seekBeginning_7 (by decide +kernel) ?_
  refine v_istore_n (pc := 8) C [(3, .int (nI 1)), (1, .long (lN 0)), (0, .ref x)] d_Fi_seekBeginning_8 rfl (by decide) rfl ?_
  have loop : ∀ (d : Nat) (j : Nat) (kv : Int64) (nv : Int32) (ld : Option Nat), 3 - j < d → (j ≤ 3) → (j ≤ rem.length) → (BsS L (bestN (fun k => fnd k L) rem j) kv nv ld) → vv K ({ frames := 3, cells := 0, slots := 0, locals := 72 } : Room) G 5 0 0 ([(x, ob 5 [.ref t, .ref s, .ref p, .ref c, .int (nI st), .int (nI (st + rem.length)), .long kv, .int nv, va_rf (ld)]), (p, aI G 200 f), (s, ob 2 [.ref nt, .ref m, .int (nI L.length), va_rf (td)]), (nt, ob 0 [.ref a, .ref b, .int (nI L.length)]), (a, aJ G 500 ks), (b, aI G 500 vs), (m, aL G 500 mf)]) 9 [(3, .int (nI (j + 1))), (1, .long (lN (keyP rem j))), (0, .ref x)] [] := by
    intro d
    induction d with
    | zero => intro j kv nv ld hm; exact absurd hm (Nat.not_lt_zero _)
    | succ d ih =>
      intro j kv nv ld hm h1 h2 hb
      refine v_iload_n (pc := 9) C 0 d_Fi_seekBeginning_9 rfl rfl ?_
      refine v_iconst (pc := 10) C (nI 3) d_Fi_seekBeginning_10 (by decide +kernel) ?_
      refine v_icmpN_gt (pc := 11) C 74 (j + 1) 3 d_Fi_seekBeginning_11 (by decide) (by omega) (by omega) (fun hc => ?_) (fun hc => ?_)
      · have e9 : min 3 rem.length = j := by omega
        exact v_vret (pc := 74) C X d_Fi_seekBeginning_74 ⟨rfl, kv, nv, ld, rfl, by rw [e9]; exact hb⟩ (by decide) (by decide)
      · refine v_aload_n (pc := 14) C 2 d_Fi_seekBeginning_14 rfl rfl ?_
        refine v_get (pc := 15) (Cn := "WeightOrder$Finder") (T := T_Fi) (N := 9) (ci := 5) (v := .int (nI st)) C 0 4 rfl rfl hin_Fi (by decide) rfl k_95 rfl d_Fi_seekBeginning_15 ?_
        refine v_iload_n (pc := 18) C 0 d_Fi_seekBeginning_18 rfl rfl ?_
        refine v_iadd (pc := 19) C (nI (st + (j + 1))) d_Fi_seekBeginning_19 (nI_add _ _) ?_
        refine v_aload_n (pc := 20) C 2 d_Fi_seekBeginning_20 rfl rfl ?_
        refine v_get (pc := 21) (Cn := "WeightOrder$Finder") (T := T_Fi) (N := 9) (ci := 5) (v := .int (nI (st + rem.length))) C 0 5 rfl rfl hin_Fi (by decide) rfl k_96 rfl d_Fi_seekBeginning_21 ?_
        refine v_icmpN_gt (pc := 24) C 74 (st + (j + 1)) (st + rem.length) d_Fi_seekBeginning_24 (by decide) (by omega) (by omega) (fun hd => ?_) (fun hd => ?_)
        · have e9 : min 3 rem.length = j := by omega
          exact v_vret (pc := 74) C X d_Fi_seekBeginning_74 ⟨rfl, kv, nv, ld, rfl, by rw [e9]; exact hb⟩ (by decide) (by decide)
        · have hjl : j < rem.length := by omega
          obtain ⟨y, hy⟩ : ∃ y, rem[j]? = some y := ⟨_, List.getElem?_eq_getElem hjl⟩
          have hy1 := hF.1 y (List.mem_of_getElem? hy)
          have hy2 := hF.2 j y hy
          have hk1 := keyP_lt hF.1 j h2
          have hk2 : keyP rem j < 4398046511104 := Nat.lt_of_lt_of_le hk1 (Nat.le_trans (Nat.pow_le_pow_right (by decide) (show j ≤ 2 by omega)) (by decide))
          have hk3 := keyP_succ hy
          refine v_lload_n (pc := 27) C 1 d_Fi_seekBeginning_27 rfl rfl ?_
          refine v_aload_n (pc := 28) C 2 d_Fi_seekBeginning_28 rfl rfl ?_
          refine v_get (pc := 29) (Cn := "WeightOrder$Finder") (T := T_Fi) (N := 9) (ci := 5) (v := .ref p) C 0 2 rfl rfl hin_Fi (by decide) rfl k_93 rfl d_Fi_seekBeginning_29 ?_
          refine v_aload_n (pc := 32) C 2 d_Fi_seekBeginning_32 rfl rfl ?_
          refine v_get (pc := 33) (Cn := "WeightOrder$Finder") (T := T_Fi) (N := 9) (ci := 5) (v := .int (nI st)) C 0 4 rfl rfl hin_Fi (by decide) rfl k_95 rfl d_Fi_seekBeginning_33 ?_
          refine v_iload_n (pc := 36) C 0 d_Fi_seekBeginning_36 rfl rfl ?_
          refine v_iadd (pc := 37) C (nI (st + (j + 1))) d_Fi_seekBeginning_37 (nI_add _ _) ?_
          refine v_iconst (pc := 38) C (nI 1) d_Fi_seekBeginning_38 (by decide +kernel) ?_
          refine v_isub (pc := 39) C (nI (st + (j + 1) - 1)) d_Fi_seekBeginning_39 (pk_sub (by omega)) ?_
          rw [show st + (j + 1) - 1 = st + j by omega]
          refine v_iald (pc := 40) C 1 rfl (st + j) rfl (by omega) (by decide) d_Fi_seekBeginning_40 ?_
          refine v_seti (nI y) hy2.1 ?_
          refine v_callS (pc := 41) (As := [.long (lN (keyP rem j)), .int (nI y)]) (rest := []) C (c_Wo_longerKey _ G (keyP rem j) y hy1 hk2) l_Fi_80 ([(x, ob 5 [.ref t, .ref s, .ref p, .ref c, .int (nI st), .int (nI (st + rem.length)), .long kv, .int nv, va_rf (ld)]), (p, aI G 200 f), (s, ob 2 [.ref nt, .ref m, .int (nI L.length), va_rf (td)]), (nt, ob 0 [.ref a, .ref b, .int (nI L.length)]), (a, aJ G 500 ks), (b, aI G 500 vs), (m, aL G 500 mf)]) (sp_pos [0, 1, 2, 3, 4, 5, 6] [] rfl rfl rfl) rfl rfl (Nat.le_of_ble_eq_true rfl) (by decide) (by decide) (by decide) (by decide) d_Fi_seekBeginning_41 (fun r w' hq => ?_)
          obtain ⟨rfl, rfl⟩ := hq
          show vv K ({ frames := 3, cells := 0, slots := 0, locals := 72 } : Room) G 5 0 0 ([(x, ob 5 [.ref t, .ref s, .ref p, .ref c, .int (nI st), .int (nI (st + rem.length)), .long kv, .int nv, va_rf (ld)]), (p, aI G 200 f), (s, ob 2 [.ref nt, .ref m, .int (nI L.length), va_rf (td)]), (nt, ob 0 [.ref a, .ref b, .int (nI L.length)]), (a, aJ G 500 ks), (b, aI G 500 vs), (m, aL G 500 mf)]) 44 [(3, .int (nI (j + 1))), (1, .long (lN (keyP rem j))), (0, .ref x)] [.long (lN (kx (keyP rem j) y))]
          rw [← hk3]
          have hk4 : keyP rem (j + 1) < 9223372036854775808 := by rw [hk3]; exact kx_lt hy1 hk2
          refine v_lstore_n (pc := 44) C [(1, .long (lN (keyP rem (j + 1)))), (3, .int (nI (j + 1))), (0, .ref x)] d_Fi_seekBeginning_44 rfl (by decide) rfl ?_
          refine v_aload_n (pc := 45) C 2 d_Fi_seekBeginning_45 rfl rfl ?_
          refine v_get (pc := 46) (Cn := "WeightOrder$Finder") (T := T_Fi) (N := 9) (ci := 5) (v := .ref s) C 0 1 rfl rfl hin_Fi (by decide) rfl k_92 rfl d_Fi_seekBeginning_46 ?_
          refine v_lload_n (pc := 49) C 0 d_Fi_seekBeginning_49 rfl rfl ?_
          refine v_callV (pc := 50) (As := [.long (lN (keyP rem (j + 1)))]) (rest := []) C (c_Ls_find _ G s nt a b m td ks vs mf L (keyP rem (j + 1)) hL hT hM hk4) l_Fi_84 ([(x, ob 5 [.ref t, .ref s, .ref p, .ref c, .int (nI st), .int (nI (st + rem.length)), .long kv, .int nv, va_rf (ld)]), (p, aI G 200 f)]) (sp_pos [0, 1] [2, 3, 4, 5, 6] rfl rfl rfl) 0 rfl rfl rfl rfl rfl (Nat.le_of_ble_eq_true rfl) (by decide) (by decide) (by decide) (by decide) d_Fi_seekBeginning_50 (fun r w' hq => ?_)
          obtain ⟨rfl, rfl⟩ := hq
          show vv K ({ frames := 3, cells := 0, slots := 0, locals := 72 } : Room) G 5 0 0 ([(x, ob 5 [.ref t, .ref s, .ref p, .ref c, .int (nI st), .int (nI (st + rem.length)), .long kv, .int nv, va_rf (ld)]), (p, aI G 200 f), (s, ob 2 [.ref nt, .ref m, .int (nI L.length), va_rf (td)]), (nt, ob 0 [.ref a, .ref b, .int (nI L.length)]), (a, aJ G 500 ks), (b, aI G 500 vs), (m, aL G 500 mf)]) 53 [(1, .long (lN (keyP rem (j + 1)))), (3, .int (nI (j + 1))), (0, .ref x)] [va_rf (adr (keyP rem (j + 1)) L)]
          cases hf : fnd (keyP rem (j + 1)) L with
          | none =>
            rw [show adr (keyP rem (j + 1)) L = none by unfold adr; rw [hf]; rfl]
            show vv K ({ frames := 3, cells := 0, slots := 0, locals := 72 } : Room) G 5 0 0 ([(x, ob 5 [.ref t, .ref s, .ref p, .ref c, .int (nI st), .int (nI (st + rem.length)), .long kv, .int nv, va_rf (ld)]), (p, aI G 200 f), (s, ob 2 [.ref nt, .ref m, .int (nI L.length), va_rf (td)]), (nt, ob 0 [.ref a, .ref b, .int (nI L.length)]), (a, aJ G 500 ks), (b, aI G 500 vs), (m, aL G 500 mf)]) 53 [(1, .long (lN (keyP rem (j + 1)))), (3, .int (nI (j + 1))), (0, .ref x)] [.null]
            refine v_astoreN (pc := 53) C [(4, .null), (1, .long (lN (keyP rem (j + 1)))), (3, .int (nI (j + 1))), (0, .ref x)] d_Fi_seekBeginning_53 (by decide) rfl ?_
            refine v_aloadN (pc := 55) C 0 d_Fi_seekBeginning_55 rfl ?_
            refine v_ifnullN (pc := 57) C 68 d_Fi_seekBeginning_57 (by decide) ?_
            refine v_iinc (pc := 68) C [(3, .int (nI (j + 1 + 1))), (4, .null), (1, .long (lN (keyP rem (j + 1)))), (0, .ref x)] 2 (nI (j + 1 + 1)) d_Fi_seekBeginning_68 rfl (nI_inc1 _) (by decide) rfl ?_
            refine v_goto (pc := 71) C 9 d_Fi_seekBeginning_71 (by decide) ?_
            refine v_wsub [0, 1, 2, 3, 4, 5, 6] ([(x, ob 5 [.ref t, .ref s, .ref p, .ref c, .int (nI st), .int (nI (st + rem.length)), .long kv, .int nv, va_rf (ld)]), (p, aI G 200 f), (s, ob 2 [.ref nt, .ref m, .int (nI L.length), va_rf (td)]), (nt, ob 0 [.ref a, .ref b, .int (nI L.length)]), (a, aJ G 500 ks), (b, aI G 500 vs), (m, aL G 500 mf)]) rfl rfl ?_
            refine v_lsub [0, 2, 3] [(3, .int (nI (j + 1 + 1))), (1, .long (lN (keyP rem (j + 1)))), (0, .ref x)] rfl ?_
            exact ih (j + 1) kv nv ld (by omega) (by omega) (by omega) (by unfold bestN; simp only [hf]; exact hb)
          | some i =>
            obtain ⟨z, hz, hzk⟩ := fnd_some hf
            rw [show adr (keyP rem (j + 1)) L = some z.1.1 by unfold adr; rw [hf]; show (L[i]?.map _) = _; rw [hz]; rfl]
            show vv K ({ frames := 3, cells := 0, slots := 0, locals := 72 } : Room) G 5 0 0 ([(x, ob 5 [.ref t, .ref s, .ref p, .ref c, .int (nI st), .int (nI (st + rem.length)), .long kv, .int nv, va_rf (ld)]), (p, aI G 200 f), (s, ob 2 [.ref nt, .ref m, .int (nI L.length), va_rf (td)]), (nt, ob 0 [.ref a, .ref b, .int (nI L.length)]), (a, aJ G 500 ks), (b, aI G 500 vs), (m, aL G 500 mf)]) 53 [(1, .long (lN (keyP rem (j + 1)))), (3, .int (nI (j + 1))), (0, .ref x)] [.ref z.1.1]
            refine v_astore (pc := 53) C [(4, .ref z.1.1), (1, .long (lN (keyP rem (j + 1)))), (3, .int (nI (j + 1))), (0, .ref x)] d_Fi_seekBeginning_53 (by decide) rfl ?_
            refine v_aload (pc := 55) C 0 d_Fi_seekBeginning_55 rfl ?_
            refine v_ifnull (pc := 57) C d_Fi_seekBeginning_57 ?_
            refine v_aload_n (pc := 60) C 3 d_Fi_seekBeginning_60 rfl rfl ?_
            refine v_lload_n (pc := 61) C 1 d_Fi_seekBeginning_61 rfl rfl ?_
            refine v_iload_n (pc := 62) C 2 d_Fi_seekBeginning_62 rfl rfl ?_
            refine v_aload (pc := 63) C 0 d_Fi_seekBeginning_63 rfl ?_
            refine v_callV (pc := 65) (As := [.long (lN (keyP rem (j + 1))), .int (nI (j + 1)), .ref z.1.1]) (rest := []) C (c_Fi_become _ G x t s p c (nI st) (nI (st + rem.length)) nv (nI (j + 1)) kv (lN (keyP rem (j + 1))) ld z.1.1) l_Fi_90 ([(p, aI G 200 f), (s, ob 2 [.ref nt, .ref m, .int (nI L.length), va_rf (td)]), (nt, ob 0 [.ref a, .ref b, .int (nI L.length)]), (a, aJ G 500 ks), (b, aI G 500 vs), (m, aL G 500 mf)]) (sp_pos [1, 2, 3, 4, 5, 6] [0] rfl rfl rfl) 0 rfl rfl rfl rfl rfl (Nat.le_of_ble_eq_true rfl) (by decide) (by decide) (by decide) (by decide) d_Fi_seekBeginning_65 (fun r w' hq => ?_)
            obtain ⟨rfl, rfl⟩ := hq
            show vv K ({ frames := 3, cells := 0, slots := 0, locals := 72 } : Room) G 5 0 0 ([(p, aI G 200 f), (s, ob 2 [.ref nt, .ref m, .int (nI L.length), va_rf (td)]), (nt, ob 0 [.ref a, .ref b, .int (nI L.length)]), (a, aJ G 500 ks), (b, aI G 500 vs), (m, aL G 500 mf), (x, ob 5 [.ref t, .ref s, .ref p, .ref c, .int (nI st), .int (nI (st + rem.length)), .long (lN (keyP rem (j + 1))), .int (nI (j + 1)), .ref z.1.1])]) 68 [(4, .ref z.1.1), (1, .long (lN (keyP rem (j + 1)))), (3, .int (nI (j + 1))), (0, .ref x)] []
            refine v_iinc (pc := 68) C [(3, .int (nI (j + 1 + 1))), (4, .ref z.1.1), (1, .long (lN (keyP rem (j + 1)))), (0, .ref x)] 2 (nI (j + 1 + 1)) d_Fi_seekBeginning_68 rfl (nI_inc1 _) (by decide) rfl ?_
            refine v_goto (pc := 71) C 9 d_Fi_seekBeginning_71 (by decide) ?_
            refine v_wsub [6, 0, 1, 2, 3, 4, 5] ([(x, ob 5 [.ref t, .ref s, .ref p, .ref c, .int (nI st), .int (nI (st + rem.length)), .long (lN (keyP rem (j + 1))), .int (nI (j + 1)), .ref z.1.1]), (p, aI G 200 f), (s, ob 2 [.ref nt, .ref m, .int (nI L.length), va_rf (td)]), (nt, ob 0 [.ref a, .ref b, .int (nI L.length)]), (a, aJ G 500 ks), (b, aI G 500 vs), (m, aL G 500 mf)]) rfl rfl ?_
            refine v_lsub [0, 2, 3] [(3, .int (nI (j + 1 + 1))), (1, .long (lN (keyP rem (j + 1)))), (0, .ref x)] rfl ?_
            exact ih (j + 1) (lN (keyP rem (j + 1))) (nI (j + 1)) (some z.1.1) (by omega) (by omega) (by omega) (by unfold bestN; simp only [hf]; exact ⟨rfl, rfl, z, hz, rfl⟩)
  refine v_lsub [0, 1, 2] [(3, .int (nI 1)), (1, .long (lN 0)), (0, .ref x)] rfl ?_
  exact loop 4 0 k0 n0 none (by decide) (by decide) (Nat.zero_le _) rfl
