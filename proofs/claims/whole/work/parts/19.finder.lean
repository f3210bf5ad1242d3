/-! Finder.takeNext, Finder.findElements -/
def lnE (L : List LnX) (j : Nat) : List E4 := (L[j]?.map (·.2.2.1)).getD []
theorem lnE_at {L : List LnX} {j : Nat} {z : LnX} (h : L[j]? = some z) : lnE L j = z.2.2.1 := by unfold lnE; rw [h]; rfl

set_option maxHeartbeats 4000000 in
set_option maxRecDepth 100000 in
theorem c_Fi_takeNext (l : Launch) (G : Gx) (x t p c e v st sh : Nat) (k0 : Int64) (n0 : Int32) (l0 : Option Nat) (f g : Nat → Int32) (fe : Nat → Int64) (es : List E4) (cl : Nat → Nat) (rem : List Nat) (s nt a b m : Nat) (td : Option Nat) (ks : Nat → Int64) (vs : Nat → Int32) (mf : Nat → Option Nat) (L : List LnX) (hF : FnS cl f g st rem) (hst : st + rem.length ≤ 200) (hne : rem ≠ []) (hsh : sh ≤ 1) (hE : ElS sh es fe) (hes : es.length ≤ 8 * st) (hcl : ∀ x, x ≤ 1114111 → cl x ≤ 254) (hL : LOk L) (hT : TB ks vs L.length (fun j => (fnd j L).map nI)) (hM : MdS L mf) : CT l G y_Fi_takeNext b_Fi_takeNext 2 none ({ frames := 4, cells := 0, slots := 0, locals := 113 } : Room) ([(x, ob 5 [.ref t, .ref s, .ref p, .ref c, .int (nI st), .int (nI (st + rem.length)), .long k0, .int n0, va_rf (l0)]), (p, aI G 200 f), (c, aI G 200 g), (s, ob 2 [.ref nt, .ref m, .int (nI L.length), va_rf (td)]), (nt, ob 0 [.ref a, .ref b, .int (nI L.length)]), (a, aJ G 500 ks), (b, aI G 500 vs), (m, aL G 500 mf), (e, ob 4 [.ref v, .int (nI ((es).length)), .int (nI sh), .int (nI (shF sh 0 (es)))]), (v, aJ G 1600 fe)] ++ lpool G L) [.ref x, .ref e] (fun r w' => r = none ∧ ∃ st' kv nv ld f' g' fe', w' = [(x, ob 5 [.ref t, .ref s, .ref p, .ref c, .int (nI st'), .int (nI (st + rem.length)), .long kv, .int nv, va_rf (ld)]), (p, aI G 200 f'), (c, aI G 200 g'), (s, ob 2 [.ref nt, .ref m, .int (nI L.length), va_rf (td)]), (nt, ob 0 [.ref a, .ref b, .int (nI L.length)]), (a, aJ G 500 ks), (b, aI G 500 vs), (m, aL G 500 mf), (e, ob 4 [.ref v, .int (nI ((es ++ (stepR (fun k => fnd k L) cl (lnE L) rem).1).length)), .int (nI sh), .int (nI (shF sh 0 (es ++ (stepR (fun k => fnd k L) cl (lnE L) rem).1)))]), (v, aJ G 1600 fe')] ++ lpool G L ∧ FnS cl f' g' st' (stepR (fun k => fnd k L) cl (lnE L) rem).2 ∧ st' + (stepR (fun k => fnd k L) cl (lnE L) rem).2.length = st + rem.length ∧ st < st' ∧ ElS sh (es ++ (stepR (fun k => fnd k L) cl (lnE L) rem).1) fe' ∧ (es ++ (stepR (fun k => fnd k L) cl (lnE L) rem).1).length ≤ 8 * st') := by
  refine ct_of [(0, .ref x), (1, .ref e)] (by decide) (Nat.le_of_ble_eq_true rfl) rfl (fun K hKl hNI C X => ?_)
  subst hKl
  have hpos : 0 < rem.length := List.length_pos_iff.mpr hne
  refine v_aload_n (pc := 0) C 0 d_Fi_takeNext_0 rfl rfl ?_
  refine v_callV (pc := 1) (As := []) (rest := []) C (c_Fi_seekBeginning _ G x t p c st k0 n0 l0 f g cl rem s nt a b m td ks vs mf L hF hst hL hT hM) l_Fi_59 ([(c, aI G 200 g), (e, ob 4 [.ref v, .int (nI ((es).length)), .int (nI sh), .int (nI (shF sh 0 (es)))]), (v, aJ G 1600 fe)] ++ lpool G L) (sp_poolR [2, 8, 9] [0, 1, 3, 4, 5, 6, 7] rfl rfl rfl) 0 rfl rfl rfl rfl rfl (Nat.le_of_ble_eq_true rfl) (by decide) (by decide) (by decide) (by decide) d_Fi_takeNext_1 (fun r w' hq => ?_)
  obtain ⟨rfl, kv, nv, ld, rfl, hb⟩ := hq
  refine v_swap ?_
  show vv K ({ frames := 4, cells := 0, slots := 0, locals := 113 } : Room) G 2 0 0 ([(c, aI G 200 g), (e, ob 4 [.ref v, .int (nI ((es).length)), .int (nI sh), .int (nI (shF sh 0 (es)))]), (v, aJ G 1600 fe), (x, ob 5 [.ref t, .ref s, .ref p, .ref c, .int (nI st), .int (nI (st + rem.length)), .long kv, .int nv, va_rf (ld)]), (p, aI G 200 f), (s, ob 2 [.ref nt, .ref m, .int (nI L.length), va_rf (td)]), (nt, ob 0 [.ref a, .ref b, .int (nI L.length)]), (a, aJ G 500 ks), (b, aI G 500 vs), (m, aL G 500 mf)] ++ lpool G L) 4 [(0, .ref x), (1, .ref e)] []
  cases ho : bestN (fun k => fnd k L) rem (min 3 rem.length) with
  | none =>
    rw [ho] at hb
    have hb : ld = none := hb
    subst hb
    show vv K ({ frames := 4, cells := 0, slots := 0, locals := 113 } : Room) G 2 0 0 ([(c, aI G 200 g), (e, ob 4 [.ref v, .int (nI ((es).length)), .int (nI sh), .int (nI (shF sh 0 (es)))]), (v, aJ G 1600 fe), (x, ob 5 [.ref t, .ref s, .ref p, .ref c, .int (nI st), .int (nI (st + rem.length)), .long kv, .int nv, .null]), (p, aI G 200 f), (s, ob 2 [.ref nt, .ref m, .int (nI L.length), va_rf (td)]), (nt, ob 0 [.ref a, .ref b, .int (nI L.length)]), (a, aJ G 500 ks), (b, aI G 500 vs), (m, aL G 500 mf)] ++ lpool G L) 4 [(0, .ref x), (1, .ref e)] []
    obtain ⟨y, ys, rfl⟩ : ∃ y ys, rem = y :: ys := by
      cases rem with
      | nil => exact absurd rfl hne
      | cons y ys => exact ⟨y, ys, rfl⟩
    have hy := hF.2 0 y rfl
    have hy1 := hF.1 y List.mem_cons_self
    have hsr : stepR (fun k => fnd k L) cl (lnE L) (y :: ys) = (impE y, ys) := by unfold stepR; rw [ho]; rfl
    have hlc : (y :: ys).length = ys.length + 1 := List.length_cons
    refine v_aload_n (pc := 4) C 0 d_Fi_takeNext_4 rfl rfl ?_
    refine v_get (pc := 5) (Cn := "WeightOrder$Finder") (T := T_Fi) (N := 9) (ci := 5) (v := .null) C 3 8 rfl rfl hin_Fi (by decide) rfl k_99 rfl d_Fi_takeNext_5 ?_
    refine v_ifnonnullN (pc := 8) C d_Fi_takeNext_8 ?_
    refine v_aload_n (pc := 11) C 1 d_Fi_takeNext_11 rfl rfl ?_
    refine v_aload_n (pc := 12) C 0 d_Fi_takeNext_12 rfl rfl ?_
    refine v_get (pc := 13) (Cn := "WeightOrder$Finder") (T := T_Fi) (N := 9) (ci := 5) (v := .ref p) C 3 2 rfl rfl hin_Fi (by decide) rfl k_93 rfl d_Fi_takeNext_13 ?_
    refine v_aload_n (pc := 16) C 0 d_Fi_takeNext_16 rfl rfl ?_
    refine v_get (pc := 17) (Cn := "WeightOrder$Finder") (T := T_Fi) (N := 9) (ci := 5) (v := .int (nI st)) C 3 4 rfl rfl hin_Fi (by decide) rfl k_95 rfl d_Fi_takeNext_17 ?_
    refine v_iald (pc := 20) C 4 rfl st rfl (by omega) (by decide) d_Fi_takeNext_20 ?_
    refine v_seti (nI y) hy.1 ?_
    refine v_callV (pc := 21) (As := [.int (nI y)]) (rest := []) C (c_El_appendImplicit _ G e v sh es fe y hsh hE hy1 (by omega)) l_Fi_66 ([(c, aI G 200 g), (x, ob 5 [.ref t, .ref s, .ref p, .ref c, .int (nI st), .int (nI (st + (y :: ys).length)), .long kv, .int nv, .null]), (p, aI G 200 f), (s, ob 2 [.ref nt, .ref m, .int (nI L.length), va_rf (td)]), (nt, ob 0 [.ref a, .ref b, .int (nI L.length)]), (a, aJ G 500 ks), (b, aI G 500 vs), (m, aL G 500 mf)] ++ lpool G L) (sp_poolR [0, 3, 4, 5, 6, 7, 8, 9] [1, 2] rfl rfl rfl) 0 rfl rfl rfl rfl rfl (Nat.le_of_ble_eq_true rfl) (by decide) (by decide) (by decide) (by decide) d_Fi_takeNext_21 (fun r w' hq => ?_)
    obtain ⟨rfl, fe2, rfl, hE2⟩ := hq
    refine v_swap ?_
    show vv K ({ frames := 4, cells := 0, slots := 0, locals := 113 } : Room) G 2 0 0 ([(c, aI G 200 g), (x, ob 5 [.ref t, .ref s, .ref p, .ref c, .int (nI st), .int (nI (st + (y :: ys).length)), .long kv, .int nv, .null]), (p, aI G 200 f), (s, ob 2 [.ref nt, .ref m, .int (nI L.length), va_rf (td)]), (nt, ob 0 [.ref a, .ref b, .int (nI L.length)]), (a, aJ G 500 ks), (b, aI G 500 vs), (m, aL G 500 mf), (e, ob 4 [.ref v, .int (nI ((es ++ impE y).length)), .int (nI sh), .int (nI (shF sh 0 (es ++ impE y)))]), (v, aJ G 1600 fe2)] ++ lpool G L) 24 [(0, .ref x), (1, .ref e)] []
    refine v_aload_n (pc := 24) C 0 d_Fi_takeNext_24 rfl rfl ?_
    refine v_dup (pc := 25) C d_Fi_takeNext_25 rfl ?_
    refine v_get (pc := 26) (Cn := "WeightOrder$Finder") (T := T_Fi) (N := 9) (ci := 5) (v := .int (nI st)) C 1 4 rfl rfl hin_Fi (by decide) rfl k_95 rfl d_Fi_takeNext_26 ?_
    refine v_iconst (pc := 29) C (nI 1) d_Fi_takeNext_29 (by decide +kernel) ?_
    refine v_iadd (pc := 30) C (nI (st + 1)) d_Fi_takeNext_30 (nI_add _ _) ?_
    refine v_put (pc := 31) (Cn := "WeightOrder$Finder") (T := T_Fi) (N := 9) (ci := 5) (v := .int (nI (st + 1))) C 1 4 rfl rfl hin_Fi (by decide) rfl ([(c, aI G 200 g), (x, ob 5 [.ref t, .ref s, .ref p, .ref c, .int (nI (st + 1)), .int (nI (st + (y :: ys).length)), .long kv, .int nv, .null]), (p, aI G 200 f), (s, ob 2 [.ref nt, .ref m, .int (nI L.length), va_rf (td)]), (nt, ob 0 [.ref a, .ref b, .int (nI L.length)]), (a, aJ G 500 ks), (b, aI G 500 vs), (m, aL G 500 mf), (e, ob 4 [.ref v, .int (nI ((es ++ impE y).length)), .int (nI sh), .int (nI (shF sh 0 (es ++ impE y)))]), (v, aJ G 1600 fe2)] ++ lpool G L) t_Fi t_Fi_ok n_Fi (.int) rfl rfl rfl (Nat.le_of_ble_eq_true rfl) rfl rfl k_95 d_Fi_takeNext_31 ?_
    refine v_goto (pc := 34) C 62 d_Fi_takeNext_34 (by decide) ?_
    refine v_wsubP [1, 2, 0, 3, 4, 5, 6, 7, 8, 9] ([(x, ob 5 [.ref t, .ref s, .ref p, .ref c, .int (nI (st + 1)), .int (nI (st + (y :: ys).length)), .long kv, .int nv, .null]), (p, aI G 200 f), (c, aI G 200 g), (s, ob 2 [.ref nt, .ref m, .int (nI L.length), va_rf (td)]), (nt, ob 0 [.ref a, .ref b, .int (nI L.length)]), (a, aJ G 500 ks), (b, aI G 500 vs), (m, aL G 500 mf), (e, ob 4 [.ref v, .int (nI ((es ++ impE y).length)), .int (nI sh), .int (nI (shF sh 0 (es ++ impE y)))]), (v, aJ G 1600 fe2)]) rfl rfl ?_
    exact v_vret (pc := 62) C X d_Fi_takeNext_62 ⟨rfl, st + 1, kv, nv, none, f, g, fe2, by rw [hsr]; rfl, by rw [hsr]; exact fns_drop hF 1, by rw [hsr, hlc]; show st + 1 + ys.length = _; omega, by omega, by rw [hsr]; exact hE2, by rw [hsr]; show (es ++ impE y).length ≤ _; rw [List.length_append, show (impE y).length = 2 from rfl]; omega⟩ (by decide) (by decide)
  | some o =>
    obtain ⟨k, n, i⟩ := o
    rw [ho] at hb
    obtain ⟨rfl, rfl, z, hz, rfl⟩ := hb
    have hbl := bestN_len ho
    obtain ⟨hn1, hn2, hk, hfi⟩ := hbl
    have hn3 : n ≤ 3 := by omega
    have hkp : k < 2097152 ^ n := by rw [hk]; exact keyP_lt hF.1 n (by omega)
    show vv K ({ frames := 4, cells := 0, slots := 0, locals := 113 } : Room) G 2 0 0 ([(c, aI G 200 g), (e, ob 4 [.ref v, .int (nI ((es).length)), .int (nI sh), .int (nI (shF sh 0 (es)))]), (v, aJ G 1600 fe), (x, ob 5 [.ref t, .ref s, .ref p, .ref c, .int (nI st), .int (nI (st + rem.length)), .long (lN k), .int (nI n), .ref z.1.1]), (p, aI G 200 f), (s, ob 2 [.ref nt, .ref m, .int (nI L.length), va_rf (td)]), (nt, ob 0 [.ref a, .ref b, .int (nI L.length)]), (a, aJ G 500 ks), (b, aI G 500 vs), (m, aL G 500 mf)] ++ lpool G L) 4 [(0, .ref x), (1, .ref e)] []
    refine v_aload_n (pc := 4) C 0 d_Fi_takeNext_4 rfl rfl ?_
    refine v_get (pc := 5) (Cn := "WeightOrder$Finder") (T := T_Fi) (N := 9) (ci := 5) (v := .ref z.1.1) C 3 8 rfl rfl hin_Fi (by decide) rfl k_99 rfl d_Fi_takeNext_5 ?_
    refine v_ifnonnull (pc := 8) C 37 d_Fi_takeNext_8 (by decide) ?_
    refine v_aload_n (pc := 37) C 0 d_Fi_takeNext_37 rfl rfl ?_
    refine v_dup (pc := 38) C d_Fi_takeNext_38 rfl ?_
    refine v_get (pc := 39) (Cn := "WeightOrder$Finder") (T := T_Fi) (N := 9) (ci := 5) (v := .int (nI st)) C 3 4 rfl rfl hin_Fi (by decide) rfl k_95 rfl d_Fi_takeNext_39 ?_
    refine v_aload_n (pc := 42) C 0 d_Fi_takeNext_42 rfl rfl ?_
    refine v_get (pc := 43) (Cn := "WeightOrder$Finder") (T := T_Fi) (N := 9) (ci := 5) (v := .int (nI n)) C 3 7 rfl rfl hin_Fi (by decide) rfl k_98 rfl d_Fi_takeNext_43 ?_
    refine v_iadd (pc := 46) C (nI (st + n)) d_Fi_takeNext_46 (nI_add _ _) ?_
    refine v_put (pc := 47) (Cn := "WeightOrder$Finder") (T := T_Fi) (N := 9) (ci := 5) (v := .int (nI (st + n))) C 3 4 rfl rfl hin_Fi (by decide) rfl ([(c, aI G 200 g), (e, ob 4 [.ref v, .int (nI ((es).length)), .int (nI sh), .int (nI (shF sh 0 (es)))]), (v, aJ G 1600 fe), (x, ob 5 [.ref t, .ref s, .ref p, .ref c, .int (nI (st + n)), .int (nI (st + rem.length)), .long (lN k), .int (nI n), .ref z.1.1]), (p, aI G 200 f), (s, ob 2 [.ref nt, .ref m, .int (nI L.length), va_rf (td)]), (nt, ob 0 [.ref a, .ref b, .int (nI L.length)]), (a, aJ G 500 ks), (b, aI G 500 vs), (m, aL G 500 mf)] ++ lpool G L) t_Fi t_Fi_ok n_Fi (.int) rfl rfl rfl (Nat.le_of_ble_eq_true rfl) rfl rfl k_95 d_Fi_takeNext_47 ?_
    refine v_aload_n (pc := 50) C 0 d_Fi_takeNext_50 rfl rfl ?_
    have hdl : (rem.drop n).length = rem.length - n := List.length_drop
    have hen : st + rem.length = st + n + (rem.drop n).length := by omega
    rw [hen]
    show vv K ({ frames := 4, cells := 0, slots := 0, locals := 113 } : Room) G 2 0 0 ([(c, aI G 200 g), (e, ob 4 [.ref v, .int (nI ((es).length)), .int (nI sh), .int (nI (shF sh 0 (es)))]), (v, aJ G 1600 fe), (x, ob 5 [.ref t, .ref s, .ref p, .ref c, .int (nI (st + n)), .int (nI (st + n + (rem.drop n).length)), .long (lN k), .int (nI n), .ref z.1.1]), (p, aI G 200 f), (s, ob 2 [.ref nt, .ref m, .int (nI L.length), va_rf (td)]), (nt, ob 0 [.ref a, .ref b, .int (nI L.length)]), (a, aJ G 500 ks), (b, aI G 500 vs), (m, aL G 500 mf)] ++ lpool G L) 51 [(0, .ref x), (1, .ref e)] [.ref x]
    refine v_callV (pc := 51) (As := []) (rest := []) C (c_Fi_seekBehind _ G x t p c (st + n) k n i z f g cl (rem.drop n) s nt a b m td ks vs mf L (fns_drop hF n) (by omega) hz hkp hn3 hcl hL hT hM) l_Fi_73 ([(e, ob 4 [.ref v, .int (nI ((es).length)), .int (nI sh), .int (nI (shF sh 0 (es)))]), (v, aJ G 1600 fe)] ++ lpool G L) (sp_poolR [1, 2] [3, 4, 0, 5, 6, 7, 8, 9] rfl rfl rfl) 0 rfl rfl rfl rfl rfl (Nat.le_of_ble_eq_true rfl) (by decide) (by decide) (by decide) (by decide) d_Fi_takeNext_51 (fun r w' hq => ?_)
    obtain ⟨rfl, st2, kv2, nv2, z2, f2, g2, rfl, hz2, hF2, hst2⟩ := hq
    refine v_swap ?_
    show vv K ({ frames := 4, cells := 0, slots := 0, locals := 113 } : Room) G 2 0 0 ([(e, ob 4 [.ref v, .int (nI ((es).length)), .int (nI sh), .int (nI (shF sh 0 (es)))]), (v, aJ G 1600 fe), (x, ob 5 [.ref t, .ref s, .ref p, .ref c, .int (nI st2), .int (nI (st + n + (rem.drop n).length)), .long kv2, .int nv2, .ref z2.1.1]), (p, aI G 200 f2), (c, aI G 200 g2), (s, ob 2 [.ref nt, .ref m, .int (nI L.length), va_rf (td)]), (nt, ob 0 [.ref a, .ref b, .int (nI L.length)]), (a, aJ G 500 ks), (b, aI G 500 vs), (m, aL G 500 mf)] ++ lpool G L) 54 [(0, .ref x), (1, .ref e)] []
    obtain ⟨res, hres⟩ : ∃ u, u = beh (fun k => fnd k L) cl k n i 0 [] (rem.drop n) := ⟨_, rfl⟩
    rw [← hres] at hz2 hF2 hst2
    have hsr : stepR (fun k => fnd k L) cl (lnE L) rem = (z2.2.2.1, res.2) := by unfold stepR; rw [ho]; simp only [← hres]; rw [lnE_at hz2]
    have hbl2 := beh_len (fun k => fnd k L) cl (rem.drop n) k n i 0 []
    rw [← hres] at hbl2
    have hbl2 : res.2.length ≤ 0 + (rem.drop n).length := hbl2
    obtain ⟨LA, LB, e1, -, -⟩ := lset_split hz2
    have hzo := hL.2 z2 (List.mem_of_getElem? hz2)
    rw [show lpool G L = lpool G (LA ++ z2 :: LB) by rw [← e1]]
    refine v_lout ?_
    show vv K ({ frames := 4, cells := 0, slots := 0, locals := 113 } : Room) G 2 0 0 ([(e, ob 4 [.ref v, .int (nI ((es).length)), .int (nI sh), .int (nI (shF sh 0 (es)))]), (v, aJ G 1600 fe), (x, ob 5 [.ref t, .ref s, .ref p, .ref c, .int (nI st2), .int (nI (st + n + (rem.drop n).length)), .long kv2, .int nv2, .ref z2.1.1]), (p, aI G 200 f2), (c, aI G 200 g2), (s, ob 2 [.ref nt, .ref m, .int (nI L.length), va_rf (td)]), (nt, ob 0 [.ref a, .ref b, .int (nI L.length)]), (a, aJ G 500 ks), (b, aI G 500 vs), (m, aL G 500 mf), (z2.1.1, ob 1 [.ref z2.1.2.1, .ref z2.1.2.2, .int (nI z2.2.2.1.length)]), (z2.1.2.1, aJ G 8 z2.2.2.2.1), (z2.1.2.2, aZ G 8 z2.2.2.2.2)] ++ lpool G (LA ++ LB)) 54 [(0, .ref x), (1, .ref e)] []
    have hlen2 : (es ++ z2.2.2.1).length = es.length + z2.2.2.1.length := List.length_append
    refine v_aload_n (pc := 54) C 1 d_Fi_takeNext_54 rfl rfl ?_
    refine v_aload_n (pc := 55) C 0 d_Fi_takeNext_55 rfl rfl ?_
    refine v_get (pc := 56) (Cn := "WeightOrder$Finder") (T := T_Fi) (N := 9) (ci := 5) (v := .ref z2.1.1) C 2 8 rfl rfl hin_Fi (by decide) rfl k_99 rfl d_Fi_takeNext_56 ?_
    refine v_callV (pc := 59) (As := [.ref z2.1.1]) (rest := []) C (c_El_appendLine _ G e v z2.1.1 z2.1.2.1 z2.1.2.2 sh es z2.2.2.1 fe z2.2.2.2.1 z2.2.2.2.2 hsh hE hzo.2 hzo.1 (by omega)) l_Fi_76 ([(x, ob 5 [.ref t, .ref s, .ref p, .ref c, .int (nI st2), .int (nI (st + n + (rem.drop n).length)), .long kv2, .int nv2, .ref z2.1.1]), (p, aI G 200 f2), (c, aI G 200 g2), (s, ob 2 [.ref nt, .ref m, .int (nI L.length), va_rf (td)]), (nt, ob 0 [.ref a, .ref b, .int (nI L.length)]), (a, aJ G 500 ks), (b, aI G 500 vs), (m, aL G 500 mf)] ++ lpool G (LA ++ LB)) (sp_poolR [2, 3, 4, 5, 6, 7, 8, 9] [0, 1, 10, 11, 12] rfl rfl rfl) 0 rfl rfl rfl rfl rfl (Nat.le_of_ble_eq_true rfl) (by decide) (by decide) (by decide) (by decide) d_Fi_takeNext_59 (fun r w' hq => ?_)
    obtain ⟨rfl, fe2, rfl, hE2⟩ := hq
    refine v_swap ?_
    show vv K ({ frames := 4, cells := 0, slots := 0, locals := 113 } : Room) G 2 0 0 ([(x, ob 5 [.ref t, .ref s, .ref p, .ref c, .int (nI st2), .int (nI (st + n + (rem.drop n).length)), .long kv2, .int nv2, .ref z2.1.1]), (p, aI G 200 f2), (c, aI G 200 g2), (s, ob 2 [.ref nt, .ref m, .int (nI L.length), va_rf (td)]), (nt, ob 0 [.ref a, .ref b, .int (nI L.length)]), (a, aJ G 500 ks), (b, aI G 500 vs), (m, aL G 500 mf), (e, ob 4 [.ref v, .int (nI ((es ++ z2.2.2.1).length)), .int (nI sh), .int (nI (shF sh 0 (es ++ z2.2.2.1)))]), (v, aJ G 1600 fe2), (z2.1.1, ob 1 [.ref z2.1.2.1, .ref z2.1.2.2, .int (nI z2.2.2.1.length)]), (z2.1.2.1, aJ G 8 z2.2.2.2.1), (z2.1.2.2, aZ G 8 z2.2.2.2.2)] ++ lpool G (LA ++ LB)) 62 [(0, .ref x), (1, .ref e)] []
    refine v_wsubP [0, 1, 2, 3, 4, 5, 6, 7, 8, 9, 10, 11, 12] ([(x, ob 5 [.ref t, .ref s, .ref p, .ref c, .int (nI st2), .int (nI (st + n + (rem.drop n).length)), .long kv2, .int nv2, .ref z2.1.1]), (p, aI G 200 f2), (c, aI G 200 g2), (s, ob 2 [.ref nt, .ref m, .int (nI L.length), va_rf (td)]), (nt, ob 0 [.ref a, .ref b, .int (nI L.length)]), (a, aJ G 500 ks), (b, aI G 500 vs), (m, aL G 500 mf), (e, ob 4 [.ref v, .int (nI ((es ++ z2.2.2.1).length)), .int (nI sh), .int (nI (shF sh 0 (es ++ z2.2.2.1)))]), (v, aJ G 1600 fe2), (z2.1.1, ob 1 [.ref z2.1.2.1, .ref z2.1.2.2, .int (nI z2.2.2.1.length)]), (z2.1.2.1, aJ G 8 z2.2.2.2.1), (z2.1.2.2, aZ G 8 z2.2.2.2.2)]) rfl rfl ?_
    refine v_lin (X := [(x, ob 5 [.ref t, .ref s, .ref p, .ref c, .int (nI st2), .int (nI (st + n + (rem.drop n).length)), .long kv2, .int nv2, .ref z2.1.1]), (p, aI G 200 f2), (c, aI G 200 g2), (s, ob 2 [.ref nt, .ref m, .int (nI L.length), va_rf (td)]), (nt, ob 0 [.ref a, .ref b, .int (nI L.length)]), (a, aJ G 500 ks), (b, aI G 500 vs), (m, aL G 500 mf), (e, ob 4 [.ref v, .int (nI ((es ++ z2.2.2.1).length)), .int (nI sh), .int (nI (shF sh 0 (es ++ z2.2.2.1)))]), (v, aJ G 1600 fe2)]) (x := z2) ?_
    rw [← e1, ← hen]
    exact v_vret (pc := 62) C X d_Fi_takeNext_62 ⟨rfl, st2, kv2, nv2, some z2.1.1, f2, g2, fe2, by rw [hsr]; rfl, by rw [hsr]; exact hF2, by rw [hsr]; show st2 + res.2.length = _; omega, by omega, by rw [hsr]; exact hE2, by rw [hsr]; show (es ++ z2.2.2.1).length ≤ _; omega⟩ (by decide) (by decide)

theorem takeR_nil (fi : Nat → Option Nat) (cl : Nat → Nat) (es : Nat → List E4) (n : Nat) : takeR fi cl es n [] = [] := by cases n <;> rfl
theorem takeR_cons {fi : Nat → Option Nat} {cl : Nat → Nat} {es : Nat → List E4} {n : Nat} {row : List Nat} (h : row ≠ []) : takeR fi cl es (n + 1) row = (stepR fi cl es row).1 ++ takeR fi cl es n (stepR fi cl es row).2 := by
  rw [takeR, if_neg h]

set_option maxHeartbeats 4000000 in
set_option maxRecDepth 100000 in
theorem c_Fi_findElements (l : Launch) (G : Gx) (x t p c e v r u ta tb nc sh en0 es0 eb0 : Nat) (st0 : Nat) (en1 : Int32) (k0 : Int64) (n0 : Int32) (l0 : Option Nat) (f g rf vc : Nat → Int32) (fe kc : Nat → Int64) (cl : Nat → Nat) (rw : List Nat) (Fc : Nat → Option Int32) (s nt a b m : Nat) (td : Option Nat) (ks : Nat → Int64) (vs : Nat → Int32) (mf : Nat → Option Nat) (L : List LnX) (hR : RwS rw rf) (hnc : nc ≤ 512) (hTc : TB kc vc nc Fc) (hcl : ClS Fc cl) (hsh : sh ≤ 1) (hL : LOk L) (hT : TB ks vs L.length (fun j => (fnd j L).map nI)) (hM : MdS L mf) : CT l G y_Fi_findElements b_Fi_findElements 5 none ({ frames := 5, cells := 0, slots := 0, locals := 138 } : Room) ([(x, ob 5 [.ref t, .ref s, .ref p, .ref c, .int (nI st0), .int en1, .long k0, .int n0, va_rf (l0)]), (p, aI G 200 f), (c, aI G 200 g), (s, ob 2 [.ref nt, .ref m, .int (nI L.length), va_rf (td)]), (nt, ob 0 [.ref a, .ref b, .int (nI L.length)]), (a, aJ G 500 ks), (b, aI G 500 vs), (m, aL G 500 mf), (e, ob 4 [.ref v, .int (nI en0), .int (nI es0), .int (nI eb0)]), (v, aJ G 1600 fe), (r, ob 3 [.ref u, .int (nI rw.length)]), (u, aI G 200 rf), (t, ob 0 [.ref ta, .ref tb, .int (nI nc)]), (ta, aJ G 512 kc), (tb, aI G 512 vc)] ++ lpool G L) [.ref x, .ref r, .int (nI sh), .ref e] (fun r' w' => r' = none ∧ ∃ st' en' kv nv ld f' g' fe', w' = [(x, ob 5 [.ref t, .ref s, .ref p, .ref c, .int (nI st'), .int en', .long kv, .int nv, va_rf (ld)]), (p, aI G 200 f'), (c, aI G 200 g'), (s, ob 2 [.ref nt, .ref m, .int (nI L.length), va_rf (td)]), (nt, ob 0 [.ref a, .ref b, .int (nI L.length)]), (a, aJ G 500 ks), (b, aI G 500 vs), (m, aL G 500 mf), (e, ob 4 [.ref v, .int (nI ((takeR (fun k => fnd k L) cl (lnE L) 200 rw).length)), .int (nI sh), .int (nI (shF sh 0 (takeR (fun k => fnd k L) cl (lnE L) 200 rw)))]), (v, aJ G 1600 fe'), (r, ob 3 [.ref u, .int (nI rw.length)]), (u, aI G 200 rf), (t, ob 0 [.ref ta, .ref tb, .int (nI nc)]), (ta, aJ G 512 kc), (tb, aI G 512 vc)] ++ lpool G L ∧ ElS sh (takeR (fun k => fnd k L) cl (lnE L) 200 rw) fe' ∧ (takeR (fun k => fnd k L) cl (lnE L) 200 rw).length ≤ 1600) := by
  refine ct_of [(0, .ref x), (1, .ref r), (2, .int (nI sh)), (3, .ref e)] (by decide) (Nat.le_of_ble_eq_true rfl) rfl (fun K hKl hNI C X => ?_)
  subst hKl
  have hr1 := hR.1
  refine v_aload_n (pc := 0) C 0 d_Fi_findElements_0 rfl rfl ?_
  refine v_aload_n (pc := 1) C 1 d_Fi_findElements_1 rfl rfl ?_
  refine v_callV (pc := 2) (As := [.ref r]) (rest := []) C (c_Fi_load _ G x t s p c r u ta tb nc (nI st0) en1 n0 k0 l0 f g rf vc kc rw Fc cl hR hnc hTc hcl) l_Fi_26 ([(s, ob 2 [.ref nt, .ref m, .int (nI L.length), va_rf (td)]), (nt, ob 0 [.ref a, .ref b, .int (nI L.length)]), (a, aJ G 500 ks), (b, aI G 500 vs), (m, aL G 500 mf), (e, ob 4 [.ref v, .int (nI en0), .int (nI es0), .int (nI eb0)]), (v, aJ G 1600 fe)] ++ lpool G L) (sp_poolR [3, 4, 5, 6, 7, 8, 9] [0, 1, 2, 10, 11, 12, 13, 14] rfl rfl rfl) 0 rfl rfl rfl rfl rfl (Nat.le_of_ble_eq_true rfl) (by decide) (by decide) (by decide) (by decide) d_Fi_findElements_2 (fun r w' hq => ?_)
  obtain ⟨rfl, f1, g1, rfl, hF1⟩ := hq
  refine v_swap ?_
  show vv K ({ frames := 5, cells := 0, slots := 0, locals := 138 } : Room) G 5 0 0 ([(s, ob 2 [.ref nt, .ref m, .int (nI L.length), va_rf (td)]), (nt, ob 0 [.ref a, .ref b, .int (nI L.length)]), (a, aJ G 500 ks), (b, aI G 500 vs), (m, aL G 500 mf), (e, ob 4 [.ref v, .int (nI en0), .int (nI es0), .int (nI eb0)]), (v, aJ G 1600 fe), (x, ob 5 [.ref t, .ref s, .ref p, .ref c, .int (nI 0), .int (nI rw.length), .long k0, .int n0, va_rf (l0)]), (p, aI G 200 f1), (c, aI G 200 g1), (r, ob 3 [.ref u, .int (nI rw.length)]), (u, aI G 200 rf), (t, ob 0 [.ref ta, .ref tb, .int (nI nc)]), (ta, aJ G 512 kc), (tb, aI G 512 vc)] ++ lpool G L) 5 [(0, .ref x), (1, .ref r), (2, .int (nI sh)), (3, .ref e)] []
  refine v_aload_n (pc := 5) C 3 d_Fi_findElements_5 rfl rfl ?_
  refine v_iload_n (pc := 6) C 2 d_Fi_findElements_6 rfl rfl ?_
  refine v_callV (pc := 7) (As := [.int (nI sh)]) (rest := []) C (c_El_begin _ G e v en0 es0 eb0 sh fe hsh) l_Fi_30 ([(s, ob 2 [.ref nt, .ref m, .int (nI L.length), va_rf (td)]), (nt, ob 0 [.ref a, .ref b, .int (nI L.length)]), (a, aJ G 500 ks), (b, aI G 500 vs), (m, aL G 500 mf), (x, ob 5 [.ref t, .ref s, .ref p, .ref c, .int (nI 0), .int (nI rw.length), .long k0, .int n0, va_rf (l0)]), (p, aI G 200 f1), (c, aI G 200 g1), (r, ob 3 [.ref u, .int (nI rw.length)]), (u, aI G 200 rf), (t, ob 0 [.ref ta, .ref tb, .int (nI nc)]), (ta, aJ G 512 kc), (tb, aI G 512 vc)] ++ lpool G L) (sp_poolR [0, 1, 2, 3, 4, 7, 8, 9, 10, 11, 12, 13, 14] [5, 6] rfl rfl rfl) 0 rfl rfl rfl rfl rfl (Nat.le_of_ble_eq_true rfl) (by decide) (by decide) (by decide) (by decide) d_Fi_findElements_7 (fun r w' hq => ?_)
  obtain ⟨rfl, rfl⟩ := hq
  refine v_swap ?_
  show vv K ({ frames := 5, cells := 0, slots := 0, locals := 138 } : Room) G 5 0 0 ([(s, ob 2 [.ref nt, .ref m, .int (nI L.length), va_rf (td)]), (nt, ob 0 [.ref a, .ref b, .int (nI L.length)]), (a, aJ G 500 ks), (b, aI G 500 vs), (m, aL G 500 mf), (x, ob 5 [.ref t, .ref s, .ref p, .ref c, .int (nI 0), .int (nI rw.length), .long k0, .int n0, va_rf (l0)]), (p, aI G 200 f1), (c, aI G 200 g1), (r, ob 3 [.ref u, .int (nI rw.length)]), (u, aI G 200 rf), (t, ob 0 [.ref ta, .ref tb, .int (nI nc)]), (ta, aJ G 512 kc), (tb, aI G 512 vc), (e, ob 4 [.ref v, .int (nI 0), .int (nI sh), .int (nI 0)]), (v, aJ G 1600 fe)] ++ lpool G L) 10 [(0, .ref x), (1, .ref r), (2, .int (nI sh)), (3, .ref e)] []
  refine v_iconst (pc := 10) C (nI 0) d_Fi_findElements_10 (by decide +kernel) ?_
  refine v_istore (pc := 11) C [(4, .int (nI 0)), (0, .ref x), (1, .ref r), (2, .int (nI sh)), (3, .ref e)] d_Fi_findElements_11 (by decide) rfl ?_
  refine v_wsubP [5, 6, 7, 0, 1, 2, 3, 4, 13, 14, 8, 9, 10, 11, 12] ([(x, ob 5 [.ref t, .ref s, .ref p, .ref c, .int (nI 0), .int (nI rw.length), .long k0, .int n0, va_rf (l0)]), (p, aI G 200 f1), (c, aI G 200 g1), (s, ob 2 [.ref nt, .ref m, .int (nI L.length), va_rf (td)]), (nt, ob 0 [.ref a, .ref b, .int (nI L.length)]), (a, aJ G 500 ks), (b, aI G 500 vs), (m, aL G 500 mf), (e, ob 4 [.ref v, .int (nI 0), .int (nI sh), .int (nI 0)]), (v, aJ G 1600 fe), (r, ob 3 [.ref u, .int (nI rw.length)]), (u, aI G 200 rf), (t, ob 0 [.ref ta, .ref tb, .int (nI nc)]), (ta, aJ G 512 kc), (tb, aI G 512 vc)]) rfl rfl ?_
  have loop : ∀ (d : Nat) (j : Nat) (st : Nat) (rem : List Nat) (es : List E4) (kv : Int64) (nv : Int32) (ld : Option Nat) (f2 : Nat → Int32) (g2 : Nat → Int32) (fe2 : Nat → Int64), 200 - j < d → (j ≤ st) → (FnS cl f2 g2 st rem) → (st + rem.length = rw.length) → (ElS sh es fe2) → (es.length ≤ 8 * st) → (j ≤ 200) → (es ++ takeR (fun k => fnd k L) cl (lnE L) (200 - j) rem = takeR (fun k => fnd k L) cl (lnE L) 200 rw) → vv K ({ frames := 5, cells := 0, slots := 0, locals := 138 } : Room) G 5 0 0 ([(x, ob 5 [.ref t, .ref s, .ref p, .ref c, .int (nI st), .int (nI rw.length), .long kv, .int nv, va_rf (ld)]), (p, aI G 200 f2), (c, aI G 200 g2), (s, ob 2 [.ref nt, .ref m, .int (nI L.length), va_rf (td)]), (nt, ob 0 [.ref a, .ref b, .int (nI L.length)]), (a, aJ G 500 ks), (b, aI G 500 vs), (m, aL G 500 mf), (e, ob 4 [.ref v, .int (nI ((es).length)), .int (nI sh), .int (nI (shF sh 0 (es)))]), (v, aJ G 1600 fe2), (r, ob 3 [.ref u, .int (nI rw.length)]), (u, aI G 200 rf), (t, ob 0 [.ref ta, .ref tb, .int (nI nc)]), (ta, aJ G 512 kc), (tb, aI G 512 vc)] ++ lpool G L) 13 [(4, .int (nI j)), (0, .ref x), (3, .ref e)] [] := by
    intro d
    induction d with
    | zero => intro j st rem es kv nv ld f2 g2 fe2 hm; exact absurd hm (Nat.not_lt_zero _)
    | succ d ih =>
      intro j st rem es kv nv ld f2 g2 fe2 hm hj hF hst hE hes hj2 heq
      have hdone : rem = [] → es = takeR (fun k => fnd k L) cl (lnE L) 200 rw := fun h => by rw [← heq, h, takeR_nil, List.append_nil]
      refine v_iload (pc := 13) C 0 d_Fi_findElements_13 rfl ?_
      refine v_sipush (pc := 15) C (nI 200) d_Fi_findElements_15 (by decide +kernel) ?_
      refine v_icmpN_ge (pc := 18) C 43 j 200 d_Fi_findElements_18 (by decide) (by omega) (by omega) (fun hc => ?_) (fun hc => ?_)
      · have hd := hdone (List.eq_nil_of_length_eq_zero (by omega))
        exact v_vret (pc := 43) C X d_Fi_findElements_43 ⟨rfl, st, nI rw.length, kv, nv, ld, f2, g2, fe2, by rw [← hd], by rw [← hd]; exact hE, by rw [← hd]; omega⟩ (by decide) (by decide)
      · refine v_aload_n (pc := 21) C 1 d_Fi_findElements_21 rfl rfl ?_
        refine v_get (pc := 22) (Cn := "WeightOrder$Finder") (T := T_Fi) (N := 9) (ci := 5) (v := .int (nI st)) C 0 4 rfl rfl hin_Fi (by decide) rfl k_95 rfl d_Fi_findElements_22 ?_
        refine v_aload_n (pc := 25) C 1 d_Fi_findElements_25 rfl rfl ?_
        refine v_get (pc := 26) (Cn := "WeightOrder$Finder") (T := T_Fi) (N := 9) (ci := 5) (v := .int (nI rw.length)) C 0 5 rfl rfl hin_Fi (by decide) rfl k_96 rfl d_Fi_findElements_26 ?_
        refine v_icmpN_ge (pc := 29) C 43 st rw.length d_Fi_findElements_29 (by decide) (by omega) (by omega) (fun hd => ?_) (fun hd => ?_)
        · have hd := hdone (List.eq_nil_of_length_eq_zero (by omega))
          exact v_vret (pc := 43) C X d_Fi_findElements_43 ⟨rfl, st, nI rw.length, kv, nv, ld, f2, g2, fe2, by rw [← hd], by rw [← hd]; exact hE, by rw [← hd]; omega⟩ (by decide) (by decide)
        · have hne : rem ≠ [] := fun h => by rw [h, List.length_nil] at hst; omega
          rw [← hst]
          refine v_aload_n (pc := 32) C 1 d_Fi_findElements_32 rfl rfl ?_
          refine v_aload_n (pc := 33) C 2 d_Fi_findElements_33 rfl rfl ?_
          show vv K ({ frames := 5, cells := 0, slots := 0, locals := 138 } : Room) G 5 0 0 ([(x, ob 5 [.ref t, .ref s, .ref p, .ref c, .int (nI st), .int (nI (st + rem.length)), .long kv, .int nv, va_rf (ld)]), (p, aI G 200 f2), (c, aI G 200 g2), (s, ob 2 [.ref nt, .ref m, .int (nI L.length), va_rf (td)]), (nt, ob 0 [.ref a, .ref b, .int (nI L.length)]), (a, aJ G 500 ks), (b, aI G 500 vs), (m, aL G 500 mf), (e, ob 4 [.ref v, .int (nI ((es).length)), .int (nI sh), .int (nI (shF sh 0 (es)))]), (v, aJ G 1600 fe2), (r, ob 3 [.ref u, .int (nI (st + rem.length))]), (u, aI G 200 rf), (t, ob 0 [.ref ta, .ref tb, .int (nI nc)]), (ta, aJ G 512 kc), (tb, aI G 512 vc)] ++ lpool G L) 34 [(4, .int (nI j)), (0, .ref x), (3, .ref e)] [.ref e, .ref x]
          refine v_callV (pc := 34) (As := [.ref e]) (rest := []) C (c_Fi_takeNext _ G x t p c e v st sh kv nv ld f2 g2 fe2 es cl rem s nt a b m td ks vs mf L hF (by omega) hne hsh hE hes (fun y hy => (hcl y hy).2) hL hT hM) l_Fi_43 ([(r, ob 3 [.ref u, .int (nI (st + rem.length))]), (u, aI G 200 rf), (t, ob 0 [.ref ta, .ref tb, .int (nI nc)]), (ta, aJ G 512 kc), (tb, aI G 512 vc)]) (sp_poolC [10, 11, 12, 13, 14] [0, 1, 2, 3, 4, 5, 6, 7, 8, 9] rfl rfl rfl) 0 rfl rfl rfl rfl rfl (Nat.le_of_ble_eq_true rfl) (by decide) (by decide) (by decide) (by decide) d_Fi_findElements_34 (fun r w' hq => ?_)
          obtain ⟨rfl, st3, kv3, nv3, ld3, f3, g3, fe3, rfl, hF3, hst3, hlt3, hE3, hes3⟩ := hq
          show vv K ({ frames := 5, cells := 0, slots := 0, locals := 138 } : Room) G 5 0 0 ([(r, ob 3 [.ref u, .int (nI (st + rem.length))]), (u, aI G 200 rf), (t, ob 0 [.ref ta, .ref tb, .int (nI nc)]), (ta, aJ G 512 kc), (tb, aI G 512 vc), (x, ob 5 [.ref t, .ref s, .ref p, .ref c, .int (nI st3), .int (nI (st + rem.length)), .long kv3, .int nv3, va_rf (ld3)]), (p, aI G 200 f3), (c, aI G 200 g3), (s, ob 2 [.ref nt, .ref m, .int (nI L.length), va_rf (td)]), (nt, ob 0 [.ref a, .ref b, .int (nI L.length)]), (a, aJ G 500 ks), (b, aI G 500 vs), (m, aL G 500 mf), (e, ob 4 [.ref v, .int (nI ((es ++ (stepR (fun k => fnd k L) cl (lnE L) rem).1).length)), .int (nI sh), .int (nI (shF sh 0 (es ++ (stepR (fun k => fnd k L) cl (lnE L) rem).1)))]), (v, aJ G 1600 fe3)] ++ lpool G L) 37 [(4, .int (nI j)), (0, .ref x), (3, .ref e)] []
          rw [hst]
          refine v_iinc (pc := 37) C [(4, .int (nI (j + 1))), (0, .ref x), (3, .ref e)] 0 (nI (j + 1)) d_Fi_findElements_37 rfl (nI_inc1 _) (by decide) rfl ?_
          refine v_goto (pc := 40) C 13 d_Fi_findElements_40 (by decide) ?_
          refine v_wsubP [5, 6, 7, 8, 9, 10, 11, 12, 13, 14, 0, 1, 2, 3, 4] ([(x, ob 5 [.ref t, .ref s, .ref p, .ref c, .int (nI st3), .int (nI rw.length), .long kv3, .int nv3, va_rf (ld3)]), (p, aI G 200 f3), (c, aI G 200 g3), (s, ob 2 [.ref nt, .ref m, .int (nI L.length), va_rf (td)]), (nt, ob 0 [.ref a, .ref b, .int (nI L.length)]), (a, aJ G 500 ks), (b, aI G 500 vs), (m, aL G 500 mf), (e, ob 4 [.ref v, .int (nI ((es ++ (stepR (fun k => fnd k L) cl (lnE L) rem).1).length)), .int (nI sh), .int (nI (shF sh 0 (es ++ (stepR (fun k => fnd k L) cl (lnE L) rem).1)))]), (v, aJ G 1600 fe3), (r, ob 3 [.ref u, .int (nI rw.length)]), (u, aI G 200 rf), (t, ob 0 [.ref ta, .ref tb, .int (nI nc)]), (ta, aJ G 512 kc), (tb, aI G 512 vc)]) rfl rfl ?_
          refine v_lsub [0, 1, 2] [(4, .int (nI (j + 1))), (0, .ref x), (3, .ref e)] rfl ?_
          exact ih (j + 1) st3 (stepR (fun k => fnd k L) cl (lnE L) rem).2 (es ++ (stepR (fun k => fnd k L) cl (lnE L) rem).1) kv3 nv3 ld3 f3 g3 fe3 (by omega) (by omega) hF3 (by omega) hE3 hes3 (by omega) (by rw [← heq, show 200 - j = (200 - (j + 1)) + 1 by omega, takeR_cons hne, List.append_assoc])
  refine v_lsub [0, 1, 4] [(4, .int (nI 0)), (0, .ref x), (3, .ref e)] rfl ?_
  exact loop 201 0 0 rw [] k0 n0 l0 f1 g1 fe (by decide) (Nat.le_refl _) hF1 (Nat.zero_add _) (els_nil _ _) (by decide) (by decide) rfl
