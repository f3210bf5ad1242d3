/-! comparison at one level -/
def cmpL : List Nat → List Nat → Int32
  | [], [] => nI 0
  | [], _ :: _ => -1
  | _ :: _, [] => nI 1
  | a :: as, b :: bs => if a < b then -1 else if b < a then nI 1 else cmpL as bs
/-- the weights that are not 0, from place i on -/
def nz (h : Nat → Nat) (n i : Nat) : List Nat := ((List.range' i (n - i)).map h).filter (fun v => v ≠ 0)
theorem nz_end {h : Nat → Nat} {n i : Nat} (hi : n ≤ i) : nz h n i = [] := by
  unfold nz
  rw [show n - i = 0 by omega]
  rfl
theorem nz_cons {h : Nat → Nat} {n i : Nat} (hi : i < n) (hh : h i ≠ 0) : nz h n i = h i :: nz h n (i + 1) := by
  unfold nz
  rw [show n - i = (n - (i + 1)) + 1 by omega, List.range'_succ, List.map_cons, List.filter_cons_of_pos (by simpa using hh)]
theorem nz_skip1 {h : Nat → Nat} {n i : Nat} (hi : i < n) (hh : h i = 0) : nz h n i = nz h n (i + 1) := by
  unfold nz
  rw [show n - i = (n - (i + 1)) + 1 by omega, List.range'_succ, List.map_cons, List.filter_cons_of_neg (by simpa using hh)]
theorem nz_skip {h : Nat → Nat} {n i : Nat} : ∀ j, i ≤ j → j ≤ n → (∀ k, i ≤ k → k < j → h k = 0) → nz h n i = nz h n j := by
  intro j
  induction j with
  | zero => intro h1 h2 h3; rw [show i = 0 by omega]
  | succ j ih =>
    intro h1 h2 h3
    rcases Nat.lt_or_ge i (j + 1) with c | c
    · rw [ih (by omega) (by omega) (fun k a b => h3 k a (by omega)), nz_skip1 (by omega) (h3 j (by omega) (by omega))]
    · rw [show i = j + 1 by omega]
def icmp (a b : Nat) : Int32 := if a < b then -1 else if a = b then nI 0 else nI 1
theorem cmpL_cons (a b : Nat) (as bs : List Nat) : cmpL (a :: as) (b :: bs) = if icmp a b = 0 then cmpL as bs else icmp a b := by
  unfold icmp
  show (if a < b then (-1 : Int32) else if b < a then nI 1 else cmpL as bs) = _
  by_cases h1 : a < b
  · rw [if_pos h1, if_pos h1, if_neg (by decide)]
  · rw [if_neg h1, if_neg h1]
    by_cases h2 : a = b
    · rw [if_pos h2, if_neg (by omega), if_pos (by decide)]
    · rw [if_neg h2, if_pos (by omega), if_neg (by decide)]

set_option maxHeartbeats 4000000 in
set_option maxRecDepth 100000 in
theorem c_In_compare (l : Launch) (G : Gx) (a b : Nat) (ha : a < 65536) (hb : b < 65536) : CT l G y_In_compare b_In_compare 2 (some .int) ({ frames := 0, cells := 0, slots := 0, locals := 0 } : Room) ([]) [.int (nI a), .int (nI b)] (fun r w' => w' = [] ∧ r = some (.int (icmp a b))) := by
  refine ct_of [(0, .int (nI a)), (1, .int (nI b))] (by decide) (Nat.le_of_ble_eq_true rfl) rfl (fun K hKl hNI C X => ?_)
  subst hKl
  refine v_iload_n (pc := 0) C 0 d_In_compare_0 rfl rfl ?_
  refine v_iload_n (pc := 1) C 1 d_In_compare_1 rfl rfl ?_
  refine v_icmpN_ge (pc := 2) C 9 a b d_In_compare_2 (by decide) (by omega) (by omega) (fun h => ?_) (fun h => ?_)
  · refine v_iload_n (pc := 9) C 0 d_In_compare_9 rfl rfl ?_
    refine v_iload_n (pc := 10) C 1 d_In_compare_10 rfl rfl ?_
    refine v_icmpN_ne (pc := 11) C 18 a b d_In_compare_11 (by decide) (by omega) (by omega) (fun h2 => ?_) (fun h2 => ?_)
    · refine v_iconst (pc := 18) C (nI 1) d_In_compare_18 (by decide +kernel) ?_
      exact v_iret (pc := 19) C X d_In_compare_19 ⟨rfl, by unfold icmp; rw [if_neg (by omega), if_neg h2]⟩ (by decide) (by decide)
    · refine v_iconst (pc := 14) C (nI 0) d_In_compare_14 (by decide +kernel) ?_
      refine v_goto (pc := 15) C 19 d_In_compare_15 (by decide) ?_
      exact v_iret (pc := 19) C X d_In_compare_19 ⟨rfl, by unfold icmp; rw [if_neg (by omega), if_pos h2]⟩ (by decide) (by decide)
  · refine v_iconst (pc := 5) C (-1) d_In_compare_5 (by decide +kernel) ?_
    refine v_goto (pc := 6) C 19 d_In_compare_6 (by decide) ?_
    exact v_iret (pc := 19) C X d_In_compare_19 ⟨rfl, by unfold icmp; rw [if_pos h]⟩ (by decide) (by decide)

set_option maxHeartbeats 4000000 in
set_option maxRecDepth 100000 in
theorem c_Wo_levelOrder (l : Launch) (G : Gx) (x y z u n1 s1 b1 n2 s2 b2 k : Nat) (f1 f2 : Nat → Int64) (g1 g2 : Nat → Nat) (hn1 : n1 ≤ 1600) (hn2 : n2 ≤ 1600) (hk : k ≤ 3) (hg1 : ∀ i, i < n1 → f1 i = lN (g1 i) ∧ g1 i < 18446744073709551616) (hg2 : ∀ i, i < n2 → f2 i = lN (g2 i) ∧ g2 i < 18446744073709551616) : CT l G y_Wo_levelOrder b_Wo_levelOrder 7 (some .int) ({ frames := 2, cells := 0, slots := 0, locals := 45 } : Room) ([(x, ob 4 [.ref y, .int (nI n1), .int (nI s1), .int (nI b1)]), (y, aJ G 1600 f1), (z, ob 4 [.ref u, .int (nI n2), .int (nI s2), .int (nI b2)]), (u, aJ G 1600 f2)]) [.ref x, .ref z, .int (nI k)] (fun r w' => w' = [(x, ob 4 [.ref y, .int (nI n1), .int (nI s1), .int (nI b1)]), (y, aJ G 1600 f1), (z, ob 4 [.ref u, .int (nI n2), .int (nI s2), .int (nI b2)]), (u, aJ G 1600 f2)] ∧ r = some (.int (cmpL (nz (fun i => wtN (g1 i) k) n1 0) (nz (fun i => wtN (g2 i) k) n2 0)))) := by
  refine ct_of [(0, .ref x), (1, .ref z), (2, .int (nI k))] (by decide) (Nat.le_of_ble_eq_true rfl) rfl (fun K hKl hNI C X => ?_)
  subst hKl
  refine v_aload_n (pc := 0) C 0 d_Wo_levelOrder_0 rfl rfl ?_
  refine v_iconst (pc := 1) C (nI 0) d_Wo_levelOrder_1 (by decide +kernel) ?_
  refine v_iload_n (pc := 2) C 2 d_Wo_levelOrder_2 rfl rfl ?_
  refine v_callV (pc := 3) (As := [.int (nI 0), .int (nI k)]) (rest := []) C (c_El_nextWithWeight _ G x y n1 s1 b1 f1 g1 0 k hn1 (Nat.zero_le _) hk hg1) l_Wo_132 ([(z, ob 4 [.ref u, .int (nI n2), .int (nI s2), .int (nI b2)]), (u, aJ G 1600 f2)]) (sp_pos [2, 3] [0, 1] rfl rfl rfl) 0 rfl rfl rfl rfl rfl (Nat.le_of_ble_eq_true rfl) (by decide) (by decide) (by decide) (by decide) d_Wo_levelOrder_3 (fun r w' hq => ?_)
  obtain ⟨rfl, i0, rfl, i0a, i0b, i0c, i0d⟩ := hq
  show vv K ({ frames := 2, cells := 0, slots := 0, locals := 45 } : Room) G 7 0 0 ([(z, ob 4 [.ref u, .int (nI n2), .int (nI s2), .int (nI b2)]), (u, aJ G 1600 f2), (x, ob 4 [.ref y, .int (nI n1), .int (nI s1), .int (nI b1)]), (y, aJ G 1600 f1)]) 6 [(0, .ref x), (1, .ref z), (2, .int (nI k))] [.int (nI i0)]
  refine v_istore_n (pc := 6) C [(3, .int (nI i0)), (0, .ref x), (1, .ref z), (2, .int (nI k))] d_Wo_levelOrder_6 rfl (by decide) rfl ?_
  refine v_aload_n (pc := 7) C 2 d_Wo_levelOrder_7 rfl rfl ?_
  refine v_iconst (pc := 8) C (nI 0) d_Wo_levelOrder_8 (by decide +kernel) ?_
  refine v_iload_n (pc := 9) C 3 d_Wo_levelOrder_9 rfl rfl ?_
  refine v_callV (pc := 10) (As := [.int (nI 0), .int (nI k)]) (rest := []) C (c_El_nextWithWeight _ G z u n2 s2 b2 f2 g2 0 k hn2 (Nat.zero_le _) hk hg2) l_Wo_132 ([(x, ob 4 [.ref y, .int (nI n1), .int (nI s1), .int (nI b1)]), (y, aJ G 1600 f1)]) (sp_pos [2, 3] [0, 1] rfl rfl rfl) 0 rfl rfl rfl rfl rfl (Nat.le_of_ble_eq_true rfl) (by decide) (by decide) (by decide) (by decide) d_Wo_levelOrder_10 (fun r w' hq => ?_)
  obtain ⟨rfl, j0, rfl, j0a, j0b, j0c, j0d⟩ := hq
  show vv K ({ frames := 2, cells := 0, slots := 0, locals := 45 } : Room) G 7 0 0 ([(x, ob 4 [.ref y, .int (nI n1), .int (nI s1), .int (nI b1)]), (y, aJ G 1600 f1), (z, ob 4 [.ref u, .int (nI n2), .int (nI s2), .int (nI b2)]), (u, aJ G 1600 f2)]) 13 [(3, .int (nI i0)), (0, .ref x), (1, .ref z), (2, .int (nI k))] [.int (nI j0)]
  refine v_istore (pc := 13) C [(4, .int (nI j0)), (3, .int (nI i0)), (0, .ref x), (1, .ref z), (2, .int (nI k))] d_Wo_levelOrder_13 (by decide) rfl ?_
  refine v_iconst (pc := 15) C (nI 0) d_Wo_levelOrder_15 (by decide +kernel) ?_
  refine v_istore (pc := 16) C [(5, .int (nI 0)), (4, .int (nI j0)), (3, .int (nI i0)), (0, .ref x), (1, .ref z), (2, .int (nI k))] d_Wo_levelOrder_16 (by decide) rfl ?_
  refine v_wsub [0, 1, 2, 3] ([(x, ob 4 [.ref y, .int (nI n1), .int (nI s1), .int (nI b1)]), (y, aJ G 1600 f1), (z, ob 4 [.ref u, .int (nI n2), .int (nI s2), .int (nI b2)]), (u, aJ G 1600 f2)]) rfl rfl ?_
  have loop : ∀ (d : Nat) (tn : Nat) (i : Nat) (j : Nat), n1 - tn < d → (tn ≤ i) → (i ≤ n1) → (j ≤ n2) → (i < n1 → wtN (g1 i) k ≠ 0) → (j < n2 → wtN (g2 j) k ≠ 0) → (cmpL (nz (fun i => wtN (g1 i) k) n1 i) (nz (fun i => wtN (g2 i) k) n2 j) = cmpL (nz (fun i => wtN (g1 i) k) n1 0) (nz (fun i => wtN (g2 i) k) n2 0)) → vv K ({ frames := 2, cells := 0, slots := 0, locals := 45 } : Room) G 7 0 0 ([(x, ob 4 [.ref y, .int (nI n1), .int (nI s1), .int (nI b1)]), (y, aJ G 1600 f1), (z, ob 4 [.ref u, .int (nI n2), .int (nI s2), .int (nI b2)]), (u, aJ G 1600 f2)]) 18 [(5, .int (nI tn)), (4, .int (nI j)), (3, .int (nI i)), (0, .ref x), (1, .ref z), (2, .int (nI k))] [] := by
    intro d
    induction d with
    | zero => intro tn i j hm; exact absurd hm (Nat.not_lt_zero _)
    | succ d ih =>
      intro tn i j hm ht hi hj hi2 hj2 heq
      refine v_iload (pc := 18) C 0 d_Wo_levelOrder_18 rfl ?_
      refine v_sipush (pc := 20) C (nI 1600) d_Wo_levelOrder_20 (by decide +kernel) ?_
      refine v_icmpN_ge (pc := 23) C 103 tn 1600 d_Wo_levelOrder_23 (by decide) (by omega) (by omega) (fun hc => ?_) (fun hc => ?_)
      · have hin : n1 ≤ i := by omega
        refine v_iload_n (pc := 103) C 2 d_Wo_levelOrder_103 rfl rfl ?_
        refine v_aload_n (pc := 104) C 3 d_Wo_levelOrder_104 rfl rfl ?_
        refine v_getN (pc := 105) (Cn := "WeightOrder$Elements") (T := T_El) (N := 4) (ci := 4) (v := .int (nI n1)) C 0 1 rfl rfl hin_El (by decide) rfl k_128 rfl d_Wo_levelOrder_105 ?_
        refine v_icmpN_ge (pc := 108) C 113 i n1 d_Wo_levelOrder_108 (by decide) (by omega) (by omega) (fun ha => ?_) (fun ha => ?_)
        · refine v_iload (pc := 113) C 1 d_Wo_levelOrder_113 rfl ?_
          refine v_aload_n (pc := 115) C 4 d_Wo_levelOrder_115 rfl rfl ?_
          refine v_getN (pc := 116) (Cn := "WeightOrder$Elements") (T := T_El) (N := 4) (ci := 4) (v := .int (nI n2)) C 2 1 rfl rfl hin_El (by decide) rfl k_128 rfl d_Wo_levelOrder_116 ?_
          refine v_icmpN_ge (pc := 119) C 126 j n2 d_Wo_levelOrder_119 (by decide) (by omega) (by omega) (fun hb => ?_) (fun hb => ?_)
          · refine v_iconst (pc := 126) C (nI 0) d_Wo_levelOrder_126 (by decide +kernel) ?_
            exact v_iret (pc := 127) C X d_Wo_levelOrder_127 ⟨rfl, by rw [← heq, nz_end ha, nz_end hb]; rfl⟩ (by decide) (by decide)
          · refine v_iconst (pc := 122) C (-1) d_Wo_levelOrder_122 (by decide +kernel) ?_
            refine v_goto (pc := 123) C 127 d_Wo_levelOrder_123 (by decide) ?_
            exact v_iret (pc := 127) C X d_Wo_levelOrder_127 ⟨rfl, by rw [← heq, nz_end ha, nz_cons hb (hj2 hb)]; rfl⟩ (by decide) (by decide)
        · omega
      · refine v_iload_n (pc := 26) C 2 d_Wo_levelOrder_26 rfl rfl ?_
        refine v_aload_n (pc := 27) C 3 d_Wo_levelOrder_27 rfl rfl ?_
        refine v_getN (pc := 28) (Cn := "WeightOrder$Elements") (T := T_El) (N := 4) (ci := 4) (v := .int (nI n1)) C 0 1 rfl rfl hin_El (by decide) rfl k_128 rfl d_Wo_levelOrder_28 ?_
        refine v_icmpN_ge (pc := 31) C 103 i n1 d_Wo_levelOrder_31 (by decide) (by omega) (by omega) (fun hd => ?_) (fun hd => ?_)
        · refine v_iload_n (pc := 103) C 2 d_Wo_levelOrder_103 rfl rfl ?_
          refine v_aload_n (pc := 104) C 3 d_Wo_levelOrder_104 rfl rfl ?_
          refine v_getN (pc := 105) (Cn := "WeightOrder$Elements") (T := T_El) (N := 4) (ci := 4) (v := .int (nI n1)) C 0 1 rfl rfl hin_El (by decide) rfl k_128 rfl d_Wo_levelOrder_105 ?_
          refine v_icmpN_ge (pc := 108) C 113 i n1 d_Wo_levelOrder_108 (by decide) (by omega) (by omega) (fun ha => ?_) (fun ha => ?_)
          · refine v_iload (pc := 113) C 1 d_Wo_levelOrder_113 rfl ?_
            refine v_aload_n (pc := 115) C 4 d_Wo_levelOrder_115 rfl rfl ?_
            refine v_getN (pc := 116) (Cn := "WeightOrder$Elements") (T := T_El) (N := 4) (ci := 4) (v := .int (nI n2)) C 2 1 rfl rfl hin_El (by decide) rfl k_128 rfl d_Wo_levelOrder_116 ?_
            refine v_icmpN_ge (pc := 119) C 126 j n2 d_Wo_levelOrder_119 (by decide) (by omega) (by omega) (fun hb => ?_) (fun hb => ?_)
            · refine v_iconst (pc := 126) C (nI 0) d_Wo_levelOrder_126 (by decide +kernel) ?_
              exact v_iret (pc := 127) C X d_Wo_levelOrder_127 ⟨rfl, by rw [← heq, nz_end ha, nz_end hb]; rfl⟩ (by decide) (by decide)
            · refine v_iconst (pc := 122) C (-1) d_Wo_levelOrder_122 (by decide +kernel) ?_
              refine v_goto (pc := 123) C 127 d_Wo_levelOrder_123 (by decide) ?_
              exact v_iret (pc := 127) C X d_Wo_levelOrder_127 ⟨rfl, by rw [← heq, nz_end ha, nz_cons hb (hj2 hb)]; rfl⟩ (by decide) (by decide)
          · omega
        · refine v_iload (pc := 34) C 1 d_Wo_levelOrder_34 rfl ?_
          refine v_aload_n (pc := 36) C 4 d_Wo_levelOrder_36 rfl rfl ?_
          refine v_getN (pc := 37) (Cn := "WeightOrder$Elements") (T := T_El) (N := 4) (ci := 4) (v := .int (nI n2)) C 2 1 rfl rfl hin_El (by decide) rfl k_128 rfl d_Wo_levelOrder_37 ?_
          refine v_icmpN_ge (pc := 40) C 103 j n2 d_Wo_levelOrder_40 (by decide) (by omega) (by omega) (fun he => ?_) (fun he => ?_)
          · refine v_iload_n (pc := 103) C 2 d_Wo_levelOrder_103 rfl rfl ?_
            refine v_aload_n (pc := 104) C 3 d_Wo_levelOrder_104 rfl rfl ?_
            refine v_getN (pc := 105) (Cn := "WeightOrder$Elements") (T := T_El) (N := 4) (ci := 4) (v := .int (nI n1)) C 0 1 rfl rfl hin_El (by decide) rfl k_128 rfl d_Wo_levelOrder_105 ?_
            refine v_icmpN_ge (pc := 108) C 113 i n1 d_Wo_levelOrder_108 (by decide) (by omega) (by omega) (fun ha => ?_) (fun ha => ?_)
            · omega
            · refine v_iconst (pc := 111) C (nI 1) d_Wo_levelOrder_111 (by decide +kernel) ?_
              exact v_iret (pc := 112) C X d_Wo_levelOrder_112 ⟨rfl, by rw [← heq, nz_cons ha (hi2 ha), nz_end he]; rfl⟩ (by decide) (by decide)
          · refine v_aload_n (pc := 43) C 3 d_Wo_levelOrder_43 rfl rfl ?_
            refine v_getN (pc := 44) (Cn := "WeightOrder$Elements") (T := T_El) (N := 4) (ci := 4) (v := .ref y) C 0 0 rfl rfl hin_El (by decide) rfl k_126 rfl d_Wo_levelOrder_44 ?_
            refine v_iload_n (pc := 47) C 2 d_Wo_levelOrder_47 rfl rfl ?_
            refine v_lald (pc := 48) C 1 rfl i rfl (by omega) (by decide) d_Wo_levelOrder_48 ?_
            refine v_setl (lN (g1 i)) (hg1 i hd).1 ?_
            refine v_iload_n (pc := 49) C 5 d_Wo_levelOrder_49 rfl rfl ?_
            refine v_callS (pc := 50) (As := [.long (lN (g1 i)), .int (nI k)]) (rest := []) C (c_Wo_weightOf _ G (g1 i) k (hg1 i hd).2 hk) l_Wo_120 ([(x, ob 4 [.ref y, .int (nI n1), .int (nI s1), .int (nI b1)]), (y, aJ G 1600 f1), (z, ob 4 [.ref u, .int (nI n2), .int (nI s2), .int (nI b2)]), (u, aJ G 1600 f2)]) (sp_pos [0, 1, 2, 3] [] rfl rfl rfl) rfl rfl (Nat.le_of_ble_eq_true rfl) (by decide) (by decide) (by decide) (by decide) d_Wo_levelOrder_50 (fun r w' hq => ?_)
            obtain ⟨rfl, rfl⟩ := hq
            show vv K ({ frames := 2, cells := 0, slots := 0, locals := 45 } : Room) G 7 0 0 ([(x, ob 4 [.ref y, .int (nI n1), .int (nI s1), .int (nI b1)]), (y, aJ G 1600 f1), (z, ob 4 [.ref u, .int (nI n2), .int (nI s2), .int (nI b2)]), (u, aJ G 1600 f2)]) 53 [(5, .int (nI tn)), (4, .int (nI j)), (3, .int (nI i)), (0, .ref x), (1, .ref z), (2, .int (nI k))] [.int (nI (wtN (g1 i) k))]
            refine v_aload_n (pc := 53) C 4 d_Wo_levelOrder_53 rfl rfl ?_
            refine v_getN (pc := 54) (Cn := "WeightOrder$Elements") (T := T_El) (N := 4) (ci := 4) (v := .ref u) C 2 0 rfl rfl hin_El (by decide) rfl k_126 rfl d_Wo_levelOrder_54 ?_
            refine v_iload (pc := 57) C 1 d_Wo_levelOrder_57 rfl ?_
            refine v_lald (pc := 59) C 3 rfl j rfl (by omega) (by decide) d_Wo_levelOrder_59 ?_
            refine v_setl (lN (g2 j)) (hg2 j he).1 ?_
            refine v_iload_n (pc := 60) C 5 d_Wo_levelOrder_60 rfl rfl ?_
            refine v_callS (pc := 61) (As := [.long (lN (g2 j)), .int (nI k)]) (rest := [.int (nI (wtN (g1 i) k))]) C (c_Wo_weightOf _ G (g2 j) k (hg2 j he).2 hk) l_Wo_120 ([(x, ob 4 [.ref y, .int (nI n1), .int (nI s1), .int (nI b1)]), (y, aJ G 1600 f1), (z, ob 4 [.ref u, .int (nI n2), .int (nI s2), .int (nI b2)]), (u, aJ G 1600 f2)]) (sp_pos [0, 1, 2, 3] [] rfl rfl rfl) rfl rfl (Nat.le_of_ble_eq_true rfl) (by decide) (by decide) (by decide) (by decide) d_Wo_levelOrder_61 (fun r w' hq => ?_)
            obtain ⟨rfl, rfl⟩ := hq
            show vv K ({ frames := 2, cells := 0, slots := 0, locals := 45 } : Room) G 7 0 0 ([(x, ob 4 [.ref y, .int (nI n1), .int (nI s1), .int (nI b1)]), (y, aJ G 1600 f1), (z, ob 4 [.ref u, .int (nI n2), .int (nI s2), .int (nI b2)]), (u, aJ G 1600 f2)]) 64 [(5, .int (nI tn)), (4, .int (nI j)), (3, .int (nI i)), (0, .ref x), (1, .ref z), (2, .int (nI k))] [.int (nI (wtN (g2 j) k)), .int (nI (wtN (g1 i) k))]
            refine v_callS (pc := 64) (As := [.int (nI (wtN (g1 i) k)), .int (nI (wtN (g2 j) k))]) (rest := []) C (c_In_compare _ G (wtN (g1 i) k) (wtN (g2 j) k) (wtN_lt _ _) (wtN_lt _ _)) l_Wo_136 ([(x, ob 4 [.ref y, .int (nI n1), .int (nI s1), .int (nI b1)]), (y, aJ G 1600 f1), (z, ob 4 [.ref u, .int (nI n2), .int (nI s2), .int (nI b2)]), (u, aJ G 1600 f2)]) (sp_pos [0, 1, 2, 3] [] rfl rfl rfl) rfl rfl (Nat.le_of_ble_eq_true rfl) (by decide) (by decide) (by decide) (by decide) d_Wo_levelOrder_64 (fun r w' hq => ?_)
            obtain ⟨rfl, rfl⟩ := hq
            show vv K ({ frames := 2, cells := 0, slots := 0, locals := 45 } : Room) G 7 0 0 ([(x, ob 4 [.ref y, .int (nI n1), .int (nI s1), .int (nI b1)]), (y, aJ G 1600 f1), (z, ob 4 [.ref u, .int (nI n2), .int (nI s2), .int (nI b2)]), (u, aJ G 1600 f2)]) 67 [(5, .int (nI tn)), (4, .int (nI j)), (3, .int (nI i)), (0, .ref x), (1, .ref z), (2, .int (nI k))] [.int (icmp (wtN (g1 i) k) (wtN (g2 j) k))]
            rw [nz_cons hd (hi2 hd), nz_cons he (hj2 he), cmpL_cons] at heq
            refine v_istore (pc := 67) C [(6, .int (icmp (wtN (g1 i) k) (wtN (g2 j) k))), (5, .int (nI tn)), (4, .int (nI j)), (3, .int (nI i)), (0, .ref x), (1, .ref z), (2, .int (nI k))] d_Wo_levelOrder_67 (by decide) rfl ?_
            refine v_iload (pc := 69) C 0 d_Wo_levelOrder_69 rfl ?_
            refine v_if_eq (pc := 71) C 77 d_Wo_levelOrder_71 (by decide) (fun hz => ?_) (fun hz => ?_)
            · rw [if_pos hz] at heq
              refine v_aload_n (pc := 77) C 4 d_Wo_levelOrder_77 rfl rfl ?_
              refine v_iload_n (pc := 78) C 3 d_Wo_levelOrder_78 rfl rfl ?_
              refine v_iconst (pc := 79) C (nI 1) d_Wo_levelOrder_79 (by decide +kernel) ?_
              refine v_iadd (pc := 80) C (nI (i + 1)) d_Wo_levelOrder_80 (nI_add _ _) ?_
              refine v_iload_n (pc := 81) C 6 d_Wo_levelOrder_81 rfl rfl ?_
              refine v_callV (pc := 82) (As := [.int (nI (i + 1)), .int (nI k)]) (rest := []) C (c_El_nextWithWeight _ G x y n1 s1 b1 f1 g1 (i + 1) k hn1 hd hk hg1) l_Wo_132 ([(z, ob 4 [.ref u, .int (nI n2), .int (nI s2), .int (nI b2)]), (u, aJ G 1600 f2)]) (sp_pos [2, 3] [0, 1] rfl rfl rfl) 0 rfl rfl rfl rfl rfl (Nat.le_of_ble_eq_true rfl) (by decide) (by decide) (by decide) (by decide) d_Wo_levelOrder_82 (fun r w' hq => ?_)
              obtain ⟨rfl, i2, rfl, i2a, i2b, i2c, i2d⟩ := hq
              show vv K ({ frames := 2, cells := 0, slots := 0, locals := 45 } : Room) G 7 0 0 ([(z, ob 4 [.ref u, .int (nI n2), .int (nI s2), .int (nI b2)]), (u, aJ G 1600 f2), (x, ob 4 [.ref y, .int (nI n1), .int (nI s1), .int (nI b1)]), (y, aJ G 1600 f1)]) 85 [(6, .int (icmp (wtN (g1 i) k) (wtN (g2 j) k))), (5, .int (nI tn)), (4, .int (nI j)), (3, .int (nI i)), (0, .ref x), (1, .ref z), (2, .int (nI k))] [.int (nI i2)]
              refine v_istore_n (pc := 85) C [(3, .int (nI i2)), (6, .int (icmp (wtN (g1 i) k) (wtN (g2 j) k))), (5, .int (nI tn)), (4, .int (nI j)), (0, .ref x), (1, .ref z), (2, .int (nI k))] d_Wo_levelOrder_85 rfl (by decide) rfl ?_
              refine v_aload_n (pc := 86) C 5 d_Wo_levelOrder_86 rfl rfl ?_
              refine v_iload (pc := 87) C 3 d_Wo_levelOrder_87 rfl ?_
              refine v_iconst (pc := 89) C (nI 1) d_Wo_levelOrder_89 (by decide +kernel) ?_
              refine v_iadd (pc := 90) C (nI (j + 1)) d_Wo_levelOrder_90 (nI_add _ _) ?_
              refine v_iload_n (pc := 91) C 6 d_Wo_levelOrder_91 rfl rfl ?_
              refine v_callV (pc := 92) (As := [.int (nI (j + 1)), .int (nI k)]) (rest := []) C (c_El_nextWithWeight _ G z u n2 s2 b2 f2 g2 (j + 1) k hn2 he hk hg2) l_Wo_132 ([(x, ob 4 [.ref y, .int (nI n1), .int (nI s1), .int (nI b1)]), (y, aJ G 1600 f1)]) (sp_pos [2, 3] [0, 1] rfl rfl rfl) 0 rfl rfl rfl rfl rfl (Nat.le_of_ble_eq_true rfl) (by decide) (by decide) (by decide) (by decide) d_Wo_levelOrder_92 (fun r w' hq => ?_)
              obtain ⟨rfl, j2, rfl, j2a, j2b, j2c, j2d⟩ := hq
              show vv K ({ frames := 2, cells := 0, slots := 0, locals := 45 } : Room) G 7 0 0 ([(x, ob 4 [.ref y, .int (nI n1), .int (nI s1), .int (nI b1)]), (y, aJ G 1600 f1), (z, ob 4 [.ref u, .int (nI n2), .int (nI s2), .int (nI b2)]), (u, aJ G 1600 f2)]) 95 [(3, .int (nI i2)), (6, .int (icmp (wtN (g1 i) k) (wtN (g2 j) k))), (5, .int (nI tn)), (4, .int (nI j)), (0, .ref x), (1, .ref z), (2, .int (nI k))] [.int (nI j2)]
              refine v_istore (pc := 95) C [(4, .int (nI j2)), (3, .int (nI i2)), (6, .int (icmp (wtN (g1 i) k) (wtN (g2 j) k))), (5, .int (nI tn)), (0, .ref x), (1, .ref z), (2, .int (nI k))] d_Wo_levelOrder_95 (by decide) rfl ?_
              refine v_iinc (pc := 97) C [(5, .int (nI (tn + 1))), (4, .int (nI j2)), (3, .int (nI i2)), (6, .int (icmp (wtN (g1 i) k) (wtN (g2 j) k))), (0, .ref x), (1, .ref z), (2, .int (nI k))] 3 (nI (tn + 1)) d_Wo_levelOrder_97 rfl (nI_inc1 _) (by decide) rfl ?_
              refine v_goto (pc := 100) C 18 d_Wo_levelOrder_100 (by decide) ?_
              refine v_wsub [0, 1, 2, 3] ([(x, ob 4 [.ref y, .int (nI n1), .int (nI s1), .int (nI b1)]), (y, aJ G 1600 f1), (z, ob 4 [.ref u, .int (nI n2), .int (nI s2), .int (nI b2)]), (u, aJ G 1600 f2)]) rfl rfl ?_
              refine v_lsub [0, 1, 2, 4, 5, 6] [(5, .int (nI (tn + 1))), (4, .int (nI j2)), (3, .int (nI i2)), (0, .ref x), (1, .ref z), (2, .int (nI k))] rfl ?_
              exact ih (tn + 1) i2 j2 (by omega) (by omega) i2b j2b i2d j2d (by rw [← heq, ← nz_skip (h := (fun i => wtN (g1 i) k)) i2 i2a i2b i2c, ← nz_skip (h := (fun i => wtN (g2 i) k)) j2 j2a j2b j2c])
            · rw [if_neg hz] at heq
              refine v_iload (pc := 74) C 0 d_Wo_levelOrder_74 rfl ?_
              exact v_iret (pc := 76) C X d_Wo_levelOrder_76 ⟨rfl, by rw [← heq]⟩ (by decide) (by decide)
  refine v_lsub [0, 1, 2, 3, 4, 5] [(5, .int (nI 0)), (4, .int (nI j0)), (3, .int (nI i0)), (0, .ref x), (1, .ref z), (2, .int (nI k))] rfl ?_
  exact loop (n1 + 1) 0 i0 j0 (by omega) (Nat.zero_le _) i0b j0b i0d j0d (by rw [← nz_skip (h := (fun i => wtN (g1 i) k)) i0 i0a i0b i0c, ← nz_skip (h := (fun i => wtN (g2 i) k)) j0 j0a j0b j0c])
