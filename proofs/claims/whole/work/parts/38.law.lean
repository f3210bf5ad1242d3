/-! The law: its rows, its loop -/
section LAWR
variable {K : Kx} {R : Room} {G : Gx} {nL cells slots : Nat} {w : va_W} {pc : Nat} {lv : List (Nat × Value)} {st : List Value} {cc : ByteArray} {own : String}
theorem v_slen (C : CX K G nL cc own) {b L : Nat} {xs : Nat → Int32} (hX : va_X b L xs K.2.2.2.1 K.2.2.2.1.heap) (hbl : b < K.2.2.2.1.heap.size) (hbA : ¬ K.2.2.2.2.2.2.2.2.2.2 b) (hd : decode cc pc = .ok (.arraylength, 1)) (kk : vv K R G nL cells slots w (pc + 1) lv (.int (nI L) :: st)) : vv K R G nL cells slots w pc lv (.ref b :: st) := by
  obtain ⟨p, l, e, s, m, args, below, meth, c, Q, A⟩ := K
  intro H locs ls hP hD hS hl
  exact va_slen C.1 C.2.1 hX hbl hbA hS hd (kk H locs ls hP hD hS hl)
theorem v_sld (C : CX K G nL cc own) {b L : Nat} {xs : Nat → Int32} (hX : va_X b L xs K.2.2.2.1 K.2.2.2.1.heap) (hbl : b < K.2.2.2.1.heap.size) (hbA : ¬ K.2.2.2.2.2.2.2.2.2.2 b) (j : Nat) (hj : j < L) (hL : L < 2147483648) (hd : decode cc pc = .ok (.iaload, 1)) (kk : vv K R G nL cells slots w (pc + 1) lv (.int (xs j) :: st)) : vv K R G nL cells slots w pc lv (.int (nI j) :: .ref b :: st) := by
  obtain ⟨p, l, e, s, m, args, below, meth, c, Q, A⟩ := K
  intro H locs ls hP hD hS hl
  have hc : (nI j).toNatClampNeg = j := nI_clamp (Nat.lt_trans hj hL)
  exact va_sld C.1 C.2.1 hX hbl hbA hS (vp_in_nI hj hL) hd (by rw [hc]; exact kk H locs ls hP hD hS hl)
theorem v_tbl (C : CX K G nL cc own) {dflt lo hi : Int} {offs : Array Int} {len : Nat} {x : Int32} {off : Int} (tgt : Nat) (hd : decode cc pc = .ok (.tableswitch dflt lo hi offs, len)) (h1 : ¬ x.toInt < lo) (h2 : ¬ hi < x.toInt) (ho : offs[(x.toInt - lo).toNat]? = some off) (ht : (pc : Int) + off = (tgt : Int)) (kk : vv K R G nL cells slots w tgt lv st) : vv K R G nL cells slots w pc lv (.int x :: st) := by
  obtain ⟨p, l, e, s, m, args, below, meth, c, Q, A⟩ := K
  intro H locs ls hP hD hS hl
  exact lv_tableIn C.1 C.2.1 hd h1 h2 ho ht (kk H locs ls hP hD hS hl)
end LAWR
theorem nI_inc5 (a : Nat) : nI a + Int32.ofInt 5 = nI (a + 5) := nI_add a 5
theorem and7 (x : Int32) : ∃ j, j < 8 ∧ x &&& nI 7 = nI j := by
  have e : x = nI x.toUInt32.toNat := by
    show x = Int32.ofNat x.toUInt32.toNat
    apply Int32.toBitVec_inj.mp
    show x.toBitVec = BitVec.ofNat 32 x.toUInt32.toNat
    have : x.toUInt32.toNat = x.toBitVec.toNat := rfl
    rw [this]; simp
  refine ⟨x.toUInt32.toNat &&& 7, ?_, ?_⟩
  · have := Nat.and_le_right (n := x.toUInt32.toNat) (m := 7); omega
  · conv => lhs; rw [e]
    rw [nx_and]
theorem law_in {t L : Nat} (ht : 5 * t ≤ 2560) (hL : L ≤ 2560) (h : ¬ nI L - nI 5 < nI (5 * t)) : 5 * t + 5 ≤ L := by
  rw [Int32.lt_iff_toInt_lt, pk_sub_toInt (by omega) (by decide), nI_toInt (by omega)] at h
  omega
theorem nI_z {a : Nat} (ha : a ≤ 2) (h : nI a = 0) : a = 0 := (nI_eqN (by omega) (by decide)).mp (show nI a = nI 0 from h)
theorem pmA {x : Nat × va_E} {a b : va_W} : ([x] ++ (a ++ b)).Perm (b ++ ([x] ++ a)) := by
  rw [← List.append_assoc]; exact List.perm_append_comm
theorem pmC {x : Nat × va_E} {a b : va_W} : ([x] ++ (a ++ b)).Perm (([x] ++ b) ++ a) := by
  rw [List.append_assoc]; exact List.Perm.append_left _ List.perm_append_comm

set_option maxHeartbeats 40000000 in
set_option maxRecDepth 100000 in
theorem law_vv (K : Kx) (G : Gx) (htr : (Kl K).stackTraces = false) (C : CX K G 7 code "WeightOrderLaw") (scr L : Nat) (xs : Nat → Int32) (hL : L ≤ 2560) (hX : va_X scr L xs K.2.2.2.1 K.2.2.2.1.heap) (hbl : scr < K.2.2.2.1.heap.size) (hbA : ¬ K.2.2.2.2.2.2.2.2.2.2 scr) (hZ : zs K.2.2.2.2.2.2.2.2.2.2 K.2.2.2.1 K.2.2.2.1.heap) (hnc : noC K.2.2.2.1) (fin : ∀ (cells slots : Nat) (w : va_W) (lv : List (Nat × Value)), cells ≤ 601024 → slots ≤ 7293034 → vv K ({ frames := 10, cells := 601024, slots := 7293034, locals := 386 } : Room) G 7 cells slots w 763 lv [.int (nI 1)]) : vv K ({ frames := 10, cells := 601024, slots := 7293034, locals := 386 } : Room) G 7 0 0 [] 0 [(0, .ref scr)] [] := by
  refine v_new (pc := 0) C [.null, .null, .null, .null, .null, .null] t_Wo t_Wo_ok hin_Wo (ci := 6) rfl k_17 k_18 k_1 (fun j hj => by rcases (show j = 0 ∨ j = 1 ∨ j = 2 ∨ j = 3 ∨ j = 4 ∨ j = 5 by omega) with rfl | rfl | rfl | rfl | rfl | rfl <;> rfl) (by decide) (by decide) d_La_law_0 (fun o => ?_)
  show vv K ({ frames := 10, cells := 601024, slots := 7293034, locals := 386 } : Room) G 7 1 6 ([(o, ob 6 [.null, .null, .null, .null, .null, .null])]) 3 [(0, .ref scr)] [.ref o]
  refine v_dup (pc := 3) C d_La_law_3 rfl ?_
  refine v_callI (pc := 4) (As := []) (rest := [.ref o]) C (c_Wo_init _ G o) l_La_44 ([]) (sp_pos [] [0] rfl rfl rfl) rfl rfl (Nat.le_of_ble_eq_true rfl) (by decide) (by decide) (by decide) (by decide) d_La_law_4 (fun r wx hq => ?_)
  obtain ⟨rfl, hwx⟩ := hq
  show vv K ({ frames := 10, cells := 601024, slots := 7293034, locals := 386 } : Room) G 7 25 6969 ([] ++ wx) 7 [(0, .ref scr)] [.ref o]
  refine v_astore_n (pc := 7) C [(1, .ref o), (0, .ref scr)] d_La_law_7 rfl (by decide) rfl ?_
  refine v_new (pc := 8) C [.int (nI 0), .null, .null, .int (nI 0), .null, .null, .null, .null, .int (nI 0), .int (nI 0), .null, .null, .null, .int (nI 0), .null, .int (nI 0), .null] t_Mo t_Mo_ok hin_Mo (ci := 7) rfl k_454 k_455 k_7 (fun j hj => by rcases (show j = 0 ∨ j = 1 ∨ j = 2 ∨ j = 3 ∨ j = 4 ∨ j = 5 ∨ j = 6 ∨ j = 7 ∨ j = 8 ∨ j = 9 ∨ j = 10 ∨ j = 11 ∨ j = 12 ∨ j = 13 ∨ j = 14 ∨ j = 15 ∨ j = 16 by omega) with rfl | rfl | rfl | rfl | rfl | rfl | rfl | rfl | rfl | rfl | rfl | rfl | rfl | rfl | rfl | rfl | rfl <;> rfl) (by decide) (by decide) d_La_law_8 (fun h => ?_)
  refine v_swap ?_
  show vv K ({ frames := 10, cells := 601024, slots := 7293034, locals := 386 } : Room) G 7 26 6986 ([(h, ob 7 [.int (nI 0), .null, .null, .int (nI 0), .null, .null, .null, .null, .int (nI 0), .int (nI 0), .null, .null, .null, .int (nI 0), .null, .int (nI 0), .null])] ++ wx) 11 [(1, .ref o), (0, .ref scr)] [.ref h]
  refine v_dup (pc := 11) C d_La_law_11 rfl ?_
  refine v_callI (pc := 12) (As := []) (rest := [.ref h]) C (c_Mo_init _ G h) l_La_47 ([] ++ wx) (sp_poolR [] [0] rfl rfl rfl) rfl rfl (Nat.le_of_ble_eq_true rfl) (by decide) (by decide) (by decide) (by decide) d_La_law_12 (fun r wm hq => ?_)
  obtain ⟨rfl, hwm⟩ := hq
  show vv K ({ frames := 10, cells := 601024, slots := 7293034, locals := 386 } : Room) G 7 41 49294 ([] ++ (wx ++ wm)) 15 [(1, .ref o), (0, .ref scr)] [.ref h]
  refine v_astore_n (pc := 15) C [(2, .ref h), (1, .ref o), (0, .ref scr)] d_La_law_15 rfl (by decide) rfl ?_
  refine v_iconst (pc := 16) C (nI 1) d_La_law_16 (by decide +kernel) ?_
  refine v_newaJ (pc := 17) C 1 (by decide) (by decide) (by decide) d_La_law_17 (fun out => ?_)
  refine v_swap ?_
  show vv K ({ frames := 10, cells := 601024, slots := 7293034, locals := 386 } : Room) G 7 42 49295 ([(out, aJ G 1 (fun _ => 0))] ++ (wx ++ wm)) 19 [(2, .ref h), (1, .ref o), (0, .ref scr)] [.ref out]
  refine v_astore_n (pc := 19) C [(3, .ref out), (2, .ref h), (1, .ref o), (0, .ref scr)] d_La_law_19 rfl (by decide) rfl ?_
  refine v_iconst (pc := 20) C (nI 0) d_La_law_20 (by decide +kernel) ?_
  refine v_istore (pc := 21) C [(4, .int (nI 0)), (3, .ref out), (2, .ref h), (1, .ref o), (0, .ref scr)] d_La_law_21 (by decide) rfl ?_
  have loop : ∀ (d : Nat) (t : Nat) (f : Nat → Int64) (wx : va_W) (wm : va_W) (σ : Sg) (k : Nat) (fl : Int32), 513 - t < d → (k ≤ t) → (5 * t ≤ 2560) → (WoI G o k σ wx) → (MoI G h k σ fl wm) → vv K ({ frames := 10, cells := 601024, slots := 7293034, locals := 386 } : Room) G 7 (42 + 4 * t) (49295 + 25 * t) ([(out, aJ G 1 f)] ++ (wx ++ wm)) 23 [(4, .int (nI (5 * t))), (0, .ref scr), (1, .ref o), (2, .ref h), (3, .ref out)] [] := by
    intro d
    induction d with
    | zero => intro t f wx wm σ k fl hm; exact absurd hm (Nat.not_lt_zero _)
    | succ d ih =>
      intro t f wx wm σ k fl hm hk ht hwx hwm
      obtain ⟨fs, hwm0⟩ := moi_0 hwm
      refine v_iload (pc := 23) C 0 d_La_law_23 rfl ?_
      refine v_aload_n (pc := 25) C 1 d_La_law_25 rfl rfl ?_
      refine v_slen (pc := 26) C hX hbl hbA d_La_law_26 ?_
      refine v_iconst (pc := 27) C (nI 5) d_La_law_27 (by decide +kernel) ?_
      refine v_isub (pc := 28) C (nI L - nI 5) d_La_law_28 rfl ?_
      refine v_icmp_gt (pc := 29) C 762 d_La_law_29 (by decide) (fun hin => ?_) (fun hin => ?_)
      · refine v_iconst (pc := 762) C (nI 1) d_La_law_762 (by decide +kernel) ?_
        exact fin _ _ _ _ (by omega) (by omega)
      · have hi5 := law_in ht hL hin
        have nxt : ∀ (f' : Nat → Int64) (wx' wm' : va_W) (σ' : Sg) (k' : Nat) (fl' : Int32), k' ≤ t + 1 → WoI G o k' σ' wx' → MoI G h k' σ' fl' wm' → vv K ({ frames := 10, cells := 601024, slots := 7293034, locals := 386 } : Room) G 7 (42 + 4 * (t + 1)) (49295 + 25 * (t + 1)) ([(out, aJ G 1 f')] ++ (wx' ++ wm')) 756 [(4, .int (nI (5 * t))), (0, .ref scr), (1, .ref o), (2, .ref h), (3, .ref out)] [] := by
          intro f' wx' wm' σ' k' fl' hk' hwx' hwm'
          refine v_iinc (pc := 756) C [(4, .int (nI (5 * t + 5))), (0, .ref scr), (1, .ref o), (2, .ref h), (3, .ref out)] 0 (nI (5 * t + 5)) d_La_law_756 rfl (nI_inc5 _) (by decide) rfl ?_
          refine v_goto (pc := 759) C 23 d_La_law_759 (by decide) ?_
          have ih9 := ih (t + 1) f' wx' wm' σ' k' fl' (by omega) hk' (by omega) hwx' hwm'
          rw [show 5 * (t + 1) = 5 * t + 5 by omega] at ih9
          exact ih9
        refine v_aload_n (pc := 32) C 1 d_La_law_32 rfl rfl ?_
        refine v_iload (pc := 33) C 0 d_La_law_33 rfl ?_
        refine v_sld (pc := 35) C hX hbl hbA (5 * t) (by omega) (by omega) d_La_law_35 ?_
        refine v_bipush (pc := 36) C (nI 7) d_La_law_36 (by decide +kernel) ?_
        refine v_iand (pc := 38) C ((xs (5 * t)) &&& (nI 7)) d_La_law_38 rfl ?_
        obtain ⟨j, hj, ej⟩ := and7 (xs (5 * t))
        rw [ej]
        rcases (show j = 0 ∨ j = 1 ∨ j = 2 ∨ j = 3 ∨ j = 4 ∨ j = 5 ∨ j = 6 ∨ j = 7 by omega) with rfl | rfl | rfl | rfl | rfl | rfl | rfl | rfl
        · refine v_tbl (pc := 39) (off := 45) C 84 d_La_law_39 (by decide) (by decide) (by decide +kernel) (by decide) ?_
          refine v_aload_n (pc := 84) C 2 d_La_law_84 rfl rfl ?_
          refine v_aload_n (pc := 85) C 1 d_La_law_85 rfl rfl ?_
          refine v_iload (pc := 86) C 0 d_La_law_86 rfl ?_
          refine v_iconst (pc := 88) C (nI 1) d_La_law_88 (by decide +kernel) ?_
          refine v_iadd (pc := 89) C (nI (5 * t + 1)) d_La_law_89 (nI_add _ _) ?_
          refine v_sld (pc := 90) C hX hbl hbA (5 * t + 1) (by omega) (by omega) d_La_law_90 ?_
          refine v_aload_n (pc := 91) C 1 d_La_law_91 rfl rfl ?_
          refine v_iload (pc := 92) C 0 d_La_law_92 rfl ?_
          refine v_iconst (pc := 94) C (nI 2) d_La_law_94 (by decide +kernel) ?_
          refine v_iadd (pc := 95) C (nI (5 * t + 2)) d_La_law_95 (nI_add _ _) ?_
          refine v_sld (pc := 96) C hX hbl hbA (5 * t + 2) (by omega) (by omega) d_La_law_96 ?_
          refine v_callH (pc := 97) (As := [.ref o, .int (xs (5 * t + 1)), .int (xs (5 * t + 2))]) (rest := []) C hZ hnc (c_La_order _ htr G o k σ wx (xs (5 * t + 1)) (xs (5 * t + 2)) hwx (by omega)) l_La_48 ([(out, aJ G 1 f)] ++ wm) (sp_perm pmC) rfl rfl (Nat.le_of_ble_eq_true rfl) (by decide) (by decide) (by dsimp only; omega) (by dsimp only; omega) d_La_law_97 (fun r w9 hq => ?_)
          obtain ⟨rfl, hwx7⟩ := hq
          refine v_perm ([(out, aJ G 1 f)] ++ (w9 ++ wm)) pmC.symm ?_
          show vv K ({ frames := 10, cells := 601024, slots := 7293034, locals := 386 } : Room) G 7 (42 + 4 * t + 1) (49295 + 25 * t + 6) ([(out, aJ G 1 f)] ++ (w9 ++ wm)) 100 [(4, .int (nI (5 * t))), (0, .ref scr), (1, .ref o), (2, .ref h), (3, .ref out)] [.int (nI (spOrder σ (xs (5 * t + 1)) (xs (5 * t + 2))).1)]
          refine v_istore (pc := 100) C [(5, .int (nI (spOrder σ (xs (5 * t + 1)) (xs (5 * t + 2))).1)), (4, .int (nI (5 * t))), (0, .ref scr), (1, .ref o), (2, .ref h), (3, .ref out)] d_La_law_100 (by decide) rfl ?_
          refine v_aload_n (pc := 102) C 4 d_La_law_102 rfl rfl ?_
          refine v_aload_n (pc := 103) C 2 d_La_law_103 rfl rfl ?_
          refine v_iload (pc := 104) C 1 d_La_law_104 rfl ?_
          refine v_iconst (pc := 106) C (nI 1) d_La_law_106 (by decide +kernel) ?_
          refine v_iadd (pc := 107) C (nI (5 * t + 1)) d_La_law_107 (nI_add _ _) ?_
          refine v_sld (pc := 108) C hX hbl hbA (5 * t + 1) (by omega) (by omega) d_La_law_108 ?_
          refine v_aload_n (pc := 109) C 2 d_La_law_109 rfl rfl ?_
          refine v_iload (pc := 110) C 1 d_La_law_110 rfl ?_
          refine v_iconst (pc := 112) C (nI 2) d_La_law_112 (by decide +kernel) ?_
          refine v_iadd (pc := 113) C (nI (5 * t + 2)) d_La_law_113 (nI_add _ _) ?_
          refine v_sld (pc := 114) C hX hbl hbA (5 * t + 2) (by omega) (by omega) d_La_law_114 ?_
          refine v_callV (pc := 115) (As := [.int (xs (5 * t + 1)), .int (xs (5 * t + 2))]) (rest := []) C (m_order _ G h k σ fl wm (xs (5 * t + 1)) (xs (5 * t + 2)) hwm (by omega)) l_La_53 ([(out, aJ G 1 f)] ++ w9) (sp_perm (List.Perm.refl _)) 0 hwm0 rfl rfl rfl rfl (Nat.le_of_ble_eq_true rfl) (by decide) (by decide) (by dsimp only; omega) (by dsimp only; omega) d_La_law_115 (fun r wm7 hq => ?_)
          obtain ⟨rfl, hwm7⟩ := hq
          show vv K ({ frames := 10, cells := 601024, slots := 7293034, locals := 386 } : Room) G 7 (42 + 4 * t + 1) (49295 + 25 * t + 6) ([(out, aJ G 1 f)] ++ (w9 ++ wm7)) 118 [(5, .int (nI (spOrder σ (xs (5 * t + 1)) (xs (5 * t + 2))).1)), (4, .int (nI (5 * t))), (0, .ref scr), (1, .ref o), (2, .ref h), (3, .ref out)] []
          obtain ⟨fs7, hwm70⟩ := moi_0 hwm7
          refine v_aload_n (pc := 118) C 4 d_La_law_118 rfl rfl ?_
          refine v_callV (pc := 119) (As := []) (rest := []) C (m_thrown _ G h (k + 1) (spOrder σ (xs (5 * t + 1)) (xs (5 * t + 2))).2.2 (nI (spOrder σ (xs (5 * t + 1)) (xs (5 * t + 2))).1) wm7 hwm7) l_La_54 ([(out, aJ G 1 f)] ++ w9) (sp_perm (List.Perm.refl _)) 0 hwm70 rfl rfl rfl rfl (Nat.le_of_ble_eq_true rfl) (by decide) (by decide) (by dsimp only; omega) (by dsimp only; omega) d_La_law_119 (fun r wm8 hq => ?_)
          obtain ⟨rfl, hwm8⟩ := hq
          show vv K ({ frames := 10, cells := 601024, slots := 7293034, locals := 386 } : Room) G 7 (42 + 4 * t + 1) (49295 + 25 * t + 6) ([(out, aJ G 1 f)] ++ (w9 ++ wm8)) 122 [(5, .int (nI (spOrder σ (xs (5 * t + 1)) (xs (5 * t + 2))).1)), (4, .int (nI (5 * t))), (0, .ref scr), (1, .ref o), (2, .ref h), (3, .ref out)] [.int (nI (spOrder σ (xs (5 * t + 1)) (xs (5 * t + 2))).1)]
          refine v_iload (pc := 122) C 0 d_La_law_122 rfl ?_
          refine v_icmp_eq (pc := 124) C 129 d_La_law_124 (by decide) (fun he => ?_) (fun he => ?_)
          · refine v_goto (pc := 129) C 756 d_La_law_129 (by decide) ?_
            refine v_lsub [1, 2, 3, 4, 5] [(4, .int (nI (5 * t))), (0, .ref scr), (1, .ref o), (2, .ref h), (3, .ref out)] rfl ?_
            refine v_widen (c1 := 42 + 4 * (t + 1)) (s1 := 49295 + 25 * (t + 1)) (by omega) (by omega) ?_
            exact nxt f w9 wm8 (spOrder σ (xs (5 * t + 1)) (xs (5 * t + 2))).2.2 (k + 1) _ (by omega) hwx7 hwm8
          · exact absurd rfl he
        · refine v_tbl (pc := 39) (off := 93) C 132 d_La_law_39 (by decide) (by decide) (by decide +kernel) (by decide) ?_
          refine v_aload_n (pc := 132) C 2 d_La_law_132 rfl rfl ?_
          refine v_aload_n (pc := 133) C 1 d_La_law_133 rfl rfl ?_
          refine v_iload (pc := 134) C 0 d_La_law_134 rfl ?_
          refine v_iconst (pc := 136) C (nI 1) d_La_law_136 (by decide +kernel) ?_
          refine v_iadd (pc := 137) C (nI (5 * t + 1)) d_La_law_137 (nI_add _ _) ?_
          refine v_sld (pc := 138) C hX hbl hbA (5 * t + 1) (by omega) (by omega) d_La_law_138 ?_
          refine v_aload_n (pc := 139) C 1 d_La_law_139 rfl rfl ?_
          refine v_iload (pc := 140) C 0 d_La_law_140 rfl ?_
          refine v_iconst (pc := 142) C (nI 2) d_La_law_142 (by decide +kernel) ?_
          refine v_iadd (pc := 143) C (nI (5 * t + 2)) d_La_law_143 (nI_add _ _) ?_
          refine v_sld (pc := 144) C hX hbl hbA (5 * t + 2) (by omega) (by omega) d_La_law_144 ?_
          refine v_aload_n (pc := 145) C 1 d_La_law_145 rfl rfl ?_
          refine v_iload (pc := 146) C 0 d_La_law_146 rfl ?_
          refine v_iconst (pc := 148) C (nI 3) d_La_law_148 (by decide +kernel) ?_
          refine v_iadd (pc := 149) C (nI (5 * t + 3)) d_La_law_149 (nI_add _ _) ?_
          refine v_sld (pc := 150) C hX hbl hbA (5 * t + 3) (by omega) (by omega) d_La_law_150 ?_
          refine v_aload_n (pc := 151) C 1 d_La_law_151 rfl rfl ?_
          refine v_iload (pc := 152) C 0 d_La_law_152 rfl ?_
          refine v_iconst (pc := 154) C (nI 4) d_La_law_154 (by decide +kernel) ?_
          refine v_iadd (pc := 155) C (nI (5 * t + 4)) d_La_law_155 (nI_add _ _) ?_
          refine v_sld (pc := 156) C hX hbl hbA (5 * t + 4) (by omega) (by omega) d_La_law_156 ?_
          refine v_aload_n (pc := 157) C 4 d_La_law_157 rfl rfl ?_
          refine v_callH (pc := 158) (As := [.ref o, .int (xs (5 * t + 1)), .int (xs (5 * t + 2)), .int (xs (5 * t + 3)), .int (xs (5 * t + 4)), .ref out]) (rest := []) C hZ hnc (c_La_line _ htr G o k σ wx out f (xs (5 * t + 1)) (xs (5 * t + 2)) (xs (5 * t + 3)) (xs (5 * t + 4)) hwx) l_La_58 (wm) (sp_perm pmA) rfl rfl (Nat.le_of_ble_eq_true rfl) (by decide) (by decide) (by dsimp only; omega) (by dsimp only; omega) d_La_law_158 (fun r w8 hq => ?_)
          obtain ⟨rfl, f7, w9, rfl, hwx7, hf7⟩ := hq
          refine v_perm ([(out, aJ G 1 f7)] ++ (w9 ++ wm)) pmA.symm ?_
          show vv K ({ frames := 10, cells := 601024, slots := 7293034, locals := 386 } : Room) G 7 (42 + 4 * t + 4) (49295 + 25 * t + 25) ([(out, aJ G 1 f7)] ++ (w9 ++ wm)) 161 [(4, .int (nI (5 * t))), (0, .ref scr), (1, .ref o), (2, .ref h), (3, .ref out)] [.int (nI (spLine σ (xs (5 * t + 1)) (xs (5 * t + 2)) (xs (5 * t + 3)) (xs (5 * t + 4))).1)]
          refine v_istore (pc := 161) C [(5, .int (nI (spLine σ (xs (5 * t + 1)) (xs (5 * t + 2)) (xs (5 * t + 3)) (xs (5 * t + 4))).1)), (4, .int (nI (5 * t))), (0, .ref scr), (1, .ref o), (2, .ref h), (3, .ref out)] d_La_law_161 (by decide) rfl ?_
          refine v_aload_n (pc := 163) C 4 d_La_law_163 rfl rfl ?_
          refine v_aload_n (pc := 164) C 2 d_La_law_164 rfl rfl ?_
          refine v_iload (pc := 165) C 1 d_La_law_165 rfl ?_
          refine v_iconst (pc := 167) C (nI 1) d_La_law_167 (by decide +kernel) ?_
          refine v_iadd (pc := 168) C (nI (5 * t + 1)) d_La_law_168 (nI_add _ _) ?_
          refine v_sld (pc := 169) C hX hbl hbA (5 * t + 1) (by omega) (by omega) d_La_law_169 ?_
          refine v_aload_n (pc := 170) C 2 d_La_law_170 rfl rfl ?_
          refine v_iload (pc := 171) C 1 d_La_law_171 rfl ?_
          refine v_iconst (pc := 173) C (nI 2) d_La_law_173 (by decide +kernel) ?_
          refine v_iadd (pc := 174) C (nI (5 * t + 2)) d_La_law_174 (nI_add _ _) ?_
          refine v_sld (pc := 175) C hX hbl hbA (5 * t + 2) (by omega) (by omega) d_La_law_175 ?_
          refine v_aload_n (pc := 176) C 2 d_La_law_176 rfl rfl ?_
          refine v_iload (pc := 177) C 1 d_La_law_177 rfl ?_
          refine v_iconst (pc := 179) C (nI 3) d_La_law_179 (by decide +kernel) ?_
          refine v_iadd (pc := 180) C (nI (5 * t + 3)) d_La_law_180 (nI_add _ _) ?_
          refine v_sld (pc := 181) C hX hbl hbA (5 * t + 3) (by omega) (by omega) d_La_law_181 ?_
          refine v_aload_n (pc := 182) C 2 d_La_law_182 rfl rfl ?_
          refine v_iload (pc := 183) C 1 d_La_law_183 rfl ?_
          refine v_iconst (pc := 185) C (nI 4) d_La_law_185 (by decide +kernel) ?_
          refine v_iadd (pc := 186) C (nI (5 * t + 4)) d_La_law_186 (nI_add _ _) ?_
          refine v_sld (pc := 187) C hX hbl hbA (5 * t + 4) (by omega) (by omega) d_La_law_187 ?_
          refine v_callV (pc := 188) (As := [.int (xs (5 * t + 1)), .int (xs (5 * t + 2)), .int (xs (5 * t + 3)), .int (xs (5 * t + 4))]) (rest := []) C (m_line _ G h k σ fl wm (xs (5 * t + 1)) (xs (5 * t + 2)) (xs (5 * t + 3)) (xs (5 * t + 4)) hwm) l_La_61 ([(out, aJ G 1 f7)] ++ w9) (sp_perm (List.Perm.refl _)) 0 hwm0 rfl rfl rfl rfl (Nat.le_of_ble_eq_true rfl) (by decide) (by decide) (by dsimp only; omega) (by dsimp only; omega) d_La_law_188 (fun r wm7 hq => ?_)
          obtain ⟨rfl, hwm7⟩ := hq
          show vv K ({ frames := 10, cells := 601024, slots := 7293034, locals := 386 } : Room) G 7 (42 + 4 * t + 4) (49295 + 25 * t + 25) ([(out, aJ G 1 f7)] ++ (w9 ++ wm7)) 191 [(5, .int (nI (spLine σ (xs (5 * t + 1)) (xs (5 * t + 2)) (xs (5 * t + 3)) (xs (5 * t + 4))).1)), (4, .int (nI (5 * t))), (0, .ref scr), (1, .ref o), (2, .ref h), (3, .ref out)] [.int ((spLine σ (xs (5 * t + 1)) (xs (5 * t + 2)) (xs (5 * t + 3)) (xs (5 * t + 4))).2.1)]
          obtain ⟨fs7, hwm70⟩ := moi_0 hwm7
          refine v_istore (pc := 191) C [(6, .int ((spLine σ (xs (5 * t + 1)) (xs (5 * t + 2)) (xs (5 * t + 3)) (xs (5 * t + 4))).2.1)), (5, .int (nI (spLine σ (xs (5 * t + 1)) (xs (5 * t + 2)) (xs (5 * t + 3)) (xs (5 * t + 4))).1)), (4, .int (nI (5 * t))), (0, .ref scr), (1, .ref o), (2, .ref h), (3, .ref out)] d_La_law_191 (by decide) rfl ?_
          refine v_aload_n (pc := 193) C 5 d_La_law_193 rfl rfl ?_
          refine v_callV (pc := 194) (As := []) (rest := []) C (m_thrown _ G h k (spLine σ (xs (5 * t + 1)) (xs (5 * t + 2)) (xs (5 * t + 3)) (xs (5 * t + 4))).2.2 (nI (spLine σ (xs (5 * t + 1)) (xs (5 * t + 2)) (xs (5 * t + 3)) (xs (5 * t + 4))).1) wm7 hwm7) l_La_54 ([(out, aJ G 1 f7)] ++ w9) (sp_perm (List.Perm.refl _)) 0 hwm70 rfl rfl rfl rfl (Nat.le_of_ble_eq_true rfl) (by decide) (by decide) (by dsimp only; omega) (by dsimp only; omega) d_La_law_194 (fun r wm8 hq => ?_)
          obtain ⟨rfl, hwm8⟩ := hq
          show vv K ({ frames := 10, cells := 601024, slots := 7293034, locals := 386 } : Room) G 7 (42 + 4 * t + 4) (49295 + 25 * t + 25) ([(out, aJ G 1 f7)] ++ (w9 ++ wm8)) 197 [(6, .int ((spLine σ (xs (5 * t + 1)) (xs (5 * t + 2)) (xs (5 * t + 3)) (xs (5 * t + 4))).2.1)), (5, .int (nI (spLine σ (xs (5 * t + 1)) (xs (5 * t + 2)) (xs (5 * t + 3)) (xs (5 * t + 4))).1)), (4, .int (nI (5 * t))), (0, .ref scr), (1, .ref o), (2, .ref h), (3, .ref out)] [.int (nI (spLine σ (xs (5 * t + 1)) (xs (5 * t + 2)) (xs (5 * t + 3)) (xs (5 * t + 4))).1)]
          refine v_iload (pc := 197) C 1 d_La_law_197 rfl ?_
          refine v_icmp_eq (pc := 199) C 204 d_La_law_199 (by decide) (fun he => ?_) (fun he => ?_)
          · refine v_iload (pc := 204) C 1 d_La_law_204 rfl ?_
            refine v_if_ne (pc := 206) C 221 d_La_law_206 (by decide) (fun h0 => ?_) (fun h0 => ?_)
            · refine v_goto (pc := 221) C 756 d_La_law_221 (by decide) ?_
              refine v_lsub [2, 3, 4, 5, 6] [(4, .int (nI (5 * t))), (0, .ref scr), (1, .ref o), (2, .ref h), (3, .ref out)] rfl ?_
              refine v_widen (c1 := 42 + 4 * (t + 1)) (s1 := 49295 + 25 * (t + 1)) (by omega) (by omega) ?_
              exact nxt f7 w9 wm8 (spLine σ (xs (5 * t + 1)) (xs (5 * t + 2)) (xs (5 * t + 3)) (xs (5 * t + 4))).2.2 k _ (by omega) hwx7 hwm8
            · have hs9 := spLine_s σ (xs (5 * t + 1)) (xs (5 * t + 2)) (xs (5 * t + 3)) (xs (5 * t + 4))
              have h00 := nI_z (Nat.le_trans hs9.1 (by decide)) h0
              refine v_aload_n (pc := 209) C 6 d_La_law_209 rfl rfl ?_
              refine v_iconst (pc := 210) C (nI 0) d_La_law_210 (by decide +kernel) ?_
              refine v_lald (pc := 211) C 0 rfl 0 rfl (by omega) (by decide) d_La_law_211 ?_
              refine v_iload (pc := 212) C 0 d_La_law_212 rfl ?_
              refine v_i2l (pc := 214) C (((spLine σ (xs (5 * t + 1)) (xs (5 * t + 2)) (xs (5 * t + 3)) (xs (5 * t + 4))).2.1).toInt64) d_La_law_214 rfl ?_
              refine v_lcmp (pc := 215) C d_La_law_215 ?_
              refine v_if_eq (pc := 216) C 221 d_La_law_216 (by decide) (fun hl => ?_) (fun hl => ?_)
              · refine v_goto (pc := 221) C 756 d_La_law_221 (by decide) ?_
                refine v_lsub [2, 3, 4, 5, 6] [(4, .int (nI (5 * t))), (0, .ref scr), (1, .ref o), (2, .ref h), (3, .ref out)] rfl ?_
                refine v_widen (c1 := 42 + 4 * (t + 1)) (s1 := 49295 + 25 * (t + 1)) (by omega) (by omega) ?_
                exact nxt f7 w9 wm8 (spLine σ (xs (5 * t + 1)) (xs (5 * t + 2)) (xs (5 * t + 3)) (xs (5 * t + 4))).2.2 k _ (by omega) hwx7 hwm8
              · exact absurd (lgc_eq.mpr (hf7 h00)) hl
          · exact absurd rfl he
        · refine v_tbl (pc := 39) (off := 185) C 224 d_La_law_39 (by decide) (by decide) (by decide +kernel) (by decide) ?_
          refine v_aload_n (pc := 224) C 2 d_La_law_224 rfl rfl ?_
          refine v_aload_n (pc := 225) C 1 d_La_law_225 rfl rfl ?_
          refine v_iload (pc := 226) C 0 d_La_law_226 rfl ?_
          refine v_iconst (pc := 228) C (nI 1) d_La_law_228 (by decide +kernel) ?_
          refine v_iadd (pc := 229) C (nI (5 * t + 1)) d_La_law_229 (nI_add _ _) ?_
          refine v_sld (pc := 230) C hX hbl hbA (5 * t + 1) (by omega) (by omega) d_La_law_230 ?_
          refine v_aload_n (pc := 231) C 1 d_La_law_231 rfl rfl ?_
          refine v_iload (pc := 232) C 0 d_La_law_232 rfl ?_
          refine v_iconst (pc := 234) C (nI 2) d_La_law_234 (by decide +kernel) ?_
          refine v_iadd (pc := 235) C (nI (5 * t + 2)) d_La_law_235 (nI_add _ _) ?_
          refine v_sld (pc := 236) C hX hbl hbA (5 * t + 2) (by omega) (by omega) d_La_law_236 ?_
          refine v_aload_n (pc := 237) C 1 d_La_law_237 rfl rfl ?_
          refine v_iload (pc := 238) C 0 d_La_law_238 rfl ?_
          refine v_iconst (pc := 240) C (nI 3) d_La_law_240 (by decide +kernel) ?_
          refine v_iadd (pc := 241) C (nI (5 * t + 3)) d_La_law_241 (nI_add _ _) ?_
          refine v_sld (pc := 242) C hX hbl hbA (5 * t + 3) (by omega) (by omega) d_La_law_242 ?_
          refine v_aload_n (pc := 243) C 1 d_La_law_243 rfl rfl ?_
          refine v_iload (pc := 244) C 0 d_La_law_244 rfl ?_
          refine v_iconst (pc := 246) C (nI 4) d_La_law_246 (by decide +kernel) ?_
          refine v_iadd (pc := 247) C (nI (5 * t + 4)) d_La_law_247 (nI_add _ _) ?_
          refine v_sld (pc := 248) C hX hbl hbA (5 * t + 4) (by omega) (by omega) d_La_law_248 ?_
          refine v_if_eq (pc := 249) C 256 d_La_law_249 (by decide) (fun hb => ?_) (fun hb => ?_)
          · refine v_iconst (pc := 256) C (nI 0) d_La_law_256 (by decide +kernel) ?_
            refine v_aload_n (pc := 257) C 4 d_La_law_257 rfl rfl ?_
            refine v_callH (pc := 258) (As := [.ref o, .int (xs (5 * t + 1)), .int (xs (5 * t + 2)), .int (xs (5 * t + 3)), .int (nI 0), .ref out]) (rest := []) C hZ hnc (c_La_element _ htr G o k σ wx out f (xs (5 * t + 1)) (xs (5 * t + 2)) (xs (5 * t + 3)) 0 hwx (by decide)) l_La_62 (wm) (sp_perm pmA) rfl rfl (Nat.le_of_ble_eq_true rfl) (by decide) (by decide) (by dsimp only; omega) (by dsimp only; omega) d_La_law_258 (fun r w8 hq => ?_)
            obtain ⟨rfl, f7, w9, rfl, hwx7, hf7⟩ := hq
            refine v_perm ([(out, aJ G 1 f7)] ++ (w9 ++ wm)) pmA.symm ?_
            show vv K ({ frames := 10, cells := 601024, slots := 7293034, locals := 386 } : Room) G 7 (42 + 4 * t + 1) (49295 + 25 * t + 6) ([(out, aJ G 1 f7)] ++ (w9 ++ wm)) 261 [(4, .int (nI (5 * t))), (0, .ref scr), (1, .ref o), (2, .ref h), (3, .ref out)] [.int (nI (spElement σ (xs (5 * t + 1)) (xs (5 * t + 2)) (xs (5 * t + 3)) 0).1)]
            refine v_istore (pc := 261) C [(5, .int (nI (spElement σ (xs (5 * t + 1)) (xs (5 * t + 2)) (xs (5 * t + 3)) 0).1)), (4, .int (nI (5 * t))), (0, .ref scr), (1, .ref o), (2, .ref h), (3, .ref out)] d_La_law_261 (by decide) rfl ?_
            refine v_aload_n (pc := 263) C 4 d_La_law_263 rfl rfl ?_
            refine v_aload_n (pc := 264) C 2 d_La_law_264 rfl rfl ?_
            refine v_iload (pc := 265) C 1 d_La_law_265 rfl ?_
            refine v_iconst (pc := 267) C (nI 1) d_La_law_267 (by decide +kernel) ?_
            refine v_iadd (pc := 268) C (nI (5 * t + 1)) d_La_law_268 (nI_add _ _) ?_
            refine v_sld (pc := 269) C hX hbl hbA (5 * t + 1) (by omega) (by omega) d_La_law_269 ?_
            refine v_aload_n (pc := 270) C 2 d_La_law_270 rfl rfl ?_
            refine v_iload (pc := 271) C 1 d_La_law_271 rfl ?_
            refine v_iconst (pc := 273) C (nI 2) d_La_law_273 (by decide +kernel) ?_
            refine v_iadd (pc := 274) C (nI (5 * t + 2)) d_La_law_274 (nI_add _ _) ?_
            refine v_sld (pc := 275) C hX hbl hbA (5 * t + 2) (by omega) (by omega) d_La_law_275 ?_
            refine v_aload_n (pc := 276) C 2 d_La_law_276 rfl rfl ?_
            refine v_iload (pc := 277) C 1 d_La_law_277 rfl ?_
            refine v_iconst (pc := 279) C (nI 3) d_La_law_279 (by decide +kernel) ?_
            refine v_iadd (pc := 280) C (nI (5 * t + 3)) d_La_law_280 (nI_add _ _) ?_
            refine v_sld (pc := 281) C hX hbl hbA (5 * t + 3) (by omega) (by omega) d_La_law_281 ?_
            refine v_aload_n (pc := 282) C 2 d_La_law_282 rfl rfl ?_
            refine v_iload (pc := 283) C 1 d_La_law_283 rfl ?_
            refine v_iconst (pc := 285) C (nI 4) d_La_law_285 (by decide +kernel) ?_
            refine v_iadd (pc := 286) C (nI (5 * t + 4)) d_La_law_286 (nI_add _ _) ?_
            refine v_sld (pc := 287) C hX hbl hbA (5 * t + 4) (by omega) (by omega) d_La_law_287 ?_
            refine v_if_eq (pc := 288) C 295 d_La_law_288 (by decide) (fun hb2 => ?_) (fun hb2 => ?_)
            · refine v_iconst (pc := 295) C (nI 0) d_La_law_295 (by decide +kernel) ?_
              refine v_callV (pc := 296) (As := [.int (xs (5 * t + 1)), .int (xs (5 * t + 2)), .int (xs (5 * t + 3)), .int (nI 0)]) (rest := []) C (m_element _ G h k σ fl wm (xs (5 * t + 1)) (xs (5 * t + 2)) (xs (5 * t + 3)) 0 hwm (by decide)) l_La_65 ([(out, aJ G 1 f7)] ++ w9) (sp_perm (List.Perm.refl _)) 0 hwm0 rfl rfl rfl rfl (Nat.le_of_ble_eq_true rfl) (by decide) (by decide) (by dsimp only; omega) (by dsimp only; omega) d_La_law_296 (fun r wm7 hq => ?_)
              obtain ⟨rfl, hwm7⟩ := hq
              show vv K ({ frames := 10, cells := 601024, slots := 7293034, locals := 386 } : Room) G 7 (42 + 4 * t + 1) (49295 + 25 * t + 6) ([(out, aJ G 1 f7)] ++ (w9 ++ wm7)) 299 [(5, .int (nI (spElement σ (xs (5 * t + 1)) (xs (5 * t + 2)) (xs (5 * t + 3)) 0).1)), (4, .int (nI (5 * t))), (0, .ref scr), (1, .ref o), (2, .ref h), (3, .ref out)] [.int ((spElement σ (xs (5 * t + 1)) (xs (5 * t + 2)) (xs (5 * t + 3)) 0).2.1)]
              obtain ⟨fs7, hwm70⟩ := moi_0 hwm7
              refine v_istore (pc := 299) C [(6, .int ((spElement σ (xs (5 * t + 1)) (xs (5 * t + 2)) (xs (5 * t + 3)) 0).2.1)), (5, .int (nI (spElement σ (xs (5 * t + 1)) (xs (5 * t + 2)) (xs (5 * t + 3)) 0).1)), (4, .int (nI (5 * t))), (0, .ref scr), (1, .ref o), (2, .ref h), (3, .ref out)] d_La_law_299 (by decide) rfl ?_
              refine v_aload_n (pc := 301) C 5 d_La_law_301 rfl rfl ?_
              refine v_callV (pc := 302) (As := []) (rest := []) C (m_thrown _ G h k (spElement σ (xs (5 * t + 1)) (xs (5 * t + 2)) (xs (5 * t + 3)) 0).2.2 (nI (spElement σ (xs (5 * t + 1)) (xs (5 * t + 2)) (xs (5 * t + 3)) 0).1) wm7 hwm7) l_La_54 ([(out, aJ G 1 f7)] ++ w9) (sp_perm (List.Perm.refl _)) 0 hwm70 rfl rfl rfl rfl (Nat.le_of_ble_eq_true rfl) (by decide) (by decide) (by dsimp only; omega) (by dsimp only; omega) d_La_law_302 (fun r wm8 hq => ?_)
              obtain ⟨rfl, hwm8⟩ := hq
              show vv K ({ frames := 10, cells := 601024, slots := 7293034, locals := 386 } : Room) G 7 (42 + 4 * t + 1) (49295 + 25 * t + 6) ([(out, aJ G 1 f7)] ++ (w9 ++ wm8)) 305 [(6, .int ((spElement σ (xs (5 * t + 1)) (xs (5 * t + 2)) (xs (5 * t + 3)) 0).2.1)), (5, .int (nI (spElement σ (xs (5 * t + 1)) (xs (5 * t + 2)) (xs (5 * t + 3)) 0).1)), (4, .int (nI (5 * t))), (0, .ref scr), (1, .ref o), (2, .ref h), (3, .ref out)] [.int (nI (spElement σ (xs (5 * t + 1)) (xs (5 * t + 2)) (xs (5 * t + 3)) 0).1)]
              refine v_iload (pc := 305) C 1 d_La_law_305 rfl ?_
              refine v_icmp_eq (pc := 307) C 312 d_La_law_307 (by decide) (fun he => ?_) (fun he => ?_)
              · refine v_iload (pc := 312) C 1 d_La_law_312 rfl ?_
                refine v_if_ne (pc := 314) C 329 d_La_law_314 (by decide) (fun h0 => ?_) (fun h0 => ?_)
                · refine v_goto (pc := 329) C 756 d_La_law_329 (by decide) ?_
                  refine v_lsub [2, 3, 4, 5, 6] [(4, .int (nI (5 * t))), (0, .ref scr), (1, .ref o), (2, .ref h), (3, .ref out)] rfl ?_
                  refine v_widen (c1 := 42 + 4 * (t + 1)) (s1 := 49295 + 25 * (t + 1)) (by omega) (by omega) ?_
                  exact nxt f7 w9 wm8 (spElement σ (xs (5 * t + 1)) (xs (5 * t + 2)) (xs (5 * t + 3)) 0).2.2 k _ (by omega) hwx7 hwm8
                · have hs9 := spElement_s σ (xs (5 * t + 1)) (xs (5 * t + 2)) (xs (5 * t + 3)) 0
                  have h00 := nI_z (Nat.le_trans hs9.1 (by decide)) h0
                  refine v_aload_n (pc := 317) C 6 d_La_law_317 rfl rfl ?_
                  refine v_iconst (pc := 318) C (nI 0) d_La_law_318 (by decide +kernel) ?_
                  refine v_lald (pc := 319) C 0 rfl 0 rfl (by omega) (by decide) d_La_law_319 ?_
                  refine v_iload (pc := 320) C 0 d_La_law_320 rfl ?_
                  refine v_i2l (pc := 322) C (((spElement σ (xs (5 * t + 1)) (xs (5 * t + 2)) (xs (5 * t + 3)) 0).2.1).toInt64) d_La_law_322 rfl ?_
                  refine v_lcmp (pc := 323) C d_La_law_323 ?_
                  refine v_if_eq (pc := 324) C 329 d_La_law_324 (by decide) (fun hl => ?_) (fun hl => ?_)
                  · refine v_goto (pc := 329) C 756 d_La_law_329 (by decide) ?_
                    refine v_lsub [2, 3, 4, 5, 6] [(4, .int (nI (5 * t))), (0, .ref scr), (1, .ref o), (2, .ref h), (3, .ref out)] rfl ?_
                    refine v_widen (c1 := 42 + 4 * (t + 1)) (s1 := 49295 + 25 * (t + 1)) (by omega) (by omega) ?_
                    exact nxt f7 w9 wm8 (spElement σ (xs (5 * t + 1)) (xs (5 * t + 2)) (xs (5 * t + 3)) 0).2.2 k _ (by omega) hwx7 hwm8
                  · exact absurd (lgc_eq.mpr (hf7 h00)) hl
              · exact absurd rfl he
            · exact absurd hb hb2
          · refine v_iconst (pc := 252) C (nI 1) d_La_law_252 (by decide +kernel) ?_
            refine v_goto (pc := 253) C 257 d_La_law_253 (by decide) ?_
            refine v_aload_n (pc := 257) C 4 d_La_law_257 rfl rfl ?_
            refine v_callH (pc := 258) (As := [.ref o, .int (xs (5 * t + 1)), .int (xs (5 * t + 2)), .int (xs (5 * t + 3)), .int (nI 1), .ref out]) (rest := []) C hZ hnc (c_La_element _ htr G o k σ wx out f (xs (5 * t + 1)) (xs (5 * t + 2)) (xs (5 * t + 3)) 1 hwx (by decide)) l_La_62 (wm) (sp_perm pmA) rfl rfl (Nat.le_of_ble_eq_true rfl) (by decide) (by decide) (by dsimp only; omega) (by dsimp only; omega) d_La_law_258 (fun r w8 hq => ?_)
            obtain ⟨rfl, f7, w9, rfl, hwx7, hf7⟩ := hq
            refine v_perm ([(out, aJ G 1 f7)] ++ (w9 ++ wm)) pmA.symm ?_
            show vv K ({ frames := 10, cells := 601024, slots := 7293034, locals := 386 } : Room) G 7 (42 + 4 * t + 1) (49295 + 25 * t + 6) ([(out, aJ G 1 f7)] ++ (w9 ++ wm)) 261 [(4, .int (nI (5 * t))), (0, .ref scr), (1, .ref o), (2, .ref h), (3, .ref out)] [.int (nI (spElement σ (xs (5 * t + 1)) (xs (5 * t + 2)) (xs (5 * t + 3)) 1).1)]
            refine v_istore (pc := 261) C [(5, .int (nI (spElement σ (xs (5 * t + 1)) (xs (5 * t + 2)) (xs (5 * t + 3)) 1).1)), (4, .int (nI (5 * t))), (0, .ref scr), (1, .ref o), (2, .ref h), (3, .ref out)] d_La_law_261 (by decide) rfl ?_
            refine v_aload_n (pc := 263) C 4 d_La_law_263 rfl rfl ?_
            refine v_aload_n (pc := 264) C 2 d_La_law_264 rfl rfl ?_
            refine v_iload (pc := 265) C 1 d_La_law_265 rfl ?_
            refine v_iconst (pc := 267) C (nI 1) d_La_law_267 (by decide +kernel) ?_
            refine v_iadd (pc := 268) C (nI (5 * t + 1)) d_La_law_268 (nI_add _ _) ?_
            refine v_sld (pc := 269) C hX hbl hbA (5 * t + 1) (by omega) (by omega) d_La_law_269 ?_
            refine v_aload_n (pc := 270) C 2 d_La_law_270 rfl rfl ?_
            refine v_iload (pc := 271) C 1 d_La_law_271 rfl ?_
            refine v_iconst (pc := 273) C (nI 2) d_La_law_273 (by decide +kernel) ?_
            refine v_iadd (pc := 274) C (nI (5 * t + 2)) d_La_law_274 (nI_add _ _) ?_
            refine v_sld (pc := 275) C hX hbl hbA (5 * t + 2) (by omega) (by omega) d_La_law_275 ?_
            refine v_aload_n (pc := 276) C 2 d_La_law_276 rfl rfl ?_
            refine v_iload (pc := 277) C 1 d_La_law_277 rfl ?_
            refine v_iconst (pc := 279) C (nI 3) d_La_law_279 (by decide +kernel) ?_
            refine v_iadd (pc := 280) C (nI (5 * t + 3)) d_La_law_280 (nI_add _ _) ?_
            refine v_sld (pc := 281) C hX hbl hbA (5 * t + 3) (by omega) (by omega) d_La_law_281 ?_
            refine v_aload_n (pc := 282) C 2 d_La_law_282 rfl rfl ?_
            refine v_iload (pc := 283) C 1 d_La_law_283 rfl ?_
            refine v_iconst (pc := 285) C (nI 4) d_La_law_285 (by decide +kernel) ?_
            refine v_iadd (pc := 286) C (nI (5 * t + 4)) d_La_law_286 (nI_add _ _) ?_
            refine v_sld (pc := 287) C hX hbl hbA (5 * t + 4) (by omega) (by omega) d_La_law_287 ?_
            refine v_if_eq (pc := 288) C 295 d_La_law_288 (by decide) (fun hb2 => ?_) (fun hb2 => ?_)
            · exact absurd hb2 hb
            · refine v_iconst (pc := 291) C (nI 1) d_La_law_291 (by decide +kernel) ?_
              refine v_goto (pc := 292) C 296 d_La_law_292 (by decide) ?_
              refine v_callV (pc := 296) (As := [.int (xs (5 * t + 1)), .int (xs (5 * t + 2)), .int (xs (5 * t + 3)), .int (nI 1)]) (rest := []) C (m_element _ G h k σ fl wm (xs (5 * t + 1)) (xs (5 * t + 2)) (xs (5 * t + 3)) 1 hwm (by decide)) l_La_65 ([(out, aJ G 1 f7)] ++ w9) (sp_perm (List.Perm.refl _)) 0 hwm0 rfl rfl rfl rfl (Nat.le_of_ble_eq_true rfl) (by decide) (by decide) (by dsimp only; omega) (by dsimp only; omega) d_La_law_296 (fun r wm7 hq => ?_)
              obtain ⟨rfl, hwm7⟩ := hq
              show vv K ({ frames := 10, cells := 601024, slots := 7293034, locals := 386 } : Room) G 7 (42 + 4 * t + 1) (49295 + 25 * t + 6) ([(out, aJ G 1 f7)] ++ (w9 ++ wm7)) 299 [(5, .int (nI (spElement σ (xs (5 * t + 1)) (xs (5 * t + 2)) (xs (5 * t + 3)) 1).1)), (4, .int (nI (5 * t))), (0, .ref scr), (1, .ref o), (2, .ref h), (3, .ref out)] [.int ((spElement σ (xs (5 * t + 1)) (xs (5 * t + 2)) (xs (5 * t + 3)) 1).2.1)]
              obtain ⟨fs7, hwm70⟩ := moi_0 hwm7
              refine v_istore (pc := 299) C [(6, .int ((spElement σ (xs (5 * t + 1)) (xs (5 * t + 2)) (xs (5 * t + 3)) 1).2.1)), (5, .int (nI (spElement σ (xs (5 * t + 1)) (xs (5 * t + 2)) (xs (5 * t + 3)) 1).1)), (4, .int (nI (5 * t))), (0, .ref scr), (1, .ref o), (2, .ref h), (3, .ref out)] d_La_law_299 (by decide) rfl ?_
              refine v_aload_n (pc := 301) C 5 d_La_law_301 rfl rfl ?_
              refine v_callV (pc := 302) (As := []) (rest := []) C (m_thrown _ G h k (spElement σ (xs (5 * t + 1)) (xs (5 * t + 2)) (xs (5 * t + 3)) 1).2.2 (nI (spElement σ (xs (5 * t + 1)) (xs (5 * t + 2)) (xs (5 * t + 3)) 1).1) wm7 hwm7) l_La_54 ([(out, aJ G 1 f7)] ++ w9) (sp_perm (List.Perm.refl _)) 0 hwm70 rfl rfl rfl rfl (Nat.le_of_ble_eq_true rfl) (by decide) (by decide) (by dsimp only; omega) (by dsimp only; omega) d_La_law_302 (fun r wm8 hq => ?_)
              obtain ⟨rfl, hwm8⟩ := hq
              show vv K ({ frames := 10, cells := 601024, slots := 7293034, locals := 386 } : Room) G 7 (42 + 4 * t + 1) (49295 + 25 * t + 6) ([(out, aJ G 1 f7)] ++ (w9 ++ wm8)) 305 [(6, .int ((spElement σ (xs (5 * t + 1)) (xs (5 * t + 2)) (xs (5 * t + 3)) 1).2.1)), (5, .int (nI (spElement σ (xs (5 * t + 1)) (xs (5 * t + 2)) (xs (5 * t + 3)) 1).1)), (4, .int (nI (5 * t))), (0, .ref scr), (1, .ref o), (2, .ref h), (3, .ref out)] [.int (nI (spElement σ (xs (5 * t + 1)) (xs (5 * t + 2)) (xs (5 * t + 3)) 1).1)]
              refine v_iload (pc := 305) C 1 d_La_law_305 rfl ?_
              refine v_icmp_eq (pc := 307) C 312 d_La_law_307 (by decide) (fun he => ?_) (fun he => ?_)
              · refine v_iload (pc := 312) C 1 d_La_law_312 rfl ?_
                refine v_if_ne (pc := 314) C 329 d_La_law_314 (by decide) (fun h0 => ?_) (fun h0 => ?_)
                · refine v_goto (pc := 329) C 756 d_La_law_329 (by decide) ?_
                  refine v_lsub [2, 3, 4, 5, 6] [(4, .int (nI (5 * t))), (0, .ref scr), (1, .ref o), (2, .ref h), (3, .ref out)] rfl ?_
                  refine v_widen (c1 := 42 + 4 * (t + 1)) (s1 := 49295 + 25 * (t + 1)) (by omega) (by omega) ?_
                  exact nxt f7 w9 wm8 (spElement σ (xs (5 * t + 1)) (xs (5 * t + 2)) (xs (5 * t + 3)) 1).2.2 k _ (by omega) hwx7 hwm8
                · have hs9 := spElement_s σ (xs (5 * t + 1)) (xs (5 * t + 2)) (xs (5 * t + 3)) 1
                  have h00 := nI_z (Nat.le_trans hs9.1 (by decide)) h0
                  refine v_aload_n (pc := 317) C 6 d_La_law_317 rfl rfl ?_
                  refine v_iconst (pc := 318) C (nI 0) d_La_law_318 (by decide +kernel) ?_
                  refine v_lald (pc := 319) C 0 rfl 0 rfl (by omega) (by decide) d_La_law_319 ?_
                  refine v_iload (pc := 320) C 0 d_La_law_320 rfl ?_
                  refine v_i2l (pc := 322) C (((spElement σ (xs (5 * t + 1)) (xs (5 * t + 2)) (xs (5 * t + 3)) 1).2.1).toInt64) d_La_law_322 rfl ?_
                  refine v_lcmp (pc := 323) C d_La_law_323 ?_
                  refine v_if_eq (pc := 324) C 329 d_La_law_324 (by decide) (fun hl => ?_) (fun hl => ?_)
                  · refine v_goto (pc := 329) C 756 d_La_law_329 (by decide) ?_
                    refine v_lsub [2, 3, 4, 5, 6] [(4, .int (nI (5 * t))), (0, .ref scr), (1, .ref o), (2, .ref h), (3, .ref out)] rfl ?_
                    refine v_widen (c1 := 42 + 4 * (t + 1)) (s1 := 49295 + 25 * (t + 1)) (by omega) (by omega) ?_
                    exact nxt f7 w9 wm8 (spElement σ (xs (5 * t + 1)) (xs (5 * t + 2)) (xs (5 * t + 3)) 1).2.2 k _ (by omega) hwx7 hwm8
                  · exact absurd (lgc_eq.mpr (hf7 h00)) hl
              · exact absurd rfl he
        · refine v_tbl (pc := 39) (off := 293) C 332 d_La_law_39 (by decide) (by decide) (by decide +kernel) (by decide) ?_
          refine v_aload_n (pc := 332) C 2 d_La_law_332 rfl rfl ?_
          refine v_aload_n (pc := 333) C 1 d_La_law_333 rfl rfl ?_
          refine v_iload (pc := 334) C 0 d_La_law_334 rfl ?_
          refine v_iconst (pc := 336) C (nI 1) d_La_law_336 (by decide +kernel) ?_
          refine v_iadd (pc := 337) C (nI (5 * t + 1)) d_La_law_337 (nI_add _ _) ?_
          refine v_sld (pc := 338) C hX hbl hbA (5 * t + 1) (by omega) (by omega) d_La_law_338 ?_
          refine v_aload_n (pc := 339) C 1 d_La_law_339 rfl rfl ?_
          refine v_iload (pc := 340) C 0 d_La_law_340 rfl ?_
          refine v_iconst (pc := 342) C (nI 2) d_La_law_342 (by decide +kernel) ?_
          refine v_iadd (pc := 343) C (nI (5 * t + 2)) d_La_law_343 (nI_add _ _) ?_
          refine v_sld (pc := 344) C hX hbl hbA (5 * t + 2) (by omega) (by omega) d_La_law_344 ?_
          refine v_aload_n (pc := 345) C 4 d_La_law_345 rfl rfl ?_
          refine v_callH (pc := 346) (As := [.ref o, .int (xs (5 * t + 1)), .int (xs (5 * t + 2)), .ref out]) (rest := []) C hZ hnc (c_La_add _ htr G o k σ wx out f (xs (5 * t + 1)) (xs (5 * t + 2)) hwx) l_La_66 (wm) (sp_perm pmA) rfl rfl (Nat.le_of_ble_eq_true rfl) (by decide) (by decide) (by dsimp only; omega) (by dsimp only; omega) d_La_law_346 (fun r w8 hq => ?_)
          obtain ⟨rfl, f7, w9, rfl, hwx7, hf7⟩ := hq
          refine v_perm ([(out, aJ G 1 f7)] ++ (w9 ++ wm)) pmA.symm ?_
          show vv K ({ frames := 10, cells := 601024, slots := 7293034, locals := 386 } : Room) G 7 (42 + 4 * t + 1) (49295 + 25 * t + 6) ([(out, aJ G 1 f7)] ++ (w9 ++ wm)) 349 [(4, .int (nI (5 * t))), (0, .ref scr), (1, .ref o), (2, .ref h), (3, .ref out)] [.int (nI (spAdd σ (xs (5 * t + 1)) (xs (5 * t + 2))).1)]
          refine v_istore (pc := 349) C [(5, .int (nI (spAdd σ (xs (5 * t + 1)) (xs (5 * t + 2))).1)), (4, .int (nI (5 * t))), (0, .ref scr), (1, .ref o), (2, .ref h), (3, .ref out)] d_La_law_349 (by decide) rfl ?_
          refine v_aload_n (pc := 351) C 4 d_La_law_351 rfl rfl ?_
          refine v_aload_n (pc := 352) C 2 d_La_law_352 rfl rfl ?_
          refine v_iload (pc := 353) C 1 d_La_law_353 rfl ?_
          refine v_iconst (pc := 355) C (nI 1) d_La_law_355 (by decide +kernel) ?_
          refine v_iadd (pc := 356) C (nI (5 * t + 1)) d_La_law_356 (nI_add _ _) ?_
          refine v_sld (pc := 357) C hX hbl hbA (5 * t + 1) (by omega) (by omega) d_La_law_357 ?_
          refine v_aload_n (pc := 358) C 2 d_La_law_358 rfl rfl ?_
          refine v_iload (pc := 359) C 1 d_La_law_359 rfl ?_
          refine v_iconst (pc := 361) C (nI 2) d_La_law_361 (by decide +kernel) ?_
          refine v_iadd (pc := 362) C (nI (5 * t + 2)) d_La_law_362 (nI_add _ _) ?_
          refine v_sld (pc := 363) C hX hbl hbA (5 * t + 2) (by omega) (by omega) d_La_law_363 ?_
          refine v_callV (pc := 364) (As := [.int (xs (5 * t + 1)), .int (xs (5 * t + 2))]) (rest := []) C (m_add _ G h k σ fl wm (xs (5 * t + 1)) (xs (5 * t + 2)) hwm) l_La_69 ([(out, aJ G 1 f7)] ++ w9) (sp_perm (List.Perm.refl _)) 0 hwm0 rfl rfl rfl rfl (Nat.le_of_ble_eq_true rfl) (by decide) (by decide) (by dsimp only; omega) (by dsimp only; omega) d_La_law_364 (fun r wm7 hq => ?_)
          obtain ⟨rfl, hwm7⟩ := hq
          show vv K ({ frames := 10, cells := 601024, slots := 7293034, locals := 386 } : Room) G 7 (42 + 4 * t + 1) (49295 + 25 * t + 6) ([(out, aJ G 1 f7)] ++ (w9 ++ wm7)) 367 [(5, .int (nI (spAdd σ (xs (5 * t + 1)) (xs (5 * t + 2))).1)), (4, .int (nI (5 * t))), (0, .ref scr), (1, .ref o), (2, .ref h), (3, .ref out)] [.int ((spAdd σ (xs (5 * t + 1)) (xs (5 * t + 2))).2.1)]
          obtain ⟨fs7, hwm70⟩ := moi_0 hwm7
          refine v_istore (pc := 367) C [(6, .int ((spAdd σ (xs (5 * t + 1)) (xs (5 * t + 2))).2.1)), (5, .int (nI (spAdd σ (xs (5 * t + 1)) (xs (5 * t + 2))).1)), (4, .int (nI (5 * t))), (0, .ref scr), (1, .ref o), (2, .ref h), (3, .ref out)] d_La_law_367 (by decide) rfl ?_
          refine v_aload_n (pc := 369) C 5 d_La_law_369 rfl rfl ?_
          refine v_callV (pc := 370) (As := []) (rest := []) C (m_thrown _ G h k (spAdd σ (xs (5 * t + 1)) (xs (5 * t + 2))).2.2 (nI (spAdd σ (xs (5 * t + 1)) (xs (5 * t + 2))).1) wm7 hwm7) l_La_54 ([(out, aJ G 1 f7)] ++ w9) (sp_perm (List.Perm.refl _)) 0 hwm70 rfl rfl rfl rfl (Nat.le_of_ble_eq_true rfl) (by decide) (by decide) (by dsimp only; omega) (by dsimp only; omega) d_La_law_370 (fun r wm8 hq => ?_)
          obtain ⟨rfl, hwm8⟩ := hq
          show vv K ({ frames := 10, cells := 601024, slots := 7293034, locals := 386 } : Room) G 7 (42 + 4 * t + 1) (49295 + 25 * t + 6) ([(out, aJ G 1 f7)] ++ (w9 ++ wm8)) 373 [(6, .int ((spAdd σ (xs (5 * t + 1)) (xs (5 * t + 2))).2.1)), (5, .int (nI (spAdd σ (xs (5 * t + 1)) (xs (5 * t + 2))).1)), (4, .int (nI (5 * t))), (0, .ref scr), (1, .ref o), (2, .ref h), (3, .ref out)] [.int (nI (spAdd σ (xs (5 * t + 1)) (xs (5 * t + 2))).1)]
          refine v_iload (pc := 373) C 1 d_La_law_373 rfl ?_
          refine v_icmp_eq (pc := 375) C 380 d_La_law_375 (by decide) (fun he => ?_) (fun he => ?_)
          · refine v_iload (pc := 380) C 1 d_La_law_380 rfl ?_
            refine v_if_ne (pc := 382) C 397 d_La_law_382 (by decide) (fun h0 => ?_) (fun h0 => ?_)
            · refine v_goto (pc := 397) C 756 d_La_law_397 (by decide) ?_
              refine v_lsub [2, 3, 4, 5, 6] [(4, .int (nI (5 * t))), (0, .ref scr), (1, .ref o), (2, .ref h), (3, .ref out)] rfl ?_
              refine v_widen (c1 := 42 + 4 * (t + 1)) (s1 := 49295 + 25 * (t + 1)) (by omega) (by omega) ?_
              exact nxt f7 w9 wm8 (spAdd σ (xs (5 * t + 1)) (xs (5 * t + 2))).2.2 k _ (by omega) hwx7 hwm8
            · have hs9 := spAdd_s σ (xs (5 * t + 1)) (xs (5 * t + 2))
              have h00 := nI_z (Nat.le_trans hs9.1 (by decide)) h0
              refine v_aload_n (pc := 385) C 6 d_La_law_385 rfl rfl ?_
              refine v_iconst (pc := 386) C (nI 0) d_La_law_386 (by decide +kernel) ?_
              refine v_lald (pc := 387) C 0 rfl 0 rfl (by omega) (by decide) d_La_law_387 ?_
              refine v_iload (pc := 388) C 0 d_La_law_388 rfl ?_
              refine v_i2l (pc := 390) C (((spAdd σ (xs (5 * t + 1)) (xs (5 * t + 2))).2.1).toInt64) d_La_law_390 rfl ?_
              refine v_lcmp (pc := 391) C d_La_law_391 ?_
              refine v_if_eq (pc := 392) C 397 d_La_law_392 (by decide) (fun hl => ?_) (fun hl => ?_)
              · refine v_goto (pc := 397) C 756 d_La_law_397 (by decide) ?_
                refine v_lsub [2, 3, 4, 5, 6] [(4, .int (nI (5 * t))), (0, .ref scr), (1, .ref o), (2, .ref h), (3, .ref out)] rfl ?_
                refine v_widen (c1 := 42 + 4 * (t + 1)) (s1 := 49295 + 25 * (t + 1)) (by omega) (by omega) ?_
                exact nxt f7 w9 wm8 (spAdd σ (xs (5 * t + 1)) (xs (5 * t + 2))).2.2 k _ (by omega) hwx7 hwm8
              · exact absurd (lgc_eq.mpr (hf7 h00)) hl
          · exact absurd rfl he
        · refine v_tbl (pc := 39) (off := 361) C 400 d_La_law_39 (by decide) (by decide) (by decide +kernel) (by decide) ?_
          refine v_aload_n (pc := 400) C 2 d_La_law_400 rfl rfl ?_
          refine v_aload_n (pc := 401) C 1 d_La_law_401 rfl rfl ?_
          refine v_iload (pc := 402) C 0 d_La_law_402 rfl ?_
          refine v_iconst (pc := 404) C (nI 1) d_La_law_404 (by decide +kernel) ?_
          refine v_iadd (pc := 405) C (nI (5 * t + 1)) d_La_law_405 (nI_add _ _) ?_
          refine v_sld (pc := 406) C hX hbl hbA (5 * t + 1) (by omega) (by omega) d_La_law_406 ?_
          refine v_aload_n (pc := 407) C 4 d_La_law_407 rfl rfl ?_
          refine v_callH (pc := 408) (As := [.ref o, .int (xs (5 * t + 1)), .ref out]) (rest := []) C hZ hnc (c_La_clear _ htr G o k σ wx out f (xs (5 * t + 1)) hwx) l_La_70 (wm) (sp_perm pmA) rfl rfl (Nat.le_of_ble_eq_true rfl) (by decide) (by decide) (by dsimp only; omega) (by dsimp only; omega) d_La_law_408 (fun r w8 hq => ?_)
          obtain ⟨rfl, f7, w9, rfl, hwx7, hf7⟩ := hq
          refine v_perm ([(out, aJ G 1 f7)] ++ (w9 ++ wm)) pmA.symm ?_
          show vv K ({ frames := 10, cells := 601024, slots := 7293034, locals := 386 } : Room) G 7 (42 + 4 * t + 1) (49295 + 25 * t + 6) ([(out, aJ G 1 f7)] ++ (w9 ++ wm)) 411 [(4, .int (nI (5 * t))), (0, .ref scr), (1, .ref o), (2, .ref h), (3, .ref out)] [.int (nI (spClear σ (xs (5 * t + 1))).1)]
          refine v_istore (pc := 411) C [(5, .int (nI (spClear σ (xs (5 * t + 1))).1)), (4, .int (nI (5 * t))), (0, .ref scr), (1, .ref o), (2, .ref h), (3, .ref out)] d_La_law_411 (by decide) rfl ?_
          refine v_aload_n (pc := 413) C 4 d_La_law_413 rfl rfl ?_
          refine v_aload_n (pc := 414) C 2 d_La_law_414 rfl rfl ?_
          refine v_iload (pc := 415) C 1 d_La_law_415 rfl ?_
          refine v_iconst (pc := 417) C (nI 1) d_La_law_417 (by decide +kernel) ?_
          refine v_iadd (pc := 418) C (nI (5 * t + 1)) d_La_law_418 (nI_add _ _) ?_
          refine v_sld (pc := 419) C hX hbl hbA (5 * t + 1) (by omega) (by omega) d_La_law_419 ?_
          refine v_callV (pc := 420) (As := [.int (xs (5 * t + 1))]) (rest := []) C (m_clear _ G h k σ fl wm (xs (5 * t + 1)) hwm) l_La_73 ([(out, aJ G 1 f7)] ++ w9) (sp_perm (List.Perm.refl _)) 0 hwm0 rfl rfl rfl rfl (Nat.le_of_ble_eq_true rfl) (by decide) (by decide) (by dsimp only; omega) (by dsimp only; omega) d_La_law_420 (fun r wm7 hq => ?_)
          obtain ⟨rfl, hwm7⟩ := hq
          show vv K ({ frames := 10, cells := 601024, slots := 7293034, locals := 386 } : Room) G 7 (42 + 4 * t + 1) (49295 + 25 * t + 6) ([(out, aJ G 1 f7)] ++ (w9 ++ wm7)) 423 [(5, .int (nI (spClear σ (xs (5 * t + 1))).1)), (4, .int (nI (5 * t))), (0, .ref scr), (1, .ref o), (2, .ref h), (3, .ref out)] [.int ((spClear σ (xs (5 * t + 1))).2.1)]
          obtain ⟨fs7, hwm70⟩ := moi_0 hwm7
          refine v_istore (pc := 423) C [(6, .int ((spClear σ (xs (5 * t + 1))).2.1)), (5, .int (nI (spClear σ (xs (5 * t + 1))).1)), (4, .int (nI (5 * t))), (0, .ref scr), (1, .ref o), (2, .ref h), (3, .ref out)] d_La_law_423 (by decide) rfl ?_
          refine v_aload_n (pc := 425) C 5 d_La_law_425 rfl rfl ?_
          refine v_callV (pc := 426) (As := []) (rest := []) C (m_thrown _ G h k (spClear σ (xs (5 * t + 1))).2.2 (nI (spClear σ (xs (5 * t + 1))).1) wm7 hwm7) l_La_54 ([(out, aJ G 1 f7)] ++ w9) (sp_perm (List.Perm.refl _)) 0 hwm70 rfl rfl rfl rfl (Nat.le_of_ble_eq_true rfl) (by decide) (by decide) (by dsimp only; omega) (by dsimp only; omega) d_La_law_426 (fun r wm8 hq => ?_)
          obtain ⟨rfl, hwm8⟩ := hq
          show vv K ({ frames := 10, cells := 601024, slots := 7293034, locals := 386 } : Room) G 7 (42 + 4 * t + 1) (49295 + 25 * t + 6) ([(out, aJ G 1 f7)] ++ (w9 ++ wm8)) 429 [(6, .int ((spClear σ (xs (5 * t + 1))).2.1)), (5, .int (nI (spClear σ (xs (5 * t + 1))).1)), (4, .int (nI (5 * t))), (0, .ref scr), (1, .ref o), (2, .ref h), (3, .ref out)] [.int (nI (spClear σ (xs (5 * t + 1))).1)]
          refine v_iload (pc := 429) C 1 d_La_law_429 rfl ?_
          refine v_icmp_eq (pc := 431) C 436 d_La_law_431 (by decide) (fun he => ?_) (fun he => ?_)
          · refine v_iload (pc := 436) C 1 d_La_law_436 rfl ?_
            refine v_if_ne (pc := 438) C 453 d_La_law_438 (by decide) (fun h0 => ?_) (fun h0 => ?_)
            · refine v_goto (pc := 453) C 756 d_La_law_453 (by decide) ?_
              refine v_lsub [2, 3, 4, 5, 6] [(4, .int (nI (5 * t))), (0, .ref scr), (1, .ref o), (2, .ref h), (3, .ref out)] rfl ?_
              refine v_widen (c1 := 42 + 4 * (t + 1)) (s1 := 49295 + 25 * (t + 1)) (by omega) (by omega) ?_
              exact nxt f7 w9 wm8 (spClear σ (xs (5 * t + 1))).2.2 k _ (by omega) hwx7 hwm8
            · have hs9 := spClear_s σ (xs (5 * t + 1))
              have h00 := nI_z (Nat.le_trans hs9.1 (by decide)) h0
              refine v_aload_n (pc := 441) C 6 d_La_law_441 rfl rfl ?_
              refine v_iconst (pc := 442) C (nI 0) d_La_law_442 (by decide +kernel) ?_
              refine v_lald (pc := 443) C 0 rfl 0 rfl (by omega) (by decide) d_La_law_443 ?_
              refine v_iload (pc := 444) C 0 d_La_law_444 rfl ?_
              refine v_i2l (pc := 446) C (((spClear σ (xs (5 * t + 1))).2.1).toInt64) d_La_law_446 rfl ?_
              refine v_lcmp (pc := 447) C d_La_law_447 ?_
              refine v_if_eq (pc := 448) C 453 d_La_law_448 (by decide) (fun hl => ?_) (fun hl => ?_)
              · refine v_goto (pc := 453) C 756 d_La_law_453 (by decide) ?_
                refine v_lsub [2, 3, 4, 5, 6] [(4, .int (nI (5 * t))), (0, .ref scr), (1, .ref o), (2, .ref h), (3, .ref out)] rfl ?_
                refine v_widen (c1 := 42 + 4 * (t + 1)) (s1 := 49295 + 25 * (t + 1)) (by omega) (by omega) ?_
                exact nxt f7 w9 wm8 (spClear σ (xs (5 * t + 1))).2.2 k _ (by omega) hwx7 hwm8
              · exact absurd (lgc_eq.mpr (hf7 h00)) hl
          · exact absurd rfl he
        · refine v_tbl (pc := 39) (off := 417) C 456 d_La_law_39 (by decide) (by decide) (by decide +kernel) (by decide) ?_
          refine v_aload_n (pc := 456) C 2 d_La_law_456 rfl rfl ?_
          refine v_aload_n (pc := 457) C 1 d_La_law_457 rfl rfl ?_
          refine v_iload (pc := 458) C 0 d_La_law_458 rfl ?_
          refine v_iconst (pc := 460) C (nI 1) d_La_law_460 (by decide +kernel) ?_
          refine v_iadd (pc := 461) C (nI (5 * t + 1)) d_La_law_461 (nI_add _ _) ?_
          refine v_sld (pc := 462) C hX hbl hbA (5 * t + 1) (by omega) (by omega) d_La_law_462 ?_
          refine v_aload_n (pc := 463) C 1 d_La_law_463 rfl rfl ?_
          refine v_iload (pc := 464) C 0 d_La_law_464 rfl ?_
          refine v_iconst (pc := 466) C (nI 2) d_La_law_466 (by decide +kernel) ?_
          refine v_iadd (pc := 467) C (nI (5 * t + 2)) d_La_law_467 (nI_add _ _) ?_
          refine v_sld (pc := 468) C hX hbl hbA (5 * t + 2) (by omega) (by omega) d_La_law_468 ?_
          refine v_if_eq (pc := 469) C 476 d_La_law_469 (by decide) (fun hb => ?_) (fun hb => ?_)
          · refine v_iconst (pc := 476) C (nI 0) d_La_law_476 (by decide +kernel) ?_
            refine v_aload_n (pc := 477) C 4 d_La_law_477 rfl rfl ?_
            refine v_callH (pc := 478) (As := [.ref o, .int (xs (5 * t + 1)), .int (nI 0), .ref out]) (rest := []) C hZ hnc (c_La_count _ htr G o k σ wx out f (xs (5 * t + 1)) 0 hwx (by decide)) l_La_74 (wm) (sp_perm pmA) rfl rfl (Nat.le_of_ble_eq_true rfl) (by decide) (by decide) (by dsimp only; omega) (by dsimp only; omega) d_La_law_478 (fun r w8 hq => ?_)
            obtain ⟨rfl, f7, w9, rfl, hwx7, hf7⟩ := hq
            refine v_perm ([(out, aJ G 1 f7)] ++ (w9 ++ wm)) pmA.symm ?_
            show vv K ({ frames := 10, cells := 601024, slots := 7293034, locals := 386 } : Room) G 7 (42 + 4 * t + 1) (49295 + 25 * t + 6) ([(out, aJ G 1 f7)] ++ (w9 ++ wm)) 481 [(4, .int (nI (5 * t))), (0, .ref scr), (1, .ref o), (2, .ref h), (3, .ref out)] [.int (nI (spCount σ (xs (5 * t + 1))).1)]
            refine v_istore (pc := 481) C [(5, .int (nI (spCount σ (xs (5 * t + 1))).1)), (4, .int (nI (5 * t))), (0, .ref scr), (1, .ref o), (2, .ref h), (3, .ref out)] d_La_law_481 (by decide) rfl ?_
            refine v_aload_n (pc := 483) C 4 d_La_law_483 rfl rfl ?_
            refine v_aload_n (pc := 484) C 2 d_La_law_484 rfl rfl ?_
            refine v_iload (pc := 485) C 1 d_La_law_485 rfl ?_
            refine v_iconst (pc := 487) C (nI 1) d_La_law_487 (by decide +kernel) ?_
            refine v_iadd (pc := 488) C (nI (5 * t + 1)) d_La_law_488 (nI_add _ _) ?_
            refine v_sld (pc := 489) C hX hbl hbA (5 * t + 1) (by omega) (by omega) d_La_law_489 ?_
            refine v_aload_n (pc := 490) C 2 d_La_law_490 rfl rfl ?_
            refine v_iload (pc := 491) C 1 d_La_law_491 rfl ?_
            refine v_iconst (pc := 493) C (nI 2) d_La_law_493 (by decide +kernel) ?_
            refine v_iadd (pc := 494) C (nI (5 * t + 2)) d_La_law_494 (nI_add _ _) ?_
            refine v_sld (pc := 495) C hX hbl hbA (5 * t + 2) (by omega) (by omega) d_La_law_495 ?_
            refine v_if_eq (pc := 496) C 503 d_La_law_496 (by decide) (fun hb2 => ?_) (fun hb2 => ?_)
            · refine v_iconst (pc := 503) C (nI 0) d_La_law_503 (by decide +kernel) ?_
              refine v_callV (pc := 504) (As := [.int (xs (5 * t + 1)), .int (nI 0)]) (rest := []) C (m_count _ G h k σ fl wm (xs (5 * t + 1)) 0 hwm (by decide)) l_La_77 ([(out, aJ G 1 f7)] ++ w9) (sp_perm (List.Perm.refl _)) 0 hwm0 rfl rfl rfl rfl (Nat.le_of_ble_eq_true rfl) (by decide) (by decide) (by dsimp only; omega) (by dsimp only; omega) d_La_law_504 (fun r wm7 hq => ?_)
              obtain ⟨rfl, hwm7⟩ := hq
              show vv K ({ frames := 10, cells := 601024, slots := 7293034, locals := 386 } : Room) G 7 (42 + 4 * t + 1) (49295 + 25 * t + 6) ([(out, aJ G 1 f7)] ++ (w9 ++ wm7)) 507 [(5, .int (nI (spCount σ (xs (5 * t + 1))).1)), (4, .int (nI (5 * t))), (0, .ref scr), (1, .ref o), (2, .ref h), (3, .ref out)] [.int ((spCount σ (xs (5 * t + 1))).2.1)]
              obtain ⟨fs7, hwm70⟩ := moi_0 hwm7
              refine v_istore (pc := 507) C [(6, .int ((spCount σ (xs (5 * t + 1))).2.1)), (5, .int (nI (spCount σ (xs (5 * t + 1))).1)), (4, .int (nI (5 * t))), (0, .ref scr), (1, .ref o), (2, .ref h), (3, .ref out)] d_La_law_507 (by decide) rfl ?_
              refine v_aload_n (pc := 509) C 5 d_La_law_509 rfl rfl ?_
              refine v_callV (pc := 510) (As := []) (rest := []) C (m_thrown _ G h k (spCount σ (xs (5 * t + 1))).2.2 (nI (spCount σ (xs (5 * t + 1))).1) wm7 hwm7) l_La_54 ([(out, aJ G 1 f7)] ++ w9) (sp_perm (List.Perm.refl _)) 0 hwm70 rfl rfl rfl rfl (Nat.le_of_ble_eq_true rfl) (by decide) (by decide) (by dsimp only; omega) (by dsimp only; omega) d_La_law_510 (fun r wm8 hq => ?_)
              obtain ⟨rfl, hwm8⟩ := hq
              show vv K ({ frames := 10, cells := 601024, slots := 7293034, locals := 386 } : Room) G 7 (42 + 4 * t + 1) (49295 + 25 * t + 6) ([(out, aJ G 1 f7)] ++ (w9 ++ wm8)) 513 [(6, .int ((spCount σ (xs (5 * t + 1))).2.1)), (5, .int (nI (spCount σ (xs (5 * t + 1))).1)), (4, .int (nI (5 * t))), (0, .ref scr), (1, .ref o), (2, .ref h), (3, .ref out)] [.int (nI (spCount σ (xs (5 * t + 1))).1)]
              refine v_iload (pc := 513) C 1 d_La_law_513 rfl ?_
              refine v_icmp_eq (pc := 515) C 520 d_La_law_515 (by decide) (fun he => ?_) (fun he => ?_)
              · refine v_iload (pc := 520) C 1 d_La_law_520 rfl ?_
                refine v_if_ne (pc := 522) C 537 d_La_law_522 (by decide) (fun h0 => ?_) (fun h0 => ?_)
                · refine v_goto (pc := 537) C 756 d_La_law_537 (by decide) ?_
                  refine v_lsub [2, 3, 4, 5, 6] [(4, .int (nI (5 * t))), (0, .ref scr), (1, .ref o), (2, .ref h), (3, .ref out)] rfl ?_
                  refine v_widen (c1 := 42 + 4 * (t + 1)) (s1 := 49295 + 25 * (t + 1)) (by omega) (by omega) ?_
                  exact nxt f7 w9 wm8 (spCount σ (xs (5 * t + 1))).2.2 k _ (by omega) hwx7 hwm8
                · have hs9 := spCount_s σ (xs (5 * t + 1))
                  have h00 := nI_z (Nat.le_trans hs9.1 (by decide)) h0
                  refine v_aload_n (pc := 525) C 6 d_La_law_525 rfl rfl ?_
                  refine v_iconst (pc := 526) C (nI 0) d_La_law_526 (by decide +kernel) ?_
                  refine v_lald (pc := 527) C 0 rfl 0 rfl (by omega) (by decide) d_La_law_527 ?_
                  refine v_iload (pc := 528) C 0 d_La_law_528 rfl ?_
                  refine v_i2l (pc := 530) C (((spCount σ (xs (5 * t + 1))).2.1).toInt64) d_La_law_530 rfl ?_
                  refine v_lcmp (pc := 531) C d_La_law_531 ?_
                  refine v_if_eq (pc := 532) C 537 d_La_law_532 (by decide) (fun hl => ?_) (fun hl => ?_)
                  · refine v_goto (pc := 537) C 756 d_La_law_537 (by decide) ?_
                    refine v_lsub [2, 3, 4, 5, 6] [(4, .int (nI (5 * t))), (0, .ref scr), (1, .ref o), (2, .ref h), (3, .ref out)] rfl ?_
                    refine v_widen (c1 := 42 + 4 * (t + 1)) (s1 := 49295 + 25 * (t + 1)) (by omega) (by omega) ?_
                    exact nxt f7 w9 wm8 (spCount σ (xs (5 * t + 1))).2.2 k _ (by omega) hwx7 hwm8
                  · exact absurd (lgc_eq.mpr (hf7 h00)) hl
              · exact absurd rfl he
            · exact absurd hb hb2
          · refine v_iconst (pc := 472) C (nI 1) d_La_law_472 (by decide +kernel) ?_
            refine v_goto (pc := 473) C 477 d_La_law_473 (by decide) ?_
            refine v_aload_n (pc := 477) C 4 d_La_law_477 rfl rfl ?_
            refine v_callH (pc := 478) (As := [.ref o, .int (xs (5 * t + 1)), .int (nI 1), .ref out]) (rest := []) C hZ hnc (c_La_count _ htr G o k σ wx out f (xs (5 * t + 1)) 1 hwx (by decide)) l_La_74 (wm) (sp_perm pmA) rfl rfl (Nat.le_of_ble_eq_true rfl) (by decide) (by decide) (by dsimp only; omega) (by dsimp only; omega) d_La_law_478 (fun r w8 hq => ?_)
            obtain ⟨rfl, f7, w9, rfl, hwx7, hf7⟩ := hq
            refine v_perm ([(out, aJ G 1 f7)] ++ (w9 ++ wm)) pmA.symm ?_
            show vv K ({ frames := 10, cells := 601024, slots := 7293034, locals := 386 } : Room) G 7 (42 + 4 * t + 1) (49295 + 25 * t + 6) ([(out, aJ G 1 f7)] ++ (w9 ++ wm)) 481 [(4, .int (nI (5 * t))), (0, .ref scr), (1, .ref o), (2, .ref h), (3, .ref out)] [.int (nI (spCount σ (xs (5 * t + 1))).1)]
            refine v_istore (pc := 481) C [(5, .int (nI (spCount σ (xs (5 * t + 1))).1)), (4, .int (nI (5 * t))), (0, .ref scr), (1, .ref o), (2, .ref h), (3, .ref out)] d_La_law_481 (by decide) rfl ?_
            refine v_aload_n (pc := 483) C 4 d_La_law_483 rfl rfl ?_
            refine v_aload_n (pc := 484) C 2 d_La_law_484 rfl rfl ?_
            refine v_iload (pc := 485) C 1 d_La_law_485 rfl ?_
            refine v_iconst (pc := 487) C (nI 1) d_La_law_487 (by decide +kernel) ?_
            refine v_iadd (pc := 488) C (nI (5 * t + 1)) d_La_law_488 (nI_add _ _) ?_
            refine v_sld (pc := 489) C hX hbl hbA (5 * t + 1) (by omega) (by omega) d_La_law_489 ?_
            refine v_aload_n (pc := 490) C 2 d_La_law_490 rfl rfl ?_
            refine v_iload (pc := 491) C 1 d_La_law_491 rfl ?_
            refine v_iconst (pc := 493) C (nI 2) d_La_law_493 (by decide +kernel) ?_
            refine v_iadd (pc := 494) C (nI (5 * t + 2)) d_La_law_494 (nI_add _ _) ?_
            refine v_sld (pc := 495) C hX hbl hbA (5 * t + 2) (by omega) (by omega) d_La_law_495 ?_
            refine v_if_eq (pc := 496) C 503 d_La_law_496 (by decide) (fun hb2 => ?_) (fun hb2 => ?_)
            · exact absurd hb2 hb
            · refine v_iconst (pc := 499) C (nI 1) d_La_law_499 (by decide +kernel) ?_
              refine v_goto (pc := 500) C 504 d_La_law_500 (by decide) ?_
              refine v_callV (pc := 504) (As := [.int (xs (5 * t + 1)), .int (nI 1)]) (rest := []) C (m_count _ G h k σ fl wm (xs (5 * t + 1)) 1 hwm (by decide)) l_La_77 ([(out, aJ G 1 f7)] ++ w9) (sp_perm (List.Perm.refl _)) 0 hwm0 rfl rfl rfl rfl (Nat.le_of_ble_eq_true rfl) (by decide) (by decide) (by dsimp only; omega) (by dsimp only; omega) d_La_law_504 (fun r wm7 hq => ?_)
              obtain ⟨rfl, hwm7⟩ := hq
              show vv K ({ frames := 10, cells := 601024, slots := 7293034, locals := 386 } : Room) G 7 (42 + 4 * t + 1) (49295 + 25 * t + 6) ([(out, aJ G 1 f7)] ++ (w9 ++ wm7)) 507 [(5, .int (nI (spCount σ (xs (5 * t + 1))).1)), (4, .int (nI (5 * t))), (0, .ref scr), (1, .ref o), (2, .ref h), (3, .ref out)] [.int ((spCount σ (xs (5 * t + 1))).2.1)]
              obtain ⟨fs7, hwm70⟩ := moi_0 hwm7
              refine v_istore (pc := 507) C [(6, .int ((spCount σ (xs (5 * t + 1))).2.1)), (5, .int (nI (spCount σ (xs (5 * t + 1))).1)), (4, .int (nI (5 * t))), (0, .ref scr), (1, .ref o), (2, .ref h), (3, .ref out)] d_La_law_507 (by decide) rfl ?_
              refine v_aload_n (pc := 509) C 5 d_La_law_509 rfl rfl ?_
              refine v_callV (pc := 510) (As := []) (rest := []) C (m_thrown _ G h k (spCount σ (xs (5 * t + 1))).2.2 (nI (spCount σ (xs (5 * t + 1))).1) wm7 hwm7) l_La_54 ([(out, aJ G 1 f7)] ++ w9) (sp_perm (List.Perm.refl _)) 0 hwm70 rfl rfl rfl rfl (Nat.le_of_ble_eq_true rfl) (by decide) (by decide) (by dsimp only; omega) (by dsimp only; omega) d_La_law_510 (fun r wm8 hq => ?_)
              obtain ⟨rfl, hwm8⟩ := hq
              show vv K ({ frames := 10, cells := 601024, slots := 7293034, locals := 386 } : Room) G 7 (42 + 4 * t + 1) (49295 + 25 * t + 6) ([(out, aJ G 1 f7)] ++ (w9 ++ wm8)) 513 [(6, .int ((spCount σ (xs (5 * t + 1))).2.1)), (5, .int (nI (spCount σ (xs (5 * t + 1))).1)), (4, .int (nI (5 * t))), (0, .ref scr), (1, .ref o), (2, .ref h), (3, .ref out)] [.int (nI (spCount σ (xs (5 * t + 1))).1)]
              refine v_iload (pc := 513) C 1 d_La_law_513 rfl ?_
              refine v_icmp_eq (pc := 515) C 520 d_La_law_515 (by decide) (fun he => ?_) (fun he => ?_)
              · refine v_iload (pc := 520) C 1 d_La_law_520 rfl ?_
                refine v_if_ne (pc := 522) C 537 d_La_law_522 (by decide) (fun h0 => ?_) (fun h0 => ?_)
                · refine v_goto (pc := 537) C 756 d_La_law_537 (by decide) ?_
                  refine v_lsub [2, 3, 4, 5, 6] [(4, .int (nI (5 * t))), (0, .ref scr), (1, .ref o), (2, .ref h), (3, .ref out)] rfl ?_
                  refine v_widen (c1 := 42 + 4 * (t + 1)) (s1 := 49295 + 25 * (t + 1)) (by omega) (by omega) ?_
                  exact nxt f7 w9 wm8 (spCount σ (xs (5 * t + 1))).2.2 k _ (by omega) hwx7 hwm8
                · have hs9 := spCount_s σ (xs (5 * t + 1))
                  have h00 := nI_z (Nat.le_trans hs9.1 (by decide)) h0
                  refine v_aload_n (pc := 525) C 6 d_La_law_525 rfl rfl ?_
                  refine v_iconst (pc := 526) C (nI 0) d_La_law_526 (by decide +kernel) ?_
                  refine v_lald (pc := 527) C 0 rfl 0 rfl (by omega) (by decide) d_La_law_527 ?_
                  refine v_iload (pc := 528) C 0 d_La_law_528 rfl ?_
                  refine v_i2l (pc := 530) C (((spCount σ (xs (5 * t + 1))).2.1).toInt64) d_La_law_530 rfl ?_
                  refine v_lcmp (pc := 531) C d_La_law_531 ?_
                  refine v_if_eq (pc := 532) C 537 d_La_law_532 (by decide) (fun hl => ?_) (fun hl => ?_)
                  · refine v_goto (pc := 537) C 756 d_La_law_537 (by decide) ?_
                    refine v_lsub [2, 3, 4, 5, 6] [(4, .int (nI (5 * t))), (0, .ref scr), (1, .ref o), (2, .ref h), (3, .ref out)] rfl ?_
                    refine v_widen (c1 := 42 + 4 * (t + 1)) (s1 := 49295 + 25 * (t + 1)) (by omega) (by omega) ?_
                    exact nxt f7 w9 wm8 (spCount σ (xs (5 * t + 1))).2.2 k _ (by omega) hwx7 hwm8
                  · exact absurd (lgc_eq.mpr (hf7 h00)) hl
              · exact absurd rfl he
        · refine v_tbl (pc := 39) (off := 501) C 540 d_La_law_39 (by decide) (by decide) (by decide +kernel) (by decide) ?_
          refine v_aload_n (pc := 540) C 2 d_La_law_540 rfl rfl ?_
          refine v_aload_n (pc := 541) C 1 d_La_law_541 rfl rfl ?_
          refine v_iload (pc := 542) C 0 d_La_law_542 rfl ?_
          refine v_iconst (pc := 544) C (nI 1) d_La_law_544 (by decide +kernel) ?_
          refine v_iadd (pc := 545) C (nI (5 * t + 1)) d_La_law_545 (nI_add _ _) ?_
          refine v_sld (pc := 546) C hX hbl hbA (5 * t + 1) (by omega) (by omega) d_La_law_546 ?_
          refine v_aload_n (pc := 547) C 1 d_La_law_547 rfl rfl ?_
          refine v_iload (pc := 548) C 0 d_La_law_548 rfl ?_
          refine v_iconst (pc := 550) C (nI 2) d_La_law_550 (by decide +kernel) ?_
          refine v_iadd (pc := 551) C (nI (5 * t + 2)) d_La_law_551 (nI_add _ _) ?_
          refine v_sld (pc := 552) C hX hbl hbA (5 * t + 2) (by omega) (by omega) d_La_law_552 ?_
          refine v_if_eq (pc := 553) C 560 d_La_law_553 (by decide) (fun hb => ?_) (fun hb => ?_)
          · refine v_iconst (pc := 560) C (nI 0) d_La_law_560 (by decide +kernel) ?_
            refine v_aload_n (pc := 561) C 1 d_La_law_561 rfl rfl ?_
            refine v_iload (pc := 562) C 0 d_La_law_562 rfl ?_
            refine v_iconst (pc := 564) C (nI 3) d_La_law_564 (by decide +kernel) ?_
            refine v_iadd (pc := 565) C (nI (5 * t + 3)) d_La_law_565 (nI_add _ _) ?_
            refine v_sld (pc := 566) C hX hbl hbA (5 * t + 3) (by omega) (by omega) d_La_law_566 ?_
            refine v_aload_n (pc := 567) C 1 d_La_law_567 rfl rfl ?_
            refine v_iload (pc := 568) C 0 d_La_law_568 rfl ?_
            refine v_iconst (pc := 570) C (nI 4) d_La_law_570 (by decide +kernel) ?_
            refine v_iadd (pc := 571) C (nI (5 * t + 4)) d_La_law_571 (nI_add _ _) ?_
            refine v_sld (pc := 572) C hX hbl hbA (5 * t + 4) (by omega) (by omega) d_La_law_572 ?_
            refine v_aload_n (pc := 573) C 4 d_La_law_573 rfl rfl ?_
            refine v_callH (pc := 574) (As := [.ref o, .int (xs (5 * t + 1)), .int (nI 0), .int (xs (5 * t + 3)), .int (xs (5 * t + 4)), .ref out]) (rest := []) C hZ hnc (c_La_weight _ htr G o k σ wx out f (xs (5 * t + 1)) 0 (xs (5 * t + 3)) (xs (5 * t + 4)) hwx (by decide)) l_La_78 (wm) (sp_perm pmA) rfl rfl (Nat.le_of_ble_eq_true rfl) (by decide) (by decide) (by dsimp only; omega) (by dsimp only; omega) d_La_law_574 (fun r w8 hq => ?_)
            obtain ⟨rfl, f7, w9, rfl, hwx7, hf7⟩ := hq
            refine v_perm ([(out, aJ G 1 f7)] ++ (w9 ++ wm)) pmA.symm ?_
            show vv K ({ frames := 10, cells := 601024, slots := 7293034, locals := 386 } : Room) G 7 (42 + 4 * t + 1) (49295 + 25 * t + 6) ([(out, aJ G 1 f7)] ++ (w9 ++ wm)) 577 [(4, .int (nI (5 * t))), (0, .ref scr), (1, .ref o), (2, .ref h), (3, .ref out)] [.int (nI (spWeight σ (xs (5 * t + 1)) 0 (xs (5 * t + 3)) (xs (5 * t + 4))).1)]
            refine v_istore (pc := 577) C [(5, .int (nI (spWeight σ (xs (5 * t + 1)) 0 (xs (5 * t + 3)) (xs (5 * t + 4))).1)), (4, .int (nI (5 * t))), (0, .ref scr), (1, .ref o), (2, .ref h), (3, .ref out)] d_La_law_577 (by decide) rfl ?_
            refine v_aload_n (pc := 579) C 4 d_La_law_579 rfl rfl ?_
            refine v_aload_n (pc := 580) C 2 d_La_law_580 rfl rfl ?_
            refine v_iload (pc := 581) C 1 d_La_law_581 rfl ?_
            refine v_iconst (pc := 583) C (nI 1) d_La_law_583 (by decide +kernel) ?_
            refine v_iadd (pc := 584) C (nI (5 * t + 1)) d_La_law_584 (nI_add _ _) ?_
            refine v_sld (pc := 585) C hX hbl hbA (5 * t + 1) (by omega) (by omega) d_La_law_585 ?_
            refine v_aload_n (pc := 586) C 2 d_La_law_586 rfl rfl ?_
            refine v_iload (pc := 587) C 1 d_La_law_587 rfl ?_
            refine v_iconst (pc := 589) C (nI 2) d_La_law_589 (by decide +kernel) ?_
            refine v_iadd (pc := 590) C (nI (5 * t + 2)) d_La_law_590 (nI_add _ _) ?_
            refine v_sld (pc := 591) C hX hbl hbA (5 * t + 2) (by omega) (by omega) d_La_law_591 ?_
            refine v_if_eq (pc := 592) C 599 d_La_law_592 (by decide) (fun hb2 => ?_) (fun hb2 => ?_)
            · refine v_iconst (pc := 599) C (nI 0) d_La_law_599 (by decide +kernel) ?_
              refine v_aload_n (pc := 600) C 2 d_La_law_600 rfl rfl ?_
              refine v_iload (pc := 601) C 1 d_La_law_601 rfl ?_
              refine v_iconst (pc := 603) C (nI 3) d_La_law_603 (by decide +kernel) ?_
              refine v_iadd (pc := 604) C (nI (5 * t + 3)) d_La_law_604 (nI_add _ _) ?_
              refine v_sld (pc := 605) C hX hbl hbA (5 * t + 3) (by omega) (by omega) d_La_law_605 ?_
              refine v_aload_n (pc := 606) C 2 d_La_law_606 rfl rfl ?_
              refine v_iload (pc := 607) C 1 d_La_law_607 rfl ?_
              refine v_iconst (pc := 609) C (nI 4) d_La_law_609 (by decide +kernel) ?_
              refine v_iadd (pc := 610) C (nI (5 * t + 4)) d_La_law_610 (nI_add _ _) ?_
              refine v_sld (pc := 611) C hX hbl hbA (5 * t + 4) (by omega) (by omega) d_La_law_611 ?_
              refine v_callV (pc := 612) (As := [.int (xs (5 * t + 1)), .int (nI 0), .int (xs (5 * t + 3)), .int (xs (5 * t + 4))]) (rest := []) C (m_weight _ G h k σ fl wm (xs (5 * t + 1)) 0 (xs (5 * t + 3)) (xs (5 * t + 4)) hwm (by decide)) l_La_81 ([(out, aJ G 1 f7)] ++ w9) (sp_perm (List.Perm.refl _)) 0 hwm0 rfl rfl rfl rfl (Nat.le_of_ble_eq_true rfl) (by decide) (by decide) (by dsimp only; omega) (by dsimp only; omega) d_La_law_612 (fun r wm7 hq => ?_)
              obtain ⟨rfl, hwm7⟩ := hq
              show vv K ({ frames := 10, cells := 601024, slots := 7293034, locals := 386 } : Room) G 7 (42 + 4 * t + 1) (49295 + 25 * t + 6) ([(out, aJ G 1 f7)] ++ (w9 ++ wm7)) 615 [(5, .int (nI (spWeight σ (xs (5 * t + 1)) 0 (xs (5 * t + 3)) (xs (5 * t + 4))).1)), (4, .int (nI (5 * t))), (0, .ref scr), (1, .ref o), (2, .ref h), (3, .ref out)] [.int ((spWeight σ (xs (5 * t + 1)) 0 (xs (5 * t + 3)) (xs (5 * t + 4))).2.1)]
              obtain ⟨fs7, hwm70⟩ := moi_0 hwm7
              refine v_istore (pc := 615) C [(6, .int ((spWeight σ (xs (5 * t + 1)) 0 (xs (5 * t + 3)) (xs (5 * t + 4))).2.1)), (5, .int (nI (spWeight σ (xs (5 * t + 1)) 0 (xs (5 * t + 3)) (xs (5 * t + 4))).1)), (4, .int (nI (5 * t))), (0, .ref scr), (1, .ref o), (2, .ref h), (3, .ref out)] d_La_law_615 (by decide) rfl ?_
              refine v_aload_n (pc := 617) C 5 d_La_law_617 rfl rfl ?_
              refine v_callV (pc := 618) (As := []) (rest := []) C (m_thrown _ G h k (spWeight σ (xs (5 * t + 1)) 0 (xs (5 * t + 3)) (xs (5 * t + 4))).2.2 (nI (spWeight σ (xs (5 * t + 1)) 0 (xs (5 * t + 3)) (xs (5 * t + 4))).1) wm7 hwm7) l_La_54 ([(out, aJ G 1 f7)] ++ w9) (sp_perm (List.Perm.refl _)) 0 hwm70 rfl rfl rfl rfl (Nat.le_of_ble_eq_true rfl) (by decide) (by decide) (by dsimp only; omega) (by dsimp only; omega) d_La_law_618 (fun r wm8 hq => ?_)
              obtain ⟨rfl, hwm8⟩ := hq
              show vv K ({ frames := 10, cells := 601024, slots := 7293034, locals := 386 } : Room) G 7 (42 + 4 * t + 1) (49295 + 25 * t + 6) ([(out, aJ G 1 f7)] ++ (w9 ++ wm8)) 621 [(6, .int ((spWeight σ (xs (5 * t + 1)) 0 (xs (5 * t + 3)) (xs (5 * t + 4))).2.1)), (5, .int (nI (spWeight σ (xs (5 * t + 1)) 0 (xs (5 * t + 3)) (xs (5 * t + 4))).1)), (4, .int (nI (5 * t))), (0, .ref scr), (1, .ref o), (2, .ref h), (3, .ref out)] [.int (nI (spWeight σ (xs (5 * t + 1)) 0 (xs (5 * t + 3)) (xs (5 * t + 4))).1)]
              refine v_iload (pc := 621) C 1 d_La_law_621 rfl ?_
              refine v_icmp_eq (pc := 623) C 628 d_La_law_623 (by decide) (fun he => ?_) (fun he => ?_)
              · refine v_iload (pc := 628) C 1 d_La_law_628 rfl ?_
                refine v_if_ne (pc := 630) C 645 d_La_law_630 (by decide) (fun h0 => ?_) (fun h0 => ?_)
                · refine v_goto (pc := 645) C 756 d_La_law_645 (by decide) ?_
                  refine v_lsub [2, 3, 4, 5, 6] [(4, .int (nI (5 * t))), (0, .ref scr), (1, .ref o), (2, .ref h), (3, .ref out)] rfl ?_
                  refine v_widen (c1 := 42 + 4 * (t + 1)) (s1 := 49295 + 25 * (t + 1)) (by omega) (by omega) ?_
                  exact nxt f7 w9 wm8 (spWeight σ (xs (5 * t + 1)) 0 (xs (5 * t + 3)) (xs (5 * t + 4))).2.2 k _ (by omega) hwx7 hwm8
                · have hs9 := spWeight_s σ (xs (5 * t + 1)) 0 (xs (5 * t + 3)) (xs (5 * t + 4))
                  have h00 := nI_z (Nat.le_trans hs9.1 (by decide)) h0
                  refine v_aload_n (pc := 633) C 6 d_La_law_633 rfl rfl ?_
                  refine v_iconst (pc := 634) C (nI 0) d_La_law_634 (by decide +kernel) ?_
                  refine v_lald (pc := 635) C 0 rfl 0 rfl (by omega) (by decide) d_La_law_635 ?_
                  refine v_iload (pc := 636) C 0 d_La_law_636 rfl ?_
                  refine v_i2l (pc := 638) C (((spWeight σ (xs (5 * t + 1)) 0 (xs (5 * t + 3)) (xs (5 * t + 4))).2.1).toInt64) d_La_law_638 rfl ?_
                  refine v_lcmp (pc := 639) C d_La_law_639 ?_
                  refine v_if_eq (pc := 640) C 645 d_La_law_640 (by decide) (fun hl => ?_) (fun hl => ?_)
                  · refine v_goto (pc := 645) C 756 d_La_law_645 (by decide) ?_
                    refine v_lsub [2, 3, 4, 5, 6] [(4, .int (nI (5 * t))), (0, .ref scr), (1, .ref o), (2, .ref h), (3, .ref out)] rfl ?_
                    refine v_widen (c1 := 42 + 4 * (t + 1)) (s1 := 49295 + 25 * (t + 1)) (by omega) (by omega) ?_
                    exact nxt f7 w9 wm8 (spWeight σ (xs (5 * t + 1)) 0 (xs (5 * t + 3)) (xs (5 * t + 4))).2.2 k _ (by omega) hwx7 hwm8
                  · exact absurd (lgc_eq.mpr (hf7 h00)) hl
              · exact absurd rfl he
            · exact absurd hb hb2
          · refine v_iconst (pc := 556) C (nI 1) d_La_law_556 (by decide +kernel) ?_
            refine v_goto (pc := 557) C 561 d_La_law_557 (by decide) ?_
            refine v_aload_n (pc := 561) C 1 d_La_law_561 rfl rfl ?_
            refine v_iload (pc := 562) C 0 d_La_law_562 rfl ?_
            refine v_iconst (pc := 564) C (nI 3) d_La_law_564 (by decide +kernel) ?_
            refine v_iadd (pc := 565) C (nI (5 * t + 3)) d_La_law_565 (nI_add _ _) ?_
            refine v_sld (pc := 566) C hX hbl hbA (5 * t + 3) (by omega) (by omega) d_La_law_566 ?_
            refine v_aload_n (pc := 567) C 1 d_La_law_567 rfl rfl ?_
            refine v_iload (pc := 568) C 0 d_La_law_568 rfl ?_
            refine v_iconst (pc := 570) C (nI 4) d_La_law_570 (by decide +kernel) ?_
            refine v_iadd (pc := 571) C (nI (5 * t + 4)) d_La_law_571 (nI_add _ _) ?_
            refine v_sld (pc := 572) C hX hbl hbA (5 * t + 4) (by omega) (by omega) d_La_law_572 ?_
            refine v_aload_n (pc := 573) C 4 d_La_law_573 rfl rfl ?_
            refine v_callH (pc := 574) (As := [.ref o, .int (xs (5 * t + 1)), .int (nI 1), .int (xs (5 * t + 3)), .int (xs (5 * t + 4)), .ref out]) (rest := []) C hZ hnc (c_La_weight _ htr G o k σ wx out f (xs (5 * t + 1)) 1 (xs (5 * t + 3)) (xs (5 * t + 4)) hwx (by decide)) l_La_78 (wm) (sp_perm pmA) rfl rfl (Nat.le_of_ble_eq_true rfl) (by decide) (by decide) (by dsimp only; omega) (by dsimp only; omega) d_La_law_574 (fun r w8 hq => ?_)
            obtain ⟨rfl, f7, w9, rfl, hwx7, hf7⟩ := hq
            refine v_perm ([(out, aJ G 1 f7)] ++ (w9 ++ wm)) pmA.symm ?_
            show vv K ({ frames := 10, cells := 601024, slots := 7293034, locals := 386 } : Room) G 7 (42 + 4 * t + 1) (49295 + 25 * t + 6) ([(out, aJ G 1 f7)] ++ (w9 ++ wm)) 577 [(4, .int (nI (5 * t))), (0, .ref scr), (1, .ref o), (2, .ref h), (3, .ref out)] [.int (nI (spWeight σ (xs (5 * t + 1)) 1 (xs (5 * t + 3)) (xs (5 * t + 4))).1)]
            refine v_istore (pc := 577) C [(5, .int (nI (spWeight σ (xs (5 * t + 1)) 1 (xs (5 * t + 3)) (xs (5 * t + 4))).1)), (4, .int (nI (5 * t))), (0, .ref scr), (1, .ref o), (2, .ref h), (3, .ref out)] d_La_law_577 (by decide) rfl ?_
            refine v_aload_n (pc := 579) C 4 d_La_law_579 rfl rfl ?_
            refine v_aload_n (pc := 580) C 2 d_La_law_580 rfl rfl ?_
            refine v_iload (pc := 581) C 1 d_La_law_581 rfl ?_
            refine v_iconst (pc := 583) C (nI 1) d_La_law_583 (by decide +kernel) ?_
            refine v_iadd (pc := 584) C (nI (5 * t + 1)) d_La_law_584 (nI_add _ _) ?_
            refine v_sld (pc := 585) C hX hbl hbA (5 * t + 1) (by omega) (by omega) d_La_law_585 ?_
            refine v_aload_n (pc := 586) C 2 d_La_law_586 rfl rfl ?_
            refine v_iload (pc := 587) C 1 d_La_law_587 rfl ?_
            refine v_iconst (pc := 589) C (nI 2) d_La_law_589 (by decide +kernel) ?_
            refine v_iadd (pc := 590) C (nI (5 * t + 2)) d_La_law_590 (nI_add _ _) ?_
            refine v_sld (pc := 591) C hX hbl hbA (5 * t + 2) (by omega) (by omega) d_La_law_591 ?_
            refine v_if_eq (pc := 592) C 599 d_La_law_592 (by decide) (fun hb2 => ?_) (fun hb2 => ?_)
            · exact absurd hb2 hb
            · refine v_iconst (pc := 595) C (nI 1) d_La_law_595 (by decide +kernel) ?_
              refine v_goto (pc := 596) C 600 d_La_law_596 (by decide) ?_
              refine v_aload_n (pc := 600) C 2 d_La_law_600 rfl rfl ?_
              refine v_iload (pc := 601) C 1 d_La_law_601 rfl ?_
              refine v_iconst (pc := 603) C (nI 3) d_La_law_603 (by decide +kernel) ?_
              refine v_iadd (pc := 604) C (nI (5 * t + 3)) d_La_law_604 (nI_add _ _) ?_
              refine v_sld (pc := 605) C hX hbl hbA (5 * t + 3) (by omega) (by omega) d_La_law_605 ?_
              refine v_aload_n (pc := 606) C 2 d_La_law_606 rfl rfl ?_
              refine v_iload (pc := 607) C 1 d_La_law_607 rfl ?_
              refine v_iconst (pc := 609) C (nI 4) d_La_law_609 (by decide +kernel) ?_
              refine v_iadd (pc := 610) C (nI (5 * t + 4)) d_La_law_610 (nI_add _ _) ?_
              refine v_sld (pc := 611) C hX hbl hbA (5 * t + 4) (by omega) (by omega) d_La_law_611 ?_
              refine v_callV (pc := 612) (As := [.int (xs (5 * t + 1)), .int (nI 1), .int (xs (5 * t + 3)), .int (xs (5 * t + 4))]) (rest := []) C (m_weight _ G h k σ fl wm (xs (5 * t + 1)) 1 (xs (5 * t + 3)) (xs (5 * t + 4)) hwm (by decide)) l_La_81 ([(out, aJ G 1 f7)] ++ w9) (sp_perm (List.Perm.refl _)) 0 hwm0 rfl rfl rfl rfl (Nat.le_of_ble_eq_true rfl) (by decide) (by decide) (by dsimp only; omega) (by dsimp only; omega) d_La_law_612 (fun r wm7 hq => ?_)
              obtain ⟨rfl, hwm7⟩ := hq
              show vv K ({ frames := 10, cells := 601024, slots := 7293034, locals := 386 } : Room) G 7 (42 + 4 * t + 1) (49295 + 25 * t + 6) ([(out, aJ G 1 f7)] ++ (w9 ++ wm7)) 615 [(5, .int (nI (spWeight σ (xs (5 * t + 1)) 1 (xs (5 * t + 3)) (xs (5 * t + 4))).1)), (4, .int (nI (5 * t))), (0, .ref scr), (1, .ref o), (2, .ref h), (3, .ref out)] [.int ((spWeight σ (xs (5 * t + 1)) 1 (xs (5 * t + 3)) (xs (5 * t + 4))).2.1)]
              obtain ⟨fs7, hwm70⟩ := moi_0 hwm7
              refine v_istore (pc := 615) C [(6, .int ((spWeight σ (xs (5 * t + 1)) 1 (xs (5 * t + 3)) (xs (5 * t + 4))).2.1)), (5, .int (nI (spWeight σ (xs (5 * t + 1)) 1 (xs (5 * t + 3)) (xs (5 * t + 4))).1)), (4, .int (nI (5 * t))), (0, .ref scr), (1, .ref o), (2, .ref h), (3, .ref out)] d_La_law_615 (by decide) rfl ?_
              refine v_aload_n (pc := 617) C 5 d_La_law_617 rfl rfl ?_
              refine v_callV (pc := 618) (As := []) (rest := []) C (m_thrown _ G h k (spWeight σ (xs (5 * t + 1)) 1 (xs (5 * t + 3)) (xs (5 * t + 4))).2.2 (nI (spWeight σ (xs (5 * t + 1)) 1 (xs (5 * t + 3)) (xs (5 * t + 4))).1) wm7 hwm7) l_La_54 ([(out, aJ G 1 f7)] ++ w9) (sp_perm (List.Perm.refl _)) 0 hwm70 rfl rfl rfl rfl (Nat.le_of_ble_eq_true rfl) (by decide) (by decide) (by dsimp only; omega) (by dsimp only; omega) d_La_law_618 (fun r wm8 hq => ?_)
              obtain ⟨rfl, hwm8⟩ := hq
              show vv K ({ frames := 10, cells := 601024, slots := 7293034, locals := 386 } : Room) G 7 (42 + 4 * t + 1) (49295 + 25 * t + 6) ([(out, aJ G 1 f7)] ++ (w9 ++ wm8)) 621 [(6, .int ((spWeight σ (xs (5 * t + 1)) 1 (xs (5 * t + 3)) (xs (5 * t + 4))).2.1)), (5, .int (nI (spWeight σ (xs (5 * t + 1)) 1 (xs (5 * t + 3)) (xs (5 * t + 4))).1)), (4, .int (nI (5 * t))), (0, .ref scr), (1, .ref o), (2, .ref h), (3, .ref out)] [.int (nI (spWeight σ (xs (5 * t + 1)) 1 (xs (5 * t + 3)) (xs (5 * t + 4))).1)]
              refine v_iload (pc := 621) C 1 d_La_law_621 rfl ?_
              refine v_icmp_eq (pc := 623) C 628 d_La_law_623 (by decide) (fun he => ?_) (fun he => ?_)
              · refine v_iload (pc := 628) C 1 d_La_law_628 rfl ?_
                refine v_if_ne (pc := 630) C 645 d_La_law_630 (by decide) (fun h0 => ?_) (fun h0 => ?_)
                · refine v_goto (pc := 645) C 756 d_La_law_645 (by decide) ?_
                  refine v_lsub [2, 3, 4, 5, 6] [(4, .int (nI (5 * t))), (0, .ref scr), (1, .ref o), (2, .ref h), (3, .ref out)] rfl ?_
                  refine v_widen (c1 := 42 + 4 * (t + 1)) (s1 := 49295 + 25 * (t + 1)) (by omega) (by omega) ?_
                  exact nxt f7 w9 wm8 (spWeight σ (xs (5 * t + 1)) 1 (xs (5 * t + 3)) (xs (5 * t + 4))).2.2 k _ (by omega) hwx7 hwm8
                · have hs9 := spWeight_s σ (xs (5 * t + 1)) 1 (xs (5 * t + 3)) (xs (5 * t + 4))
                  have h00 := nI_z (Nat.le_trans hs9.1 (by decide)) h0
                  refine v_aload_n (pc := 633) C 6 d_La_law_633 rfl rfl ?_
                  refine v_iconst (pc := 634) C (nI 0) d_La_law_634 (by decide +kernel) ?_
                  refine v_lald (pc := 635) C 0 rfl 0 rfl (by omega) (by decide) d_La_law_635 ?_
                  refine v_iload (pc := 636) C 0 d_La_law_636 rfl ?_
                  refine v_i2l (pc := 638) C (((spWeight σ (xs (5 * t + 1)) 1 (xs (5 * t + 3)) (xs (5 * t + 4))).2.1).toInt64) d_La_law_638 rfl ?_
                  refine v_lcmp (pc := 639) C d_La_law_639 ?_
                  refine v_if_eq (pc := 640) C 645 d_La_law_640 (by decide) (fun hl => ?_) (fun hl => ?_)
                  · refine v_goto (pc := 645) C 756 d_La_law_645 (by decide) ?_
                    refine v_lsub [2, 3, 4, 5, 6] [(4, .int (nI (5 * t))), (0, .ref scr), (1, .ref o), (2, .ref h), (3, .ref out)] rfl ?_
                    refine v_widen (c1 := 42 + 4 * (t + 1)) (s1 := 49295 + 25 * (t + 1)) (by omega) (by omega) ?_
                    exact nxt f7 w9 wm8 (spWeight σ (xs (5 * t + 1)) 1 (xs (5 * t + 3)) (xs (5 * t + 4))).2.2 k _ (by omega) hwx7 hwm8
                  · exact absurd (lgc_eq.mpr (hf7 h00)) hl
              · exact absurd rfl he
        · refine v_tbl (pc := 39) (off := 609) C 648 d_La_law_39 (by decide) (by decide) (by decide +kernel) (by decide) ?_
          refine v_aload_n (pc := 648) C 2 d_La_law_648 rfl rfl ?_
          refine v_aload_n (pc := 649) C 1 d_La_law_649 rfl rfl ?_
          refine v_iload (pc := 650) C 0 d_La_law_650 rfl ?_
          refine v_iconst (pc := 652) C (nI 1) d_La_law_652 (by decide +kernel) ?_
          refine v_iadd (pc := 653) C (nI (5 * t + 1)) d_La_law_653 (nI_add _ _) ?_
          refine v_sld (pc := 654) C hX hbl hbA (5 * t + 1) (by omega) (by omega) d_La_law_654 ?_
          refine v_aload_n (pc := 655) C 1 d_La_law_655 rfl rfl ?_
          refine v_iload (pc := 656) C 0 d_La_law_656 rfl ?_
          refine v_iconst (pc := 658) C (nI 2) d_La_law_658 (by decide +kernel) ?_
          refine v_iadd (pc := 659) C (nI (5 * t + 2)) d_La_law_659 (nI_add _ _) ?_
          refine v_sld (pc := 660) C hX hbl hbA (5 * t + 2) (by omega) (by omega) d_La_law_660 ?_
          refine v_aload_n (pc := 661) C 1 d_La_law_661 rfl rfl ?_
          refine v_iload (pc := 662) C 0 d_La_law_662 rfl ?_
          refine v_iconst (pc := 664) C (nI 3) d_La_law_664 (by decide +kernel) ?_
          refine v_iadd (pc := 665) C (nI (5 * t + 3)) d_La_law_665 (nI_add _ _) ?_
          refine v_sld (pc := 666) C hX hbl hbA (5 * t + 3) (by omega) (by omega) d_La_law_666 ?_
          refine v_aload_n (pc := 667) C 1 d_La_law_667 rfl rfl ?_
          refine v_iload (pc := 668) C 0 d_La_law_668 rfl ?_
          refine v_iconst (pc := 670) C (nI 4) d_La_law_670 (by decide +kernel) ?_
          refine v_iadd (pc := 671) C (nI (5 * t + 4)) d_La_law_671 (nI_add _ _) ?_
          refine v_sld (pc := 672) C hX hbl hbA (5 * t + 4) (by omega) (by omega) d_La_law_672 ?_
          refine v_if_eq (pc := 673) C 680 d_La_law_673 (by decide) (fun hb => ?_) (fun hb => ?_)
          · refine v_iconst (pc := 680) C (nI 0) d_La_law_680 (by decide +kernel) ?_
            refine v_aload_n (pc := 681) C 4 d_La_law_681 rfl rfl ?_
            refine v_callH (pc := 682) (As := [.ref o, .int (xs (5 * t + 1)), .int (xs (5 * t + 2)), .int (xs (5 * t + 3)), .int (nI 0), .ref out]) (rest := []) C hZ hnc (c_La_compare _ htr G o k σ wx out f (xs (5 * t + 1)) (xs (5 * t + 2)) (xs (5 * t + 3)) 0 hwx (by decide)) l_La_82 (wm) (sp_perm pmA) rfl rfl (Nat.le_of_ble_eq_true rfl) (by decide) (by decide) (by dsimp only; omega) (by dsimp only; omega) d_La_law_682 (fun r w8 hq => ?_)
            obtain ⟨rfl, f7, w9, rfl, hwx7, hf7⟩ := hq
            refine v_perm ([(out, aJ G 1 f7)] ++ (w9 ++ wm)) pmA.symm ?_
            show vv K ({ frames := 10, cells := 601024, slots := 7293034, locals := 386 } : Room) G 7 (42 + 4 * t + 1) (49295 + 25 * t + 6) ([(out, aJ G 1 f7)] ++ (w9 ++ wm)) 685 [(4, .int (nI (5 * t))), (0, .ref scr), (1, .ref o), (2, .ref h), (3, .ref out)] [.int (nI (spCompare σ (xs (5 * t + 1)) (xs (5 * t + 2)) (xs (5 * t + 3)) 0).1)]
            refine v_istore (pc := 685) C [(5, .int (nI (spCompare σ (xs (5 * t + 1)) (xs (5 * t + 2)) (xs (5 * t + 3)) 0).1)), (4, .int (nI (5 * t))), (0, .ref scr), (1, .ref o), (2, .ref h), (3, .ref out)] d_La_law_685 (by decide) rfl ?_
            refine v_aload_n (pc := 687) C 4 d_La_law_687 rfl rfl ?_
            refine v_aload_n (pc := 688) C 2 d_La_law_688 rfl rfl ?_
            refine v_iload (pc := 689) C 1 d_La_law_689 rfl ?_
            refine v_iconst (pc := 691) C (nI 1) d_La_law_691 (by decide +kernel) ?_
            refine v_iadd (pc := 692) C (nI (5 * t + 1)) d_La_law_692 (nI_add _ _) ?_
            refine v_sld (pc := 693) C hX hbl hbA (5 * t + 1) (by omega) (by omega) d_La_law_693 ?_
            refine v_aload_n (pc := 694) C 2 d_La_law_694 rfl rfl ?_
            refine v_iload (pc := 695) C 1 d_La_law_695 rfl ?_
            refine v_iconst (pc := 697) C (nI 2) d_La_law_697 (by decide +kernel) ?_
            refine v_iadd (pc := 698) C (nI (5 * t + 2)) d_La_law_698 (nI_add _ _) ?_
            refine v_sld (pc := 699) C hX hbl hbA (5 * t + 2) (by omega) (by omega) d_La_law_699 ?_
            refine v_aload_n (pc := 700) C 2 d_La_law_700 rfl rfl ?_
            refine v_iload (pc := 701) C 1 d_La_law_701 rfl ?_
            refine v_iconst (pc := 703) C (nI 3) d_La_law_703 (by decide +kernel) ?_
            refine v_iadd (pc := 704) C (nI (5 * t + 3)) d_La_law_704 (nI_add _ _) ?_
            refine v_sld (pc := 705) C hX hbl hbA (5 * t + 3) (by omega) (by omega) d_La_law_705 ?_
            refine v_aload_n (pc := 706) C 2 d_La_law_706 rfl rfl ?_
            refine v_iload (pc := 707) C 1 d_La_law_707 rfl ?_
            refine v_iconst (pc := 709) C (nI 4) d_La_law_709 (by decide +kernel) ?_
            refine v_iadd (pc := 710) C (nI (5 * t + 4)) d_La_law_710 (nI_add _ _) ?_
            refine v_sld (pc := 711) C hX hbl hbA (5 * t + 4) (by omega) (by omega) d_La_law_711 ?_
            refine v_if_eq (pc := 712) C 719 d_La_law_712 (by decide) (fun hb2 => ?_) (fun hb2 => ?_)
            · refine v_iconst (pc := 719) C (nI 0) d_La_law_719 (by decide +kernel) ?_
              refine v_callV (pc := 720) (As := [.int (xs (5 * t + 1)), .int (xs (5 * t + 2)), .int (xs (5 * t + 3)), .int (nI 0)]) (rest := []) C (m_compare _ G h k σ fl wm (xs (5 * t + 1)) (xs (5 * t + 2)) (xs (5 * t + 3)) 0 hwm (by decide)) l_La_84 ([(out, aJ G 1 f7)] ++ w9) (sp_perm (List.Perm.refl _)) 0 hwm0 rfl rfl rfl rfl (Nat.le_of_ble_eq_true rfl) (by decide) (by decide) (by dsimp only; omega) (by dsimp only; omega) d_La_law_720 (fun r wm7 hq => ?_)
              obtain ⟨rfl, hwm7⟩ := hq
              show vv K ({ frames := 10, cells := 601024, slots := 7293034, locals := 386 } : Room) G 7 (42 + 4 * t + 1) (49295 + 25 * t + 6) ([(out, aJ G 1 f7)] ++ (w9 ++ wm7)) 723 [(5, .int (nI (spCompare σ (xs (5 * t + 1)) (xs (5 * t + 2)) (xs (5 * t + 3)) 0).1)), (4, .int (nI (5 * t))), (0, .ref scr), (1, .ref o), (2, .ref h), (3, .ref out)] [.int ((spCompare σ (xs (5 * t + 1)) (xs (5 * t + 2)) (xs (5 * t + 3)) 0).2.1)]
              obtain ⟨fs7, hwm70⟩ := moi_0 hwm7
              refine v_istore (pc := 723) C [(6, .int ((spCompare σ (xs (5 * t + 1)) (xs (5 * t + 2)) (xs (5 * t + 3)) 0).2.1)), (5, .int (nI (spCompare σ (xs (5 * t + 1)) (xs (5 * t + 2)) (xs (5 * t + 3)) 0).1)), (4, .int (nI (5 * t))), (0, .ref scr), (1, .ref o), (2, .ref h), (3, .ref out)] d_La_law_723 (by decide) rfl ?_
              refine v_aload_n (pc := 725) C 5 d_La_law_725 rfl rfl ?_
              refine v_callV (pc := 726) (As := []) (rest := []) C (m_thrown _ G h k (spCompare σ (xs (5 * t + 1)) (xs (5 * t + 2)) (xs (5 * t + 3)) 0).2.2 (nI (spCompare σ (xs (5 * t + 1)) (xs (5 * t + 2)) (xs (5 * t + 3)) 0).1) wm7 hwm7) l_La_54 ([(out, aJ G 1 f7)] ++ w9) (sp_perm (List.Perm.refl _)) 0 hwm70 rfl rfl rfl rfl (Nat.le_of_ble_eq_true rfl) (by decide) (by decide) (by dsimp only; omega) (by dsimp only; omega) d_La_law_726 (fun r wm8 hq => ?_)
              obtain ⟨rfl, hwm8⟩ := hq
              show vv K ({ frames := 10, cells := 601024, slots := 7293034, locals := 386 } : Room) G 7 (42 + 4 * t + 1) (49295 + 25 * t + 6) ([(out, aJ G 1 f7)] ++ (w9 ++ wm8)) 729 [(6, .int ((spCompare σ (xs (5 * t + 1)) (xs (5 * t + 2)) (xs (5 * t + 3)) 0).2.1)), (5, .int (nI (spCompare σ (xs (5 * t + 1)) (xs (5 * t + 2)) (xs (5 * t + 3)) 0).1)), (4, .int (nI (5 * t))), (0, .ref scr), (1, .ref o), (2, .ref h), (3, .ref out)] [.int (nI (spCompare σ (xs (5 * t + 1)) (xs (5 * t + 2)) (xs (5 * t + 3)) 0).1)]
              refine v_iload (pc := 729) C 1 d_La_law_729 rfl ?_
              refine v_icmp_eq (pc := 731) C 736 d_La_law_731 (by decide) (fun he => ?_) (fun he => ?_)
              · refine v_iload (pc := 736) C 1 d_La_law_736 rfl ?_
                refine v_if_ne (pc := 738) C 753 d_La_law_738 (by decide) (fun h0 => ?_) (fun h0 => ?_)
                · refine v_goto (pc := 753) C 756 d_La_law_753 (by decide) ?_
                  refine v_lsub [2, 3, 4, 5, 6] [(4, .int (nI (5 * t))), (0, .ref scr), (1, .ref o), (2, .ref h), (3, .ref out)] rfl ?_
                  refine v_widen (c1 := 42 + 4 * (t + 1)) (s1 := 49295 + 25 * (t + 1)) (by omega) (by omega) ?_
                  exact nxt f7 w9 wm8 (spCompare σ (xs (5 * t + 1)) (xs (5 * t + 2)) (xs (5 * t + 3)) 0).2.2 k _ (by omega) hwx7 hwm8
                · have hs9 := spCompare_s σ (xs (5 * t + 1)) (xs (5 * t + 2)) (xs (5 * t + 3)) 0
                  have h00 := nI_z (Nat.le_trans hs9.1 (by decide)) h0
                  refine v_aload_n (pc := 741) C 6 d_La_law_741 rfl rfl ?_
                  refine v_iconst (pc := 742) C (nI 0) d_La_law_742 (by decide +kernel) ?_
                  refine v_lald (pc := 743) C 0 rfl 0 rfl (by omega) (by decide) d_La_law_743 ?_
                  refine v_iload (pc := 744) C 0 d_La_law_744 rfl ?_
                  refine v_i2l (pc := 746) C (((spCompare σ (xs (5 * t + 1)) (xs (5 * t + 2)) (xs (5 * t + 3)) 0).2.1).toInt64) d_La_law_746 rfl ?_
                  refine v_lcmp (pc := 747) C d_La_law_747 ?_
                  refine v_if_eq (pc := 748) C 753 d_La_law_748 (by decide) (fun hl => ?_) (fun hl => ?_)
                  · refine v_goto (pc := 753) C 756 d_La_law_753 (by decide) ?_
                    refine v_lsub [2, 3, 4, 5, 6] [(4, .int (nI (5 * t))), (0, .ref scr), (1, .ref o), (2, .ref h), (3, .ref out)] rfl ?_
                    refine v_widen (c1 := 42 + 4 * (t + 1)) (s1 := 49295 + 25 * (t + 1)) (by omega) (by omega) ?_
                    exact nxt f7 w9 wm8 (spCompare σ (xs (5 * t + 1)) (xs (5 * t + 2)) (xs (5 * t + 3)) 0).2.2 k _ (by omega) hwx7 hwm8
                  · exact absurd (lgc_eq.mpr (hf7 h00)) hl
              · exact absurd rfl he
            · exact absurd hb hb2
          · refine v_iconst (pc := 676) C (nI 1) d_La_law_676 (by decide +kernel) ?_
            refine v_goto (pc := 677) C 681 d_La_law_677 (by decide) ?_
            refine v_aload_n (pc := 681) C 4 d_La_law_681 rfl rfl ?_
            refine v_callH (pc := 682) (As := [.ref o, .int (xs (5 * t + 1)), .int (xs (5 * t + 2)), .int (xs (5 * t + 3)), .int (nI 1), .ref out]) (rest := []) C hZ hnc (c_La_compare _ htr G o k σ wx out f (xs (5 * t + 1)) (xs (5 * t + 2)) (xs (5 * t + 3)) 1 hwx (by decide)) l_La_82 (wm) (sp_perm pmA) rfl rfl (Nat.le_of_ble_eq_true rfl) (by decide) (by decide) (by dsimp only; omega) (by dsimp only; omega) d_La_law_682 (fun r w8 hq => ?_)
            obtain ⟨rfl, f7, w9, rfl, hwx7, hf7⟩ := hq
            refine v_perm ([(out, aJ G 1 f7)] ++ (w9 ++ wm)) pmA.symm ?_
            show vv K ({ frames := 10, cells := 601024, slots := 7293034, locals := 386 } : Room) G 7 (42 + 4 * t + 1) (49295 + 25 * t + 6) ([(out, aJ G 1 f7)] ++ (w9 ++ wm)) 685 [(4, .int (nI (5 * t))), (0, .ref scr), (1, .ref o), (2, .ref h), (3, .ref out)] [.int (nI (spCompare σ (xs (5 * t + 1)) (xs (5 * t + 2)) (xs (5 * t + 3)) 1).1)]
            refine v_istore (pc := 685) C [(5, .int (nI (spCompare σ (xs (5 * t + 1)) (xs (5 * t + 2)) (xs (5 * t + 3)) 1).1)), (4, .int (nI (5 * t))), (0, .ref scr), (1, .ref o), (2, .ref h), (3, .ref out)] d_La_law_685 (by decide) rfl ?_
            refine v_aload_n (pc := 687) C 4 d_La_law_687 rfl rfl ?_
            refine v_aload_n (pc := 688) C 2 d_La_law_688 rfl rfl ?_
            refine v_iload (pc := 689) C 1 d_La_law_689 rfl ?_
            refine v_iconst (pc := 691) C (nI 1) d_La_law_691 (by decide +kernel) ?_
            refine v_iadd (pc := 692) C (nI (5 * t + 1)) d_La_law_692 (nI_add _ _) ?_
            refine v_sld (pc := 693) C hX hbl hbA (5 * t + 1) (by omega) (by omega) d_La_law_693 ?_
            refine v_aload_n (pc := 694) C 2 d_La_law_694 rfl rfl ?_
            refine v_iload (pc := 695) C 1 d_La_law_695 rfl ?_
            refine v_iconst (pc := 697) C (nI 2) d_La_law_697 (by decide +kernel) ?_
            refine v_iadd (pc := 698) C (nI (5 * t + 2)) d_La_law_698 (nI_add _ _) ?_
            refine v_sld (pc := 699) C hX hbl hbA (5 * t + 2) (by omega) (by omega) d_La_law_699 ?_
            refine v_aload_n (pc := 700) C 2 d_La_law_700 rfl rfl ?_
            refine v_iload (pc := 701) C 1 d_La_law_701 rfl ?_
            refine v_iconst (pc := 703) C (nI 3) d_La_law_703 (by decide +kernel) ?_
            refine v_iadd (pc := 704) C (nI (5 * t + 3)) d_La_law_704 (nI_add _ _) ?_
            refine v_sld (pc := 705) C hX hbl hbA (5 * t + 3) (by omega) (by omega) d_La_law_705 ?_
            refine v_aload_n (pc := 706) C 2 d_La_law_706 rfl rfl ?_
            refine v_iload (pc := 707) C 1 d_La_law_707 rfl ?_
            refine v_iconst (pc := 709) C (nI 4) d_La_law_709 (by decide +kernel) ?_
            refine v_iadd (pc := 710) C (nI (5 * t + 4)) d_La_law_710 (nI_add _ _) ?_
            refine v_sld (pc := 711) C hX hbl hbA (5 * t + 4) (by omega) (by omega) d_La_law_711 ?_
            refine v_if_eq (pc := 712) C 719 d_La_law_712 (by decide) (fun hb2 => ?_) (fun hb2 => ?_)
            · exact absurd hb2 hb
            · refine v_iconst (pc := 715) C (nI 1) d_La_law_715 (by decide +kernel) ?_
              refine v_goto (pc := 716) C 720 d_La_law_716 (by decide) ?_
              refine v_callV (pc := 720) (As := [.int (xs (5 * t + 1)), .int (xs (5 * t + 2)), .int (xs (5 * t + 3)), .int (nI 1)]) (rest := []) C (m_compare _ G h k σ fl wm (xs (5 * t + 1)) (xs (5 * t + 2)) (xs (5 * t + 3)) 1 hwm (by decide)) l_La_84 ([(out, aJ G 1 f7)] ++ w9) (sp_perm (List.Perm.refl _)) 0 hwm0 rfl rfl rfl rfl (Nat.le_of_ble_eq_true rfl) (by decide) (by decide) (by dsimp only; omega) (by dsimp only; omega) d_La_law_720 (fun r wm7 hq => ?_)
              obtain ⟨rfl, hwm7⟩ := hq
              show vv K ({ frames := 10, cells := 601024, slots := 7293034, locals := 386 } : Room) G 7 (42 + 4 * t + 1) (49295 + 25 * t + 6) ([(out, aJ G 1 f7)] ++ (w9 ++ wm7)) 723 [(5, .int (nI (spCompare σ (xs (5 * t + 1)) (xs (5 * t + 2)) (xs (5 * t + 3)) 1).1)), (4, .int (nI (5 * t))), (0, .ref scr), (1, .ref o), (2, .ref h), (3, .ref out)] [.int ((spCompare σ (xs (5 * t + 1)) (xs (5 * t + 2)) (xs (5 * t + 3)) 1).2.1)]
              obtain ⟨fs7, hwm70⟩ := moi_0 hwm7
              refine v_istore (pc := 723) C [(6, .int ((spCompare σ (xs (5 * t + 1)) (xs (5 * t + 2)) (xs (5 * t + 3)) 1).2.1)), (5, .int (nI (spCompare σ (xs (5 * t + 1)) (xs (5 * t + 2)) (xs (5 * t + 3)) 1).1)), (4, .int (nI (5 * t))), (0, .ref scr), (1, .ref o), (2, .ref h), (3, .ref out)] d_La_law_723 (by decide) rfl ?_
              refine v_aload_n (pc := 725) C 5 d_La_law_725 rfl rfl ?_
              refine v_callV (pc := 726) (As := []) (rest := []) C (m_thrown _ G h k (spCompare σ (xs (5 * t + 1)) (xs (5 * t + 2)) (xs (5 * t + 3)) 1).2.2 (nI (spCompare σ (xs (5 * t + 1)) (xs (5 * t + 2)) (xs (5 * t + 3)) 1).1) wm7 hwm7) l_La_54 ([(out, aJ G 1 f7)] ++ w9) (sp_perm (List.Perm.refl _)) 0 hwm70 rfl rfl rfl rfl (Nat.le_of_ble_eq_true rfl) (by decide) (by decide) (by dsimp only; omega) (by dsimp only; omega) d_La_law_726 (fun r wm8 hq => ?_)
              obtain ⟨rfl, hwm8⟩ := hq
              show vv K ({ frames := 10, cells := 601024, slots := 7293034, locals := 386 } : Room) G 7 (42 + 4 * t + 1) (49295 + 25 * t + 6) ([(out, aJ G 1 f7)] ++ (w9 ++ wm8)) 729 [(6, .int ((spCompare σ (xs (5 * t + 1)) (xs (5 * t + 2)) (xs (5 * t + 3)) 1).2.1)), (5, .int (nI (spCompare σ (xs (5 * t + 1)) (xs (5 * t + 2)) (xs (5 * t + 3)) 1).1)), (4, .int (nI (5 * t))), (0, .ref scr), (1, .ref o), (2, .ref h), (3, .ref out)] [.int (nI (spCompare σ (xs (5 * t + 1)) (xs (5 * t + 2)) (xs (5 * t + 3)) 1).1)]
              refine v_iload (pc := 729) C 1 d_La_law_729 rfl ?_
              refine v_icmp_eq (pc := 731) C 736 d_La_law_731 (by decide) (fun he => ?_) (fun he => ?_)
              · refine v_iload (pc := 736) C 1 d_La_law_736 rfl ?_
                refine v_if_ne (pc := 738) C 753 d_La_law_738 (by decide) (fun h0 => ?_) (fun h0 => ?_)
                · refine v_goto (pc := 753) C 756 d_La_law_753 (by decide) ?_
                  refine v_lsub [2, 3, 4, 5, 6] [(4, .int (nI (5 * t))), (0, .ref scr), (1, .ref o), (2, .ref h), (3, .ref out)] rfl ?_
                  refine v_widen (c1 := 42 + 4 * (t + 1)) (s1 := 49295 + 25 * (t + 1)) (by omega) (by omega) ?_
                  exact nxt f7 w9 wm8 (spCompare σ (xs (5 * t + 1)) (xs (5 * t + 2)) (xs (5 * t + 3)) 1).2.2 k _ (by omega) hwx7 hwm8
                · have hs9 := spCompare_s σ (xs (5 * t + 1)) (xs (5 * t + 2)) (xs (5 * t + 3)) 1
                  have h00 := nI_z (Nat.le_trans hs9.1 (by decide)) h0
                  refine v_aload_n (pc := 741) C 6 d_La_law_741 rfl rfl ?_
                  refine v_iconst (pc := 742) C (nI 0) d_La_law_742 (by decide +kernel) ?_
                  refine v_lald (pc := 743) C 0 rfl 0 rfl (by omega) (by decide) d_La_law_743 ?_
                  refine v_iload (pc := 744) C 0 d_La_law_744 rfl ?_
                  refine v_i2l (pc := 746) C (((spCompare σ (xs (5 * t + 1)) (xs (5 * t + 2)) (xs (5 * t + 3)) 1).2.1).toInt64) d_La_law_746 rfl ?_
                  refine v_lcmp (pc := 747) C d_La_law_747 ?_
                  refine v_if_eq (pc := 748) C 753 d_La_law_748 (by decide) (fun hl => ?_) (fun hl => ?_)
                  · refine v_goto (pc := 753) C 756 d_La_law_753 (by decide) ?_
                    refine v_lsub [2, 3, 4, 5, 6] [(4, .int (nI (5 * t))), (0, .ref scr), (1, .ref o), (2, .ref h), (3, .ref out)] rfl ?_
                    refine v_widen (c1 := 42 + 4 * (t + 1)) (s1 := 49295 + 25 * (t + 1)) (by omega) (by omega) ?_
                    exact nxt f7 w9 wm8 (spCompare σ (xs (5 * t + 1)) (xs (5 * t + 2)) (xs (5 * t + 3)) 1).2.2 k _ (by omega) hwx7 hwm8
                  · exact absurd (lgc_eq.mpr (hf7 h00)) hl
              · exact absurd rfl he
  refine v_lsub [0, 4, 3, 2, 1] [(4, .int (nI 0)), (0, .ref scr), (1, .ref o), (2, .ref h), (3, .ref out)] rfl ?_
  exact loop 514 0 (fun _ => 0) wx wm sg0 0 (nI 0) (by decide) (Nat.le_refl _) (by decide) hwx hwm
