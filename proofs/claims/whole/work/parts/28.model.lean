/-! The reference: its small methods -/
/-- points and their classes, as the reference keeps them -/
def CM (P C9 : Nat → Int32) (nc : Nat) (cl : Nat → Nat) : Prop := ∃ pn : Nat → Nat, (∀ j, j < nc → P j = nI (pn j) ∧ pn j ≤ 1114111 ∧ C9 j = nI (cl (pn j))) ∧ (∀ i j, i < j → j < nc → pn i ≠ pn j) ∧ (∀ x, (∀ j, j < nc → pn j ≠ x) → cl x = 0) ∧ ∀ x, cl x ≤ 254
/-- lines: lengths and points -/
def LM (LN RW : Nat → Int32) (A : List (Nat × List E4)) : Prop := ∀ i x, A[i]? = some x → ∃ n a b c, LN i = nI n ∧ RW (3 * i) = nI a ∧ RW (3 * i + 1) = nI b ∧ RW (3 * i + 2) = nI c ∧ 1 ≤ n ∧ n ≤ 3 ∧ a ≤ 1114111 ∧ b ≤ 1114111 ∧ c ≤ 1114111 ∧ x.1 = keyN n a b c
/-- lines: their elements -/
def EM (CO EA : Nat → Int32) (A : List (Nat × List E4)) : Prop := ∀ i x, A[i]? = some x → CO i = nI x.2.length ∧ x.2.length ≤ 8 ∧ ∀ j e, x.2[j]? = some e → okR e ∧ EA (4 * (8 * i + j)) = nI e.1 ∧ EA (4 * (8 * i + j) + 1) = nI e.2.1 ∧ EA (4 * (8 * i + j) + 2) = nI e.2.2.1 ∧ EA (4 * (8 * i + j) + 3) = nI e.2.2.2
def fiI (o : Option Nat) : Int32 := match o with
  | none => -1
  | some i => nI i
def LfS (f : Nat → Int32) (rem : List Nat) : Prop := (∀ x ∈ rem, x ≤ 1114111) ∧ ∀ j x, rem[j]? = some x → f j = nI x
def FoS (f : Nat → Int32) (es : List E4) : Prop := ∀ i e, es[i]? = some e → f (4 * i) = nI e.1 ∧ f (4 * i + 1) = nI e.2.1 ∧ f (4 * i + 2) = nI e.2.2.1 ∧ f (4 * i + 3) = nI e.2.2.2
def ou (p : Int32) : Int32 := if badN p 1114111 then nI 1 else nI 0
theorem ou_0 {p : Int32} (h : ou p = 0) : ¬ badN p 1114111 := fun z => by unfold ou at h; rw [if_pos z] at h; exact absurd h (by decide)
theorem ou_1 {p : Int32} (h : ¬ ou p = 0) : badN p 1114111 := by
  by_cases z : badN p 1114111
  · exact z
  · exact absurd (by unfold ou; rw [if_neg z]; rfl) h
set_option maxHeartbeats 4000000 in
theorem keyN_inj {n a b c n' a' b' c' : Nat} (h1 : 1 ≤ n) (h3 : n ≤ 3) (h1' : 1 ≤ n') (h3' : n' ≤ 3) (ha : a ≤ 1114111) (hb : b ≤ 1114111) (hc : c ≤ 1114111) (ha' : a' ≤ 1114111) (hb' : b' ≤ 1114111) (hc' : c' ≤ 1114111) :
    keyN n' a' b' c' = keyN n a b c ↔ n' = n ∧ a' = a ∧ (n < 2 ∨ b' = b) ∧ (n < 3 ∨ c' = c) := by
  unfold keyN kx
  rcases (show n = 1 ∨ n = 2 ∨ n = 3 by omega) with rfl | rfl | rfl <;> rcases (show n' = 1 ∨ n' = 2 ∨ n' = 3 by omega) with rfl | rfl | rfl <;> simp <;> omega

set_option maxHeartbeats 4000000 in
set_option maxRecDepth 100000 in
theorem c_Mo_thrown (l : Launch) (G : Gx) (h pa ca la ro co ea tx sz lf fo f1 : Nat) (fl td : Int32) (nc nl lz fz : Nat)  : CT l G y_Mo_thrown b_Mo_thrown 1 (some .int) ({ frames := 0, cells := 0, slots := 0, locals := 0 } : Room) ([(h, ob 7 [.int fl, .ref pa, .ref ca, .int (nI nc), .ref la, .ref ro, .ref co, .ref ea, .int (nI nl), .int td, .ref tx, .ref sz, .ref lf, .int (nI lz), .ref fo, .int (nI fz), .ref f1])]) [.ref h] (fun r w' => w' = [(h, ob 7 [.int fl, .ref pa, .ref ca, .int (nI nc), .ref la, .ref ro, .ref co, .ref ea, .int (nI nl), .int td, .ref tx, .ref sz, .ref lf, .int (nI lz), .ref fo, .int (nI fz), .ref f1])] ∧ r = some (.int fl)) := by
  refine ct_of [(0, .ref h)] (by decide) (Nat.le_of_ble_eq_true rfl) rfl (fun K hKl hNI C X => ?_)
  subst hKl
  refine v_aload_n (pc := 0) C 0 d_Mo_thrown_0 rfl rfl ?_
  refine v_get (pc := 1) (Cn := "WeightOrderModel") (T := T_Mo) (N := 17) (ci := 7) (v := .int fl) C 0 0 rfl rfl hin_Mo (by decide) rfl k_462 rfl d_Mo_thrown_1 ?_
  exact v_iret (pc := 4) C X d_Mo_thrown_4 ⟨rfl, rfl⟩ (by decide) (by decide)

set_option maxHeartbeats 4000000 in
set_option maxRecDepth 100000 in
theorem c_Mo_fail (l : Launch) (G : Gx) (h pa ca la ro co ea tx sz lf fo f1 : Nat) (fl td : Int32) (nc nl lz fz : Nat) (k : Nat)  : CT l G y_Mo_fail b_Mo_fail 2 (some .int) ({ frames := 0, cells := 0, slots := 0, locals := 0 } : Room) ([(h, ob 7 [.int fl, .ref pa, .ref ca, .int (nI nc), .ref la, .ref ro, .ref co, .ref ea, .int (nI nl), .int td, .ref tx, .ref sz, .ref lf, .int (nI lz), .ref fo, .int (nI fz), .ref f1])]) [.ref h, .int (nI k)] (fun r w' => w' = [(h, ob 7 [.int (nI k), .ref pa, .ref ca, .int (nI nc), .ref la, .ref ro, .ref co, .ref ea, .int (nI nl), .int td, .ref tx, .ref sz, .ref lf, .int (nI lz), .ref fo, .int (nI fz), .ref f1])] ∧ r = some (.int (nI 0))) := by
  refine ct_of [(0, .ref h), (1, .int (nI k))] (by decide) (Nat.le_of_ble_eq_true rfl) rfl (fun K hKl hNI C X => ?_)
  subst hKl
  refine v_aload_n (pc := 0) C 0 d_Mo_fail_0 rfl rfl ?_
  refine v_iload_n (pc := 1) C 1 d_Mo_fail_1 rfl rfl ?_
  refine v_put (pc := 2) (Cn := "WeightOrderModel") (T := T_Mo) (N := 17) (ci := 7) (v := .int (nI k)) C 0 0 rfl rfl hin_Mo (by decide) rfl ([(h, ob 7 [.int (nI k), .ref pa, .ref ca, .int (nI nc), .ref la, .ref ro, .ref co, .ref ea, .int (nI nl), .int td, .ref tx, .ref sz, .ref lf, .int (nI lz), .ref fo, .int (nI fz), .ref f1])]) t_Mo t_Mo_ok n_Mo (.int) rfl rfl rfl (Nat.le_of_ble_eq_true rfl) rfl rfl k_462 d_Mo_fail_2 ?_
  refine v_iconst (pc := 5) C (nI 0) d_Mo_fail_5 (by decide +kernel) ?_
  exact v_iret (pc := 6) C X d_Mo_fail_6 ⟨rfl, rfl⟩ (by decide) (by decide)

set_option maxHeartbeats 4000000 in
set_option maxRecDepth 100000 in
theorem c_Mo_out (l : Launch) (G : Gx) (h pa ca la ro co ea tx sz lf fo f1 : Nat) (fl td : Int32) (nc nl lz fz : Nat) (p : Int32)  : CT l G y_Mo_out b_Mo_out 2 (some .boolean) ({ frames := 0, cells := 0, slots := 0, locals := 0 } : Room) ([(h, ob 7 [.int fl, .ref pa, .ref ca, .int (nI nc), .ref la, .ref ro, .ref co, .ref ea, .int (nI nl), .int td, .ref tx, .ref sz, .ref lf, .int (nI lz), .ref fo, .int (nI fz), .ref f1])]) [.ref h, .int p] (fun r w' => w' = [(h, ob 7 [.int fl, .ref pa, .ref ca, .int (nI nc), .ref la, .ref ro, .ref co, .ref ea, .int (nI nl), .int td, .ref tx, .ref sz, .ref lf, .int (nI lz), .ref fo, .int (nI fz), .ref f1])] ∧ r = some (.int (ou p))) := by
  refine ct_of [(0, .ref h), (1, .int p)] (by decide) (Nat.le_of_ble_eq_true rfl) rfl (fun K hKl hNI C X => ?_)
  subst hKl
  refine v_iload_n (pc := 0) C 1 d_Mo_out_0 rfl rfl ?_
  refine v_if_lt (pc := 1) C 10 d_Mo_out_1 (by decide) (fun h1 => ?_) (fun h1 => ?_)
  · refine v_iconst (pc := 10) C (nI 1) d_Mo_out_10 (by decide +kernel) ?_
    refine v_goto (pc := 11) C 15 d_Mo_out_11 (by decide) ?_
    exact v_zret (pc := 15) C X rfl d_Mo_out_15 ⟨rfl, by unfold ou; rw [if_pos (Or.inl h1)]⟩ (by decide) (by decide)
  · refine v_iload_n (pc := 4) C 1 d_Mo_out_4 rfl rfl ?_
    refine v_ldc (pc := 5) C 1114111 k_526 d_Mo_out_5 ?_
    refine v_seti (nI 1114111) (by decide +kernel) ?_
    refine v_icmp_le (pc := 7) C 14 d_Mo_out_7 (by decide) (fun h2 => ?_) (fun h2 => ?_)
    · refine v_iconst (pc := 14) C (nI 0) d_Mo_out_14 (by decide +kernel) ?_
      exact v_zret (pc := 15) C X rfl d_Mo_out_15 ⟨rfl, by unfold ou; rw [if_neg (fun z => z.elim h1 (fun z => Int32.not_lt.mpr h2 z))]⟩ (by decide) (by decide)
    · refine v_iconst (pc := 10) C (nI 1) d_Mo_out_10 (by decide +kernel) ?_
      refine v_goto (pc := 11) C 15 d_Mo_out_11 (by decide) ?_
      exact v_zret (pc := 15) C X rfl d_Mo_out_15 ⟨rfl, by unfold ou; rw [if_pos (Or.inr (Int32.not_le.mp h2))]⟩ (by decide) (by decide)

set_option maxHeartbeats 4000000 in
set_option maxRecDepth 100000 in
theorem c_Mo_classOf (l : Launch) (G : Gx) (h pa ca la ro co ea tx sz lf fo f1 : Nat) (fl td : Int32) (nc nl lz fz : Nat) (P C9 : Nat → Int32) (cl : Nat → Nat) (y : Nat) (hnc : nc ≤ 512) (hC : CM P C9 nc cl) (hy : y ≤ 1114111) : CT l G y_Mo_classOf b_Mo_classOf 3 (some .int) ({ frames := 0, cells := 0, slots := 0, locals := 0 } : Room) ([(h, ob 7 [.int fl, .ref pa, .ref ca, .int (nI nc), .ref la, .ref ro, .ref co, .ref ea, .int (nI nl), .int td, .ref tx, .ref sz, .ref lf, .int (nI lz), .ref fo, .int (nI fz), .ref f1]), (pa, aI G 5000 P), (ca, aI G 5000 C9)]) [.ref h, .int (nI y)] (fun r w' => w' = [(h, ob 7 [.int fl, .ref pa, .ref ca, .int (nI nc), .ref la, .ref ro, .ref co, .ref ea, .int (nI nl), .int td, .ref tx, .ref sz, .ref lf, .int (nI lz), .ref fo, .int (nI fz), .ref f1]), (pa, aI G 5000 P), (ca, aI G 5000 C9)] ∧ r = some (.int (nI (cl y)))) := by
  refine ct_of [(0, .ref h), (1, .int (nI y))] (by decide) (Nat.le_of_ble_eq_true rfl) rfl (fun K hKl hNI C X => ?_)
  subst hKl
  obtain ⟨pn, h1, h2, h3, h4⟩ := hC
  refine v_iconst (pc := 0) C (nI 0) d_Mo_classOf_0 (by decide +kernel) ?_
  refine v_istore_n (pc := 1) C [(2, .int (nI 0)), (0, .ref h), (1, .int (nI y))] d_Mo_classOf_1 rfl (by decide) rfl ?_
  have loop : ∀ (d : Nat) (k : Nat), nc - k < d → (k ≤ nc) → (∀ j, j < k → pn j ≠ y) → vv K ({ frames := 0, cells := 0, slots := 0, locals := 0 } : Room) G 3 0 0 ([(h, ob 7 [.int fl, .ref pa, .ref ca, .int (nI nc), .ref la, .ref ro, .ref co, .ref ea, .int (nI nl), .int td, .ref tx, .ref sz, .ref lf, .int (nI lz), .ref fo, .int (nI fz), .ref f1]), (pa, aI G 5000 P), (ca, aI G 5000 C9)]) 2 [(2, .int (nI k)), (0, .ref h), (1, .int (nI y))] [] := by
    intro d
    induction d with
    | zero => intro k hm; exact absurd hm (Nat.not_lt_zero _)
    | succ d ih =>
      intro k hm hk hn
      refine v_iload_n (pc := 2) C 0 d_Mo_classOf_2 rfl rfl ?_
      refine v_aload_n (pc := 3) C 1 d_Mo_classOf_3 rfl rfl ?_
      refine v_get (pc := 4) (Cn := "WeightOrderModel") (T := T_Mo) (N := 17) (ci := 7) (v := .int (nI nc)) C 0 3 rfl rfl hin_Mo (by decide) rfl k_465 rfl d_Mo_classOf_4 ?_
      refine v_icmpN_ge (pc := 7) C 33 k nc d_Mo_classOf_7 (by decide) (by omega) (by omega) (fun hc => ?_) (fun hc => ?_)
      · refine v_iconst (pc := 33) C (nI 0) d_Mo_classOf_33 (by decide +kernel) ?_
        exact v_iret (pc := 34) C X d_Mo_classOf_34 ⟨rfl, by rw [h3 y (fun j hj => hn j (by omega))]⟩ (by decide) (by decide)
      · have hp := h1 k hc
        refine v_aload_n (pc := 10) C 1 d_Mo_classOf_10 rfl rfl ?_
        refine v_get (pc := 11) (Cn := "WeightOrderModel") (T := T_Mo) (N := 17) (ci := 7) (v := .ref pa) C 0 1 rfl rfl hin_Mo (by decide) rfl k_463 rfl d_Mo_classOf_11 ?_
        refine v_iload_n (pc := 14) C 0 d_Mo_classOf_14 rfl rfl ?_
        refine v_iald (pc := 15) C 1 rfl k rfl (by omega) (by decide) d_Mo_classOf_15 ?_
        refine v_seti (nI (pn k)) hp.1 ?_
        refine v_iload_n (pc := 16) C 2 d_Mo_classOf_16 rfl rfl ?_
        refine v_icmpN_ne (pc := 17) C 27 (pn k) y d_Mo_classOf_17 (by decide) (by omega) (by omega) (fun he => ?_) (fun he => ?_)
        · refine v_iinc (pc := 27) C [(2, .int (nI (k + 1))), (0, .ref h), (1, .int (nI y))] 0 (nI (k + 1)) d_Mo_classOf_27 rfl (nI_inc1 _) (by decide) rfl ?_
          refine v_goto (pc := 30) C 2 d_Mo_classOf_30 (by decide) ?_
          refine v_lsub [0, 1, 2] [(2, .int (nI (k + 1))), (0, .ref h), (1, .int (nI y))] rfl ?_
          exact ih (k + 1) (by omega) (by omega) (fun j hj => by rcases Nat.lt_or_ge j k with c | c; exact hn j c; rw [show j = k by omega]; exact he)
        · refine v_aload_n (pc := 20) C 1 d_Mo_classOf_20 rfl rfl ?_
          refine v_get (pc := 21) (Cn := "WeightOrderModel") (T := T_Mo) (N := 17) (ci := 7) (v := .ref ca) C 0 2 rfl rfl hin_Mo (by decide) rfl k_464 rfl d_Mo_classOf_21 ?_
          refine v_iload_n (pc := 24) C 0 d_Mo_classOf_24 rfl rfl ?_
          refine v_iald (pc := 25) C 2 rfl k rfl (by omega) (by decide) d_Mo_classOf_25 ?_
          refine v_seti (nI (cl (pn k))) hp.2.2 ?_
          exact v_iret (pc := 26) C X d_Mo_classOf_26 ⟨rfl, by rw [he]⟩ (by decide) (by decide)
  refine v_lsub [0, 1, 2] [(2, .int (nI 0)), (0, .ref h), (1, .int (nI y))] rfl ?_
  exact loop (nc + 1) 0 (by omega) (Nat.zero_le _) (fun j hj => absurd hj (Nat.not_lt_zero _))

theorem cm_set {P C9 : Nat → Int32} {nc : Nat} {cl : Nat → Nat} {pn : Nat → Nat} {k y v : Nat} (h1 : ∀ j, j < nc → P j = nI (pn j) ∧ pn j ≤ 1114111 ∧ C9 j = nI (cl (pn j))) (h2 : ∀ i j, i < j → j < nc → pn i ≠ pn j) (h3 : ∀ x, (∀ j, j < nc → pn j ≠ x) → cl x = 0) (h4 : ∀ x, cl x ≤ 254) (hy : y ≤ 1114111) (hv : v ≤ 254) (hk : k ≤ nc) (hn : ∀ j, j < k → pn j ≠ y) (he : k < nc → pn k = y) :
    CM (upd P k (nI y)) (upd C9 k (nI v)) (if k = nc then nc + 1 else nc) (fun x => if x = y then v else cl x) := by
  refine ⟨fun j => if j = k then y else pn j, fun j hj => ?_, fun i j hij hj => ?_, fun x hx => ?_, fun x => ?_⟩
  · by_cases c : j = k
    · simp only [if_pos c]
      rw [c, pk_us, pk_us]
      exact ⟨rfl, hy, by simp⟩
    · have hj2 : j < nc := by split at hj <;> omega
      simp only [if_neg c]
      rw [pk_un c, pk_un c]
      have hjy : pn j ≠ y := by
        rcases Nat.lt_trichotomy j k with d | d | d
        · exact hn j d
        · exact absurd d c
        · intro e
          exact h2 k j d hj2 ((he (by omega)).trans e.symm)
      simp only [if_neg hjy]
      exact h1 j hj2
  · have hjj : j ≤ nc := by split at hj <;> omega
    by_cases c : i = k
    · have d : j ≠ k := by omega
      simp only [if_pos c, if_neg d]
      have hj2 : j < nc := by split at hj <;> omega
      intro e
      exact h2 k j (by omega) hj2 ((he (by omega)).trans e)
    · by_cases d : j = k
      · simp only [if_neg c, if_pos d]
        exact hn i (by omega)
      · simp only [if_neg c, if_neg d]
        exact h2 i j hij (by split at hj <;> omega)
  · have hxy : y ≠ x := by
      have := hx k (by split <;> omega)
      simpa using this
    show (if x = y then v else cl x) = 0
    rw [if_neg (fun e => hxy (Eq.symm e))]
    refine h3 x (fun j hj => ?_)
    have := hx j (by split <;> omega)
    by_cases c : j = k
    · subst c
      rw [he hj]; exact hxy
    · simpa [c] using this
  · show (if x = y then v else cl x) ≤ 254
    split
    · exact hv
    · exact h4 x

set_option maxHeartbeats 4000000 in
set_option maxRecDepth 100000 in
theorem c_Mo_order (l : Launch) (G : Gx) (h pa ca la ro co ea tx sz lf fo f1 : Nat) (fl td : Int32) (nc nl lz fz : Nat) (P C9 : Nat → Int32) (cl : Nat → Nat) (pt cv : Int32) (hnc : nc < 512) (hC : CM P C9 nc cl) : CT l G y_Mo_order b_Mo_order 4 none ({ frames := 1, cells := 0, slots := 0, locals := 40 } : Room) ([(h, ob 7 [.int fl, .ref pa, .ref ca, .int (nI nc), .ref la, .ref ro, .ref co, .ref ea, .int (nI nl), .int td, .ref tx, .ref sz, .ref lf, .int (nI lz), .ref fo, .int (nI fz), .ref f1]), (pa, aI G 5000 P), (ca, aI G 5000 C9)]) [.ref h, .int pt, .int cv] (fun r w' => r = none ∧ ((badN pt 1114111 ∨ badN cv 254) ∧ w' = [(h, ob 7 [.int (nI 1), .ref pa, .ref ca, .int (nI nc), .ref la, .ref ro, .ref co, .ref ea, .int (nI nl), .int td, .ref tx, .ref sz, .ref lf, .int (nI lz), .ref fo, .int (nI fz), .ref f1]), (pa, aI G 5000 P), (ca, aI G 5000 C9)] ∨ ¬ (badN pt 1114111 ∨ badN cv 254) ∧ ∃ nc' P' C', w' = [(h, ob 7 [.int (nI 0), .ref pa, .ref ca, .int (nI nc'), .ref la, .ref ro, .ref co, .ref ea, .int (nI nl), .int td, .ref tx, .ref sz, .ref lf, .int (nI lz), .ref fo, .int (nI fz), .ref f1]), (pa, aI G 5000 P'), (ca, aI G 5000 C')] ∧ nc' ≤ nc + 1 ∧ CM P' C' nc' (fun x => if x = toN pt then toN cv else cl x))) := by
  refine ct_of [(0, .ref h), (1, .int pt), (2, .int cv)] (by decide) (Nat.le_of_ble_eq_true rfl) rfl (fun K hKl hNI C X => ?_)
  subst hKl
  refine v_aload_n (pc := 0) C 0 d_Mo_order_0 rfl rfl ?_
  refine v_iconst (pc := 1) C (nI 0) d_Mo_order_1 (by decide +kernel) ?_
  refine v_put (pc := 2) (Cn := "WeightOrderModel") (T := T_Mo) (N := 17) (ci := 7) (v := .int (nI 0)) C 0 0 rfl rfl hin_Mo (by decide) rfl ([(h, ob 7 [.int (nI 0), .ref pa, .ref ca, .int (nI nc), .ref la, .ref ro, .ref co, .ref ea, .int (nI nl), .int td, .ref tx, .ref sz, .ref lf, .int (nI lz), .ref fo, .int (nI fz), .ref f1]), (pa, aI G 5000 P), (ca, aI G 5000 C9)]) t_Mo t_Mo_ok n_Mo (.int) rfl rfl rfl (Nat.le_of_ble_eq_true rfl) rfl rfl k_462 d_Mo_order_2 ?_
  refine v_aload_n (pc := 5) C 0 d_Mo_order_5 rfl rfl ?_
  refine v_iload_n (pc := 6) C 1 d_Mo_order_6 rfl rfl ?_
  refine v_callV (pc := 7) (As := [.int pt]) (rest := []) C (c_Mo_out _ G h pa ca la ro co ea tx sz lf fo f1 (nI 0) td nc nl lz fz pt) l_Mo_53 ([(pa, aI G 5000 P), (ca, aI G 5000 C9)]) (sp_pos [1, 2] [0] rfl rfl rfl) 0 rfl rfl rfl rfl rfl (Nat.le_of_ble_eq_true rfl) (by decide) (by decide) (by decide) (by decide) d_Mo_order_7 (fun r w' hq => ?_)
  obtain ⟨rfl, rfl⟩ := hq
  show vv K ({ frames := 1, cells := 0, slots := 0, locals := 40 } : Room) G 4 0 0 ([(pa, aI G 5000 P), (ca, aI G 5000 C9), (h, ob 7 [.int (nI 0), .ref pa, .ref ca, .int (nI nc), .ref la, .ref ro, .ref co, .ref ea, .int (nI nl), .int td, .ref tx, .ref sz, .ref lf, .int (nI lz), .ref fo, .int (nI fz), .ref f1])]) 10 [(0, .ref h), (1, .int pt), (2, .int cv)] [.int (ou pt)]
  refine v_if_ne (pc := 10) C 24 d_Mo_order_10 (by decide) (fun h1 => ?_) (fun h1 => ?_)
  · refine v_aload_n (pc := 24) C 0 d_Mo_order_24 rfl rfl ?_
    refine v_iconst (pc := 25) C (nI 1) d_Mo_order_25 (by decide +kernel) ?_
    refine v_put (pc := 26) (Cn := "WeightOrderModel") (T := T_Mo) (N := 17) (ci := 7) (v := .int (nI 1)) C 2 0 rfl rfl hin_Mo (by decide) rfl ([(pa, aI G 5000 P), (ca, aI G 5000 C9), (h, ob 7 [.int (nI 1), .ref pa, .ref ca, .int (nI nc), .ref la, .ref ro, .ref co, .ref ea, .int (nI nl), .int td, .ref tx, .ref sz, .ref lf, .int (nI lz), .ref fo, .int (nI fz), .ref f1])]) t_Mo t_Mo_ok n_Mo (.int) rfl rfl rfl (Nat.le_of_ble_eq_true rfl) rfl rfl k_462 d_Mo_order_26 ?_
    refine v_goto (pc := 29) C 90 d_Mo_order_29 (by decide) ?_
    refine v_wsub [2, 0, 1] ([(h, ob 7 [.int (nI 1), .ref pa, .ref ca, .int (nI nc), .ref la, .ref ro, .ref co, .ref ea, .int (nI nl), .int td, .ref tx, .ref sz, .ref lf, .int (nI lz), .ref fo, .int (nI fz), .ref f1]), (pa, aI G 5000 P), (ca, aI G 5000 C9)]) rfl rfl ?_
    exact v_vret (pc := 90) C X d_Mo_order_90 ⟨rfl, Or.inl ⟨Or.inl (ou_1 h1), rfl⟩⟩ (by decide) (by decide)
  · have hb1 := ou_0 h1
    refine v_iload_n (pc := 13) C 2 d_Mo_order_13 rfl rfl ?_
    refine v_if_lt (pc := 14) C 24 d_Mo_order_14 (by decide) (fun h2 => ?_) (fun h2 => ?_)
    · refine v_aload_n (pc := 24) C 0 d_Mo_order_24 rfl rfl ?_
      refine v_iconst (pc := 25) C (nI 1) d_Mo_order_25 (by decide +kernel) ?_
      refine v_put (pc := 26) (Cn := "WeightOrderModel") (T := T_Mo) (N := 17) (ci := 7) (v := .int (nI 1)) C 2 0 rfl rfl hin_Mo (by decide) rfl ([(pa, aI G 5000 P), (ca, aI G 5000 C9), (h, ob 7 [.int (nI 1), .ref pa, .ref ca, .int (nI nc), .ref la, .ref ro, .ref co, .ref ea, .int (nI nl), .int td, .ref tx, .ref sz, .ref lf, .int (nI lz), .ref fo, .int (nI fz), .ref f1])]) t_Mo t_Mo_ok n_Mo (.int) rfl rfl rfl (Nat.le_of_ble_eq_true rfl) rfl rfl k_462 d_Mo_order_26 ?_
      refine v_goto (pc := 29) C 90 d_Mo_order_29 (by decide) ?_
      refine v_wsub [2, 0, 1] ([(h, ob 7 [.int (nI 1), .ref pa, .ref ca, .int (nI nc), .ref la, .ref ro, .ref co, .ref ea, .int (nI nl), .int td, .ref tx, .ref sz, .ref lf, .int (nI lz), .ref fo, .int (nI fz), .ref f1]), (pa, aI G 5000 P), (ca, aI G 5000 C9)]) rfl rfl ?_
      exact v_vret (pc := 90) C X d_Mo_order_90 ⟨rfl, Or.inl ⟨Or.inr (Or.inl h2), rfl⟩⟩ (by decide) (by decide)
    · refine v_iload_n (pc := 17) C 2 d_Mo_order_17 rfl rfl ?_
      refine v_sipush (pc := 18) C (nI 254) d_Mo_order_18 (by decide +kernel) ?_
      refine v_icmp_le (pc := 21) C 32 d_Mo_order_21 (by decide) (fun h3 => ?_) (fun h3 => ?_)
      · have hb2 : ¬ badN cv 254 := fun z => z.elim h2 (fun z => Int32.not_lt.mpr h3 z)
        obtain ⟨y, hy, rfl⟩ := nI_of2 (nI_toInt (n := 1114111) (by decide)) (fun z => hb1 (Or.inl z)) (Int32.not_lt.mp (fun z => hb1 (Or.inr z)))
        obtain ⟨v, hv, rfl⟩ := nI_of2 (nI_toInt (n := 254) (by decide)) h2 h3
        obtain ⟨pn, g1, g2, g3, g4⟩ := hC
        refine v_iconst (pc := 32) C (nI 0) d_Mo_order_32 (by decide +kernel) ?_
        refine v_istore_n (pc := 33) C [(3, .int (nI 0)), (0, .ref h), (1, .int (nI y)), (2, .int (nI v))] d_Mo_order_33 rfl (by decide) rfl ?_
        refine v_wsub [2, 0, 1] ([(h, ob 7 [.int (nI 0), .ref pa, .ref ca, .int (nI nc), .ref la, .ref ro, .ref co, .ref ea, .int (nI nl), .int td, .ref tx, .ref sz, .ref lf, .int (nI lz), .ref fo, .int (nI fz), .ref f1]), (pa, aI G 5000 P), (ca, aI G 5000 C9)]) rfl rfl ?_
        have loop : ∀ (d : Nat) (k : Nat), nc - k < d → (k ≤ nc) → (∀ j, j < k → pn j ≠ y) → vv K ({ frames := 1, cells := 0, slots := 0, locals := 40 } : Room) G 4 0 0 ([(h, ob 7 [.int (nI 0), .ref pa, .ref ca, .int (nI nc), .ref la, .ref ro, .ref co, .ref ea, .int (nI nl), .int td, .ref tx, .ref sz, .ref lf, .int (nI lz), .ref fo, .int (nI fz), .ref f1]), (pa, aI G 5000 P), (ca, aI G 5000 C9)]) 34 [(3, .int (nI k)), (0, .ref h), (1, .int (nI y)), (2, .int (nI v))] [] := by
          intro d
          induction d with
          | zero => intro k hm; exact absurd hm (Nat.not_lt_zero _)
          | succ d ih =>
            intro k hm hk hn
            refine v_iload_n (pc := 34) C 0 d_Mo_order_34 rfl rfl ?_
            refine v_aload_n (pc := 35) C 1 d_Mo_order_35 rfl rfl ?_
            refine v_get (pc := 36) (Cn := "WeightOrderModel") (T := T_Mo) (N := 17) (ci := 7) (v := .int (nI nc)) C 0 3 rfl rfl hin_Mo (by decide) rfl k_465 rfl d_Mo_order_36 ?_
            refine v_icmpN_ge (pc := 39) C 58 k nc d_Mo_order_39 (by decide) (by omega) (by omega) (fun hc => ?_) (fun hc => ?_)
            · have hke : k = nc := by omega
              refine v_aload_n (pc := 58) C 1 d_Mo_order_58 rfl rfl ?_
              refine v_get (pc := 59) (Cn := "WeightOrderModel") (T := T_Mo) (N := 17) (ci := 7) (v := .ref pa) C 0 1 rfl rfl hin_Mo (by decide) rfl k_463 rfl d_Mo_order_59 ?_
              refine v_iload_n (pc := 62) C 0 d_Mo_order_62 rfl rfl ?_
              refine v_iload_n (pc := 63) C 2 d_Mo_order_63 rfl rfl ?_
              refine v_iast (pc := 64) C 1 ([(h, ob 7 [.int (nI 0), .ref pa, .ref ca, .int (nI nc), .ref la, .ref ro, .ref co, .ref ea, .int (nI nl), .int td, .ref tx, .ref sz, .ref lf, .int (nI lz), .ref fo, .int (nI fz), .ref f1]), (pa, aI G 5000 (upd P k (nI y))), (ca, aI G 5000 C9)]) rfl k rfl (by omega) (by decide) rfl d_Mo_order_64 ?_
              refine v_aload_n (pc := 65) C 1 d_Mo_order_65 rfl rfl ?_
              refine v_get (pc := 66) (Cn := "WeightOrderModel") (T := T_Mo) (N := 17) (ci := 7) (v := .ref ca) C 0 2 rfl rfl hin_Mo (by decide) rfl k_464 rfl d_Mo_order_66 ?_
              refine v_iload_n (pc := 69) C 0 d_Mo_order_69 rfl rfl ?_
              refine v_iload_n (pc := 70) C 3 d_Mo_order_70 rfl rfl ?_
              refine v_iast (pc := 71) C 2 ([(h, ob 7 [.int (nI 0), .ref pa, .ref ca, .int (nI nc), .ref la, .ref ro, .ref co, .ref ea, .int (nI nl), .int td, .ref tx, .ref sz, .ref lf, .int (nI lz), .ref fo, .int (nI fz), .ref f1]), (pa, aI G 5000 (upd P k (nI y))), (ca, aI G 5000 (upd C9 k (nI v)))]) rfl k rfl (by omega) (by decide) rfl d_Mo_order_71 ?_
              refine v_iload_n (pc := 72) C 0 d_Mo_order_72 rfl rfl ?_
              refine v_aload_n (pc := 73) C 1 d_Mo_order_73 rfl rfl ?_
              refine v_get (pc := 74) (Cn := "WeightOrderModel") (T := T_Mo) (N := 17) (ci := 7) (v := .int (nI nc)) C 0 3 rfl rfl hin_Mo (by decide) rfl k_465 rfl d_Mo_order_74 ?_
              refine v_icmpN_ne (pc := 77) C 90 k nc d_Mo_order_77 (by decide) (by omega) (by omega) (fun hd => ?_) (fun hd => ?_)
              · exact absurd hke hd
              · refine v_aload_n (pc := 80) C 1 d_Mo_order_80 rfl rfl ?_
                refine v_dup (pc := 81) C d_Mo_order_81 rfl ?_
                refine v_get (pc := 82) (Cn := "WeightOrderModel") (T := T_Mo) (N := 17) (ci := 7) (v := .int (nI nc)) C 0 3 rfl rfl hin_Mo (by decide) rfl k_465 rfl d_Mo_order_82 ?_
                refine v_iconst (pc := 85) C (nI 1) d_Mo_order_85 (by decide +kernel) ?_
                refine v_iadd (pc := 86) C (nI (nc + 1)) d_Mo_order_86 (nI_add _ _) ?_
                refine v_put (pc := 87) (Cn := "WeightOrderModel") (T := T_Mo) (N := 17) (ci := 7) (v := .int (nI (nc + 1))) C 0 3 rfl rfl hin_Mo (by decide) rfl ([(h, ob 7 [.int (nI 0), .ref pa, .ref ca, .int (nI (nc + 1)), .ref la, .ref ro, .ref co, .ref ea, .int (nI nl), .int td, .ref tx, .ref sz, .ref lf, .int (nI lz), .ref fo, .int (nI fz), .ref f1]), (pa, aI G 5000 (upd P k (nI y))), (ca, aI G 5000 (upd C9 k (nI v)))]) t_Mo t_Mo_ok n_Mo (.int) rfl rfl rfl (Nat.le_of_ble_eq_true rfl) rfl rfl k_465 d_Mo_order_87 ?_
                exact v_vret (pc := 90) C X d_Mo_order_90 ⟨rfl, Or.inr ⟨fun z => z.elim hb1 hb2, _, _, _, rfl, Nat.le_refl _, by rw [toN_nI (by omega), toN_nI (by omega)]; have := cm_set g1 g2 g3 g4 hy hv hk hn (fun z => by omega); rw [if_pos hke] at this; exact this⟩⟩ (by decide) (by decide)
            · have hp := g1 k hc
              refine v_aload_n (pc := 42) C 1 d_Mo_order_42 rfl rfl ?_
              refine v_get (pc := 43) (Cn := "WeightOrderModel") (T := T_Mo) (N := 17) (ci := 7) (v := .ref pa) C 0 1 rfl rfl hin_Mo (by decide) rfl k_463 rfl d_Mo_order_43 ?_
              refine v_iload_n (pc := 46) C 0 d_Mo_order_46 rfl rfl ?_
              refine v_iald (pc := 47) C 1 rfl k rfl (by omega) (by decide) d_Mo_order_47 ?_
              refine v_seti (nI (pn k)) hp.1 ?_
              refine v_iload_n (pc := 48) C 2 d_Mo_order_48 rfl rfl ?_
              refine v_icmpN_eq (pc := 49) C 58 (pn k) y d_Mo_order_49 (by decide) (by omega) (by omega) (fun he => ?_) (fun he => ?_)
              · refine v_aload_n (pc := 58) C 1 d_Mo_order_58 rfl rfl ?_
                refine v_get (pc := 59) (Cn := "WeightOrderModel") (T := T_Mo) (N := 17) (ci := 7) (v := .ref pa) C 0 1 rfl rfl hin_Mo (by decide) rfl k_463 rfl d_Mo_order_59 ?_
                refine v_iload_n (pc := 62) C 0 d_Mo_order_62 rfl rfl ?_
                refine v_iload_n (pc := 63) C 2 d_Mo_order_63 rfl rfl ?_
                refine v_iast (pc := 64) C 1 ([(h, ob 7 [.int (nI 0), .ref pa, .ref ca, .int (nI nc), .ref la, .ref ro, .ref co, .ref ea, .int (nI nl), .int td, .ref tx, .ref sz, .ref lf, .int (nI lz), .ref fo, .int (nI fz), .ref f1]), (pa, aI G 5000 (upd P k (nI y))), (ca, aI G 5000 C9)]) rfl k rfl (by omega) (by decide) rfl d_Mo_order_64 ?_
                refine v_aload_n (pc := 65) C 1 d_Mo_order_65 rfl rfl ?_
                refine v_get (pc := 66) (Cn := "WeightOrderModel") (T := T_Mo) (N := 17) (ci := 7) (v := .ref ca) C 0 2 rfl rfl hin_Mo (by decide) rfl k_464 rfl d_Mo_order_66 ?_
                refine v_iload_n (pc := 69) C 0 d_Mo_order_69 rfl rfl ?_
                refine v_iload_n (pc := 70) C 3 d_Mo_order_70 rfl rfl ?_
                refine v_iast (pc := 71) C 2 ([(h, ob 7 [.int (nI 0), .ref pa, .ref ca, .int (nI nc), .ref la, .ref ro, .ref co, .ref ea, .int (nI nl), .int td, .ref tx, .ref sz, .ref lf, .int (nI lz), .ref fo, .int (nI fz), .ref f1]), (pa, aI G 5000 (upd P k (nI y))), (ca, aI G 5000 (upd C9 k (nI v)))]) rfl k rfl (by omega) (by decide) rfl d_Mo_order_71 ?_
                refine v_iload_n (pc := 72) C 0 d_Mo_order_72 rfl rfl ?_
                refine v_aload_n (pc := 73) C 1 d_Mo_order_73 rfl rfl ?_
                refine v_get (pc := 74) (Cn := "WeightOrderModel") (T := T_Mo) (N := 17) (ci := 7) (v := .int (nI nc)) C 0 3 rfl rfl hin_Mo (by decide) rfl k_465 rfl d_Mo_order_74 ?_
                refine v_icmpN_ne (pc := 77) C 90 k nc d_Mo_order_77 (by decide) (by omega) (by omega) (fun hd => ?_) (fun hd => ?_)
                · exact v_vret (pc := 90) C X d_Mo_order_90 ⟨rfl, Or.inr ⟨fun z => z.elim hb1 hb2, _, _, _, rfl, Nat.le_succ _, by rw [toN_nI (by omega), toN_nI (by omega)]; have := cm_set g1 g2 g3 g4 hy hv hk hn (fun _ => he); rw [if_neg hd] at this; exact this⟩⟩ (by decide) (by decide)
                · omega
              · refine v_iinc (pc := 52) C [(3, .int (nI (k + 1))), (0, .ref h), (1, .int (nI y)), (2, .int (nI v))] 0 (nI (k + 1)) d_Mo_order_52 rfl (nI_inc1 _) (by decide) rfl ?_
                refine v_goto (pc := 55) C 34 d_Mo_order_55 (by decide) ?_
                refine v_lsub [0, 1, 2, 3] [(3, .int (nI (k + 1))), (0, .ref h), (1, .int (nI y)), (2, .int (nI v))] rfl ?_
                exact ih (k + 1) (by omega) (by omega) (fun j hj => by rcases Nat.lt_or_ge j k with c | c; exact hn j c; rw [show j = k by omega]; exact he)
        refine v_lsub [0, 1, 2, 3] [(3, .int (nI 0)), (0, .ref h), (1, .int (nI y)), (2, .int (nI v))] rfl ?_
        exact loop (nc + 1) 0 (by omega) (Nat.zero_le _) (fun j hj => absurd hj (Nat.not_lt_zero _))
      · refine v_aload_n (pc := 24) C 0 d_Mo_order_24 rfl rfl ?_
        refine v_iconst (pc := 25) C (nI 1) d_Mo_order_25 (by decide +kernel) ?_
        refine v_put (pc := 26) (Cn := "WeightOrderModel") (T := T_Mo) (N := 17) (ci := 7) (v := .int (nI 1)) C 2 0 rfl rfl hin_Mo (by decide) rfl ([(pa, aI G 5000 P), (ca, aI G 5000 C9), (h, ob 7 [.int (nI 1), .ref pa, .ref ca, .int (nI nc), .ref la, .ref ro, .ref co, .ref ea, .int (nI nl), .int td, .ref tx, .ref sz, .ref lf, .int (nI lz), .ref fo, .int (nI fz), .ref f1])]) t_Mo t_Mo_ok n_Mo (.int) rfl rfl rfl (Nat.le_of_ble_eq_true rfl) rfl rfl k_462 d_Mo_order_26 ?_
        refine v_goto (pc := 29) C 90 d_Mo_order_29 (by decide) ?_
        refine v_wsub [2, 0, 1] ([(h, ob 7 [.int (nI 1), .ref pa, .ref ca, .int (nI nc), .ref la, .ref ro, .ref co, .ref ea, .int (nI nl), .int td, .ref tx, .ref sz, .ref lf, .int (nI lz), .ref fo, .int (nI fz), .ref f1]), (pa, aI G 5000 P), (ca, aI G 5000 C9)]) rfl rfl ?_
        exact v_vret (pc := 90) C X d_Mo_order_90 ⟨rfl, Or.inl ⟨Or.inr (Or.inr (Int32.not_le.mp h3)), rfl⟩⟩ (by decide) (by decide)
