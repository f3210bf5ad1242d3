/-! Table: numbers under keys -/
theorem lgc_geN {a b : Nat} (ha : a < 9223372036854775808) (hb : b < 9223372036854775808) : 0 ≤ lg_cmp (lN a) (lN b) ↔ b ≤ a := by
  rw [lgc_ge, lN_ltN ha hb, Nat.not_lt]
theorem lgc_eqN {a b : Nat} (ha : a < 9223372036854775808) (hb : b < 9223372036854775808) : lg_cmp (lN a) (lN b) = 0 ↔ a = b := by
  rw [lgc_eq, lN_inj ha hb]
/-- the arrays hold the keys kn 0 < kn 1 < .. < kn (n-1) -/
def Srt (ks : Nat → Int64) (n : Nat) (kn : Nat → Nat) : Prop := (∀ i, i < n → ks i = lN (kn i) ∧ kn i < 9223372036854775808) ∧ ∀ i j, i < j → j < n → kn i < kn j
/-- the place of k among them -/
def Plc (kn : Nat → Nat) (n k p : Nat) : Prop := p ≤ n ∧ (∀ i, i < p → kn i < k) ∧ ∀ i, p ≤ i → i < n → k ≤ kn i
/-- what the table says -/
def TB (ks : Nat → Int64) (vs : Nat → Int32) (n : Nat) (F : Nat → Option Int32) : Prop :=
  ∃ kn : Nat → Nat, Srt ks n kn ∧ (∀ i, i < n → F (kn i) = some (vs i)) ∧ ∀ k, (∀ i, i < n → kn i ≠ k) → F k = none
theorem plc_none {kn : Nat → Nat} {n k p : Nat} (h : Plc kn n k p) (hs : ∀ i j, i < j → j < n → kn i < kn j) (hp : ¬ (p < n ∧ kn p = k)) : ∀ i, i < n → kn i ≠ k := by
  intro i hi e
  rcases Nat.lt_or_ge i p with c | c
  · have := h.2.1 i c; omega
  · have h1 := h.2.2 i c hi
    rcases Nat.lt_or_ge p i with c2 | c2
    · have h2 := hs p i c2 hi
      have h3 := h.2.2 p (Nat.le_refl _) (by omega)
      omega
    · have : i = p := by omega
      subst this
      exact hp ⟨hi, e⟩
/-- a new key in its place -/
def insN (kn : Nat → Nat) (p k i : Nat) : Nat := if i < p then kn i else if i = p then k else kn (i - 1)
theorem ins_lt {kn : Nat → Nat} {p k i : Nat} (h : i < p) : insN kn p k i = kn i := if_pos h
theorem ins_eq {kn : Nat → Nat} {p k : Nat} : insN kn p k p = k := by unfold insN; rw [if_neg (Nat.lt_irrefl _), if_pos rfl]
theorem ins_gt {kn : Nat → Nat} {p k i : Nat} (h : p < i) : insN kn p k i = kn (i - 1) := by unfold insN; rw [if_neg (by omega), if_neg (by omega)]
theorem tb_ins {ks : Nat → Int64} {vs : Nat → Int32} {n k p : Nat} {v : Int32} {F : Nat → Option Int32} {kn : Nat → Nat} (hS : Srt ks n kn) (h1 : ∀ i, i < n → F (kn i) = some (vs i)) (h2 : ∀ k, (∀ i, i < n → kn i ≠ k) → F k = none) (hk : k < 9223372036854775808) (hp : Plc kn n k p) (hno : ∀ i, i < n → kn i ≠ k) :
    TB (vp_updL (va_cpy ks ks p (p + 1) (n - p)) p (lN k)) (upd (va_cpy vs vs p (p + 1) (n - p)) p v) (n + 1) (fun j => if j = k then some v else F j) := by
  obtain ⟨hpn, hlo, hhi⟩ := hp
  refine ⟨insN kn p k, ⟨fun i hi => ?_, fun i j hij hj => ?_⟩, fun i hi => ?_, fun j hj => ?_⟩
  · rcases Nat.lt_trichotomy i p with c | c | c
    · rw [ins_lt c, pk_uLn (by omega), pk_cpy_out (Or.inl (by omega))]
      exact hS.1 i (by omega)
    · rw [c, ins_eq, pk_uLs]
      exact ⟨rfl, hk⟩
    · have e : p + (i - (p + 1)) = i - 1 := by omega
      rw [ins_gt c, pk_uLn (by omega), pk_cpy_in (by omega) (by omega), e]
      exact hS.1 (i - 1) (by omega)
  · rcases Nat.lt_trichotomy i p with c | c | c
    · rw [ins_lt c]
      rcases Nat.lt_trichotomy j p with d | d | d
      · rw [ins_lt d]; exact hS.2 i j hij (by omega)
      · rw [d, ins_eq]; exact hlo i c
      · rw [ins_gt d]; exact hS.2 i (j - 1) (by omega) (by omega)
    · rw [c, ins_eq, ins_gt (by omega)]
      have a := hhi (j - 1) (by omega) (by omega)
      have b := hno (j - 1) (by omega)
      omega
    · rw [ins_gt c, ins_gt (by omega)]
      exact hS.2 (i - 1) (j - 1) (by omega) (by omega)
  · show (if insN kn p k i = k then some v else F (insN kn p k i)) = _
    rcases Nat.lt_trichotomy i p with c | c | c
    · rw [ins_lt c, if_neg (hno i (by omega)), pk_un (by omega), pk_cpy_out (Or.inl (by omega))]
      exact h1 i (by omega)
    · rw [c, ins_eq, if_pos rfl, pk_us]
    · have e : p + (i - (p + 1)) = i - 1 := by omega
      rw [ins_gt c, if_neg (hno (i - 1) (by omega)), pk_un (by omega), pk_cpy_in (by omega) (by omega), e]
      exact h1 (i - 1) (by omega)
  · have hjk : j ≠ k := by
      have := hj p (by omega)
      rw [ins_eq] at this
      exact fun e => this e.symm
    show (if j = k then some v else F j) = none
    rw [if_neg hjk]
    refine h2 j (fun i hi => ?_)
    rcases Nat.lt_or_ge i p with c | c
    · have := hj i (by omega)
      rw [ins_lt c] at this
      exact this
    · have := hj (i + 1) (by omega)
      rw [ins_gt (by omega)] at this
      exact this
/-- another number under a key that is there -/
theorem tb_set {ks : Nat → Int64} {vs : Nat → Int32} {n k p : Nat} {v : Int32} {F : Nat → Option Int32} {kn : Nat → Nat} (hS : Srt ks n kn) (h1 : ∀ i, i < n → F (kn i) = some (vs i)) (h2 : ∀ k, (∀ i, i < n → kn i ≠ k) → F k = none) (hp : p < n) (hk : kn p = k) :
    TB ks (upd vs p v) n (fun j => if j = k then some v else F j) := by
  refine ⟨kn, hS, fun i hi => ?_, fun j hj => ?_⟩
  · show (if kn i = k then some v else F (kn i)) = _
    by_cases c : i = p
    · rw [c, if_pos hk, pk_us]
    · have : kn i ≠ k := by
        rcases Nat.lt_trichotomy i p with d | d | d
        · have := hS.2 i p d hp; omega
        · exact absurd d c
        · have := hS.2 p i d hi; omega
      rw [if_neg this, pk_un c]
      exact h1 i hi
  · show (if j = k then some v else F j) = none
    rw [if_neg (fun e => hj p hp (by rw [hk, e]))]
    exact h2 j hj

set_option maxHeartbeats 4000000 in
set_option maxRecDepth 100000 in
theorem c_Ta_placeOf (l : Launch) (G : Gx) (t a b cap : Nat) (ks : Nat → Int64) (vs : Nat → Int32) (n : Nat) (kn : Nat → Nat) (k : Nat) (hcap : cap ≤ 512) (hn : n ≤ cap) (hS : Srt ks n kn) (hk : k < 9223372036854775808) : CT l G y_Ta_placeOf b_Ta_placeOf 6 (some .int) ({ frames := 0, cells := 0, slots := 0, locals := 0 } : Room) ([(t, ob 0 [.ref a, .ref b, .int (nI n)]), (a, aJ G cap ks), (b, aI G cap vs)]) [.ref t, .long (lN k)] (fun r w' => w' = [(t, ob 0 [.ref a, .ref b, .int (nI n)]), (a, aJ G cap ks), (b, aI G cap vs)] ∧ ∃ p, r = some (.int (nI p)) ∧ Plc kn n k p) := by
  refine ct_of [(0, .ref t), (1, .long (lN k))] (by decide) (Nat.le_of_ble_eq_true rfl) rfl (fun K hKl hNI C X => ?_)
  subst hKl
  refine v_iconst (pc := 0) C (nI 0) d_Ta_placeOf_0 (by decide +kernel) ?_
  refine v_istore_n (pc := 1) C [(3, .int (nI 0)), (0, .ref t), (1, .long (lN k))] d_Ta_placeOf_1 rfl (by decide) rfl ?_
  refine v_aload_n (pc := 2) C 1 d_Ta_placeOf_2 rfl rfl ?_
  refine v_get (pc := 3) (Cn := "WeightOrder$Table") (T := T_Ta) (N := 3) (ci := 0) (v := .int (nI n)) C 0 2 rfl rfl hin_Ta (by decide) rfl k_33 rfl d_Ta_placeOf_3 ?_
  refine v_istore (pc := 6) C [(4, .int (nI n)), (3, .int (nI 0)), (0, .ref t), (1, .long (lN k))] d_Ta_placeOf_6 (by decide) rfl ?_
  have loop : ∀ (d : Nat) (lo : Nat) (hi : Nat), hi - lo < d → (lo ≤ hi) → (hi ≤ n) → (∀ i, i < lo → kn i < k) → (∀ i, hi ≤ i → i < n → k ≤ kn i) → vv K ({ frames := 0, cells := 0, slots := 0, locals := 0 } : Room) G 6 0 0 ([(t, ob 0 [.ref a, .ref b, .int (nI n)]), (a, aJ G cap ks), (b, aI G cap vs)]) 8 [(4, .int (nI hi)), (3, .int (nI lo)), (0, .ref t), (1, .long (lN k))] [] := by
    intro d
    induction d with
    | zero => intro lo hi hm; exact absurd hm (Nat.not_lt_zero _)
    | succ d ih =>
      intro lo hi hm h1 h2 h3 h4
      refine v_iload_n (pc := 8) C 1 d_Ta_placeOf_8 rfl rfl ?_
      refine v_iload (pc := 9) C 0 d_Ta_placeOf_9 rfl ?_
      refine v_icmpN_ge (pc := 11) C 49 lo hi d_Ta_placeOf_11 (by decide) (by omega) (by omega) (fun hc => ?_) (fun hc => ?_)
      · refine v_iload_n (pc := 49) C 1 d_Ta_placeOf_49 rfl rfl ?_
        exact v_iret (pc := 50) C X d_Ta_placeOf_50 ⟨rfl, lo, rfl, by omega, h3, fun i a b => h4 i (by omega) b⟩ (by decide) (by decide)
      · refine v_iload_n (pc := 14) C 1 d_Ta_placeOf_14 rfl rfl ?_
        refine v_iload (pc := 15) C 0 d_Ta_placeOf_15 rfl ?_
        refine v_iadd (pc := 17) C (nI (lo + hi)) d_Ta_placeOf_17 (nI_add _ _) ?_
        refine v_iconst (pc := 18) C (nI 1) d_Ta_placeOf_18 (by decide +kernel) ?_
        refine v_iushr (pc := 19) C (nI ((lo + hi) / 2)) d_Ta_placeOf_19 (pk_ushrN (by omega) (nI 1) 1 (by decide)) ?_
        have hm1 : lo ≤ (lo + hi) / 2 := by omega
        have hm2 : (lo + hi) / 2 < hi := by omega
        generalize (lo + hi) / 2 = mid at hm1 hm2 ⊢
        refine v_istore (pc := 20) C [(5, .int (nI mid)), (4, .int (nI hi)), (3, .int (nI lo)), (0, .ref t), (1, .long (lN k))] d_Ta_placeOf_20 (by decide) rfl ?_
        refine v_aload_n (pc := 22) C 3 d_Ta_placeOf_22 rfl rfl ?_
        refine v_get (pc := 23) (Cn := "WeightOrder$Table") (T := T_Ta) (N := 3) (ci := 0) (v := .ref a) C 0 0 rfl rfl hin_Ta (by decide) rfl k_31 rfl d_Ta_placeOf_23 ?_
        refine v_iload (pc := 26) C 0 d_Ta_placeOf_26 rfl ?_
        refine v_lald (pc := 28) C 1 rfl mid rfl (by omega) (by omega) d_Ta_placeOf_28 ?_
        refine v_setl (lN (kn mid)) (hS.1 mid (by omega)).1 ?_
        refine v_lload_n (pc := 29) C 4 d_Ta_placeOf_29 rfl rfl ?_
        refine v_lcmp (pc := 30) C d_Ta_placeOf_30 ?_
        have hkm := (hS.1 mid (by omega)).2
        refine v_if_ge (pc := 31) C 42 d_Ta_placeOf_31 (by decide) (fun hl => ?_) (fun hl => ?_)
        · refine v_iload (pc := 42) C 0 d_Ta_placeOf_42 rfl ?_
          refine v_istore (pc := 44) C [(4, .int (nI mid)), (5, .int (nI mid)), (3, .int (nI lo)), (0, .ref t), (1, .long (lN k))] d_Ta_placeOf_44 (by decide) rfl ?_
          refine v_goto (pc := 46) C 8 d_Ta_placeOf_46 (by decide) ?_
          refine v_lsub [0, 2, 3, 4] [(4, .int (nI mid)), (3, .int (nI lo)), (0, .ref t), (1, .long (lN k))] rfl ?_
          exact ih lo mid (by omega) (by omega) (by omega) h3 (fun i a b => by
            have hl := (lgc_geN hkm hk).mp hl
            rcases Nat.lt_or_ge mid i with c | c
            · have := hS.2 mid i c b; omega
            · have e : i = mid := by omega
              rw [e]; exact hl)
        · refine v_iload (pc := 34) C 0 d_Ta_placeOf_34 rfl ?_
          refine v_iconst (pc := 36) C (nI 1) d_Ta_placeOf_36 (by decide +kernel) ?_
          refine v_iadd (pc := 37) C (nI (mid + 1)) d_Ta_placeOf_37 (nI_add _ _) ?_
          refine v_istore_n (pc := 38) C [(3, .int (nI (mid + 1))), (5, .int (nI mid)), (4, .int (nI hi)), (0, .ref t), (1, .long (lN k))] d_Ta_placeOf_38 rfl (by decide) rfl ?_
          refine v_goto (pc := 39) C 46 d_Ta_placeOf_39 (by decide) ?_
          refine v_goto (pc := 46) C 8 d_Ta_placeOf_46 (by decide) ?_
          refine v_lsub [2, 0, 3, 4] [(4, .int (nI hi)), (3, .int (nI (mid + 1))), (0, .ref t), (1, .long (lN k))] rfl ?_
          exact ih (mid + 1) hi (by omega) (by omega) (by omega) (fun i a => by
            have hl : ¬ k ≤ kn mid := fun z => hl ((lgc_geN hkm hk).mpr z)
            rcases Nat.lt_or_ge i mid with c | c
            · have := hS.2 i mid c (by omega); omega
            · have e : i = mid := by omega
              rw [e]; omega) h4
  refine v_lsub [0, 1, 2, 3] [(4, .int (nI n)), (3, .int (nI 0)), (0, .ref t), (1, .long (lN k))] rfl ?_
  exact loop (n + 1) 0 n (by omega) (by omega) (Nat.le_refl _) (fun i a => absurd a (Nat.not_lt_zero _)) (fun i a b => absurd b (by omega))

set_option maxHeartbeats 4000000 in
set_option maxRecDepth 100000 in
theorem c_Ta_valueOf (l : Launch) (G : Gx) (t a b cap : Nat) (ks : Nat → Int64) (vs : Nat → Int32) (n : Nat) (F : Nat → Option Int32) (k : Nat) (o : Int32) (hcap : cap ≤ 512) (hn : n ≤ cap) (hT : TB ks vs n F) (hk : k < 9223372036854775808) : CT l G y_Ta_valueOf b_Ta_valueOf 5 (some .int) ({ frames := 1, cells := 0, slots := 0, locals := 25 } : Room) ([(t, ob 0 [.ref a, .ref b, .int (nI n)]), (a, aJ G cap ks), (b, aI G cap vs)]) [.ref t, .long (lN k), .int o] (fun r w' => w' = [(t, ob 0 [.ref a, .ref b, .int (nI n)]), (a, aJ G cap ks), (b, aI G cap vs)] ∧ r = some (.int ((F k).getD o))) := by
  refine ct_of [(0, .ref t), (1, .long (lN k)), (3, .int o)] (by decide) (Nat.le_of_ble_eq_true rfl) rfl (fun K hKl hNI C X => ?_)
  subst hKl
  obtain ⟨kn, hS, hF1, hF2⟩ := hT
  refine v_aload_n (pc := 0) C 0 d_Ta_valueOf_0 rfl rfl ?_
  refine v_lload_n (pc := 1) C 1 d_Ta_valueOf_1 rfl rfl ?_
  refine v_callV (pc := 2) (As := [.long (lN k)]) (rest := []) C (c_Ta_placeOf _ G t a b cap ks vs n kn k hcap hn hS hk) l_Ta_17 ([]) (sp_pos [] [0, 1, 2] rfl rfl rfl) 0 rfl rfl rfl rfl rfl (Nat.le_of_ble_eq_true rfl) (by decide) (by decide) (by decide) (by decide) d_Ta_valueOf_2 (fun r w' hq => ?_)
  obtain ⟨rfl, p, rfl, hp⟩ := hq
  show vv K ({ frames := 1, cells := 0, slots := 0, locals := 25 } : Room) G 5 0 0 ([(t, ob 0 [.ref a, .ref b, .int (nI n)]), (a, aJ G cap ks), (b, aI G cap vs)]) 5 [(0, .ref t), (1, .long (lN k)), (3, .int o)] [.int (nI p)]
  have hpn := hp.1
  refine v_istore (pc := 5) C [(4, .int (nI p)), (0, .ref t), (1, .long (lN k)), (3, .int o)] d_Ta_valueOf_5 (by decide) rfl ?_
  refine v_iload (pc := 7) C 0 d_Ta_valueOf_7 rfl ?_
  refine v_aload_n (pc := 9) C 1 d_Ta_valueOf_9 rfl rfl ?_
  refine v_get (pc := 10) (Cn := "WeightOrder$Table") (T := T_Ta) (N := 3) (ci := 0) (v := .int (nI n)) C 0 2 rfl rfl hin_Ta (by decide) rfl k_33 rfl d_Ta_valueOf_10 ?_
  refine v_icmpN_ge (pc := 13) C 38 p n d_Ta_valueOf_13 (by decide) (by omega) (by omega) (fun hc => ?_) (fun hc => ?_)
  · refine v_iload_n (pc := 38) C 3 d_Ta_valueOf_38 rfl rfl ?_
    exact v_iret (pc := 39) C X d_Ta_valueOf_39 ⟨rfl, by rw [hF2 k (plc_none hp hS.2 (fun z => by omega))]; rfl⟩ (by decide) (by decide)
  · refine v_aload_n (pc := 16) C 1 d_Ta_valueOf_16 rfl rfl ?_
    refine v_get (pc := 17) (Cn := "WeightOrder$Table") (T := T_Ta) (N := 3) (ci := 0) (v := .ref a) C 0 0 rfl rfl hin_Ta (by decide) rfl k_31 rfl d_Ta_valueOf_17 ?_
    refine v_iload (pc := 20) C 0 d_Ta_valueOf_20 rfl ?_
    refine v_lald (pc := 22) C 1 rfl p rfl (by omega) (by omega) d_Ta_valueOf_22 ?_
    refine v_setl (lN (kn p)) (hS.1 p hc).1 ?_
    refine v_lload_n (pc := 23) C 2 d_Ta_valueOf_23 rfl rfl ?_
    refine v_lcmp (pc := 24) C d_Ta_valueOf_24 ?_
    have hkp := (hS.1 p hc).2
    refine v_if_ne (pc := 25) C 38 d_Ta_valueOf_25 (by decide) (fun he => ?_) (fun he => ?_)
    · refine v_iload_n (pc := 38) C 3 d_Ta_valueOf_38 rfl rfl ?_
      exact v_iret (pc := 39) C X d_Ta_valueOf_39 ⟨rfl, by rw [hF2 k (plc_none hp hS.2 (fun z => he ((lgc_eqN hkp hk).mpr z.2)))]; rfl⟩ (by decide) (by decide)
    · refine v_aload_n (pc := 28) C 1 d_Ta_valueOf_28 rfl rfl ?_
      refine v_get (pc := 29) (Cn := "WeightOrder$Table") (T := T_Ta) (N := 3) (ci := 0) (v := .ref b) C 0 1 rfl rfl hin_Ta (by decide) rfl k_32 rfl d_Ta_valueOf_29 ?_
      refine v_iload (pc := 32) C 0 d_Ta_valueOf_32 rfl ?_
      refine v_iald (pc := 34) C 2 rfl p rfl (by omega) (by omega) d_Ta_valueOf_34 ?_
      refine v_goto (pc := 35) C 39 d_Ta_valueOf_35 (by decide) ?_
      exact v_iret (pc := 39) C X d_Ta_valueOf_39 ⟨rfl, by rw [← (lgc_eqN hkp hk).mp he, hF1 p hc]; rfl⟩ (by decide) (by decide)

set_option maxHeartbeats 4000000 in
set_option maxRecDepth 100000 in
theorem c_Ta_insert (l : Launch) (G : Gx) (t a b cap : Nat) (ks : Nat → Int64) (vs : Nat → Int32) (n : Nat) (p k : Nat) (v : Int32) (hcap : cap ≤ 512) (hn : n < cap) (hp : p ≤ n) : CT l G y_Ta_insert b_Ta_insert 5 none ({ frames := 1, cells := 0, slots := 0, locals := 60 } : Room) ([(t, ob 0 [.ref a, .ref b, .int (nI n)]), (a, aJ G cap ks), (b, aI G cap vs)]) [.ref t, .int (nI p), .long (lN k), .int v] (fun r w' => w' = [(t, ob 0 [.ref a, .ref b, .int (nI (n + 1))]), (a, aJ G cap (vp_updL (va_cpy ks ks p (p + 1) (n - p)) p (lN k))), (b, aI G cap (upd (va_cpy vs vs p (p + 1) (n - p)) p v))] ∧ r = none) := by
  refine ct_of [(0, .ref t), (1, .int (nI p)), (2, .long (lN k)), (4, .int v)] (by decide) (Nat.le_of_ble_eq_true rfl) rfl (fun K hKl hNI C X => ?_)
  subst hKl
  refine v_aload_n (pc := 0) C 0 d_Ta_insert_0 rfl rfl ?_
  refine v_get (pc := 1) (Cn := "WeightOrder$Table") (T := T_Ta) (N := 3) (ci := 0) (v := .ref a) C 0 0 rfl rfl hin_Ta (by decide) rfl k_31 rfl d_Ta_insert_1 ?_
  refine v_iload_n (pc := 4) C 1 d_Ta_insert_4 rfl rfl ?_
  refine v_aload_n (pc := 5) C 0 d_Ta_insert_5 rfl rfl ?_
  refine v_get (pc := 6) (Cn := "WeightOrder$Table") (T := T_Ta) (N := 3) (ci := 0) (v := .ref a) C 0 0 rfl rfl hin_Ta (by decide) rfl k_31 rfl d_Ta_insert_6 ?_
  refine v_iload_n (pc := 9) C 1 d_Ta_insert_9 rfl rfl ?_
  refine v_iconst (pc := 10) C (nI 1) d_Ta_insert_10 (by decide +kernel) ?_
  refine v_iadd (pc := 11) C (nI (p + 1)) d_Ta_insert_11 (nI_add _ _) ?_
  refine v_aload_n (pc := 12) C 0 d_Ta_insert_12 rfl rfl ?_
  refine v_get (pc := 13) (Cn := "WeightOrder$Table") (T := T_Ta) (N := 3) (ci := 0) (v := .int (nI n)) C 0 2 rfl rfl hin_Ta (by decide) rfl k_33 rfl d_Ta_insert_13 ?_
  refine v_iload_n (pc := 16) C 1 d_Ta_insert_16 rfl rfl ?_
  refine v_isub (pc := 17) C (nI (n - p)) d_Ta_insert_17 (pk_sub (by omega)) ?_
  refine v_copyJ (pc := 18) C 1 1 ([(t, ob 0 [.ref a, .ref b, .int (nI n)]), (a, aJ G cap (va_cpy ks ks p (p + 1) (n - p))), (b, aI G cap vs)]) rfl rfl p (p + 1) (n - p) (by omega) (by omega) (by omega) (by omega) k_245 rfl (by decide) (by decide) d_Ta_insert_18 ?_
  refine v_aload_n (pc := 21) C 0 d_Ta_insert_21 rfl rfl ?_
  refine v_get (pc := 22) (Cn := "WeightOrder$Table") (T := T_Ta) (N := 3) (ci := 0) (v := .ref b) C 0 1 rfl rfl hin_Ta (by decide) rfl k_32 rfl d_Ta_insert_22 ?_
  refine v_iload_n (pc := 25) C 1 d_Ta_insert_25 rfl rfl ?_
  refine v_aload_n (pc := 26) C 0 d_Ta_insert_26 rfl rfl ?_
  refine v_get (pc := 27) (Cn := "WeightOrder$Table") (T := T_Ta) (N := 3) (ci := 0) (v := .ref b) C 0 1 rfl rfl hin_Ta (by decide) rfl k_32 rfl d_Ta_insert_27 ?_
  refine v_iload_n (pc := 30) C 1 d_Ta_insert_30 rfl rfl ?_
  refine v_iconst (pc := 31) C (nI 1) d_Ta_insert_31 (by decide +kernel) ?_
  refine v_iadd (pc := 32) C (nI (p + 1)) d_Ta_insert_32 (nI_add _ _) ?_
  refine v_aload_n (pc := 33) C 0 d_Ta_insert_33 rfl rfl ?_
  refine v_get (pc := 34) (Cn := "WeightOrder$Table") (T := T_Ta) (N := 3) (ci := 0) (v := .int (nI n)) C 0 2 rfl rfl hin_Ta (by decide) rfl k_33 rfl d_Ta_insert_34 ?_
  refine v_iload_n (pc := 37) C 1 d_Ta_insert_37 rfl rfl ?_
  refine v_isub (pc := 38) C (nI (n - p)) d_Ta_insert_38 (pk_sub (by omega)) ?_
  refine v_copyI (pc := 39) C 2 2 ([(t, ob 0 [.ref a, .ref b, .int (nI n)]), (a, aJ G cap (va_cpy ks ks p (p + 1) (n - p))), (b, aI G cap (va_cpy vs vs p (p + 1) (n - p)))]) rfl rfl p (p + 1) (n - p) (by omega) (by omega) (by omega) (by omega) k_245 rfl (by decide) (by decide) d_Ta_insert_39 ?_
  refine v_aload_n (pc := 42) C 0 d_Ta_insert_42 rfl rfl ?_
  refine v_get (pc := 43) (Cn := "WeightOrder$Table") (T := T_Ta) (N := 3) (ci := 0) (v := .ref a) C 0 0 rfl rfl hin_Ta (by decide) rfl k_31 rfl d_Ta_insert_43 ?_
  refine v_iload_n (pc := 46) C 1 d_Ta_insert_46 rfl rfl ?_
  refine v_lload_n (pc := 47) C 2 d_Ta_insert_47 rfl rfl ?_
  refine v_last (pc := 48) C 1 ([(t, ob 0 [.ref a, .ref b, .int (nI n)]), (a, aJ G cap (vp_updL (va_cpy ks ks p (p + 1) (n - p)) p (lN k))), (b, aI G cap (va_cpy vs vs p (p + 1) (n - p)))]) rfl p rfl (by omega) (by omega) rfl d_Ta_insert_48 ?_
  refine v_aload_n (pc := 49) C 0 d_Ta_insert_49 rfl rfl ?_
  refine v_get (pc := 50) (Cn := "WeightOrder$Table") (T := T_Ta) (N := 3) (ci := 0) (v := .ref b) C 0 1 rfl rfl hin_Ta (by decide) rfl k_32 rfl d_Ta_insert_50 ?_
  refine v_iload_n (pc := 53) C 1 d_Ta_insert_53 rfl rfl ?_
  refine v_iload (pc := 54) C 3 d_Ta_insert_54 rfl ?_
  refine v_iast (pc := 56) C 2 ([(t, ob 0 [.ref a, .ref b, .int (nI n)]), (a, aJ G cap (vp_updL (va_cpy ks ks p (p + 1) (n - p)) p (lN k))), (b, aI G cap (upd (va_cpy vs vs p (p + 1) (n - p)) p v))]) rfl p rfl (by omega) (by omega) rfl d_Ta_insert_56 ?_
  refine v_aload_n (pc := 57) C 0 d_Ta_insert_57 rfl rfl ?_
  refine v_dup (pc := 58) C d_Ta_insert_58 rfl ?_
  refine v_get (pc := 59) (Cn := "WeightOrder$Table") (T := T_Ta) (N := 3) (ci := 0) (v := .int (nI n)) C 0 2 rfl rfl hin_Ta (by decide) rfl k_33 rfl d_Ta_insert_59 ?_
  refine v_iconst (pc := 62) C (nI 1) d_Ta_insert_62 (by decide +kernel) ?_
  refine v_iadd (pc := 63) C (nI (n + 1)) d_Ta_insert_63 (nI_add _ _) ?_
  refine v_put (pc := 64) (Cn := "WeightOrder$Table") (T := T_Ta) (N := 3) (ci := 0) (v := .int (nI (n + 1))) C 0 2 rfl rfl hin_Ta (by decide) rfl ([(t, ob 0 [.ref a, .ref b, .int (nI (n + 1))]), (a, aJ G cap (vp_updL (va_cpy ks ks p (p + 1) (n - p)) p (lN k))), (b, aI G cap (upd (va_cpy vs vs p (p + 1) (n - p)) p v))]) t_Ta t_Ta_ok n_Ta (.int) rfl rfl rfl (Nat.le_of_ble_eq_true rfl) rfl rfl k_33 d_Ta_insert_64 ?_
  exact v_vret (pc := 67) C X d_Ta_insert_67 ⟨rfl, rfl⟩ (by decide) (by decide)

set_option maxHeartbeats 4000000 in
set_option maxRecDepth 100000 in
theorem c_Ta_put (l : Launch) (G : Gx) (t a b cap : Nat) (ks : Nat → Int64) (vs : Nat → Int32) (n : Nat) (F : Nat → Option Int32) (k : Nat) (v : Int32) (hcap : cap ≤ 512) (hn : n ≤ cap) (hT : TB ks vs n F) (hk : k < 9223372036854775808) (hroom : F k = none → n < cap) : CT l G y_Ta_put b_Ta_put 5 none ({ frames := 2, cells := 0, slots := 0, locals := 85 } : Room) ([(t, ob 0 [.ref a, .ref b, .int (nI n)]), (a, aJ G cap ks), (b, aI G cap vs)]) [.ref t, .long (lN k), .int v] (fun r w' => r = none ∧ ∃ ks' vs' n', w' = [(t, ob 0 [.ref a, .ref b, .int (nI n')]), (a, aJ G cap ks'), (b, aI G cap vs')] ∧ TB ks' vs' n' (fun j => if j = k then some v else F j) ∧ n' = (if F k = none then n + 1 else n)) := by
  refine ct_of [(0, .ref t), (1, .long (lN k)), (3, .int v)] (by decide) (Nat.le_of_ble_eq_true rfl) rfl (fun K hKl hNI C X => ?_)
  subst hKl
  obtain ⟨kn, hS, hF1, hF2⟩ := hT
  refine v_aload_n (pc := 0) C 0 d_Ta_put_0 rfl rfl ?_
  refine v_lload_n (pc := 1) C 1 d_Ta_put_1 rfl rfl ?_
  refine v_callV (pc := 2) (As := [.long (lN k)]) (rest := []) C (c_Ta_placeOf _ G t a b cap ks vs n kn k hcap hn hS hk) l_Ta_17 ([]) (sp_pos [] [0, 1, 2] rfl rfl rfl) 0 rfl rfl rfl rfl rfl (Nat.le_of_ble_eq_true rfl) (by decide) (by decide) (by decide) (by decide) d_Ta_put_2 (fun r w' hq => ?_)
  obtain ⟨rfl, p, rfl, hp⟩ := hq
  show vv K ({ frames := 2, cells := 0, slots := 0, locals := 85 } : Room) G 5 0 0 ([(t, ob 0 [.ref a, .ref b, .int (nI n)]), (a, aJ G cap ks), (b, aI G cap vs)]) 5 [(0, .ref t), (1, .long (lN k)), (3, .int v)] [.int (nI p)]
  have hpn := hp.1
  refine v_istore (pc := 5) C [(4, .int (nI p)), (0, .ref t), (1, .long (lN k)), (3, .int v)] d_Ta_put_5 (by decide) rfl ?_
  refine v_iload (pc := 7) C 0 d_Ta_put_7 rfl ?_
  refine v_aload_n (pc := 9) C 1 d_Ta_put_9 rfl rfl ?_
  refine v_get (pc := 10) (Cn := "WeightOrder$Table") (T := T_Ta) (N := 3) (ci := 0) (v := .int (nI n)) C 0 2 rfl rfl hin_Ta (by decide) rfl k_33 rfl d_Ta_put_10 ?_
  refine v_icmpN_ge (pc := 13) C 39 p n d_Ta_put_13 (by decide) (by omega) (by omega) (fun hc => ?_) (fun hc => ?_)
  · have hno : ∀ i, i < n → kn i ≠ k := plc_none hp hS.2 (fun z => by omega)
    have hFk := hF2 k hno
    have hnc := hroom hFk
    refine v_aload_n (pc := 39) C 1 d_Ta_put_39 rfl rfl ?_
    refine v_get (pc := 40) (Cn := "WeightOrder$Table") (T := T_Ta) (N := 3) (ci := 0) (v := .int (nI n)) C 0 2 rfl rfl hin_Ta (by decide) rfl k_33 rfl d_Ta_put_40 ?_
    refine v_aload_n (pc := 43) C 1 d_Ta_put_43 rfl rfl ?_
    refine v_get (pc := 44) (Cn := "WeightOrder$Table") (T := T_Ta) (N := 3) (ci := 0) (v := .ref a) C 0 0 rfl rfl hin_Ta (by decide) rfl k_31 rfl d_Ta_put_44 ?_
    refine v_alenJ (pc := 47) C 1 rfl d_Ta_put_47 ?_
    refine v_icmpN_ge (pc := 48) C 59 n cap d_Ta_put_48 (by decide) (by omega) (by omega) (fun hx => ?_) (fun hx => ?_)
    · omega
    · refine v_aload_n (pc := 51) C 1 d_Ta_put_51 rfl rfl ?_
      refine v_iload (pc := 52) C 0 d_Ta_put_52 rfl ?_
      refine v_lload_n (pc := 54) C 2 d_Ta_put_54 rfl rfl ?_
      refine v_iload_n (pc := 55) C 3 d_Ta_put_55 rfl rfl ?_
      refine v_callV (pc := 56) (As := [.int (nI p), .long (lN k), .int v]) (rest := []) C (c_Ta_insert _ G t a b cap ks vs n p k v hcap hnc hpn) l_Ta_25 ([]) (sp_pos [] [0, 1, 2] rfl rfl rfl) 0 rfl rfl rfl rfl rfl (Nat.le_of_ble_eq_true rfl) (by decide) (by decide) (by decide) (by decide) d_Ta_put_56 (fun r w' hq => ?_)
      obtain ⟨rfl, rfl⟩ := hq
      show vv K ({ frames := 2, cells := 0, slots := 0, locals := 85 } : Room) G 5 0 0 ([(t, ob 0 [.ref a, .ref b, .int (nI (n + 1))]), (a, aJ G cap (vp_updL (va_cpy ks ks p (p + 1) (n - p)) p (lN k))), (b, aI G cap (upd (va_cpy vs vs p (p + 1) (n - p)) p v))]) 59 [(4, .int (nI p)), (0, .ref t), (1, .long (lN k)), (3, .int v)] []
      exact v_vret (pc := 59) C X d_Ta_put_59 ⟨rfl, _, _, _, rfl, tb_ins hS hF1 hF2 hk hp hno, by rw [if_pos hFk]⟩ (by decide) (by decide)
  · refine v_aload_n (pc := 16) C 1 d_Ta_put_16 rfl rfl ?_
    refine v_get (pc := 17) (Cn := "WeightOrder$Table") (T := T_Ta) (N := 3) (ci := 0) (v := .ref a) C 0 0 rfl rfl hin_Ta (by decide) rfl k_31 rfl d_Ta_put_17 ?_
    refine v_iload (pc := 20) C 0 d_Ta_put_20 rfl ?_
    refine v_lald (pc := 22) C 1 rfl p rfl (by omega) (by omega) d_Ta_put_22 ?_
    refine v_setl (lN (kn p)) (hS.1 p hc).1 ?_
    refine v_lload_n (pc := 23) C 2 d_Ta_put_23 rfl rfl ?_
    refine v_lcmp (pc := 24) C d_Ta_put_24 ?_
    have hkp := (hS.1 p hc).2
    refine v_if_ne (pc := 25) C 39 d_Ta_put_25 (by decide) (fun he => ?_) (fun he => ?_)
    · have hno : ∀ i, i < n → kn i ≠ k := plc_none hp hS.2 (fun z => he ((lgc_eqN hkp hk).mpr z.2))
      have hFk := hF2 k hno
      have hnc := hroom hFk
      refine v_aload_n (pc := 39) C 1 d_Ta_put_39 rfl rfl ?_
      refine v_get (pc := 40) (Cn := "WeightOrder$Table") (T := T_Ta) (N := 3) (ci := 0) (v := .int (nI n)) C 0 2 rfl rfl hin_Ta (by decide) rfl k_33 rfl d_Ta_put_40 ?_
      refine v_aload_n (pc := 43) C 1 d_Ta_put_43 rfl rfl ?_
      refine v_get (pc := 44) (Cn := "WeightOrder$Table") (T := T_Ta) (N := 3) (ci := 0) (v := .ref a) C 0 0 rfl rfl hin_Ta (by decide) rfl k_31 rfl d_Ta_put_44 ?_
      refine v_alenJ (pc := 47) C 1 rfl d_Ta_put_47 ?_
      refine v_icmpN_ge (pc := 48) C 59 n cap d_Ta_put_48 (by decide) (by omega) (by omega) (fun hx => ?_) (fun hx => ?_)
      · omega
      · refine v_aload_n (pc := 51) C 1 d_Ta_put_51 rfl rfl ?_
        refine v_iload (pc := 52) C 0 d_Ta_put_52 rfl ?_
        refine v_lload_n (pc := 54) C 2 d_Ta_put_54 rfl rfl ?_
        refine v_iload_n (pc := 55) C 3 d_Ta_put_55 rfl rfl ?_
        refine v_callV (pc := 56) (As := [.int (nI p), .long (lN k), .int v]) (rest := []) C (c_Ta_insert _ G t a b cap ks vs n p k v hcap hnc hpn) l_Ta_25 ([]) (sp_pos [] [0, 1, 2] rfl rfl rfl) 0 rfl rfl rfl rfl rfl (Nat.le_of_ble_eq_true rfl) (by decide) (by decide) (by decide) (by decide) d_Ta_put_56 (fun r w' hq => ?_)
        obtain ⟨rfl, rfl⟩ := hq
        show vv K ({ frames := 2, cells := 0, slots := 0, locals := 85 } : Room) G 5 0 0 ([(t, ob 0 [.ref a, .ref b, .int (nI (n + 1))]), (a, aJ G cap (vp_updL (va_cpy ks ks p (p + 1) (n - p)) p (lN k))), (b, aI G cap (upd (va_cpy vs vs p (p + 1) (n - p)) p v))]) 59 [(4, .int (nI p)), (0, .ref t), (1, .long (lN k)), (3, .int v)] []
        exact v_vret (pc := 59) C X d_Ta_put_59 ⟨rfl, _, _, _, rfl, tb_ins hS hF1 hF2 hk hp hno, by rw [if_pos hFk]⟩ (by decide) (by decide)
    · have he := (lgc_eqN hkp hk).mp he
      refine v_aload_n (pc := 28) C 1 d_Ta_put_28 rfl rfl ?_
      refine v_get (pc := 29) (Cn := "WeightOrder$Table") (T := T_Ta) (N := 3) (ci := 0) (v := .ref b) C 0 1 rfl rfl hin_Ta (by decide) rfl k_32 rfl d_Ta_put_29 ?_
      refine v_iload (pc := 32) C 0 d_Ta_put_32 rfl ?_
      refine v_iload_n (pc := 34) C 3 d_Ta_put_34 rfl rfl ?_
      refine v_iast (pc := 35) C 2 ([(t, ob 0 [.ref a, .ref b, .int (nI n)]), (a, aJ G cap ks), (b, aI G cap (upd vs p v))]) rfl p rfl (by omega) (by omega) rfl d_Ta_put_35 ?_
      refine v_goto (pc := 36) C 59 d_Ta_put_36 (by decide) ?_
      exact v_vret (pc := 59) C X d_Ta_put_59 ⟨rfl, _, _, _, rfl, tb_set hS hF1 hF2 hc he, by rw [← he, hF1 p hc]; rfl⟩ (by decide) (by decide)
