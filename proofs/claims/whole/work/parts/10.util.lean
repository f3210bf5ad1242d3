/-! small rows of numbers and of worlds with a pool -/
theorem nI_inc1 (a : Nat) : nI a + Int32.ofInt 1 = nI (a + 1) := nI_1 a
theorem rf_nar (r : Option Nat) (C : String) : narrow (.object C) (va_rf r) = va_rf r := by cases r <;> rfl
theorem rf_fit (r : Option Nat) (C : String) : fits (.object C) (va_rf r) = true := by cases r <;> rfl
theorem lgc_ge {x y : Int64} : 0 ≤ lg_cmp x y ↔ ¬ x < y := by
  unfold lg_cmp
  by_cases h1 : y < x
  · have : ¬ x < y := fun h => by rw [Int64.lt_iff_toInt_lt] at h h1; omega
    simp [h1, this]
  · by_cases h2 : x = y
    · subst h2
      have : ¬ x < x := fun h => by rw [Int64.lt_iff_toInt_lt] at h; omega
      simp [this]
    · have : x < y := by
        rw [Int64.lt_iff_toInt_lt]
        rw [Int64.lt_iff_toInt_lt] at h1
        have h3 : x.toInt ≠ y.toInt := fun h => h2 (Int64.toInt_inj.mp h)
        omega
      simp [h1, h2, this]
theorem lgc_eq {x y : Int64} : lg_cmp x y = 0 ↔ x = y := by
  unfold lg_cmp
  by_cases h1 : y < x
  · have : ¬ x = y := fun h => by subst h; rw [Int64.lt_iff_toInt_lt] at h1; omega
    simp [h1, this]
  · by_cases h2 : x = y
    · simp [h2]
    · simp [h1, h2]
theorem lN_inj {a b : Nat} (ha : a < 9223372036854775808) (hb : b < 9223372036854775808) : lN a = lN b ↔ a = b := pk_lEQ ha hb
theorem lN_ltN {a b : Nat} (ha : a < 9223372036854775808) (hb : b < 9223372036854775808) : lN a < lN b ↔ a < b := pk_lLT ha hb
section VP
theorem sp_get {X P : va_W} {i : Nat} {q : Nat × va_E} (h : X[i]? = some q) : (X ++ P)[i]? = some q := by
  rw [List.getElem?_append_left (List.getElem?_eq_some_iff.mp h).1]
  exact h
/-- addresses apart, by members -/
theorem va_D_perm {A : Nat → Prop} {w w' : va_W} (h : w.Perm w') (hD : va_D A w) : va_D A w' := by
  have h1 : w.Pairwise (fun p q => p.1 ≠ q.1) := by
    rw [List.pairwise_iff_getElem]
    intro i j hi hj hij e
    have := hD.1 i j _ _ (List.getElem?_eq_getElem hi) (List.getElem?_eq_getElem hj) e
    omega
  have h2 : w'.Pairwise (fun p q => p.1 ≠ q.1) := (h.pairwise_iff (fun {a b} q => Ne.symm q)).mp h1
  rw [List.pairwise_iff_getElem] at h2
  refine ⟨fun i j p q hp hq hpq => ?_, fun k q hq => ?_⟩
  · obtain ⟨li, ep⟩ := List.getElem?_eq_some_iff.mp hp
    obtain ⟨lj, eq⟩ := List.getElem?_eq_some_iff.mp hq
    rcases Nat.lt_trichotomy i j with c | c | c
    · exact absurd (by rw [ep, eq]; exact hpq) (h2 i j li lj c)
    · exact c
    · exact absurd (by rw [ep, eq]; exact hpq.symm) (h2 j i lj li c)
  · have hm : q ∈ w := h.mem_iff.mpr (List.mem_of_getElem? hq)
    obtain ⟨i, hi⟩ := List.getElem?_of_mem hm
    exact hD.2 i q hi
theorem va_P_perm {D : va_G} {cl : List vw_C} {w w' : va_W} {H : Heap} (h : w.Perm w') (hP : va_P D cl w H) : va_P D cl w' H := by
  intro k q hq
  have hm : q ∈ w := h.mem_iff.mpr (List.mem_of_getElem? hq)
  obtain ⟨i, hi⟩ := List.getElem?_of_mem hm
  exact hP i q hi
theorem sp_perm {w wr wc : va_W} (h : w.Perm (wr ++ wc)) : Sp w wr wc := by
  refine ⟨fun D H hP => ?_, fun A hD => va_D_perm h hD⟩
  have h1 := va_P_perm h hP
  exact ⟨fun k q hq => h1 k q (sp_get hq), fun k q hq => h1 (wr.length + k) q (by rw [List.getElem?_append_right (Nat.le_add_right _ _), Nat.add_sub_cancel_left]; exact hq)⟩
theorem v_perm {K : Kx} {R : Room} {G : Gx} {nL cells slots : Nat} {w : va_W} {pc : Nat} {lv : List (Nat × Value)} {st : List Value} (w' : va_W) (h : w.Perm w') (kk : vv K R G nL cells slots w' pc lv st) : vv K R G nL cells slots w pc lv st := by
  obtain ⟨p, l, e, s, m, args, below, meth, c, Q, A⟩ := K
  intro H locs ls hP hD hS hl
  exact kk H locs ls (va_P_perm h hP) (va_D_perm h hD) hS hl
end VP
