/-! The reference: take -/
theorem keyP_1 {rem : List Nat} {a b c : Nat} (h : rem[0]? = some a) : keyP rem 1 = keyN 1 a b c := by
  rw [keyP_succ h, keyP_0]; rfl
theorem keyP_2 {rem : List Nat} {a b c : Nat} (h : rem[0]? = some a) (h2 : rem[1]? = some b) : keyP rem 2 = keyN 2 a b c := by
  rw [keyP_succ h2, keyP_succ h, keyP_0]; rfl
theorem keyP_3 {rem : List Nat} {a b c : Nat} (h : rem[0]? = some a) (h2 : rem[1]? = some b) (h3 : rem[2]? = some c) : keyP rem 3 = keyN 3 a b c := by
  rw [keyP_succ h3, keyP_succ h2, keyP_succ h, keyP_0]; rfl
theorem beh_3 (fi : Nat → Option Nat) (cl : Nat → Nat) (k i most : Nat) (P xs : List Nat) : beh fi cl k 3 i most P xs = (i, P ++ xs) := by
  cases xs with
  | nil => rw [List.append_nil]; rfl
  | cons x xs => unfold beh; rw [if_pos (Or.inr (Nat.le_refl _))]
theorem beh_go9 {fi : Nat → Option Nat} {cl : Nat → Nat} {k n i most x : Nat} {P xs : List Nat} (hn : n ≤ 3) (hx : ¬ cl x = 0) (h : (if most < cl x ∧ n < 3 then fi (kx k x) else none) = none) : beh fi cl k n i most P (x :: xs) = beh fi cl k n i (max most (cl x)) (P ++ [x]) xs := by
  rcases (show n = 3 ∨ n < 3 by omega) with rfl | c
  · rw [beh_3, beh_3, List.append_assoc]; rfl
  · rw [beh, if_neg (by omega)]
    have e : (if most < cl x then fi (kx k x) else none) = none := by
      rw [← h]
      by_cases d : most < cl x
      · rw [if_pos d, if_pos ⟨d, c⟩]
      · rw [if_neg d, if_neg (fun z => d z.1)]
    rw [e]
theorem beh_hit {fi : Nat → Option Nat} {cl : Nat → Nat} {k n i j most x : Nat} {P xs : List Nat} (hx : ¬ cl x = 0) (h : (if most < cl x ∧ n < 3 then fi (kx k x) else none) = some j) : n < 3 ∧ most < cl x ∧ fi (kx k x) = some j ∧ beh fi cl k n i most P (x :: xs) = beh fi cl (kx k x) (n + 1) j most P xs := by
  by_cases d : most < cl x ∧ n < 3
  · rw [if_pos d] at h
    refine ⟨d.2, d.1, h, ?_⟩
    rw [beh, if_neg (by omega), if_pos d.1, h]
  · rw [if_neg d] at h; cases h
theorem shF_take {sh : Nat} {ES : List E4} {k : Nat} {e : E4} (he : ES[k]? = some e) : shF sh 0 (ES.take (k + 1)) = (shE sh (shF sh 0 (ES.take k)) e).1 := by
  rw [List.take_add_one, he, shF_app]; rfl
theorem shL_take {sh : Nat} {ES : List E4} {k : Nat} {e : E4} (he : ES[k]? = some e) : shL sh 0 (ES.take (k + 1)) = shL sh 0 (ES.take k) ++ [(shE sh (shF sh 0 (ES.take k)) e).2] := by
  rw [List.take_add_one, he, shL_app]; rfl
theorem fos_at {f : Nat → Int32} {ES : List E4} {k sh : Nat} {e : E4} (hF : FoS f (shL sh 0 (ES.take k) ++ ES.drop k)) (he : ES[k]? = some e) : f (4 * k) = nI e.1 ∧ f (4 * k + 1) = nI e.2.1 ∧ f (4 * k + 2) = nI e.2.2.1 ∧ f (4 * k + 3) = nI e.2.2.2 := by
  have hk := (List.getElem?_eq_some_iff.mp he).1
  have hl : (shL sh 0 (ES.take k)).length = k := by rw [shL_len, List.length_take]; omega
  refine hF k e ?_
  rw [List.getElem?_append_right (by omega), hl, Nat.sub_self, List.getElem?_drop]
  exact he
theorem fos_step {f g : Nat → Int32} {ES : List E4} {k sh : Nat} {e e' : E4} (hF : FoS f (shL sh 0 (ES.take k) ++ ES.drop k)) (he : ES[k]? = some e) (hE : (shE sh (shF sh 0 (ES.take k)) e).2 = e') (h0 : g (4 * k) = nI e'.1) (h1 : g (4 * k + 1) = nI e'.2.1) (h2 : g (4 * k + 2) = nI e'.2.2.1) (h3 : g (4 * k + 3) = nI e'.2.2.2) (hn : ∀ j, (j < 4 * k ∨ 4 * k + 3 < j) → g j = f j) : FoS g (shL sh 0 (ES.take (k + 1)) ++ ES.drop (k + 1)) := by
  have hk := (List.getElem?_eq_some_iff.mp he).1
  have hl : (shL sh 0 (ES.take k)).length = k := by rw [shL_len, List.length_take]; omega
  rw [shL_take he, hE, List.append_assoc]
  intro i x hx
  rcases Nat.lt_trichotomy i k with c | c | c
  · rw [List.getElem?_append_left (by omega)] at hx
    have := hF i x (by rw [List.getElem?_append_left (by omega)]; exact hx)
    rw [hn _ (by omega), hn _ (by omega), hn _ (by omega), hn _ (by omega)]
    exact this
  · subst c
    rw [List.getElem?_append_right (by omega), hl, Nat.sub_self] at hx
    cases hx
    exact ⟨h0, h1, h2, h3⟩
  · rw [List.getElem?_append_right (by omega), hl, List.getElem?_append_right (by simp; omega), List.getElem?_drop] at hx
    have := hF i x (by rw [List.getElem?_append_right (by omega), hl, List.getElem?_drop]; rw [← hx]; congr 1; simp; omega)
    rw [hn _ (by omega), hn _ (by omega), hn _ (by omega), hn _ (by omega)]
    exact this
theorem fos_len {f : Nat → Int32} {X Y : List E4} (h : FoS f X) (e : X = Y) : FoS f Y := e ▸ h
theorem lfs_at {f : Nat → Int32} {P xs : List Nat} {x : Nat} (h : LfS f (P ++ x :: xs)) : f P.length = nI x ∧ x ≤ 1114111 := by
  have e : (P ++ x :: xs)[P.length]? = some x := by rw [List.getElem?_append_right (Nat.le_refl _), Nat.sub_self]; rfl
  exact ⟨h.2 _ _ e, h.1 _ (List.mem_append_right _ List.mem_cons_self)⟩
theorem impE_ok {p : Nat} (hp : p ≤ 1114111) : ∀ e ∈ impE p, okR e := by
  intro e he
  unfold impE at he
  rcases List.mem_cons.mp he with rfl | he
  · exact ⟨show 64448 + p / 32768 < 65536 by omega, show 32 < 65536 by decide, show 2 < 65536 by decide, show 0 ≤ 1 by decide⟩
  · rw [List.mem_singleton.mp he]
    exact ⟨show p % 32768 + 32768 < 65536 by omega, show 0 < 65536 by decide, show 0 < 65536 by decide, show 0 ≤ 1 by decide⟩
def keyR (n a b k : Nat) : Prop := (n = 1 → k = kx 0 a) ∧ (n = 2 → k = kx (kx 0 a) b)

set_option maxHeartbeats 4000000 in
set_option maxRecDepth 100000 in
theorem c_Mo_take (l : Launch) (G : Gx) (h pa ca la ro co ea tx sz lf fo f1 : Nat) (fl td : Int32) (nc lz fz : Nat) (ya rj sh : Nat) (P C9 LN RW CO EA SZ LF FO yf : Nat → Int32) (tf : Nat → Option Nat) (cl : Nat → Nat) (A : List (Nat × List E4)) (row : List Nat) (ES : List E4) (hnc : nc ≤ 512) (hC : CM P C9 nc cl) (hA : A.length ≤ 500) (hLM : LM LN RW A) (hEM : EM CO EA A) (hrj : rj ≤ 3) (htf : tf rj = some ya) (hyo : RwS row yf) (hsz : SZ rj = nI row.length) (hsh : sh ≤ 1) (hES : takeR (fun k => fndA k A) cl (esA A) 200 row = ES) : CT l G y_Mo_take b_Mo_take 11 none ({ frames := 1, cells := 0, slots := 0, locals := 60 } : Room) ([(h, ob 7 [.int fl, .ref pa, .ref ca, .int (nI nc), .ref la, .ref ro, .ref co, .ref ea, .int (nI A.length), .int td, .ref tx, .ref sz, .ref lf, .int (nI lz), .ref fo, .int (nI fz), .ref f1]), (pa, aI G 5000 P), (ca, aI G 5000 C9), (la, aI G 500 LN), (ro, aI G 1500 RW), (co, aI G 500 CO), (ea, aI G 16000 EA), (tx, aII G 4 tf), (sz, aI G 4 SZ), (lf, aI G 200 LF), (fo, aI G 6400 FO), (ya, aI G 200 yf)]) [.ref h, .int (nI rj), .int (nI sh)] (fun r w' => r = none ∧ ∃ lz' LF' FO', w' = [(h, ob 7 [.int fl, .ref pa, .ref ca, .int (nI nc), .ref la, .ref ro, .ref co, .ref ea, .int (nI A.length), .int td, .ref tx, .ref sz, .ref lf, .int (nI lz'), .ref fo, .int (nI ES.length), .ref f1]), (pa, aI G 5000 P), (ca, aI G 5000 C9), (la, aI G 500 LN), (ro, aI G 1500 RW), (co, aI G 500 CO), (ea, aI G 16000 EA), (tx, aII G 4 tf), (sz, aI G 4 SZ), (lf, aI G 200 LF'), (fo, aI G 6400 FO'), (ya, aI G 200 yf)] ∧ FoS FO' (shL sh 0 ES) ∧ ES.length ≤ 1600 ∧ ∀ e ∈ ES, okR e) := by
  refine ct_of [(0, .ref h), (1, .int (nI rj)), (2, .int (nI sh))] (by decide) (Nat.le_of_ble_eq_true rfl) rfl (fun K hKl hNI C X => ?_)
  subst hKl
  have hcl : ∀ x, cl x ≤ 254 := by obtain ⟨pn, g1, g2, g3, g4⟩ := hC; exact g4
  have hr2 := hyo.1
  have p3 : ∀ (d : Nat) (k : Nat) (lz : Nat) (LF : Nat → Int32) (FO : Nat → Int32) (b : Nat), ES.length - k < d → (k ≤ ES.length) → (ES.length ≤ 1600) → (∀ e ∈ ES, okR e) → (b ≤ 1) → (sh = 1 → b = shF 1 0 (ES.take k)) → (FoS FO (shL sh 0 (ES.take k) ++ ES.drop k)) → vv K ({ frames := 1, cells := 0, slots := 0, locals := 60 } : Room) G 11 0 0 ([(h, ob 7 [.int fl, .ref pa, .ref ca, .int (nI nc), .ref la, .ref ro, .ref co, .ref ea, .int (nI A.length), .int td, .ref tx, .ref sz, .ref lf, .int (nI lz), .ref fo, .int (nI ES.length), .ref f1]), (pa, aI G 5000 P), (ca, aI G 5000 C9), (la, aI G 500 LN), (ro, aI G 1500 RW), (co, aI G 500 CO), (ea, aI G 16000 EA), (tx, aII G 4 tf), (sz, aI G 4 SZ), (lf, aI G 200 LF), (fo, aI G 6400 FO), (ya, aI G 200 yf)]) 449 [(4, .int (nI k)), (3, .int (nI b)), (0, .ref h), (1, .int (nI rj)), (2, .int (nI sh))] [] := by
    intro d
    induction d with
    | zero => intro k lz LF FO b hm; exact absurd hm (Nat.not_lt_zero _)
    | succ d ih =>
      intro k lz LF FO b hm hk h16 hok hb hbs hF
      refine v_iload (pc := 449) C 0 d_Mo_take_449 rfl ?_
      refine v_aload_n (pc := 451) C 2 d_Mo_take_451 rfl rfl ?_
      refine v_get (pc := 452) (Cn := "WeightOrderModel") (T := T_Mo) (N := 17) (ci := 7) (v := .int (nI ES.length)) C 0 15 rfl rfl hin_Mo (by decide) rfl k_477 rfl d_Mo_take_452 ?_
      refine v_icmpN_ge (pc := 455) C 625 k ES.length d_Mo_take_455 (by decide) (by omega) (by omega) (fun hc => ?_) (fun hc => ?_)
      · have hke : k = ES.length := by omega
        subst hke
        rw [List.take_length, List.drop_length, List.append_nil] at hF
        exact v_vret (pc := 625) C X d_Mo_take_625 ⟨rfl, lz, LF, FO, rfl, hF, h16, hok⟩ (by decide) (by decide)
      · obtain ⟨e, he⟩ : ∃ e, ES[k]? = some e := ⟨_, List.getElem?_eq_getElem hc⟩
        have ho := hok e (List.mem_of_getElem? he)
        obtain ⟨o1, o2, o3, o4⟩ := ho
        obtain ⟨f0, f1q, f2q, f3q⟩ := fos_at hF he
        refine v_aload_n (pc := 458) C 2 d_Mo_take_458 rfl rfl ?_
        refine v_get (pc := 459) (Cn := "WeightOrderModel") (T := T_Mo) (N := 17) (ci := 7) (v := .ref fo) C 0 14 rfl rfl hin_Mo (by decide) rfl k_476 rfl d_Mo_take_459 ?_
        refine v_iconst (pc := 462) C (nI 4) d_Mo_take_462 (by decide +kernel) ?_
        refine v_iload (pc := 463) C 0 d_Mo_take_463 rfl ?_
        refine v_imul (pc := 465) C (nI (4 * k)) d_Mo_take_465 (pk_mul _ _) ?_
        refine v_iald (pc := 466) C 10 rfl (4 * k) rfl (by omega) (by decide) d_Mo_take_466 ?_
        refine v_seti (nI e.1) f0 ?_
        refine v_istore (pc := 467) C [(5, .int (nI e.1)), (4, .int (nI k)), (3, .int (nI b)), (0, .ref h), (1, .int (nI rj)), (2, .int (nI sh))] d_Mo_take_467 (by decide) rfl ?_
        refine v_iload (pc := 469) C 0 d_Mo_take_469 rfl ?_
        refine v_ifN_le (pc := 471) C 495 e.1 d_Mo_take_471 (by decide) (by omega) (fun hp => ?_) (fun hp => ?_)
        · have hp0 : e.1 = 0 := by omega
          refine v_iload (pc := 495) C 0 d_Mo_take_495 rfl ?_
          refine v_ifN_ne (pc := 497) C 532 e.1 d_Mo_take_497 (by decide) (by omega) (fun hp2 => ?_) (fun hp2 => ?_)
          · omega
          · refine v_aload_n (pc := 500) C 3 d_Mo_take_500 rfl rfl ?_
            refine v_get (pc := 501) (Cn := "WeightOrderModel") (T := T_Mo) (N := 17) (ci := 7) (v := .ref fo) C 0 14 rfl rfl hin_Mo (by decide) rfl k_476 rfl d_Mo_take_501 ?_
            refine v_iconst (pc := 504) C (nI 4) d_Mo_take_504 (by decide +kernel) ?_
            refine v_iload (pc := 505) C 1 d_Mo_take_505 rfl ?_
            refine v_imul (pc := 507) C (nI (4 * k)) d_Mo_take_507 (pk_mul _ _) ?_
            refine v_iconst (pc := 508) C (nI 1) d_Mo_take_508 (by decide +kernel) ?_
            refine v_iadd (pc := 509) C (nI (4 * k + 1)) d_Mo_take_509 (nI_add _ _) ?_
            refine v_iald (pc := 510) C 10 rfl (4 * k + 1) rfl (by omega) (by decide) d_Mo_take_510 ?_
            refine v_seti (nI e.2.1) f1q ?_
            refine v_ifN_ne (pc := 511) C 532 e.2.1 d_Mo_take_511 (by decide) (by omega) (fun hq => ?_) (fun hq => ?_)
            · refine v_iconst (pc := 532) C (nI 0) d_Mo_take_532 (by decide +kernel) ?_
              refine v_istore (pc := 533) C [(6, .int (nI 0)), (5, .int (nI e.1)), (4, .int (nI k)), (3, .int (nI b)), (0, .ref h), (1, .int (nI rj)), (2, .int (nI sh))] d_Mo_take_533 (by decide) rfl ?_
              refine v_aload_n (pc := 535) C 4 d_Mo_take_535 rfl rfl ?_
              refine v_get (pc := 536) (Cn := "WeightOrderModel") (T := T_Mo) (N := 17) (ci := 7) (v := .ref fo) C 0 14 rfl rfl hin_Mo (by decide) rfl k_476 rfl d_Mo_take_536 ?_
              refine v_iconst (pc := 539) C (nI 4) d_Mo_take_539 (by decide +kernel) ?_
              refine v_iload (pc := 540) C 2 d_Mo_take_540 rfl ?_
              refine v_imul (pc := 542) C (nI (4 * k)) d_Mo_take_542 (pk_mul _ _) ?_
              refine v_iconst (pc := 543) C (nI 3) d_Mo_take_543 (by decide +kernel) ?_
              refine v_iadd (pc := 544) C (nI (4 * k + 3)) d_Mo_take_544 (nI_add _ _) ?_
              refine v_iload_n (pc := 545) C 6 d_Mo_take_545 rfl rfl ?_
              refine v_ifN_ne (pc := 546) C 553 sh d_Mo_take_546 (by decide) (by omega) (fun hs => ?_) (fun hs => ?_)
              · have hs1 : sh = 1 := by omega
                refine v_iload_n (pc := 553) C 3 d_Mo_take_553 rfl rfl ?_
                refine v_ifN_eq (pc := 554) C 562 b d_Mo_take_554 (by decide) (by omega) (fun hbz => ?_) (fun hbz => ?_)
                · refine v_iload (pc := 562) C 0 d_Mo_take_562 rfl ?_
                  refine v_ifN_eq (pc := 564) C 571 0 d_Mo_take_564 (by decide) (by omega) (fun hno => ?_) (fun hno => ?_)
                  · refine v_ldc (pc := 571) C 65535 k_543 d_Mo_take_571 ?_
                    refine v_seti (nI 65535) (by decide +kernel) ?_
                    refine v_iast (pc := 573) C 10 ([(h, ob 7 [.int fl, .ref pa, .ref ca, .int (nI nc), .ref la, .ref ro, .ref co, .ref ea, .int (nI A.length), .int td, .ref tx, .ref sz, .ref lf, .int (nI lz), .ref fo, .int (nI ES.length), .ref f1]), (pa, aI G 5000 P), (ca, aI G 5000 C9), (la, aI G 500 LN), (ro, aI G 1500 RW), (co, aI G 500 CO), (ea, aI G 16000 EA), (tx, aII G 4 tf), (sz, aI G 4 SZ), (lf, aI G 200 LF), (fo, aI G 6400 (upd FO (4 * k + 3) (nI 65535))), (ya, aI G 200 yf)]) rfl (4 * k + 3) rfl (by omega) (by decide) rfl d_Mo_take_573 ?_
                    refine v_iload_n (pc := 574) C 6 d_Mo_take_574 rfl rfl ?_
                    refine v_ifN_eq (pc := 575) C 619 sh d_Mo_take_575 (by decide) (by omega) (fun hs3 => ?_) (fun hs3 => ?_)
                    · omega
                    · refine v_iload_n (pc := 578) C 3 d_Mo_take_578 rfl rfl ?_
                      refine v_ifN_ne (pc := 579) C 585 b d_Mo_take_579 (by decide) (by omega) (fun hb3 => ?_) (fun hb3 => ?_)
                      · omega
                      · refine v_goto (pc := 582) C 619 d_Mo_take_582 (by decide) ?_
                        refine v_iinc (pc := 619) C [(4, .int (nI (k + 1))), (6, .int (nI 0)), (5, .int (nI e.1)), (3, .int (nI b)), (0, .ref h), (1, .int (nI rj)), (2, .int (nI sh))] 2 (nI (k + 1)) d_Mo_take_619 rfl (nI_inc1 _) (by decide) rfl ?_
                        refine v_goto (pc := 622) C 449 d_Mo_take_622 (by decide) ?_
                        refine v_lsub [0, 3, 4, 5, 6] [(4, .int (nI (k + 1))), (3, .int (nI b)), (0, .ref h), (1, .int (nI rj)), (2, .int (nI sh))] rfl ?_
                        have hE9 : shE sh (shF sh 0 (ES.take k)) e = (b, (e.1, e.2.1, e.2.2.1, 65535)) := by subst hs1; rw [← hbs rfl, shE_s4 (by omega) (by omega), hp0]
                        exact ih (k + 1) lz LF _ b (by omega) (by omega) h16 hok (by omega) (fun h1 => by rw [h1] at hE9; rw [shF_take he, hE9]) (fos_step (e' := (e.1, e.2.1, e.2.2.1, 65535)) hF he (by rw [hE9]) (by rw [pk_un (by omega)]; exact f0) (by rw [pk_un (by omega)]; exact f1q) (by rw [pk_un (by omega)]; exact f2q) pk_us (fun j hj => pk_un (by omega)))
                  · omega
                · refine v_iload (pc := 557) C 1 d_Mo_take_557 rfl ?_
                  refine v_goto (pc := 559) C 573 d_Mo_take_559 (by decide) ?_
                  refine v_iast (pc := 573) C 10 ([(h, ob 7 [.int fl, .ref pa, .ref ca, .int (nI nc), .ref la, .ref ro, .ref co, .ref ea, .int (nI A.length), .int td, .ref tx, .ref sz, .ref lf, .int (nI lz), .ref fo, .int (nI ES.length), .ref f1]), (pa, aI G 5000 P), (ca, aI G 5000 C9), (la, aI G 500 LN), (ro, aI G 1500 RW), (co, aI G 500 CO), (ea, aI G 16000 EA), (tx, aII G 4 tf), (sz, aI G 4 SZ), (lf, aI G 200 LF), (fo, aI G 6400 (upd FO (4 * k + 3) (nI e.1))), (ya, aI G 200 yf)]) rfl (4 * k + 3) rfl (by omega) (by decide) rfl d_Mo_take_573 ?_
                  refine v_iload_n (pc := 574) C 6 d_Mo_take_574 rfl rfl ?_
                  refine v_ifN_eq (pc := 575) C 619 sh d_Mo_take_575 (by decide) (by omega) (fun hs3 => ?_) (fun hs3 => ?_)
                  · omega
                  · refine v_iload_n (pc := 578) C 3 d_Mo_take_578 rfl rfl ?_
                    refine v_ifN_ne (pc := 579) C 585 b d_Mo_take_579 (by decide) (by omega) (fun hb3 => ?_) (fun hb3 => ?_)
                    · refine v_aload_n (pc := 585) C 4 d_Mo_take_585 rfl rfl ?_
                      refine v_get (pc := 586) (Cn := "WeightOrderModel") (T := T_Mo) (N := 17) (ci := 7) (v := .ref fo) C 0 14 rfl rfl hin_Mo (by decide) rfl k_476 rfl d_Mo_take_586 ?_
                      refine v_iconst (pc := 589) C (nI 4) d_Mo_take_589 (by decide +kernel) ?_
                      refine v_iload (pc := 590) C 2 d_Mo_take_590 rfl ?_
                      refine v_imul (pc := 592) C (nI (4 * k)) d_Mo_take_592 (pk_mul _ _) ?_
                      refine v_iconst (pc := 593) C (nI 0) d_Mo_take_593 (by decide +kernel) ?_
                      refine v_iast (pc := 594) C 10 ([(h, ob 7 [.int fl, .ref pa, .ref ca, .int (nI nc), .ref la, .ref ro, .ref co, .ref ea, .int (nI A.length), .int td, .ref tx, .ref sz, .ref lf, .int (nI lz), .ref fo, .int (nI ES.length), .ref f1]), (pa, aI G 5000 P), (ca, aI G 5000 C9), (la, aI G 500 LN), (ro, aI G 1500 RW), (co, aI G 500 CO), (ea, aI G 16000 EA), (tx, aII G 4 tf), (sz, aI G 4 SZ), (lf, aI G 200 LF), (fo, aI G 6400 (upd (upd FO (4 * k + 3) (nI e.1)) (4 * k) (nI 0))), (ya, aI G 200 yf)]) rfl (4 * k) rfl (by omega) (by decide) rfl d_Mo_take_594 ?_
                      refine v_aload_n (pc := 595) C 4 d_Mo_take_595 rfl rfl ?_
                      refine v_get (pc := 596) (Cn := "WeightOrderModel") (T := T_Mo) (N := 17) (ci := 7) (v := .ref fo) C 0 14 rfl rfl hin_Mo (by decide) rfl k_476 rfl d_Mo_take_596 ?_
                      refine v_iconst (pc := 599) C (nI 4) d_Mo_take_599 (by decide +kernel) ?_
                      refine v_iload (pc := 600) C 2 d_Mo_take_600 rfl ?_
                      refine v_imul (pc := 602) C (nI (4 * k)) d_Mo_take_602 (pk_mul _ _) ?_
                      refine v_iconst (pc := 603) C (nI 1) d_Mo_take_603 (by decide +kernel) ?_
                      refine v_iadd (pc := 604) C (nI (4 * k + 1)) d_Mo_take_604 (nI_add _ _) ?_
                      refine v_iconst (pc := 605) C (nI 0) d_Mo_take_605 (by decide +kernel) ?_
                      refine v_iast (pc := 606) C 10 ([(h, ob 7 [.int fl, .ref pa, .ref ca, .int (nI nc), .ref la, .ref ro, .ref co, .ref ea, .int (nI A.length), .int td, .ref tx, .ref sz, .ref lf, .int (nI lz), .ref fo, .int (nI ES.length), .ref f1]), (pa, aI G 5000 P), (ca, aI G 5000 C9), (la, aI G 500 LN), (ro, aI G 1500 RW), (co, aI G 500 CO), (ea, aI G 16000 EA), (tx, aII G 4 tf), (sz, aI G 4 SZ), (lf, aI G 200 LF), (fo, aI G 6400 (upd (upd (upd FO (4 * k + 3) (nI e.1)) (4 * k) (nI 0)) (4 * k + 1) (nI 0))), (ya, aI G 200 yf)]) rfl (4 * k + 1) rfl (by omega) (by decide) rfl d_Mo_take_606 ?_
                      refine v_aload_n (pc := 607) C 4 d_Mo_take_607 rfl rfl ?_
                      refine v_get (pc := 608) (Cn := "WeightOrderModel") (T := T_Mo) (N := 17) (ci := 7) (v := .ref fo) C 0 14 rfl rfl hin_Mo (by decide) rfl k_476 rfl d_Mo_take_608 ?_
                      refine v_iconst (pc := 611) C (nI 4) d_Mo_take_611 (by decide +kernel) ?_
                      refine v_iload (pc := 612) C 2 d_Mo_take_612 rfl ?_
                      refine v_imul (pc := 614) C (nI (4 * k)) d_Mo_take_614 (pk_mul _ _) ?_
                      refine v_iconst (pc := 615) C (nI 2) d_Mo_take_615 (by decide +kernel) ?_
                      refine v_iadd (pc := 616) C (nI (4 * k + 2)) d_Mo_take_616 (nI_add _ _) ?_
                      refine v_iconst (pc := 617) C (nI 0) d_Mo_take_617 (by decide +kernel) ?_
                      refine v_iast (pc := 618) C 10 ([(h, ob 7 [.int fl, .ref pa, .ref ca, .int (nI nc), .ref la, .ref ro, .ref co, .ref ea, .int (nI A.length), .int td, .ref tx, .ref sz, .ref lf, .int (nI lz), .ref fo, .int (nI ES.length), .ref f1]), (pa, aI G 5000 P), (ca, aI G 5000 C9), (la, aI G 500 LN), (ro, aI G 1500 RW), (co, aI G 500 CO), (ea, aI G 16000 EA), (tx, aII G 4 tf), (sz, aI G 4 SZ), (lf, aI G 200 LF), (fo, aI G 6400 (upd (upd (upd (upd FO (4 * k + 3) (nI e.1)) (4 * k) (nI 0)) (4 * k + 1) (nI 0)) (4 * k + 2) (nI 0))), (ya, aI G 200 yf)]) rfl (4 * k + 2) rfl (by omega) (by decide) rfl d_Mo_take_618 ?_
                      refine v_iinc (pc := 619) C [(4, .int (nI (k + 1))), (6, .int (nI 0)), (5, .int (nI e.1)), (3, .int (nI b)), (0, .ref h), (1, .int (nI rj)), (2, .int (nI sh))] 2 (nI (k + 1)) d_Mo_take_619 rfl (nI_inc1 _) (by decide) rfl ?_
                      refine v_goto (pc := 622) C 449 d_Mo_take_622 (by decide) ?_
                      refine v_lsub [0, 3, 4, 5, 6] [(4, .int (nI (k + 1))), (3, .int (nI b)), (0, .ref h), (1, .int (nI rj)), (2, .int (nI sh))] rfl ?_
                      have hE9 : shE sh (shF sh 0 (ES.take k)) e = (b, (0, 0, 0, e.1)) := by subst hs1; rw [← hbs rfl, shE_s3 (by omega) (by omega), hp0]
                      exact ih (k + 1) lz LF _ b (by omega) (by omega) h16 hok (by omega) (fun h1 => by rw [h1] at hE9; rw [shF_take he, hE9]) (fos_step (e' := (0, 0, 0, e.1)) hF he (by rw [hE9]) (by rw [pk_un (by omega), pk_un (by omega), pk_us]) (by rw [pk_un (by omega), pk_us]) pk_us (by rw [pk_un (by omega), pk_un (by omega), pk_un (by omega), pk_us]) (fun j hj => by rw [pk_un (by omega), pk_un (by omega), pk_un (by omega), pk_un (by omega)]))
                    · omega
              · refine v_iconst (pc := 549) C (nI 0) d_Mo_take_549 (by decide +kernel) ?_
                refine v_goto (pc := 550) C 573 d_Mo_take_550 (by decide) ?_
                refine v_iast (pc := 573) C 10 ([(h, ob 7 [.int fl, .ref pa, .ref ca, .int (nI nc), .ref la, .ref ro, .ref co, .ref ea, .int (nI A.length), .int td, .ref tx, .ref sz, .ref lf, .int (nI lz), .ref fo, .int (nI ES.length), .ref f1]), (pa, aI G 5000 P), (ca, aI G 5000 C9), (la, aI G 500 LN), (ro, aI G 1500 RW), (co, aI G 500 CO), (ea, aI G 16000 EA), (tx, aII G 4 tf), (sz, aI G 4 SZ), (lf, aI G 200 LF), (fo, aI G 6400 (upd FO (4 * k + 3) (nI 0))), (ya, aI G 200 yf)]) rfl (4 * k + 3) rfl (by omega) (by decide) rfl d_Mo_take_573 ?_
                refine v_iload_n (pc := 574) C 6 d_Mo_take_574 rfl rfl ?_
                refine v_ifN_eq (pc := 575) C 619 sh d_Mo_take_575 (by decide) (by omega) (fun hs3 => ?_) (fun hs3 => ?_)
                · refine v_iinc (pc := 619) C [(4, .int (nI (k + 1))), (6, .int (nI 0)), (5, .int (nI e.1)), (3, .int (nI b)), (0, .ref h), (1, .int (nI rj)), (2, .int (nI sh))] 2 (nI (k + 1)) d_Mo_take_619 rfl (nI_inc1 _) (by decide) rfl ?_
                  refine v_goto (pc := 622) C 449 d_Mo_take_622 (by decide) ?_
                  refine v_lsub [0, 3, 4, 5, 6] [(4, .int (nI (k + 1))), (3, .int (nI b)), (0, .ref h), (1, .int (nI rj)), (2, .int (nI sh))] rfl ?_
                  have hE9 : shE sh (shF sh 0 (ES.take k)) e = (shF sh 0 (ES.take k), (e.1, e.2.1, e.2.2.1, 0)) := by subst hs; exact shE_0
                  exact ih (k + 1) lz LF _ b (by omega) (by omega) h16 hok (by omega) (fun h1 => by omega) (fos_step (e' := (e.1, e.2.1, e.2.2.1, 0)) hF he (by rw [hE9]) (by rw [pk_un (by omega)]; exact f0) (by rw [pk_un (by omega)]; exact f1q) (by rw [pk_un (by omega)]; exact f2q) pk_us (fun j hj => pk_un (by omega)))
                · omega
            · refine v_aload_n (pc := 514) C 3 d_Mo_take_514 rfl rfl ?_
              refine v_get (pc := 515) (Cn := "WeightOrderModel") (T := T_Mo) (N := 17) (ci := 7) (v := .ref fo) C 0 14 rfl rfl hin_Mo (by decide) rfl k_476 rfl d_Mo_take_515 ?_
              refine v_iconst (pc := 518) C (nI 4) d_Mo_take_518 (by decide +kernel) ?_
              refine v_iload (pc := 519) C 1 d_Mo_take_519 rfl ?_
              refine v_imul (pc := 521) C (nI (4 * k)) d_Mo_take_521 (pk_mul _ _) ?_
              refine v_iconst (pc := 522) C (nI 2) d_Mo_take_522 (by decide +kernel) ?_
              refine v_iadd (pc := 523) C (nI (4 * k + 2)) d_Mo_take_523 (nI_add _ _) ?_
              refine v_iald (pc := 524) C 10 rfl (4 * k + 2) rfl (by omega) (by decide) d_Mo_take_524 ?_
              refine v_seti (nI e.2.2.1) f2q ?_
              refine v_ifN_ne (pc := 525) C 532 e.2.2.1 d_Mo_take_525 (by decide) (by omega) (fun hr => ?_) (fun hr => ?_)
              · refine v_iconst (pc := 532) C (nI 0) d_Mo_take_532 (by decide +kernel) ?_
                refine v_istore (pc := 533) C [(6, .int (nI 0)), (5, .int (nI e.1)), (4, .int (nI k)), (3, .int (nI b)), (0, .ref h), (1, .int (nI rj)), (2, .int (nI sh))] d_Mo_take_533 (by decide) rfl ?_
                refine v_aload_n (pc := 535) C 4 d_Mo_take_535 rfl rfl ?_
                refine v_get (pc := 536) (Cn := "WeightOrderModel") (T := T_Mo) (N := 17) (ci := 7) (v := .ref fo) C 0 14 rfl rfl hin_Mo (by decide) rfl k_476 rfl d_Mo_take_536 ?_
                refine v_iconst (pc := 539) C (nI 4) d_Mo_take_539 (by decide +kernel) ?_
                refine v_iload (pc := 540) C 2 d_Mo_take_540 rfl ?_
                refine v_imul (pc := 542) C (nI (4 * k)) d_Mo_take_542 (pk_mul _ _) ?_
                refine v_iconst (pc := 543) C (nI 3) d_Mo_take_543 (by decide +kernel) ?_
                refine v_iadd (pc := 544) C (nI (4 * k + 3)) d_Mo_take_544 (nI_add _ _) ?_
                refine v_iload_n (pc := 545) C 6 d_Mo_take_545 rfl rfl ?_
                refine v_ifN_ne (pc := 546) C 553 sh d_Mo_take_546 (by decide) (by omega) (fun hs => ?_) (fun hs => ?_)
                · have hs1 : sh = 1 := by omega
                  refine v_iload_n (pc := 553) C 3 d_Mo_take_553 rfl rfl ?_
                  refine v_ifN_eq (pc := 554) C 562 b d_Mo_take_554 (by decide) (by omega) (fun hbz => ?_) (fun hbz => ?_)
                  · refine v_iload (pc := 562) C 0 d_Mo_take_562 rfl ?_
                    refine v_ifN_eq (pc := 564) C 571 0 d_Mo_take_564 (by decide) (by omega) (fun hno => ?_) (fun hno => ?_)
                    · refine v_ldc (pc := 571) C 65535 k_543 d_Mo_take_571 ?_
                      refine v_seti (nI 65535) (by decide +kernel) ?_
                      refine v_iast (pc := 573) C 10 ([(h, ob 7 [.int fl, .ref pa, .ref ca, .int (nI nc), .ref la, .ref ro, .ref co, .ref ea, .int (nI A.length), .int td, .ref tx, .ref sz, .ref lf, .int (nI lz), .ref fo, .int (nI ES.length), .ref f1]), (pa, aI G 5000 P), (ca, aI G 5000 C9), (la, aI G 500 LN), (ro, aI G 1500 RW), (co, aI G 500 CO), (ea, aI G 16000 EA), (tx, aII G 4 tf), (sz, aI G 4 SZ), (lf, aI G 200 LF), (fo, aI G 6400 (upd FO (4 * k + 3) (nI 65535))), (ya, aI G 200 yf)]) rfl (4 * k + 3) rfl (by omega) (by decide) rfl d_Mo_take_573 ?_
                      refine v_iload_n (pc := 574) C 6 d_Mo_take_574 rfl rfl ?_
                      refine v_ifN_eq (pc := 575) C 619 sh d_Mo_take_575 (by decide) (by omega) (fun hs3 => ?_) (fun hs3 => ?_)
                      · omega
                      · refine v_iload_n (pc := 578) C 3 d_Mo_take_578 rfl rfl ?_
                        refine v_ifN_ne (pc := 579) C 585 b d_Mo_take_579 (by decide) (by omega) (fun hb3 => ?_) (fun hb3 => ?_)
                        · omega
                        · refine v_goto (pc := 582) C 619 d_Mo_take_582 (by decide) ?_
                          refine v_iinc (pc := 619) C [(4, .int (nI (k + 1))), (6, .int (nI 0)), (5, .int (nI e.1)), (3, .int (nI b)), (0, .ref h), (1, .int (nI rj)), (2, .int (nI sh))] 2 (nI (k + 1)) d_Mo_take_619 rfl (nI_inc1 _) (by decide) rfl ?_
                          refine v_goto (pc := 622) C 449 d_Mo_take_622 (by decide) ?_
                          refine v_lsub [0, 3, 4, 5, 6] [(4, .int (nI (k + 1))), (3, .int (nI b)), (0, .ref h), (1, .int (nI rj)), (2, .int (nI sh))] rfl ?_
                          have hE9 : shE sh (shF sh 0 (ES.take k)) e = (b, (e.1, e.2.1, e.2.2.1, 65535)) := by subst hs1; rw [← hbs rfl, shE_s4 (by omega) (by omega), hp0]
                          exact ih (k + 1) lz LF _ b (by omega) (by omega) h16 hok (by omega) (fun h1 => by rw [h1] at hE9; rw [shF_take he, hE9]) (fos_step (e' := (e.1, e.2.1, e.2.2.1, 65535)) hF he (by rw [hE9]) (by rw [pk_un (by omega)]; exact f0) (by rw [pk_un (by omega)]; exact f1q) (by rw [pk_un (by omega)]; exact f2q) pk_us (fun j hj => pk_un (by omega)))
                    · omega
                  · refine v_iload (pc := 557) C 1 d_Mo_take_557 rfl ?_
                    refine v_goto (pc := 559) C 573 d_Mo_take_559 (by decide) ?_
                    refine v_iast (pc := 573) C 10 ([(h, ob 7 [.int fl, .ref pa, .ref ca, .int (nI nc), .ref la, .ref ro, .ref co, .ref ea, .int (nI A.length), .int td, .ref tx, .ref sz, .ref lf, .int (nI lz), .ref fo, .int (nI ES.length), .ref f1]), (pa, aI G 5000 P), (ca, aI G 5000 C9), (la, aI G 500 LN), (ro, aI G 1500 RW), (co, aI G 500 CO), (ea, aI G 16000 EA), (tx, aII G 4 tf), (sz, aI G 4 SZ), (lf, aI G 200 LF), (fo, aI G 6400 (upd FO (4 * k + 3) (nI e.1))), (ya, aI G 200 yf)]) rfl (4 * k + 3) rfl (by omega) (by decide) rfl d_Mo_take_573 ?_
                    refine v_iload_n (pc := 574) C 6 d_Mo_take_574 rfl rfl ?_
                    refine v_ifN_eq (pc := 575) C 619 sh d_Mo_take_575 (by decide) (by omega) (fun hs3 => ?_) (fun hs3 => ?_)
                    · omega
                    · refine v_iload_n (pc := 578) C 3 d_Mo_take_578 rfl rfl ?_
                      refine v_ifN_ne (pc := 579) C 585 b d_Mo_take_579 (by decide) (by omega) (fun hb3 => ?_) (fun hb3 => ?_)
                      · refine v_aload_n (pc := 585) C 4 d_Mo_take_585 rfl rfl ?_
                        refine v_get (pc := 586) (Cn := "WeightOrderModel") (T := T_Mo) (N := 17) (ci := 7) (v := .ref fo) C 0 14 rfl rfl hin_Mo (by decide) rfl k_476 rfl d_Mo_take_586 ?_
                        refine v_iconst (pc := 589) C (nI 4) d_Mo_take_589 (by decide +kernel) ?_
                        refine v_iload (pc := 590) C 2 d_Mo_take_590 rfl ?_
                        refine v_imul (pc := 592) C (nI (4 * k)) d_Mo_take_592 (pk_mul _ _) ?_
                        refine v_iconst (pc := 593) C (nI 0) d_Mo_take_593 (by decide +kernel) ?_
                        refine v_iast (pc := 594) C 10 ([(h, ob 7 [.int fl, .ref pa, .ref ca, .int (nI nc), .ref la, .ref ro, .ref co, .ref ea, .int (nI A.length), .int td, .ref tx, .ref sz, .ref lf, .int (nI lz), .ref fo, .int (nI ES.length), .ref f1]), (pa, aI G 5000 P), (ca, aI G 5000 C9), (la, aI G 500 LN), (ro, aI G 1500 RW), (co, aI G 500 CO), (ea, aI G 16000 EA), (tx, aII G 4 tf), (sz, aI G 4 SZ), (lf, aI G 200 LF), (fo, aI G 6400 (upd (upd FO (4 * k + 3) (nI e.1)) (4 * k) (nI 0))), (ya, aI G 200 yf)]) rfl (4 * k) rfl (by omega) (by decide) rfl d_Mo_take_594 ?_
                        refine v_aload_n (pc := 595) C 4 d_Mo_take_595 rfl rfl ?_
                        refine v_get (pc := 596) (Cn := "WeightOrderModel") (T := T_Mo) (N := 17) (ci := 7) (v := .ref fo) C 0 14 rfl rfl hin_Mo (by decide) rfl k_476 rfl d_Mo_take_596 ?_
                        refine v_iconst (pc := 599) C (nI 4) d_Mo_take_599 (by decide +kernel) ?_
                        refine v_iload (pc := 600) C 2 d_Mo_take_600 rfl ?_
                        refine v_imul (pc := 602) C (nI (4 * k)) d_Mo_take_602 (pk_mul _ _) ?_
                        refine v_iconst (pc := 603) C (nI 1) d_Mo_take_603 (by decide +kernel) ?_
                        refine v_iadd (pc := 604) C (nI (4 * k + 1)) d_Mo_take_604 (nI_add _ _) ?_
                        refine v_iconst (pc := 605) C (nI 0) d_Mo_take_605 (by decide +kernel) ?_
                        refine v_iast (pc := 606) C 10 ([(h, ob 7 [.int fl, .ref pa, .ref ca, .int (nI nc), .ref la, .ref ro, .ref co, .ref ea, .int (nI A.length), .int td, .ref tx, .ref sz, .ref lf, .int (nI lz), .ref fo, .int (nI ES.length), .ref f1]), (pa, aI G 5000 P), (ca, aI G 5000 C9), (la, aI G 500 LN), (ro, aI G 1500 RW), (co, aI G 500 CO), (ea, aI G 16000 EA), (tx, aII G 4 tf), (sz, aI G 4 SZ), (lf, aI G 200 LF), (fo, aI G 6400 (upd (upd (upd FO (4 * k + 3) (nI e.1)) (4 * k) (nI 0)) (4 * k + 1) (nI 0))), (ya, aI G 200 yf)]) rfl (4 * k + 1) rfl (by omega) (by decide) rfl d_Mo_take_606 ?_
                        refine v_aload_n (pc := 607) C 4 d_Mo_take_607 rfl rfl ?_
                        refine v_get (pc := 608) (Cn := "WeightOrderModel") (T := T_Mo) (N := 17) (ci := 7) (v := .ref fo) C 0 14 rfl rfl hin_Mo (by decide) rfl k_476 rfl d_Mo_take_608 ?_
                        refine v_iconst (pc := 611) C (nI 4) d_Mo_take_611 (by decide +kernel) ?_
                        refine v_iload (pc := 612) C 2 d_Mo_take_612 rfl ?_
                        refine v_imul (pc := 614) C (nI (4 * k)) d_Mo_take_614 (pk_mul _ _) ?_
                        refine v_iconst (pc := 615) C (nI 2) d_Mo_take_615 (by decide +kernel) ?_
                        refine v_iadd (pc := 616) C (nI (4 * k + 2)) d_Mo_take_616 (nI_add _ _) ?_
                        refine v_iconst (pc := 617) C (nI 0) d_Mo_take_617 (by decide +kernel) ?_
                        refine v_iast (pc := 618) C 10 ([(h, ob 7 [.int fl, .ref pa, .ref ca, .int (nI nc), .ref la, .ref ro, .ref co, .ref ea, .int (nI A.length), .int td, .ref tx, .ref sz, .ref lf, .int (nI lz), .ref fo, .int (nI ES.length), .ref f1]), (pa, aI G 5000 P), (ca, aI G 5000 C9), (la, aI G 500 LN), (ro, aI G 1500 RW), (co, aI G 500 CO), (ea, aI G 16000 EA), (tx, aII G 4 tf), (sz, aI G 4 SZ), (lf, aI G 200 LF), (fo, aI G 6400 (upd (upd (upd (upd FO (4 * k + 3) (nI e.1)) (4 * k) (nI 0)) (4 * k + 1) (nI 0)) (4 * k + 2) (nI 0))), (ya, aI G 200 yf)]) rfl (4 * k + 2) rfl (by omega) (by decide) rfl d_Mo_take_618 ?_
                        refine v_iinc (pc := 619) C [(4, .int (nI (k + 1))), (6, .int (nI 0)), (5, .int (nI e.1)), (3, .int (nI b)), (0, .ref h), (1, .int (nI rj)), (2, .int (nI sh))] 2 (nI (k + 1)) d_Mo_take_619 rfl (nI_inc1 _) (by decide) rfl ?_
                        refine v_goto (pc := 622) C 449 d_Mo_take_622 (by decide) ?_
                        refine v_lsub [0, 3, 4, 5, 6] [(4, .int (nI (k + 1))), (3, .int (nI b)), (0, .ref h), (1, .int (nI rj)), (2, .int (nI sh))] rfl ?_
                        have hE9 : shE sh (shF sh 0 (ES.take k)) e = (b, (0, 0, 0, e.1)) := by subst hs1; rw [← hbs rfl, shE_s3 (by omega) (by omega), hp0]
                        exact ih (k + 1) lz LF _ b (by omega) (by omega) h16 hok (by omega) (fun h1 => by rw [h1] at hE9; rw [shF_take he, hE9]) (fos_step (e' := (0, 0, 0, e.1)) hF he (by rw [hE9]) (by rw [pk_un (by omega), pk_un (by omega), pk_us]) (by rw [pk_un (by omega), pk_us]) pk_us (by rw [pk_un (by omega), pk_un (by omega), pk_un (by omega), pk_us]) (fun j hj => by rw [pk_un (by omega), pk_un (by omega), pk_un (by omega), pk_un (by omega)]))
                      · omega
                · refine v_iconst (pc := 549) C (nI 0) d_Mo_take_549 (by decide +kernel) ?_
                  refine v_goto (pc := 550) C 573 d_Mo_take_550 (by decide) ?_
                  refine v_iast (pc := 573) C 10 ([(h, ob 7 [.int fl, .ref pa, .ref ca, .int (nI nc), .ref la, .ref ro, .ref co, .ref ea, .int (nI A.length), .int td, .ref tx, .ref sz, .ref lf, .int (nI lz), .ref fo, .int (nI ES.length), .ref f1]), (pa, aI G 5000 P), (ca, aI G 5000 C9), (la, aI G 500 LN), (ro, aI G 1500 RW), (co, aI G 500 CO), (ea, aI G 16000 EA), (tx, aII G 4 tf), (sz, aI G 4 SZ), (lf, aI G 200 LF), (fo, aI G 6400 (upd FO (4 * k + 3) (nI 0))), (ya, aI G 200 yf)]) rfl (4 * k + 3) rfl (by omega) (by decide) rfl d_Mo_take_573 ?_
                  refine v_iload_n (pc := 574) C 6 d_Mo_take_574 rfl rfl ?_
                  refine v_ifN_eq (pc := 575) C 619 sh d_Mo_take_575 (by decide) (by omega) (fun hs3 => ?_) (fun hs3 => ?_)
                  · refine v_iinc (pc := 619) C [(4, .int (nI (k + 1))), (6, .int (nI 0)), (5, .int (nI e.1)), (3, .int (nI b)), (0, .ref h), (1, .int (nI rj)), (2, .int (nI sh))] 2 (nI (k + 1)) d_Mo_take_619 rfl (nI_inc1 _) (by decide) rfl ?_
                    refine v_goto (pc := 622) C 449 d_Mo_take_622 (by decide) ?_
                    refine v_lsub [0, 3, 4, 5, 6] [(4, .int (nI (k + 1))), (3, .int (nI b)), (0, .ref h), (1, .int (nI rj)), (2, .int (nI sh))] rfl ?_
                    have hE9 : shE sh (shF sh 0 (ES.take k)) e = (shF sh 0 (ES.take k), (e.1, e.2.1, e.2.2.1, 0)) := by subst hs; exact shE_0
                    exact ih (k + 1) lz LF _ b (by omega) (by omega) h16 hok (by omega) (fun h1 => by omega) (fos_step (e' := (e.1, e.2.1, e.2.2.1, 0)) hF he (by rw [hE9]) (by rw [pk_un (by omega)]; exact f0) (by rw [pk_un (by omega)]; exact f1q) (by rw [pk_un (by omega)]; exact f2q) pk_us (fun j hj => pk_un (by omega)))
                  · omega
              · refine v_iconst (pc := 528) C (nI 1) d_Mo_take_528 (by decide +kernel) ?_
                refine v_goto (pc := 529) C 533 d_Mo_take_529 (by decide) ?_
                refine v_istore (pc := 533) C [(6, .int (nI 1)), (5, .int (nI e.1)), (4, .int (nI k)), (3, .int (nI b)), (0, .ref h), (1, .int (nI rj)), (2, .int (nI sh))] d_Mo_take_533 (by decide) rfl ?_
                refine v_aload_n (pc := 535) C 4 d_Mo_take_535 rfl rfl ?_
                refine v_get (pc := 536) (Cn := "WeightOrderModel") (T := T_Mo) (N := 17) (ci := 7) (v := .ref fo) C 0 14 rfl rfl hin_Mo (by decide) rfl k_476 rfl d_Mo_take_536 ?_
                refine v_iconst (pc := 539) C (nI 4) d_Mo_take_539 (by decide +kernel) ?_
                refine v_iload (pc := 540) C 2 d_Mo_take_540 rfl ?_
                refine v_imul (pc := 542) C (nI (4 * k)) d_Mo_take_542 (pk_mul _ _) ?_
                refine v_iconst (pc := 543) C (nI 3) d_Mo_take_543 (by decide +kernel) ?_
                refine v_iadd (pc := 544) C (nI (4 * k + 3)) d_Mo_take_544 (nI_add _ _) ?_
                refine v_iload_n (pc := 545) C 6 d_Mo_take_545 rfl rfl ?_
                refine v_ifN_ne (pc := 546) C 553 sh d_Mo_take_546 (by decide) (by omega) (fun hs => ?_) (fun hs => ?_)
                · have hs1 : sh = 1 := by omega
                  refine v_iload_n (pc := 553) C 3 d_Mo_take_553 rfl rfl ?_
                  refine v_ifN_eq (pc := 554) C 562 b d_Mo_take_554 (by decide) (by omega) (fun hbz => ?_) (fun hbz => ?_)
                  · refine v_iload (pc := 562) C 0 d_Mo_take_562 rfl ?_
                    refine v_ifN_eq (pc := 564) C 571 1 d_Mo_take_564 (by decide) (by omega) (fun hno => ?_) (fun hno => ?_)
                    · omega
                    · refine v_iconst (pc := 567) C (nI 0) d_Mo_take_567 (by decide +kernel) ?_
                      refine v_goto (pc := 568) C 573 d_Mo_take_568 (by decide) ?_
                      refine v_iast (pc := 573) C 10 ([(h, ob 7 [.int fl, .ref pa, .ref ca, .int (nI nc), .ref la, .ref ro, .ref co, .ref ea, .int (nI A.length), .int td, .ref tx, .ref sz, .ref lf, .int (nI lz), .ref fo, .int (nI ES.length), .ref f1]), (pa, aI G 5000 P), (ca, aI G 5000 C9), (la, aI G 500 LN), (ro, aI G 1500 RW), (co, aI G 500 CO), (ea, aI G 16000 EA), (tx, aII G 4 tf), (sz, aI G 4 SZ), (lf, aI G 200 LF), (fo, aI G 6400 (upd FO (4 * k + 3) (nI 0))), (ya, aI G 200 yf)]) rfl (4 * k + 3) rfl (by omega) (by decide) rfl d_Mo_take_573 ?_
                      refine v_iload_n (pc := 574) C 6 d_Mo_take_574 rfl rfl ?_
                      refine v_ifN_eq (pc := 575) C 619 sh d_Mo_take_575 (by decide) (by omega) (fun hs3 => ?_) (fun hs3 => ?_)
                      · omega
                      · refine v_iload_n (pc := 578) C 3 d_Mo_take_578 rfl rfl ?_
                        refine v_ifN_ne (pc := 579) C 585 b d_Mo_take_579 (by decide) (by omega) (fun hb3 => ?_) (fun hb3 => ?_)
                        · omega
                        · refine v_goto (pc := 582) C 619 d_Mo_take_582 (by decide) ?_
                          refine v_iinc (pc := 619) C [(4, .int (nI (k + 1))), (6, .int (nI 1)), (5, .int (nI e.1)), (3, .int (nI b)), (0, .ref h), (1, .int (nI rj)), (2, .int (nI sh))] 2 (nI (k + 1)) d_Mo_take_619 rfl (nI_inc1 _) (by decide) rfl ?_
                          refine v_goto (pc := 622) C 449 d_Mo_take_622 (by decide) ?_
                          refine v_lsub [0, 3, 4, 5, 6] [(4, .int (nI (k + 1))), (3, .int (nI b)), (0, .ref h), (1, .int (nI rj)), (2, .int (nI sh))] rfl ?_
                          have hE9 : shE sh (shF sh 0 (ES.take k)) e = (b, (e.1, e.2.1, e.2.2.1, 0)) := by subst hs1; rw [← hbs rfl, shE_s3 (by omega) (by omega), hp0, hq, hr]
                          exact ih (k + 1) lz LF _ b (by omega) (by omega) h16 hok (by omega) (fun h1 => by rw [h1] at hE9; rw [shF_take he, hE9]) (fos_step (e' := (e.1, e.2.1, e.2.2.1, 0)) hF he (by rw [hE9]) (by rw [pk_un (by omega)]; exact f0) (by rw [pk_un (by omega)]; exact f1q) (by rw [pk_un (by omega)]; exact f2q) pk_us (fun j hj => pk_un (by omega)))
                  · refine v_iload (pc := 557) C 1 d_Mo_take_557 rfl ?_
                    refine v_goto (pc := 559) C 573 d_Mo_take_559 (by decide) ?_
                    refine v_iast (pc := 573) C 10 ([(h, ob 7 [.int fl, .ref pa, .ref ca, .int (nI nc), .ref la, .ref ro, .ref co, .ref ea, .int (nI A.length), .int td, .ref tx, .ref sz, .ref lf, .int (nI lz), .ref fo, .int (nI ES.length), .ref f1]), (pa, aI G 5000 P), (ca, aI G 5000 C9), (la, aI G 500 LN), (ro, aI G 1500 RW), (co, aI G 500 CO), (ea, aI G 16000 EA), (tx, aII G 4 tf), (sz, aI G 4 SZ), (lf, aI G 200 LF), (fo, aI G 6400 (upd FO (4 * k + 3) (nI e.1))), (ya, aI G 200 yf)]) rfl (4 * k + 3) rfl (by omega) (by decide) rfl d_Mo_take_573 ?_
                    refine v_iload_n (pc := 574) C 6 d_Mo_take_574 rfl rfl ?_
                    refine v_ifN_eq (pc := 575) C 619 sh d_Mo_take_575 (by decide) (by omega) (fun hs3 => ?_) (fun hs3 => ?_)
                    · omega
                    · refine v_iload_n (pc := 578) C 3 d_Mo_take_578 rfl rfl ?_
                      refine v_ifN_ne (pc := 579) C 585 b d_Mo_take_579 (by decide) (by omega) (fun hb3 => ?_) (fun hb3 => ?_)
                      · refine v_aload_n (pc := 585) C 4 d_Mo_take_585 rfl rfl ?_
                        refine v_get (pc := 586) (Cn := "WeightOrderModel") (T := T_Mo) (N := 17) (ci := 7) (v := .ref fo) C 0 14 rfl rfl hin_Mo (by decide) rfl k_476 rfl d_Mo_take_586 ?_
                        refine v_iconst (pc := 589) C (nI 4) d_Mo_take_589 (by decide +kernel) ?_
                        refine v_iload (pc := 590) C 2 d_Mo_take_590 rfl ?_
                        refine v_imul (pc := 592) C (nI (4 * k)) d_Mo_take_592 (pk_mul _ _) ?_
                        refine v_iconst (pc := 593) C (nI 0) d_Mo_take_593 (by decide +kernel) ?_
                        refine v_iast (pc := 594) C 10 ([(h, ob 7 [.int fl, .ref pa, .ref ca, .int (nI nc), .ref la, .ref ro, .ref co, .ref ea, .int (nI A.length), .int td, .ref tx, .ref sz, .ref lf, .int (nI lz), .ref fo, .int (nI ES.length), .ref f1]), (pa, aI G 5000 P), (ca, aI G 5000 C9), (la, aI G 500 LN), (ro, aI G 1500 RW), (co, aI G 500 CO), (ea, aI G 16000 EA), (tx, aII G 4 tf), (sz, aI G 4 SZ), (lf, aI G 200 LF), (fo, aI G 6400 (upd (upd FO (4 * k + 3) (nI e.1)) (4 * k) (nI 0))), (ya, aI G 200 yf)]) rfl (4 * k) rfl (by omega) (by decide) rfl d_Mo_take_594 ?_
                        refine v_aload_n (pc := 595) C 4 d_Mo_take_595 rfl rfl ?_
                        refine v_get (pc := 596) (Cn := "WeightOrderModel") (T := T_Mo) (N := 17) (ci := 7) (v := .ref fo) C 0 14 rfl rfl hin_Mo (by decide) rfl k_476 rfl d_Mo_take_596 ?_
                        refine v_iconst (pc := 599) C (nI 4) d_Mo_take_599 (by decide +kernel) ?_
                        refine v_iload (pc := 600) C 2 d_Mo_take_600 rfl ?_
                        refine v_imul (pc := 602) C (nI (4 * k)) d_Mo_take_602 (pk_mul _ _) ?_
                        refine v_iconst (pc := 603) C (nI 1) d_Mo_take_603 (by decide +kernel) ?_
                        refine v_iadd (pc := 604) C (nI (4 * k + 1)) d_Mo_take_604 (nI_add _ _) ?_
                        refine v_iconst (pc := 605) C (nI 0) d_Mo_take_605 (by decide +kernel) ?_
                        refine v_iast (pc := 606) C 10 ([(h, ob 7 [.int fl, .ref pa, .ref ca, .int (nI nc), .ref la, .ref ro, .ref co, .ref ea, .int (nI A.length), .int td, .ref tx, .ref sz, .ref lf, .int (nI lz), .ref fo, .int (nI ES.length), .ref f1]), (pa, aI G 5000 P), (ca, aI G 5000 C9), (la, aI G 500 LN), (ro, aI G 1500 RW), (co, aI G 500 CO), (ea, aI G 16000 EA), (tx, aII G 4 tf), (sz, aI G 4 SZ), (lf, aI G 200 LF), (fo, aI G 6400 (upd (upd (upd FO (4 * k + 3) (nI e.1)) (4 * k) (nI 0)) (4 * k + 1) (nI 0))), (ya, aI G 200 yf)]) rfl (4 * k + 1) rfl (by omega) (by decide) rfl d_Mo_take_606 ?_
                        refine v_aload_n (pc := 607) C 4 d_Mo_take_607 rfl rfl ?_
                        refine v_get (pc := 608) (Cn := "WeightOrderModel") (T := T_Mo) (N := 17) (ci := 7) (v := .ref fo) C 0 14 rfl rfl hin_Mo (by decide) rfl k_476 rfl d_Mo_take_608 ?_
                        refine v_iconst (pc := 611) C (nI 4) d_Mo_take_611 (by decide +kernel) ?_
                        refine v_iload (pc := 612) C 2 d_Mo_take_612 rfl ?_
                        refine v_imul (pc := 614) C (nI (4 * k)) d_Mo_take_614 (pk_mul _ _) ?_
                        refine v_iconst (pc := 615) C (nI 2) d_Mo_take_615 (by decide +kernel) ?_
                        refine v_iadd (pc := 616) C (nI (4 * k + 2)) d_Mo_take_616 (nI_add _ _) ?_
                        refine v_iconst (pc := 617) C (nI 0) d_Mo_take_617 (by decide +kernel) ?_
                        refine v_iast (pc := 618) C 10 ([(h, ob 7 [.int fl, .ref pa, .ref ca, .int (nI nc), .ref la, .ref ro, .ref co, .ref ea, .int (nI A.length), .int td, .ref tx, .ref sz, .ref lf, .int (nI lz), .ref fo, .int (nI ES.length), .ref f1]), (pa, aI G 5000 P), (ca, aI G 5000 C9), (la, aI G 500 LN), (ro, aI G 1500 RW), (co, aI G 500 CO), (ea, aI G 16000 EA), (tx, aII G 4 tf), (sz, aI G 4 SZ), (lf, aI G 200 LF), (fo, aI G 6400 (upd (upd (upd (upd FO (4 * k + 3) (nI e.1)) (4 * k) (nI 0)) (4 * k + 1) (nI 0)) (4 * k + 2) (nI 0))), (ya, aI G 200 yf)]) rfl (4 * k + 2) rfl (by omega) (by decide) rfl d_Mo_take_618 ?_
                        refine v_iinc (pc := 619) C [(4, .int (nI (k + 1))), (6, .int (nI 1)), (5, .int (nI e.1)), (3, .int (nI b)), (0, .ref h), (1, .int (nI rj)), (2, .int (nI sh))] 2 (nI (k + 1)) d_Mo_take_619 rfl (nI_inc1 _) (by decide) rfl ?_
                        refine v_goto (pc := 622) C 449 d_Mo_take_622 (by decide) ?_
                        refine v_lsub [0, 3, 4, 5, 6] [(4, .int (nI (k + 1))), (3, .int (nI b)), (0, .ref h), (1, .int (nI rj)), (2, .int (nI sh))] rfl ?_
                        have hE9 : shE sh (shF sh 0 (ES.take k)) e = (b, (0, 0, 0, e.1)) := by subst hs1; rw [← hbs rfl, shE_s3 (by omega) (by omega), hp0]
                        exact ih (k + 1) lz LF _ b (by omega) (by omega) h16 hok (by omega) (fun h1 => by rw [h1] at hE9; rw [shF_take he, hE9]) (fos_step (e' := (0, 0, 0, e.1)) hF he (by rw [hE9]) (by rw [pk_un (by omega), pk_un (by omega), pk_us]) (by rw [pk_un (by omega), pk_us]) pk_us (by rw [pk_un (by omega), pk_un (by omega), pk_un (by omega), pk_us]) (fun j hj => by rw [pk_un (by omega), pk_un (by omega), pk_un (by omega), pk_un (by omega)]))
                      · omega
                · refine v_iconst (pc := 549) C (nI 0) d_Mo_take_549 (by decide +kernel) ?_
                  refine v_goto (pc := 550) C 573 d_Mo_take_550 (by decide) ?_
                  refine v_iast (pc := 573) C 10 ([(h, ob 7 [.int fl, .ref pa, .ref ca, .int (nI nc), .ref la, .ref ro, .ref co, .ref ea, .int (nI A.length), .int td, .ref tx, .ref sz, .ref lf, .int (nI lz), .ref fo, .int (nI ES.length), .ref f1]), (pa, aI G 5000 P), (ca, aI G 5000 C9), (la, aI G 500 LN), (ro, aI G 1500 RW), (co, aI G 500 CO), (ea, aI G 16000 EA), (tx, aII G 4 tf), (sz, aI G 4 SZ), (lf, aI G 200 LF), (fo, aI G 6400 (upd FO (4 * k + 3) (nI 0))), (ya, aI G 200 yf)]) rfl (4 * k + 3) rfl (by omega) (by decide) rfl d_Mo_take_573 ?_
                  refine v_iload_n (pc := 574) C 6 d_Mo_take_574 rfl rfl ?_
                  refine v_ifN_eq (pc := 575) C 619 sh d_Mo_take_575 (by decide) (by omega) (fun hs3 => ?_) (fun hs3 => ?_)
                  · refine v_iinc (pc := 619) C [(4, .int (nI (k + 1))), (6, .int (nI 1)), (5, .int (nI e.1)), (3, .int (nI b)), (0, .ref h), (1, .int (nI rj)), (2, .int (nI sh))] 2 (nI (k + 1)) d_Mo_take_619 rfl (nI_inc1 _) (by decide) rfl ?_
                    refine v_goto (pc := 622) C 449 d_Mo_take_622 (by decide) ?_
                    refine v_lsub [0, 3, 4, 5, 6] [(4, .int (nI (k + 1))), (3, .int (nI b)), (0, .ref h), (1, .int (nI rj)), (2, .int (nI sh))] rfl ?_
                    have hE9 : shE sh (shF sh 0 (ES.take k)) e = (shF sh 0 (ES.take k), (e.1, e.2.1, e.2.2.1, 0)) := by subst hs; exact shE_0
                    exact ih (k + 1) lz LF _ b (by omega) (by omega) h16 hok (by omega) (fun h1 => by omega) (fos_step (e' := (e.1, e.2.1, e.2.2.1, 0)) hF he (by rw [hE9]) (by rw [pk_un (by omega)]; exact f0) (by rw [pk_un (by omega)]; exact f1q) (by rw [pk_un (by omega)]; exact f2q) pk_us (fun j hj => pk_un (by omega)))
                  · omega
        · refine v_aload_n (pc := 474) C 3 d_Mo_take_474 rfl rfl ?_
          refine v_get (pc := 475) (Cn := "WeightOrderModel") (T := T_Mo) (N := 17) (ci := 7) (v := .ref fo) C 0 14 rfl rfl hin_Mo (by decide) rfl k_476 rfl d_Mo_take_475 ?_
          refine v_iconst (pc := 478) C (nI 4) d_Mo_take_478 (by decide +kernel) ?_
          refine v_iload (pc := 479) C 1 d_Mo_take_479 rfl ?_
          refine v_imul (pc := 481) C (nI (4 * k)) d_Mo_take_481 (pk_mul _ _) ?_
          refine v_iconst (pc := 482) C (nI 3) d_Mo_take_482 (by decide +kernel) ?_
          refine v_iadd (pc := 483) C (nI (4 * k + 3)) d_Mo_take_483 (nI_add _ _) ?_
          refine v_iald (pc := 484) C 10 rfl (4 * k + 3) rfl (by omega) (by decide) d_Mo_take_484 ?_
          refine v_seti (nI e.2.2.2) f3q ?_
          refine v_iconst (pc := 485) C (nI 1) d_Mo_take_485 (by decide +kernel) ?_
          refine v_icmpN_ne (pc := 486) C 493 e.2.2.2 1 d_Mo_take_486 (by decide) (by omega) (by omega) (fun hv => ?_) (fun hv => ?_)
          · have hv0 : e.2.2.2 = 0 := by omega
            refine v_iconst (pc := 493) C (nI 0) d_Mo_take_493 (by decide +kernel) ?_
            refine v_istore_n (pc := 494) C [(3, .int (nI 0)), (5, .int (nI e.1)), (4, .int (nI k)), (0, .ref h), (1, .int (nI rj)), (2, .int (nI sh))] d_Mo_take_494 rfl (by decide) rfl ?_
            refine v_iload (pc := 495) C 1 d_Mo_take_495 rfl ?_
            refine v_ifN_ne (pc := 497) C 532 e.1 d_Mo_take_497 (by decide) (by omega) (fun hp2 => ?_) (fun hp2 => ?_)
            · refine v_iconst (pc := 532) C (nI 0) d_Mo_take_532 (by decide +kernel) ?_
              refine v_istore (pc := 533) C [(6, .int (nI 0)), (3, .int (nI 0)), (5, .int (nI e.1)), (4, .int (nI k)), (0, .ref h), (1, .int (nI rj)), (2, .int (nI sh))] d_Mo_take_533 (by decide) rfl ?_
              refine v_aload_n (pc := 535) C 4 d_Mo_take_535 rfl rfl ?_
              refine v_get (pc := 536) (Cn := "WeightOrderModel") (T := T_Mo) (N := 17) (ci := 7) (v := .ref fo) C 0 14 rfl rfl hin_Mo (by decide) rfl k_476 rfl d_Mo_take_536 ?_
              refine v_iconst (pc := 539) C (nI 4) d_Mo_take_539 (by decide +kernel) ?_
              refine v_iload (pc := 540) C 3 d_Mo_take_540 rfl ?_
              refine v_imul (pc := 542) C (nI (4 * k)) d_Mo_take_542 (pk_mul _ _) ?_
              refine v_iconst (pc := 543) C (nI 3) d_Mo_take_543 (by decide +kernel) ?_
              refine v_iadd (pc := 544) C (nI (4 * k + 3)) d_Mo_take_544 (nI_add _ _) ?_
              refine v_iload_n (pc := 545) C 6 d_Mo_take_545 rfl rfl ?_
              refine v_ifN_ne (pc := 546) C 553 sh d_Mo_take_546 (by decide) (by omega) (fun hs => ?_) (fun hs => ?_)
              · have hs1 : sh = 1 := by omega
                refine v_iload_n (pc := 553) C 1 d_Mo_take_553 rfl rfl ?_
                refine v_ifN_eq (pc := 554) C 562 0 d_Mo_take_554 (by decide) (by omega) (fun hbz => ?_) (fun hbz => ?_)
                · refine v_iload (pc := 562) C 0 d_Mo_take_562 rfl ?_
                  refine v_ifN_eq (pc := 564) C 571 0 d_Mo_take_564 (by decide) (by omega) (fun hno => ?_) (fun hno => ?_)
                  · refine v_ldc (pc := 571) C 65535 k_543 d_Mo_take_571 ?_
                    refine v_seti (nI 65535) (by decide +kernel) ?_
                    refine v_iast (pc := 573) C 10 ([(h, ob 7 [.int fl, .ref pa, .ref ca, .int (nI nc), .ref la, .ref ro, .ref co, .ref ea, .int (nI A.length), .int td, .ref tx, .ref sz, .ref lf, .int (nI lz), .ref fo, .int (nI ES.length), .ref f1]), (pa, aI G 5000 P), (ca, aI G 5000 C9), (la, aI G 500 LN), (ro, aI G 1500 RW), (co, aI G 500 CO), (ea, aI G 16000 EA), (tx, aII G 4 tf), (sz, aI G 4 SZ), (lf, aI G 200 LF), (fo, aI G 6400 (upd FO (4 * k + 3) (nI 65535))), (ya, aI G 200 yf)]) rfl (4 * k + 3) rfl (by omega) (by decide) rfl d_Mo_take_573 ?_
                    refine v_iload_n (pc := 574) C 6 d_Mo_take_574 rfl rfl ?_
                    refine v_ifN_eq (pc := 575) C 619 sh d_Mo_take_575 (by decide) (by omega) (fun hs3 => ?_) (fun hs3 => ?_)
                    · omega
                    · refine v_iload_n (pc := 578) C 1 d_Mo_take_578 rfl rfl ?_
                      refine v_ifN_ne (pc := 579) C 585 0 d_Mo_take_579 (by decide) (by omega) (fun hb3 => ?_) (fun hb3 => ?_)
                      · omega
                      · refine v_goto (pc := 582) C 619 d_Mo_take_582 (by decide) ?_
                        refine v_iinc (pc := 619) C [(4, .int (nI (k + 1))), (6, .int (nI 0)), (3, .int (nI 0)), (5, .int (nI e.1)), (0, .ref h), (1, .int (nI rj)), (2, .int (nI sh))] 3 (nI (k + 1)) d_Mo_take_619 rfl (nI_inc1 _) (by decide) rfl ?_
                        refine v_goto (pc := 622) C 449 d_Mo_take_622 (by decide) ?_
                        refine v_lsub [0, 2, 4, 5, 6] [(4, .int (nI (k + 1))), (3, .int (nI 0)), (0, .ref h), (1, .int (nI rj)), (2, .int (nI sh))] rfl ?_
                        have hE9 : shE sh (shF sh 0 (ES.take k)) e = (0, (e.1, e.2.1, e.2.2.1, 65535)) := by subst hs1; rw [shE_s1 (by omega) hv0]
                        exact ih (k + 1) lz LF _ 0 (by omega) (by omega) h16 hok (by omega) (fun h1 => by rw [h1] at hE9; rw [shF_take he, hE9]) (fos_step (e' := (e.1, e.2.1, e.2.2.1, 65535)) hF he (by rw [hE9]) (by rw [pk_un (by omega)]; exact f0) (by rw [pk_un (by omega)]; exact f1q) (by rw [pk_un (by omega)]; exact f2q) pk_us (fun j hj => pk_un (by omega)))
                  · omega
                · omega
              · refine v_iconst (pc := 549) C (nI 0) d_Mo_take_549 (by decide +kernel) ?_
                refine v_goto (pc := 550) C 573 d_Mo_take_550 (by decide) ?_
                refine v_iast (pc := 573) C 10 ([(h, ob 7 [.int fl, .ref pa, .ref ca, .int (nI nc), .ref la, .ref ro, .ref co, .ref ea, .int (nI A.length), .int td, .ref tx, .ref sz, .ref lf, .int (nI lz), .ref fo, .int (nI ES.length), .ref f1]), (pa, aI G 5000 P), (ca, aI G 5000 C9), (la, aI G 500 LN), (ro, aI G 1500 RW), (co, aI G 500 CO), (ea, aI G 16000 EA), (tx, aII G 4 tf), (sz, aI G 4 SZ), (lf, aI G 200 LF), (fo, aI G 6400 (upd FO (4 * k + 3) (nI 0))), (ya, aI G 200 yf)]) rfl (4 * k + 3) rfl (by omega) (by decide) rfl d_Mo_take_573 ?_
                refine v_iload_n (pc := 574) C 6 d_Mo_take_574 rfl rfl ?_
                refine v_ifN_eq (pc := 575) C 619 sh d_Mo_take_575 (by decide) (by omega) (fun hs3 => ?_) (fun hs3 => ?_)
                · refine v_iinc (pc := 619) C [(4, .int (nI (k + 1))), (6, .int (nI 0)), (3, .int (nI 0)), (5, .int (nI e.1)), (0, .ref h), (1, .int (nI rj)), (2, .int (nI sh))] 3 (nI (k + 1)) d_Mo_take_619 rfl (nI_inc1 _) (by decide) rfl ?_
                  refine v_goto (pc := 622) C 449 d_Mo_take_622 (by decide) ?_
                  refine v_lsub [0, 2, 4, 5, 6] [(4, .int (nI (k + 1))), (3, .int (nI 0)), (0, .ref h), (1, .int (nI rj)), (2, .int (nI sh))] rfl ?_
                  have hE9 : shE sh (shF sh 0 (ES.take k)) e = (shF sh 0 (ES.take k), (e.1, e.2.1, e.2.2.1, 0)) := by subst hs; exact shE_0
                  exact ih (k + 1) lz LF _ 0 (by omega) (by omega) h16 hok (by omega) (fun h1 => by omega) (fos_step (e' := (e.1, e.2.1, e.2.2.1, 0)) hF he (by rw [hE9]) (by rw [pk_un (by omega)]; exact f0) (by rw [pk_un (by omega)]; exact f1q) (by rw [pk_un (by omega)]; exact f2q) pk_us (fun j hj => pk_un (by omega)))
                · omega
            · omega
          · refine v_iconst (pc := 489) C (nI 1) d_Mo_take_489 (by decide +kernel) ?_
            refine v_goto (pc := 490) C 494 d_Mo_take_490 (by decide) ?_
            refine v_istore_n (pc := 494) C [(3, .int (nI 1)), (5, .int (nI e.1)), (4, .int (nI k)), (0, .ref h), (1, .int (nI rj)), (2, .int (nI sh))] d_Mo_take_494 rfl (by decide) rfl ?_
            refine v_iload (pc := 495) C 1 d_Mo_take_495 rfl ?_
            refine v_ifN_ne (pc := 497) C 532 e.1 d_Mo_take_497 (by decide) (by omega) (fun hp2 => ?_) (fun hp2 => ?_)
            · refine v_iconst (pc := 532) C (nI 0) d_Mo_take_532 (by decide +kernel) ?_
              refine v_istore (pc := 533) C [(6, .int (nI 0)), (3, .int (nI 1)), (5, .int (nI e.1)), (4, .int (nI k)), (0, .ref h), (1, .int (nI rj)), (2, .int (nI sh))] d_Mo_take_533 (by decide) rfl ?_
              refine v_aload_n (pc := 535) C 4 d_Mo_take_535 rfl rfl ?_
              refine v_get (pc := 536) (Cn := "WeightOrderModel") (T := T_Mo) (N := 17) (ci := 7) (v := .ref fo) C 0 14 rfl rfl hin_Mo (by decide) rfl k_476 rfl d_Mo_take_536 ?_
              refine v_iconst (pc := 539) C (nI 4) d_Mo_take_539 (by decide +kernel) ?_
              refine v_iload (pc := 540) C 3 d_Mo_take_540 rfl ?_
              refine v_imul (pc := 542) C (nI (4 * k)) d_Mo_take_542 (pk_mul _ _) ?_
              refine v_iconst (pc := 543) C (nI 3) d_Mo_take_543 (by decide +kernel) ?_
              refine v_iadd (pc := 544) C (nI (4 * k + 3)) d_Mo_take_544 (nI_add _ _) ?_
              refine v_iload_n (pc := 545) C 6 d_Mo_take_545 rfl rfl ?_
              refine v_ifN_ne (pc := 546) C 553 sh d_Mo_take_546 (by decide) (by omega) (fun hs => ?_) (fun hs => ?_)
              · have hs1 : sh = 1 := by omega
                refine v_iload_n (pc := 553) C 1 d_Mo_take_553 rfl rfl ?_
                refine v_ifN_eq (pc := 554) C 562 1 d_Mo_take_554 (by decide) (by omega) (fun hbz => ?_) (fun hbz => ?_)
                · omega
                · refine v_iload (pc := 557) C 2 d_Mo_take_557 rfl ?_
                  refine v_goto (pc := 559) C 573 d_Mo_take_559 (by decide) ?_
                  refine v_iast (pc := 573) C 10 ([(h, ob 7 [.int fl, .ref pa, .ref ca, .int (nI nc), .ref la, .ref ro, .ref co, .ref ea, .int (nI A.length), .int td, .ref tx, .ref sz, .ref lf, .int (nI lz), .ref fo, .int (nI ES.length), .ref f1]), (pa, aI G 5000 P), (ca, aI G 5000 C9), (la, aI G 500 LN), (ro, aI G 1500 RW), (co, aI G 500 CO), (ea, aI G 16000 EA), (tx, aII G 4 tf), (sz, aI G 4 SZ), (lf, aI G 200 LF), (fo, aI G 6400 (upd FO (4 * k + 3) (nI e.1))), (ya, aI G 200 yf)]) rfl (4 * k + 3) rfl (by omega) (by decide) rfl d_Mo_take_573 ?_
                  refine v_iload_n (pc := 574) C 6 d_Mo_take_574 rfl rfl ?_
                  refine v_ifN_eq (pc := 575) C 619 sh d_Mo_take_575 (by decide) (by omega) (fun hs3 => ?_) (fun hs3 => ?_)
                  · omega
                  · refine v_iload_n (pc := 578) C 1 d_Mo_take_578 rfl rfl ?_
                    refine v_ifN_ne (pc := 579) C 585 1 d_Mo_take_579 (by decide) (by omega) (fun hb3 => ?_) (fun hb3 => ?_)
                    · refine v_aload_n (pc := 585) C 4 d_Mo_take_585 rfl rfl ?_
                      refine v_get (pc := 586) (Cn := "WeightOrderModel") (T := T_Mo) (N := 17) (ci := 7) (v := .ref fo) C 0 14 rfl rfl hin_Mo (by decide) rfl k_476 rfl d_Mo_take_586 ?_
                      refine v_iconst (pc := 589) C (nI 4) d_Mo_take_589 (by decide +kernel) ?_
                      refine v_iload (pc := 590) C 3 d_Mo_take_590 rfl ?_
                      refine v_imul (pc := 592) C (nI (4 * k)) d_Mo_take_592 (pk_mul _ _) ?_
                      refine v_iconst (pc := 593) C (nI 0) d_Mo_take_593 (by decide +kernel) ?_
                      refine v_iast (pc := 594) C 10 ([(h, ob 7 [.int fl, .ref pa, .ref ca, .int (nI nc), .ref la, .ref ro, .ref co, .ref ea, .int (nI A.length), .int td, .ref tx, .ref sz, .ref lf, .int (nI lz), .ref fo, .int (nI ES.length), .ref f1]), (pa, aI G 5000 P), (ca, aI G 5000 C9), (la, aI G 500 LN), (ro, aI G 1500 RW), (co, aI G 500 CO), (ea, aI G 16000 EA), (tx, aII G 4 tf), (sz, aI G 4 SZ), (lf, aI G 200 LF), (fo, aI G 6400 (upd (upd FO (4 * k + 3) (nI e.1)) (4 * k) (nI 0))), (ya, aI G 200 yf)]) rfl (4 * k) rfl (by omega) (by decide) rfl d_Mo_take_594 ?_
                      refine v_aload_n (pc := 595) C 4 d_Mo_take_595 rfl rfl ?_
                      refine v_get (pc := 596) (Cn := "WeightOrderModel") (T := T_Mo) (N := 17) (ci := 7) (v := .ref fo) C 0 14 rfl rfl hin_Mo (by decide) rfl k_476 rfl d_Mo_take_596 ?_
                      refine v_iconst (pc := 599) C (nI 4) d_Mo_take_599 (by decide +kernel) ?_
                      refine v_iload (pc := 600) C 3 d_Mo_take_600 rfl ?_
                      refine v_imul (pc := 602) C (nI (4 * k)) d_Mo_take_602 (pk_mul _ _) ?_
                      refine v_iconst (pc := 603) C (nI 1) d_Mo_take_603 (by decide +kernel) ?_
                      refine v_iadd (pc := 604) C (nI (4 * k + 1)) d_Mo_take_604 (nI_add _ _) ?_
                      refine v_iconst (pc := 605) C (nI 0) d_Mo_take_605 (by decide +kernel) ?_
                      refine v_iast (pc := 606) C 10 ([(h, ob 7 [.int fl, .ref pa, .ref ca, .int (nI nc), .ref la, .ref ro, .ref co, .ref ea, .int (nI A.length), .int td, .ref tx, .ref sz, .ref lf, .int (nI lz), .ref fo, .int (nI ES.length), .ref f1]), (pa, aI G 5000 P), (ca, aI G 5000 C9), (la, aI G 500 LN), (ro, aI G 1500 RW), (co, aI G 500 CO), (ea, aI G 16000 EA), (tx, aII G 4 tf), (sz, aI G 4 SZ), (lf, aI G 200 LF), (fo, aI G 6400 (upd (upd (upd FO (4 * k + 3) (nI e.1)) (4 * k) (nI 0)) (4 * k + 1) (nI 0))), (ya, aI G 200 yf)]) rfl (4 * k + 1) rfl (by omega) (by decide) rfl d_Mo_take_606 ?_
                      refine v_aload_n (pc := 607) C 4 d_Mo_take_607 rfl rfl ?_
                      refine v_get (pc := 608) (Cn := "WeightOrderModel") (T := T_Mo) (N := 17) (ci := 7) (v := .ref fo) C 0 14 rfl rfl hin_Mo (by decide) rfl k_476 rfl d_Mo_take_608 ?_
                      refine v_iconst (pc := 611) C (nI 4) d_Mo_take_611 (by decide +kernel) ?_
                      refine v_iload (pc := 612) C 3 d_Mo_take_612 rfl ?_
                      refine v_imul (pc := 614) C (nI (4 * k)) d_Mo_take_614 (pk_mul _ _) ?_
                      refine v_iconst (pc := 615) C (nI 2) d_Mo_take_615 (by decide +kernel) ?_
                      refine v_iadd (pc := 616) C (nI (4 * k + 2)) d_Mo_take_616 (nI_add _ _) ?_
                      refine v_iconst (pc := 617) C (nI 0) d_Mo_take_617 (by decide +kernel) ?_
                      refine v_iast (pc := 618) C 10 ([(h, ob 7 [.int fl, .ref pa, .ref ca, .int (nI nc), .ref la, .ref ro, .ref co, .ref ea, .int (nI A.length), .int td, .ref tx, .ref sz, .ref lf, .int (nI lz), .ref fo, .int (nI ES.length), .ref f1]), (pa, aI G 5000 P), (ca, aI G 5000 C9), (la, aI G 500 LN), (ro, aI G 1500 RW), (co, aI G 500 CO), (ea, aI G 16000 EA), (tx, aII G 4 tf), (sz, aI G 4 SZ), (lf, aI G 200 LF), (fo, aI G 6400 (upd (upd (upd (upd FO (4 * k + 3) (nI e.1)) (4 * k) (nI 0)) (4 * k + 1) (nI 0)) (4 * k + 2) (nI 0))), (ya, aI G 200 yf)]) rfl (4 * k + 2) rfl (by omega) (by decide) rfl d_Mo_take_618 ?_
                      refine v_iinc (pc := 619) C [(4, .int (nI (k + 1))), (6, .int (nI 0)), (3, .int (nI 1)), (5, .int (nI e.1)), (0, .ref h), (1, .int (nI rj)), (2, .int (nI sh))] 3 (nI (k + 1)) d_Mo_take_619 rfl (nI_inc1 _) (by decide) rfl ?_
                      refine v_goto (pc := 622) C 449 d_Mo_take_622 (by decide) ?_
                      refine v_lsub [0, 2, 4, 5, 6] [(4, .int (nI (k + 1))), (3, .int (nI 1)), (0, .ref h), (1, .int (nI rj)), (2, .int (nI sh))] rfl ?_
                      have hE9 : shE sh (shF sh 0 (ES.take k)) e = (1, (0, 0, 0, e.1)) := by subst hs1; rw [shE_s2 (by omega) (by omega), hv]
                      exact ih (k + 1) lz LF _ 1 (by omega) (by omega) h16 hok (by omega) (fun h1 => by rw [h1] at hE9; rw [shF_take he, hE9]) (fos_step (e' := (0, 0, 0, e.1)) hF he (by rw [hE9]) (by rw [pk_un (by omega), pk_un (by omega), pk_us]) (by rw [pk_un (by omega), pk_us]) pk_us (by rw [pk_un (by omega), pk_un (by omega), pk_un (by omega), pk_us]) (fun j hj => by rw [pk_un (by omega), pk_un (by omega), pk_un (by omega), pk_un (by omega)]))
                    · omega
              · refine v_iconst (pc := 549) C (nI 0) d_Mo_take_549 (by decide +kernel) ?_
                refine v_goto (pc := 550) C 573 d_Mo_take_550 (by decide) ?_
                refine v_iast (pc := 573) C 10 ([(h, ob 7 [.int fl, .ref pa, .ref ca, .int (nI nc), .ref la, .ref ro, .ref co, .ref ea, .int (nI A.length), .int td, .ref tx, .ref sz, .ref lf, .int (nI lz), .ref fo, .int (nI ES.length), .ref f1]), (pa, aI G 5000 P), (ca, aI G 5000 C9), (la, aI G 500 LN), (ro, aI G 1500 RW), (co, aI G 500 CO), (ea, aI G 16000 EA), (tx, aII G 4 tf), (sz, aI G 4 SZ), (lf, aI G 200 LF), (fo, aI G 6400 (upd FO (4 * k + 3) (nI 0))), (ya, aI G 200 yf)]) rfl (4 * k + 3) rfl (by omega) (by decide) rfl d_Mo_take_573 ?_
                refine v_iload_n (pc := 574) C 6 d_Mo_take_574 rfl rfl ?_
                refine v_ifN_eq (pc := 575) C 619 sh d_Mo_take_575 (by decide) (by omega) (fun hs3 => ?_) (fun hs3 => ?_)
                · refine v_iinc (pc := 619) C [(4, .int (nI (k + 1))), (6, .int (nI 0)), (3, .int (nI 1)), (5, .int (nI e.1)), (0, .ref h), (1, .int (nI rj)), (2, .int (nI sh))] 3 (nI (k + 1)) d_Mo_take_619 rfl (nI_inc1 _) (by decide) rfl ?_
                  refine v_goto (pc := 622) C 449 d_Mo_take_622 (by decide) ?_
                  refine v_lsub [0, 2, 4, 5, 6] [(4, .int (nI (k + 1))), (3, .int (nI 1)), (0, .ref h), (1, .int (nI rj)), (2, .int (nI sh))] rfl ?_
                  have hE9 : shE sh (shF sh 0 (ES.take k)) e = (shF sh 0 (ES.take k), (e.1, e.2.1, e.2.2.1, 0)) := by subst hs; exact shE_0
                  exact ih (k + 1) lz LF _ 1 (by omega) (by omega) h16 hok (by omega) (fun h1 => by omega) (fos_step (e' := (e.1, e.2.1, e.2.2.1, 0)) hF he (by rw [hE9]) (by rw [pk_un (by omega)]; exact f0) (by rw [pk_un (by omega)]; exact f1q) (by rw [pk_un (by omega)]; exact f2q) pk_us (fun j hj => pk_un (by omega)))
                · omega
            · omega
  have main : ∀ (d : Nat) (f : Nat) (rem : List Nat) (es : List E4) (LF : Nat → Int32) (FO : Nat → Int32), rem.length < d → (rem.length ≤ f) → (es.length + 8 * rem.length ≤ 1600) → (∀ e ∈ es, okR e) → (rem.length ≤ 200) → (LfS LF rem) → (FoS FO es) → (es ++ takeR (fun k => fndA k A) cl (esA A) f rem = ES) → vv K ({ frames := 1, cells := 0, slots := 0, locals := 60 } : Room) G 11 0 0 ([(h, ob 7 [.int fl, .ref pa, .ref ca, .int (nI nc), .ref la, .ref ro, .ref co, .ref ea, .int (nI A.length), .int td, .ref tx, .ref sz, .ref lf, .int (nI rem.length), .ref fo, .int (nI es.length), .ref f1]), (pa, aI G 5000 P), (ca, aI G 5000 C9), (la, aI G 500 LN), (ro, aI G 1500 RW), (co, aI G 500 CO), (ea, aI G 16000 EA), (tx, aII G 4 tf), (sz, aI G 4 SZ), (lf, aI G 200 LF), (fo, aI G 6400 FO), (ya, aI G 200 yf)]) 45 [(0, .ref h), (1, .int (nI rj)), (2, .int (nI sh))] [] := by
    intro d
    induction d with
    | zero => intro f rem es LF FO hm; exact absurd hm (Nat.not_lt_zero _)
    | succ d ih =>
      intro f rem es LF FO hm hf hl hok hr hL hF heq
      refine v_aload_n (pc := 45) C 0 d_Mo_take_45 rfl rfl ?_
      refine v_get (pc := 46) (Cn := "WeightOrderModel") (T := T_Mo) (N := 17) (ci := 7) (v := .int (nI rem.length)) C 0 13 rfl rfl hin_Mo (by decide) rfl k_475 rfl d_Mo_take_46 ?_
      refine v_ifN_le (pc := 49) C 444 rem.length d_Mo_take_49 (by decide) (by omega) (fun hc => ?_) (fun hc => ?_)
      · have hn : rem = [] := List.eq_nil_of_length_eq_zero (by omega)
        rw [hn, takeR_nil, List.append_nil] at heq
        subst heq
        refine v_iconst (pc := 444) C (nI 0) d_Mo_take_444 (by decide +kernel) ?_
        refine v_istore_n (pc := 445) C [(3, .int (nI 0)), (0, .ref h), (1, .int (nI rj)), (2, .int (nI sh))] d_Mo_take_445 rfl (by decide) rfl ?_
        refine v_iconst (pc := 446) C (nI 0) d_Mo_take_446 (by decide +kernel) ?_
        refine v_istore (pc := 447) C [(4, .int (nI 0)), (3, .int (nI 0)), (0, .ref h), (1, .int (nI rj)), (2, .int (nI sh))] d_Mo_take_447 (by decide) rfl ?_
        refine v_lsub [0, 1, 2, 3, 4] [(4, .int (nI 0)), (3, .int (nI 0)), (0, .ref h), (1, .int (nI rj)), (2, .int (nI sh))] rfl ?_
        exact p3 (es.length + 1) 0 _ LF FO 0 (by omega) (Nat.zero_le _) (by omega) hok (by omega) (fun _ => rfl) hF
      · obtain ⟨f, rfl⟩ : ∃ g, f = g + 1 := ⟨f - 1, by omega⟩
        have hne : rem ≠ [] := fun h => by rw [h] at hc; exact absurd hc (by decide)
        rw [takeR_cons hne] at heq
        obtain ⟨a, ha⟩ : ∃ a, rem[0]? = some a := ⟨_, List.getElem?_eq_getElem (by omega)⟩
        have hae := hL.2 0 a ha
        have ha1 := hL.1 a (List.mem_of_getElem? ha)
        have g370 : ∀ (i : Nat) (x : Nat × List E4) (rr : List Nat) (LF : Nat → Int32), (A[i]? = some x) → (rr.length < rem.length) → (LfS LF rr) → (stepR (fun k => fndA k A) cl (esA A) rem = (x.2, rr)) → vv K ({ frames := 1, cells := 0, slots := 0, locals := 60 } : Room) G 11 0 0 ([(h, ob 7 [.int fl, .ref pa, .ref ca, .int (nI nc), .ref la, .ref ro, .ref co, .ref ea, .int (nI A.length), .int td, .ref tx, .ref sz, .ref lf, .int (nI rr.length), .ref fo, .int (nI es.length), .ref f1]), (pa, aI G 5000 P), (ca, aI G 5000 C9), (la, aI G 500 LN), (ro, aI G 1500 RW), (co, aI G 500 CO), (ea, aI G 16000 EA), (tx, aII G 4 tf), (sz, aI G 4 SZ), (lf, aI G 200 LF), (fo, aI G 6400 FO), (ya, aI G 200 yf)]) 370 [(0, .ref h), (1, .int (nI rj)), (2, .int (nI sh)), (4, .int (nI i))] [] := by
          intro i x rr LF hx hrr hL hst
          obtain ⟨x0, x8, xe⟩ := hEM i x hx
          have hi := (List.getElem?_eq_some_iff.mp hx).1
          rw [hst] at heq
          refine v_iconst (pc := 370) C (nI 0) d_Mo_take_370 (by decide +kernel) ?_
          refine v_istore (pc := 371) C [(9, .int (nI 0)), (0, .ref h), (1, .int (nI rj)), (2, .int (nI sh)), (4, .int (nI i))] d_Mo_take_371 (by decide) rfl ?_
          have gl : ∀ (d2 : Nat) (k : Nat) (FO : Nat → Int32), x.2.length - k < d2 → (k ≤ x.2.length) → (FoS FO (es ++ x.2.take k)) → vv K ({ frames := 1, cells := 0, slots := 0, locals := 60 } : Room) G 11 0 0 ([(h, ob 7 [.int fl, .ref pa, .ref ca, .int (nI nc), .ref la, .ref ro, .ref co, .ref ea, .int (nI A.length), .int td, .ref tx, .ref sz, .ref lf, .int (nI rr.length), .ref fo, .int (nI ((es ++ x.2.take k).length)), .ref f1]), (pa, aI G 5000 P), (ca, aI G 5000 C9), (la, aI G 500 LN), (ro, aI G 1500 RW), (co, aI G 500 CO), (ea, aI G 16000 EA), (tx, aII G 4 tf), (sz, aI G 4 SZ), (lf, aI G 200 LF), (fo, aI G 6400 FO), (ya, aI G 200 yf)]) 373 [(9, .int (nI k)), (0, .ref h), (1, .int (nI rj)), (2, .int (nI sh)), (4, .int (nI i))] [] := by
            intro d2
            induction d2 with
            | zero => intro k FO hm; exact absurd hm (Nat.not_lt_zero _)
            | succ d2 ih2 =>
              intro k FO hm hk hF
              have hel : (es ++ x.2.take k).length = es.length + k := by rw [List.length_append, List.length_take]; omega
              refine v_iload (pc := 373) C 0 d_Mo_take_373 rfl ?_
              refine v_aload_n (pc := 375) C 1 d_Mo_take_375 rfl rfl ?_
              refine v_get (pc := 376) (Cn := "WeightOrderModel") (T := T_Mo) (N := 17) (ci := 7) (v := .ref co) C 0 6 rfl rfl hin_Mo (by decide) rfl k_468 rfl d_Mo_take_376 ?_
              refine v_iload (pc := 379) C 4 d_Mo_take_379 rfl ?_
              refine v_iald (pc := 381) C 5 rfl i rfl (by omega) (by decide) d_Mo_take_381 ?_
              refine v_seti (nI x.2.length) x0 ?_
              refine v_icmpN_ge (pc := 382) C 441 k x.2.length d_Mo_take_382 (by decide) (by omega) (by omega) (fun hc9 => ?_) (fun hc9 => ?_)
              · have hke : k = x.2.length := by omega
                subst hke
                rw [List.take_length] at hF hel ⊢
                refine v_goto (pc := 441) C 45 d_Mo_take_441 (by decide) ?_
                refine v_lsub [1, 2, 3] [(0, .ref h), (1, .int (nI rj)), (2, .int (nI sh))] rfl ?_
                refine ih f rr (es ++ x.2) LF FO (by omega) (by omega) (by omega) (fun e he => ?_) (by omega) hL hF (by rw [← heq, List.append_assoc])
                rcases List.mem_append.mp he with he | he
                · exact hok e he
                · obtain ⟨j, hj⟩ := List.getElem?_of_mem he
                  exact (xe j e hj).1
              · obtain ⟨e, he⟩ : ∃ e, x.2[k]? = some e := ⟨_, List.getElem?_eq_getElem hc9⟩
                obtain ⟨ho, e0, e1, e2, e3⟩ := xe k e he
                have htk : es ++ x.2.take (k + 1) = es ++ x.2.take k ++ [e] := by rw [List.take_add_one, he, List.append_assoc]; rfl
                refine v_iconst (pc := 385) C (nI 4) d_Mo_take_385 (by decide +kernel) ?_
                refine v_bipush (pc := 386) C (nI 8) d_Mo_take_386 (by decide +kernel) ?_
                refine v_iload (pc := 388) C 4 d_Mo_take_388 rfl ?_
                refine v_imul (pc := 390) C (nI (8 * i)) d_Mo_take_390 (pk_mul _ _) ?_
                refine v_iload (pc := 391) C 0 d_Mo_take_391 rfl ?_
                refine v_iadd (pc := 393) C (nI (8 * i + k)) d_Mo_take_393 (nI_add _ _) ?_
                refine v_imul (pc := 394) C (nI (4 * (8 * i + k))) d_Mo_take_394 (pk_mul _ _) ?_
                refine v_istore (pc := 395) C [(10, .int (nI (4 * (8 * i + k)))), (9, .int (nI k)), (0, .ref h), (1, .int (nI rj)), (2, .int (nI sh)), (4, .int (nI i))] d_Mo_take_395 (by decide) rfl ?_
                refine v_aload_n (pc := 397) C 2 d_Mo_take_397 rfl rfl ?_
                refine v_aload_n (pc := 398) C 2 d_Mo_take_398 rfl rfl ?_
                refine v_get (pc := 399) (Cn := "WeightOrderModel") (T := T_Mo) (N := 17) (ci := 7) (v := .ref ea) C 0 7 rfl rfl hin_Mo (by decide) rfl k_469 rfl d_Mo_take_399 ?_
                refine v_iload (pc := 402) C 0 d_Mo_take_402 rfl ?_
                refine v_iald (pc := 404) C 6 rfl (4 * (8 * i + k)) rfl (by omega) (by decide) d_Mo_take_404 ?_
                refine v_seti (nI e.1) e0 ?_
                refine v_aload_n (pc := 405) C 2 d_Mo_take_405 rfl rfl ?_
                refine v_get (pc := 406) (Cn := "WeightOrderModel") (T := T_Mo) (N := 17) (ci := 7) (v := .ref ea) C 0 7 rfl rfl hin_Mo (by decide) rfl k_469 rfl d_Mo_take_406 ?_
                refine v_iload (pc := 409) C 0 d_Mo_take_409 rfl ?_
                refine v_iconst (pc := 411) C (nI 1) d_Mo_take_411 (by decide +kernel) ?_
                refine v_iadd (pc := 412) C (nI (4 * (8 * i + k) + 1)) d_Mo_take_412 (nI_add _ _) ?_
                refine v_iald (pc := 413) C 6 rfl (4 * (8 * i + k) + 1) rfl (by omega) (by decide) d_Mo_take_413 ?_
                refine v_seti (nI e.2.1) e1 ?_
                refine v_aload_n (pc := 414) C 2 d_Mo_take_414 rfl rfl ?_
                refine v_get (pc := 415) (Cn := "WeightOrderModel") (T := T_Mo) (N := 17) (ci := 7) (v := .ref ea) C 0 7 rfl rfl hin_Mo (by decide) rfl k_469 rfl d_Mo_take_415 ?_
                refine v_iload (pc := 418) C 0 d_Mo_take_418 rfl ?_
                refine v_iconst (pc := 420) C (nI 2) d_Mo_take_420 (by decide +kernel) ?_
                refine v_iadd (pc := 421) C (nI (4 * (8 * i + k) + 2)) d_Mo_take_421 (nI_add _ _) ?_
                refine v_iald (pc := 422) C 6 rfl (4 * (8 * i + k) + 2) rfl (by omega) (by decide) d_Mo_take_422 ?_
                refine v_seti (nI e.2.2.1) e2 ?_
                refine v_aload_n (pc := 423) C 2 d_Mo_take_423 rfl rfl ?_
                refine v_get (pc := 424) (Cn := "WeightOrderModel") (T := T_Mo) (N := 17) (ci := 7) (v := .ref ea) C 0 7 rfl rfl hin_Mo (by decide) rfl k_469 rfl d_Mo_take_424 ?_
                refine v_iload (pc := 427) C 0 d_Mo_take_427 rfl ?_
                refine v_iconst (pc := 429) C (nI 3) d_Mo_take_429 (by decide +kernel) ?_
                refine v_iadd (pc := 430) C (nI (4 * (8 * i + k) + 3)) d_Mo_take_430 (nI_add _ _) ?_
                refine v_iald (pc := 431) C 6 rfl (4 * (8 * i + k) + 3) rfl (by omega) (by decide) d_Mo_take_431 ?_
                refine v_seti (nI e.2.2.2) e3 ?_
                refine v_callV (pc := 432) (As := [.int (nI e.1), .int (nI e.2.1), .int (nI e.2.2.1), .int (nI e.2.2.2)]) (rest := []) C (c_Mo_give _ G h pa ca la ro co ea tx sz lf fo f1 fl td nc A.length rr.length FO (es ++ x.2.take k) e (by omega) hF) l_Mo_80 ([(pa, aI G 5000 P), (ca, aI G 5000 C9), (la, aI G 500 LN), (ro, aI G 1500 RW), (co, aI G 500 CO), (ea, aI G 16000 EA), (tx, aII G 4 tf), (sz, aI G 4 SZ), (lf, aI G 200 LF), (ya, aI G 200 yf)]) (sp_pos [1, 2, 3, 4, 5, 6, 7, 8, 9, 11] [0, 10] rfl rfl rfl) 0 rfl rfl rfl rfl rfl (Nat.le_of_ble_eq_true rfl) (by decide) (by decide) (by decide) (by decide) d_Mo_take_432 (fun r w' hq => ?_)
                obtain ⟨rfl, FO2, rfl, hF2⟩ := hq
                show vv K ({ frames := 1, cells := 0, slots := 0, locals := 60 } : Room) G 11 0 0 ([(pa, aI G 5000 P), (ca, aI G 5000 C9), (la, aI G 500 LN), (ro, aI G 1500 RW), (co, aI G 500 CO), (ea, aI G 16000 EA), (tx, aII G 4 tf), (sz, aI G 4 SZ), (lf, aI G 200 LF), (ya, aI G 200 yf), (h, ob 7 [.int fl, .ref pa, .ref ca, .int (nI nc), .ref la, .ref ro, .ref co, .ref ea, .int (nI A.length), .int td, .ref tx, .ref sz, .ref lf, .int (nI rr.length), .ref fo, .int (nI (((es ++ x.2.take k) ++ [e]).length)), .ref f1]), (fo, aI G 6400 FO2)]) 435 [(10, .int (nI (4 * (8 * i + k)))), (9, .int (nI k)), (0, .ref h), (1, .int (nI rj)), (2, .int (nI sh)), (4, .int (nI i))] []
                rw [← htk] at hF2 ⊢
                refine v_iinc (pc := 435) C [(9, .int (nI (k + 1))), (10, .int (nI (4 * (8 * i + k)))), (0, .ref h), (1, .int (nI rj)), (2, .int (nI sh)), (4, .int (nI i))] 1 (nI (k + 1)) d_Mo_take_435 rfl (nI_inc1 _) (by decide) rfl ?_
                refine v_goto (pc := 438) C 373 d_Mo_take_438 (by decide) ?_
                refine v_wsub [10, 0, 1, 2, 3, 4, 5, 6, 7, 8, 11, 9] ([(h, ob 7 [.int fl, .ref pa, .ref ca, .int (nI nc), .ref la, .ref ro, .ref co, .ref ea, .int (nI A.length), .int td, .ref tx, .ref sz, .ref lf, .int (nI rr.length), .ref fo, .int (nI ((es ++ x.2.take (k + 1)).length)), .ref f1]), (pa, aI G 5000 P), (ca, aI G 5000 C9), (la, aI G 500 LN), (ro, aI G 1500 RW), (co, aI G 500 CO), (ea, aI G 16000 EA), (tx, aII G 4 tf), (sz, aI G 4 SZ), (lf, aI G 200 LF), (fo, aI G 6400 FO2), (ya, aI G 200 yf)]) rfl rfl ?_
                refine v_lsub [0, 2, 3, 4, 5] [(9, .int (nI (k + 1))), (0, .ref h), (1, .int (nI rj)), (2, .int (nI sh)), (4, .int (nI i))] rfl ?_
                exact ih2 (k + 1) FO2 (by omega) (by omega) hF2
          refine v_lsub [0, 1, 2, 3, 4] [(9, .int (nI 0)), (0, .ref h), (1, .int (nI rj)), (2, .int (nI sh)), (4, .int (nI i))] rfl ?_
          have hF9 : FoS FO (es ++ x.2.take 0) := by rw [List.take_zero, List.append_nil]; exact hF
          have gl9 := gl (x.2.length + 1) 0 FO (by omega) (Nat.zero_le _) hF9
          rw [List.take_zero, List.append_nil] at gl9
          exact gl9
        have hcases := trivial
        have bl : ∀ (d3 : Nat) (n : Nat) (i : Nat) (x0 : Nat × List E4) (b : Nat) (most : Nat) (k : Nat) (P2 : List Nat) (xs : List Nat) (LF : Nat → Int32), xs.length < d3 → (1 ≤ n) → (n ≤ 3) → (A[i]? = some x0) → (b ≤ 1114111) → (most ≤ 254) → (keyR n a b k) → ((P2 ++ xs).length < rem.length) → (LfS LF (P2 ++ xs)) → ((∀ x, A[(beh (fun k => fndA k A) cl k n i most P2 xs).1]? = some x → stepR (fun k => fndA k A) cl (esA A) rem = (x.2, (beh (fun k => fndA k A) cl k n i most P2 xs).2))) → vv K ({ frames := 1, cells := 0, slots := 0, locals := 60 } : Room) G 11 0 0 ([(h, ob 7 [.int fl, .ref pa, .ref ca, .int (nI nc), .ref la, .ref ro, .ref co, .ref ea, .int (nI A.length), .int td, .ref tx, .ref sz, .ref lf, .int (nI ((P2 ++ xs).length)), .ref fo, .int (nI es.length), .ref f1]), (pa, aI G 5000 P), (ca, aI G 5000 C9), (la, aI G 500 LN), (ro, aI G 1500 RW), (co, aI G 500 CO), (ea, aI G 16000 EA), (tx, aII G 4 tf), (sz, aI G 4 SZ), (lf, aI G 200 LF), (fo, aI G 6400 FO), (ya, aI G 200 yf)]) 232 [(3, .int (nI n)), (4, .int (nI i)), (5, .int (nI a)), (6, .int (nI b)), (7, .int (nI most)), (8, .int (nI P2.length)), (0, .ref h), (1, .int (nI rj)), (2, .int (nI sh))] [] := by
          intro d3
          induction d3 with
          | zero => intro n i x0 b most k P2 xs LF hm; exact absurd hm (Nat.not_lt_zero _)
          | succ d3 ih3 =>
            intro n i x0 b most k P2 xs LF hm hn1 hn3 hx0 hb1 hmo hkr hlt hL hbe
            cases xs with
            | nil =>
              have hl0 : (P2 ++ []).length = P2.length := by rw [List.append_nil]
              show vv K ({ frames := 1, cells := 0, slots := 0, locals := 60 } : Room) G 11 0 0 ([(h, ob 7 [.int fl, .ref pa, .ref ca, .int (nI nc), .ref la, .ref ro, .ref co, .ref ea, .int (nI A.length), .int td, .ref tx, .ref sz, .ref lf, .int (nI ((P2 ++ []).length)), .ref fo, .int (nI es.length), .ref f1]), (pa, aI G 5000 P), (ca, aI G 5000 C9), (la, aI G 500 LN), (ro, aI G 1500 RW), (co, aI G 500 CO), (ea, aI G 16000 EA), (tx, aII G 4 tf), (sz, aI G 4 SZ), (lf, aI G 200 LF), (fo, aI G 6400 FO), (ya, aI G 200 yf)]) 232 [(3, .int (nI n)), (4, .int (nI i)), (5, .int (nI a)), (6, .int (nI b)), (7, .int (nI most)), (8, .int (nI P2.length)), (0, .ref h), (1, .int (nI rj)), (2, .int (nI sh))] []
              refine v_iload (pc := 232) C 5 d_Mo_take_232 rfl ?_
              refine v_aload_n (pc := 234) C 6 d_Mo_take_234 rfl rfl ?_
              refine v_get (pc := 235) (Cn := "WeightOrderModel") (T := T_Mo) (N := 17) (ci := 7) (v := .int (nI ((P2 ++ []).length))) C 0 13 rfl rfl hin_Mo (by decide) rfl k_475 rfl d_Mo_take_235 ?_
              refine v_icmpN_ge (pc := 238) C 370 P2.length ((P2 ++ []).length) d_Mo_take_238 (by decide) (by omega) (by omega) (fun hc9 => ?_) (fun hc9 => ?_)
              · refine v_lsub [6, 7, 8, 1] [(0, .ref h), (1, .int (nI rj)), (2, .int (nI sh)), (4, .int (nI i))] rfl ?_
                exact g370 i x0 (P2 ++ []) LF hx0 hlt hL (by rw [List.append_nil]; exact hbe x0 hx0)
              · omega
            | cons x xs =>
              show vv K ({ frames := 1, cells := 0, slots := 0, locals := 60 } : Room) G 11 0 0 ([(h, ob 7 [.int fl, .ref pa, .ref ca, .int (nI nc), .ref la, .ref ro, .ref co, .ref ea, .int (nI A.length), .int td, .ref tx, .ref sz, .ref lf, .int (nI ((P2 ++ x :: xs).length)), .ref fo, .int (nI es.length), .ref f1]), (pa, aI G 5000 P), (ca, aI G 5000 C9), (la, aI G 500 LN), (ro, aI G 1500 RW), (co, aI G 500 CO), (ea, aI G 16000 EA), (tx, aII G 4 tf), (sz, aI G 4 SZ), (lf, aI G 200 LF), (fo, aI G 6400 FO), (ya, aI G 200 yf)]) 232 [(3, .int (nI n)), (4, .int (nI i)), (5, .int (nI a)), (6, .int (nI b)), (7, .int (nI most)), (8, .int (nI P2.length)), (0, .ref h), (1, .int (nI rj)), (2, .int (nI sh))] []
              have hl0 : (P2 ++ x :: xs).length = P2.length + 1 + xs.length := by simp; omega
              have hxl : (x :: xs).length = xs.length + 1 := List.length_cons
              obtain ⟨hxe, hx1⟩ := lfs_at hL
              have hclx := hcl x
              refine v_iload (pc := 232) C 5 d_Mo_take_232 rfl ?_
              refine v_aload_n (pc := 234) C 6 d_Mo_take_234 rfl rfl ?_
              refine v_get (pc := 235) (Cn := "WeightOrderModel") (T := T_Mo) (N := 17) (ci := 7) (v := .int (nI ((P2 ++ x :: xs).length))) C 0 13 rfl rfl hin_Mo (by decide) rfl k_475 rfl d_Mo_take_235 ?_
              refine v_icmpN_ge (pc := 238) C 370 P2.length ((P2 ++ x :: xs).length) d_Mo_take_238 (by decide) (by omega) (by omega) (fun hc9 => ?_) (fun hc9 => ?_)
              · omega
              · refine v_aload_n (pc := 241) C 6 d_Mo_take_241 rfl rfl ?_
                refine v_aload_n (pc := 242) C 6 d_Mo_take_242 rfl rfl ?_
                refine v_get (pc := 243) (Cn := "WeightOrderModel") (T := T_Mo) (N := 17) (ci := 7) (v := .ref lf) C 0 12 rfl rfl hin_Mo (by decide) rfl k_474 rfl d_Mo_take_243 ?_
                refine v_iload (pc := 246) C 5 d_Mo_take_246 rfl ?_
                refine v_iald (pc := 248) C 9 rfl P2.length rfl (by omega) (by decide) d_Mo_take_248 ?_
                refine v_seti (nI x) hxe ?_
                refine v_callV (pc := 249) (As := [.int (nI x)]) (rest := []) C (c_Mo_classOf _ G h pa ca la ro co ea tx sz lf fo f1 fl td nc A.length (P2 ++ x :: xs).length es.length P C9 cl x hnc hC hx1) l_Mo_88 ([(la, aI G 500 LN), (ro, aI G 1500 RW), (co, aI G 500 CO), (ea, aI G 16000 EA), (tx, aII G 4 tf), (sz, aI G 4 SZ), (lf, aI G 200 LF), (fo, aI G 6400 FO), (ya, aI G 200 yf)]) (sp_pos [3, 4, 5, 6, 7, 8, 9, 10, 11] [0, 1, 2] rfl rfl rfl) 0 rfl rfl rfl rfl rfl (Nat.le_of_ble_eq_true rfl) (by decide) (by decide) (by decide) (by decide) d_Mo_take_249 (fun r w' hq => ?_)
                obtain ⟨rfl, rfl⟩ := hq
                show vv K ({ frames := 1, cells := 0, slots := 0, locals := 60 } : Room) G 11 0 0 ([(la, aI G 500 LN), (ro, aI G 1500 RW), (co, aI G 500 CO), (ea, aI G 16000 EA), (tx, aII G 4 tf), (sz, aI G 4 SZ), (lf, aI G 200 LF), (fo, aI G 6400 FO), (ya, aI G 200 yf), (h, ob 7 [.int fl, .ref pa, .ref ca, .int (nI nc), .ref la, .ref ro, .ref co, .ref ea, .int (nI A.length), .int td, .ref tx, .ref sz, .ref lf, .int (nI ((P2 ++ x :: xs).length)), .ref fo, .int (nI es.length), .ref f1]), (pa, aI G 5000 P), (ca, aI G 5000 C9)]) 252 [(3, .int (nI n)), (4, .int (nI i)), (5, .int (nI a)), (6, .int (nI b)), (7, .int (nI most)), (8, .int (nI P2.length)), (0, .ref h), (1, .int (nI rj)), (2, .int (nI sh))] [.int (nI (cl x))]
                refine v_ifN_le (pc := 252) C 370 (cl x) d_Mo_take_252 (by decide) (by omega) (fun hz => ?_) (fun hz => ?_)
                · refine v_wsub [9, 10, 11, 0, 1, 2, 3, 4, 5, 6, 7, 8] ([(h, ob 7 [.int fl, .ref pa, .ref ca, .int (nI nc), .ref la, .ref ro, .ref co, .ref ea, .int (nI A.length), .int td, .ref tx, .ref sz, .ref lf, .int (nI ((P2 ++ x :: xs).length)), .ref fo, .int (nI es.length), .ref f1]), (pa, aI G 5000 P), (ca, aI G 5000 C9), (la, aI G 500 LN), (ro, aI G 1500 RW), (co, aI G 500 CO), (ea, aI G 16000 EA), (tx, aII G 4 tf), (sz, aI G 4 SZ), (lf, aI G 200 LF), (fo, aI G 6400 FO), (ya, aI G 200 yf)]) rfl rfl ?_
                  refine v_lsub [6, 7, 8, 1] [(0, .ref h), (1, .int (nI rj)), (2, .int (nI sh)), (4, .int (nI i))] rfl ?_
                  have hbe9 : beh (fun k => fndA k A) cl k n i most P2 (x :: xs) = (i, P2 ++ x :: xs) := by rw [beh, if_pos (Or.inl (by omega))]
                  rw [hbe9] at hbe
                  exact g370 i x0 (P2 ++ x :: xs) LF hx0 hlt hL (hbe x0 hx0)
                · have hz9 : ¬ cl x = 0 := by omega
                  refine v_aload_n (pc := 255) C 6 d_Mo_take_255 rfl rfl ?_
                  refine v_aload_n (pc := 256) C 6 d_Mo_take_256 rfl rfl ?_
                  refine v_get (pc := 257) (Cn := "WeightOrderModel") (T := T_Mo) (N := 17) (ci := 7) (v := .ref lf) C 9 12 rfl rfl hin_Mo (by decide) rfl k_474 rfl d_Mo_take_257 ?_
                  refine v_iload (pc := 260) C 5 d_Mo_take_260 rfl ?_
                  refine v_iald (pc := 262) C 6 rfl P2.length rfl (by omega) (by decide) d_Mo_take_262 ?_
                  refine v_seti (nI x) hxe ?_
                  refine v_callV (pc := 263) (As := [.int (nI x)]) (rest := []) C (c_Mo_classOf _ G h pa ca la ro co ea tx sz lf fo f1 fl td nc A.length (P2 ++ x :: xs).length es.length P C9 cl x hnc hC hx1) l_Mo_88 ([(la, aI G 500 LN), (ro, aI G 1500 RW), (co, aI G 500 CO), (ea, aI G 16000 EA), (tx, aII G 4 tf), (sz, aI G 4 SZ), (lf, aI G 200 LF), (fo, aI G 6400 FO), (ya, aI G 200 yf)]) (sp_pos [0, 1, 2, 3, 4, 5, 6, 7, 8] [9, 10, 11] rfl rfl rfl) 0 rfl rfl rfl rfl rfl (Nat.le_of_ble_eq_true rfl) (by decide) (by decide) (by decide) (by decide) d_Mo_take_263 (fun r w' hq => ?_)
                  obtain ⟨rfl, rfl⟩ := hq
                  show vv K ({ frames := 1, cells := 0, slots := 0, locals := 60 } : Room) G 11 0 0 ([(la, aI G 500 LN), (ro, aI G 1500 RW), (co, aI G 500 CO), (ea, aI G 16000 EA), (tx, aII G 4 tf), (sz, aI G 4 SZ), (lf, aI G 200 LF), (fo, aI G 6400 FO), (ya, aI G 200 yf), (h, ob 7 [.int fl, .ref pa, .ref ca, .int (nI nc), .ref la, .ref ro, .ref co, .ref ea, .int (nI A.length), .int td, .ref tx, .ref sz, .ref lf, .int (nI ((P2 ++ x :: xs).length)), .ref fo, .int (nI es.length), .ref f1]), (pa, aI G 5000 P), (ca, aI G 5000 C9)]) 266 [(3, .int (nI n)), (4, .int (nI i)), (5, .int (nI a)), (6, .int (nI b)), (7, .int (nI most)), (8, .int (nI P2.length)), (0, .ref h), (1, .int (nI rj)), (2, .int (nI sh))] [.int (nI (cl x))]
                  refine v_istore (pc := 266) C [(9, .int (nI (cl x))), (3, .int (nI n)), (4, .int (nI i)), (5, .int (nI a)), (6, .int (nI b)), (7, .int (nI most)), (8, .int (nI P2.length)), (0, .ref h), (1, .int (nI rj)), (2, .int (nI sh))] d_Mo_take_266 (by decide) rfl ?_
                  refine v_wsub [9, 10, 11, 0, 1, 2, 3, 4, 5, 6, 7, 8] ([(h, ob 7 [.int fl, .ref pa, .ref ca, .int (nI nc), .ref la, .ref ro, .ref co, .ref ea, .int (nI A.length), .int td, .ref tx, .ref sz, .ref lf, .int (nI ((P2 ++ x :: xs).length)), .ref fo, .int (nI es.length), .ref f1]), (pa, aI G 5000 P), (ca, aI G 5000 C9), (la, aI G 500 LN), (ro, aI G 1500 RW), (co, aI G 500 CO), (ea, aI G 16000 EA), (tx, aII G 4 tf), (sz, aI G 4 SZ), (lf, aI G 200 LF), (fo, aI G 6400 FO), (ya, aI G 200 yf)]) rfl rfl ?_
                  have k317 : ∀ (o : Option Nat), ((if most < cl x ∧ n < 3 then fndA (kx k x) A else none) = o) → vv K ({ frames := 1, cells := 0, slots := 0, locals := 60 } : Room) G 11 0 0 ([(h, ob 7 [.int fl, .ref pa, .ref ca, .int (nI nc), .ref la, .ref ro, .ref co, .ref ea, .int (nI A.length), .int td, .ref tx, .ref sz, .ref lf, .int (nI ((P2 ++ x :: xs).length)), .ref fo, .int (nI es.length), .ref f1]), (pa, aI G 5000 P), (ca, aI G 5000 C9), (la, aI G 500 LN), (ro, aI G 1500 RW), (co, aI G 500 CO), (ea, aI G 16000 EA), (tx, aII G 4 tf), (sz, aI G 4 SZ), (lf, aI G 200 LF), (fo, aI G 6400 FO), (ya, aI G 200 yf)]) 317 [(3, .int (nI n)), (4, .int (nI i)), (5, .int (nI a)), (6, .int (nI b)), (7, .int (nI most)), (8, .int (nI P2.length)), (9, .int (nI (cl x))), (0, .ref h), (1, .int (nI rj)), (2, .int (nI sh))] [.int (fiI o)] := by
                    intro o hoo
                    cases o with
                    | none =>
                      show vv K ({ frames := 1, cells := 0, slots := 0, locals := 60 } : Room) G 11 0 0 ([(h, ob 7 [.int fl, .ref pa, .ref ca, .int (nI nc), .ref la, .ref ro, .ref co, .ref ea, .int (nI A.length), .int td, .ref tx, .ref sz, .ref lf, .int (nI ((P2 ++ x :: xs).length)), .ref fo, .int (nI es.length), .ref f1]), (pa, aI G 5000 P), (ca, aI G 5000 C9), (la, aI G 500 LN), (ro, aI G 1500 RW), (co, aI G 500 CO), (ea, aI G 16000 EA), (tx, aII G 4 tf), (sz, aI G 4 SZ), (lf, aI G 200 LF), (fo, aI G 6400 FO), (ya, aI G 200 yf)]) 317 [(3, .int (nI n)), (4, .int (nI i)), (5, .int (nI a)), (6, .int (nI b)), (7, .int (nI most)), (8, .int (nI P2.length)), (9, .int (nI (cl x))), (0, .ref h), (1, .int (nI rj)), (2, .int (nI sh))] [.int (-1)]
                      refine v_istore (pc := 317) C [(10, .int (-1)), (3, .int (nI n)), (4, .int (nI i)), (5, .int (nI a)), (6, .int (nI b)), (7, .int (nI most)), (8, .int (nI P2.length)), (9, .int (nI (cl x))), (0, .ref h), (1, .int (nI rj)), (2, .int (nI sh))] d_Mo_take_317 (by decide) rfl ?_
                      refine v_iload (pc := 319) C 0 d_Mo_take_319 rfl ?_
                      refine v_if_ge (pc := 321) C 339 d_Mo_take_321 (by decide) (fun hg => ?_) (fun hg => ?_)
                      · exact absurd hg (by decide)
                      · have hp9 := beh_go9 (fi := (fun k => fndA k A)) (cl := cl) (k := k) (i := i) (P := P2) (xs := xs) hn3 hz9 hoo
                        rw [hp9] at hbe
                        have hPx : (P2 ++ [x]).length = P2.length + 1 := by simp
                        have hap : P2 ++ x :: xs = (P2 ++ [x]) ++ xs := by simp
                        have hmx : max most (cl x) ≤ 254 := by omega
                        refine v_iload (pc := 324) C 5 d_Mo_take_324 rfl ?_
                        refine v_iload (pc := 326) C 7 d_Mo_take_326 rfl ?_
                        refine v_mmax (pc := 328) C most (cl x) (by omega) (by omega) k_574 (by decide) (by decide) (by decide) (by decide) d_Mo_take_328 ?_
                        refine v_istore (pc := 331) C [(7, .int (nI (max most (cl x)))), (10, .int (-1)), (3, .int (nI n)), (4, .int (nI i)), (5, .int (nI a)), (6, .int (nI b)), (8, .int (nI P2.length)), (9, .int (nI (cl x))), (0, .ref h), (1, .int (nI rj)), (2, .int (nI sh))] d_Mo_take_331 (by decide) rfl ?_
                        refine v_iinc (pc := 333) C [(8, .int (nI (P2.length + 1))), (7, .int (nI (max most (cl x)))), (10, .int (-1)), (3, .int (nI n)), (4, .int (nI i)), (5, .int (nI a)), (6, .int (nI b)), (9, .int (nI (cl x))), (0, .ref h), (1, .int (nI rj)), (2, .int (nI sh))] 6 (nI (P2.length + 1)) d_Mo_take_333 rfl (nI_inc1 _) (by decide) rfl ?_
                        refine v_goto (pc := 336) C 232 d_Mo_take_336 (by decide) ?_
                        refine v_lsub [3, 4, 5, 6, 1, 0, 8, 9, 10] [(3, .int (nI n)), (4, .int (nI i)), (5, .int (nI a)), (6, .int (nI b)), (7, .int (nI (max most (cl x)))), (8, .int (nI (P2.length + 1))), (0, .ref h), (1, .int (nI rj)), (2, .int (nI sh))] rfl ?_
                        have ih9 := ih3 n i x0 b (max most (cl x)) k (P2 ++ [x]) xs LF (by omega) hn1 hn3 hx0 hb1 hmx hkr (by rw [← hap]; exact hlt) (by rw [← hap]; exact hL) hbe
                        rw [← hap, hPx] at ih9
                        exact ih9
                    | some j =>
                      show vv K ({ frames := 1, cells := 0, slots := 0, locals := 60 } : Room) G 11 0 0 ([(h, ob 7 [.int fl, .ref pa, .ref ca, .int (nI nc), .ref la, .ref ro, .ref co, .ref ea, .int (nI A.length), .int td, .ref tx, .ref sz, .ref lf, .int (nI ((P2 ++ x :: xs).length)), .ref fo, .int (nI es.length), .ref f1]), (pa, aI G 5000 P), (ca, aI G 5000 C9), (la, aI G 500 LN), (ro, aI G 1500 RW), (co, aI G 500 CO), (ea, aI G 16000 EA), (tx, aII G 4 tf), (sz, aI G 4 SZ), (lf, aI G 200 LF), (fo, aI G 6400 FO), (ya, aI G 200 yf)]) 317 [(3, .int (nI n)), (4, .int (nI i)), (5, .int (nI a)), (6, .int (nI b)), (7, .int (nI most)), (8, .int (nI P2.length)), (9, .int (nI (cl x))), (0, .ref h), (1, .int (nI rj)), (2, .int (nI sh))] [.int (nI j)]
                      obtain ⟨hn2, hmc, hfj, hh9⟩ := beh_hit (fi := (fun k => fndA k A)) (cl := cl) (k := k) (i := i) (P := P2) (xs := xs) hz9 hoo
                      rw [hh9] at hbe
                      obtain ⟨xj, hxj, -⟩ := fndA_at hfj
                      have hj := (List.getElem?_eq_some_iff.mp hxj).1
                      have htk9 : (P2 ++ x :: xs).take P2.length ++ (P2 ++ x :: xs).drop (P2.length + 1) = P2 ++ xs := by simp [List.drop_append]
                      have hl1 : (P2 ++ x :: xs).length - 1 = (P2 ++ xs).length := by simp
                      have hl2 : (P2 ++ xs).length = P2.length + xs.length := List.length_append
                      refine v_istore (pc := 317) C [(10, .int (nI j)), (3, .int (nI n)), (4, .int (nI i)), (5, .int (nI a)), (6, .int (nI b)), (7, .int (nI most)), (8, .int (nI P2.length)), (9, .int (nI (cl x))), (0, .ref h), (1, .int (nI rj)), (2, .int (nI sh))] d_Mo_take_317 (by decide) rfl ?_
                      refine v_iload (pc := 319) C 0 d_Mo_take_319 rfl ?_
                      refine v_ifN_ge (pc := 321) C 339 j d_Mo_take_321 (by decide) (by omega) (fun hg => ?_) (fun hg => ?_)
                      · refine v_iload (pc := 339) C 0 d_Mo_take_339 rfl ?_
                        refine v_istore (pc := 341) C [(4, .int (nI j)), (10, .int (nI j)), (3, .int (nI n)), (5, .int (nI a)), (6, .int (nI b)), (7, .int (nI most)), (8, .int (nI P2.length)), (9, .int (nI (cl x))), (0, .ref h), (1, .int (nI rj)), (2, .int (nI sh))] d_Mo_take_341 (by decide) rfl ?_
                        refine v_iload_n (pc := 343) C 2 d_Mo_take_343 rfl rfl ?_
                        refine v_iconst (pc := 344) C (nI 1) d_Mo_take_344 (by decide +kernel) ?_
                        refine v_icmpN_ne (pc := 345) C 357 n 1 d_Mo_take_345 (by decide) (by omega) (by omega) (fun hn9 => ?_) (fun hn9 => ?_)
                        · refine v_iinc (pc := 357) C [(3, .int (nI (n + 1))), (4, .int (nI j)), (10, .int (nI j)), (5, .int (nI a)), (6, .int (nI b)), (7, .int (nI most)), (8, .int (nI P2.length)), (9, .int (nI (cl x))), (0, .ref h), (1, .int (nI rj)), (2, .int (nI sh))] 2 (nI (n + 1)) d_Mo_take_357 rfl (nI_inc1 _) (by decide) rfl ?_
                          refine v_aload_n (pc := 360) C 8 d_Mo_take_360 rfl rfl ?_
                          refine v_iload (pc := 361) C 6 d_Mo_take_361 rfl ?_
                          refine v_iconst (pc := 363) C (nI 1) d_Mo_take_363 (by decide +kernel) ?_
                          refine v_callV (pc := 364) (As := [.int (nI P2.length), .int (nI 1)]) (rest := []) C (c_Mo_drop _ G h pa ca la ro co ea tx sz lf fo f1 fl td nc A.length es.length LF (P2 ++ x :: xs) P2.length 1 (by omega) hL (by omega)) l_Mo_84 ([(pa, aI G 5000 P), (ca, aI G 5000 C9), (la, aI G 500 LN), (ro, aI G 1500 RW), (co, aI G 500 CO), (ea, aI G 16000 EA), (tx, aII G 4 tf), (sz, aI G 4 SZ), (fo, aI G 6400 FO), (ya, aI G 200 yf)]) (sp_pos [1, 2, 3, 4, 5, 6, 7, 8, 10, 11] [0, 9] rfl rfl rfl) 0 rfl rfl rfl rfl rfl (Nat.le_of_ble_eq_true rfl) (by decide) (by decide) (by decide) (by decide) d_Mo_take_364 (fun r w' hq => ?_)
                          obtain ⟨rfl, LF2, rfl, hL2⟩ := hq
                          show vv K ({ frames := 1, cells := 0, slots := 0, locals := 60 } : Room) G 11 0 0 ([(pa, aI G 5000 P), (ca, aI G 5000 C9), (la, aI G 500 LN), (ro, aI G 1500 RW), (co, aI G 500 CO), (ea, aI G 16000 EA), (tx, aII G 4 tf), (sz, aI G 4 SZ), (fo, aI G 6400 FO), (ya, aI G 200 yf), (h, ob 7 [.int fl, .ref pa, .ref ca, .int (nI nc), .ref la, .ref ro, .ref co, .ref ea, .int (nI A.length), .int td, .ref tx, .ref sz, .ref lf, .int (nI ((P2 ++ x :: xs).length - 1)), .ref fo, .int (nI es.length), .ref f1]), (lf, aI G 200 LF2)]) 367 [(3, .int (nI (n + 1))), (4, .int (nI j)), (10, .int (nI j)), (5, .int (nI a)), (6, .int (nI b)), (7, .int (nI most)), (8, .int (nI P2.length)), (9, .int (nI (cl x))), (0, .ref h), (1, .int (nI rj)), (2, .int (nI sh))] []
                          rw [htk9] at hL2
                          rw [hl1]
                          refine v_goto (pc := 367) C 232 d_Mo_take_367 (by decide) ?_
                          refine v_wsub [10, 0, 1, 2, 3, 4, 5, 6, 7, 11, 8, 9] ([(h, ob 7 [.int fl, .ref pa, .ref ca, .int (nI nc), .ref la, .ref ro, .ref co, .ref ea, .int (nI A.length), .int td, .ref tx, .ref sz, .ref lf, .int (nI ((P2 ++ xs).length)), .ref fo, .int (nI es.length), .ref f1]), (pa, aI G 5000 P), (ca, aI G 5000 C9), (la, aI G 500 LN), (ro, aI G 1500 RW), (co, aI G 500 CO), (ea, aI G 16000 EA), (tx, aII G 4 tf), (sz, aI G 4 SZ), (lf, aI G 200 LF2), (fo, aI G 6400 FO), (ya, aI G 200 yf)]) rfl rfl ?_
                          refine v_lsub [0, 1, 3, 4, 5, 6, 8, 9, 10] [(3, .int (nI (n + 1))), (4, .int (nI j)), (5, .int (nI a)), (6, .int (nI b)), (7, .int (nI most)), (8, .int (nI P2.length)), (0, .ref h), (1, .int (nI rj)), (2, .int (nI sh))] rfl ?_
                          exact ih3 (n + 1) j xj b most (kx k x) P2 xs LF2 (by omega) (by omega) (by omega) hxj (by omega) hmo ⟨fun z => by omega, fun z => by omega⟩ (by omega) hL2 hbe
                        · refine v_aload_n (pc := 348) C 8 d_Mo_take_348 rfl rfl ?_
                          refine v_get (pc := 349) (Cn := "WeightOrderModel") (T := T_Mo) (N := 17) (ci := 7) (v := .ref lf) C 0 12 rfl rfl hin_Mo (by decide) rfl k_474 rfl d_Mo_take_349 ?_
                          refine v_iload (pc := 352) C 6 d_Mo_take_352 rfl ?_
                          refine v_iald (pc := 354) C 9 rfl P2.length rfl (by omega) (by decide) d_Mo_take_354 ?_
                          refine v_seti (nI x) hxe ?_
                          subst hn9
                          refine v_istore (pc := 355) C [(6, .int (nI x)), (4, .int (nI j)), (10, .int (nI j)), (3, .int (nI 1)), (5, .int (nI a)), (7, .int (nI most)), (8, .int (nI P2.length)), (9, .int (nI (cl x))), (0, .ref h), (1, .int (nI rj)), (2, .int (nI sh))] d_Mo_take_355 (by decide) rfl ?_
                          refine v_iinc (pc := 357) C [(3, .int (nI (1 + 1))), (6, .int (nI x)), (4, .int (nI j)), (10, .int (nI j)), (5, .int (nI a)), (7, .int (nI most)), (8, .int (nI P2.length)), (9, .int (nI (cl x))), (0, .ref h), (1, .int (nI rj)), (2, .int (nI sh))] 3 (nI (1 + 1)) d_Mo_take_357 rfl (nI_inc1 _) (by decide) rfl ?_
                          refine v_aload_n (pc := 360) C 8 d_Mo_take_360 rfl rfl ?_
                          refine v_iload (pc := 361) C 6 d_Mo_take_361 rfl ?_
                          refine v_iconst (pc := 363) C (nI 1) d_Mo_take_363 (by decide +kernel) ?_
                          refine v_callV (pc := 364) (As := [.int (nI P2.length), .int (nI 1)]) (rest := []) C (c_Mo_drop _ G h pa ca la ro co ea tx sz lf fo f1 fl td nc A.length es.length LF (P2 ++ x :: xs) P2.length 1 (by omega) hL (by omega)) l_Mo_84 ([(pa, aI G 5000 P), (ca, aI G 5000 C9), (la, aI G 500 LN), (ro, aI G 1500 RW), (co, aI G 500 CO), (ea, aI G 16000 EA), (tx, aII G 4 tf), (sz, aI G 4 SZ), (fo, aI G 6400 FO), (ya, aI G 200 yf)]) (sp_pos [1, 2, 3, 4, 5, 6, 7, 8, 10, 11] [0, 9] rfl rfl rfl) 0 rfl rfl rfl rfl rfl (Nat.le_of_ble_eq_true rfl) (by decide) (by decide) (by decide) (by decide) d_Mo_take_364 (fun r w' hq => ?_)
                          obtain ⟨rfl, LF2, rfl, hL2⟩ := hq
                          show vv K ({ frames := 1, cells := 0, slots := 0, locals := 60 } : Room) G 11 0 0 ([(pa, aI G 5000 P), (ca, aI G 5000 C9), (la, aI G 500 LN), (ro, aI G 1500 RW), (co, aI G 500 CO), (ea, aI G 16000 EA), (tx, aII G 4 tf), (sz, aI G 4 SZ), (fo, aI G 6400 FO), (ya, aI G 200 yf), (h, ob 7 [.int fl, .ref pa, .ref ca, .int (nI nc), .ref la, .ref ro, .ref co, .ref ea, .int (nI A.length), .int td, .ref tx, .ref sz, .ref lf, .int (nI ((P2 ++ x :: xs).length - 1)), .ref fo, .int (nI es.length), .ref f1]), (lf, aI G 200 LF2)]) 367 [(3, .int (nI (1 + 1))), (6, .int (nI x)), (4, .int (nI j)), (10, .int (nI j)), (5, .int (nI a)), (7, .int (nI most)), (8, .int (nI P2.length)), (9, .int (nI (cl x))), (0, .ref h), (1, .int (nI rj)), (2, .int (nI sh))] []
                          rw [htk9] at hL2
                          rw [hl1]
                          refine v_goto (pc := 367) C 232 d_Mo_take_367 (by decide) ?_
                          refine v_wsub [10, 0, 1, 2, 3, 4, 5, 6, 7, 11, 8, 9] ([(h, ob 7 [.int fl, .ref pa, .ref ca, .int (nI nc), .ref la, .ref ro, .ref co, .ref ea, .int (nI A.length), .int td, .ref tx, .ref sz, .ref lf, .int (nI ((P2 ++ xs).length)), .ref fo, .int (nI es.length), .ref f1]), (pa, aI G 5000 P), (ca, aI G 5000 C9), (la, aI G 500 LN), (ro, aI G 1500 RW), (co, aI G 500 CO), (ea, aI G 16000 EA), (tx, aII G 4 tf), (sz, aI G 4 SZ), (lf, aI G 200 LF2), (fo, aI G 6400 FO), (ya, aI G 200 yf)]) rfl rfl ?_
                          refine v_lsub [0, 2, 4, 1, 5, 6, 8, 9, 10] [(3, .int (nI (1 + 1))), (4, .int (nI j)), (5, .int (nI a)), (6, .int (nI x)), (7, .int (nI most)), (8, .int (nI P2.length)), (0, .ref h), (1, .int (nI rj)), (2, .int (nI sh))] rfl ?_
                          exact ih3 (1 + 1) j xj x most (kx k x) P2 xs LF2 (by omega) (by omega) (by omega) hxj (by omega) hmo ⟨fun z => by omega, fun _ => by rw [hkr.1 rfl]⟩ (by omega) hL2 hbe
                      · omega
                  refine v_iload (pc := 268) C 0 d_Mo_take_268 rfl ?_
                  refine v_iload (pc := 270) C 5 d_Mo_take_270 rfl ?_
                  refine v_icmpN_le (pc := 272) C 316 (cl x) most d_Mo_take_272 (by decide) (by omega) (by omega) (fun hcm => ?_) (fun hcm => ?_)
                  · refine v_iconst (pc := 316) C (-1) d_Mo_take_316 (by decide +kernel) ?_
                    refine v_wsub [0, 1, 2, 3, 4, 5, 6, 7, 8, 9, 10, 11] ([(h, ob 7 [.int fl, .ref pa, .ref ca, .int (nI nc), .ref la, .ref ro, .ref co, .ref ea, .int (nI A.length), .int td, .ref tx, .ref sz, .ref lf, .int (nI ((P2 ++ x :: xs).length)), .ref fo, .int (nI es.length), .ref f1]), (pa, aI G 5000 P), (ca, aI G 5000 C9), (la, aI G 500 LN), (ro, aI G 1500 RW), (co, aI G 500 CO), (ea, aI G 16000 EA), (tx, aII G 4 tf), (sz, aI G 4 SZ), (lf, aI G 200 LF), (fo, aI G 6400 FO), (ya, aI G 200 yf)]) rfl rfl ?_
                    refine v_lsub [1, 2, 3, 4, 5, 6, 0, 7, 8, 9] [(3, .int (nI n)), (4, .int (nI i)), (5, .int (nI a)), (6, .int (nI b)), (7, .int (nI most)), (8, .int (nI P2.length)), (9, .int (nI (cl x))), (0, .ref h), (1, .int (nI rj)), (2, .int (nI sh))] rfl ?_
                    exact k317 none (by rw [if_neg (fun z => by omega)])
                  · refine v_iload_n (pc := 275) C 1 d_Mo_take_275 rfl rfl ?_
                    refine v_iconst (pc := 276) C (nI 3) d_Mo_take_276 (by decide +kernel) ?_
                    refine v_icmpN_ge (pc := 277) C 316 n 3 d_Mo_take_277 (by decide) (by omega) (by omega) (fun hn9 => ?_) (fun hn9 => ?_)
                    · refine v_iconst (pc := 316) C (-1) d_Mo_take_316 (by decide +kernel) ?_
                      refine v_wsub [0, 1, 2, 3, 4, 5, 6, 7, 8, 9, 10, 11] ([(h, ob 7 [.int fl, .ref pa, .ref ca, .int (nI nc), .ref la, .ref ro, .ref co, .ref ea, .int (nI A.length), .int td, .ref tx, .ref sz, .ref lf, .int (nI ((P2 ++ x :: xs).length)), .ref fo, .int (nI es.length), .ref f1]), (pa, aI G 5000 P), (ca, aI G 5000 C9), (la, aI G 500 LN), (ro, aI G 1500 RW), (co, aI G 500 CO), (ea, aI G 16000 EA), (tx, aII G 4 tf), (sz, aI G 4 SZ), (lf, aI G 200 LF), (fo, aI G 6400 FO), (ya, aI G 200 yf)]) rfl rfl ?_
                      refine v_lsub [1, 2, 3, 4, 5, 6, 0, 7, 8, 9] [(3, .int (nI n)), (4, .int (nI i)), (5, .int (nI a)), (6, .int (nI b)), (7, .int (nI most)), (8, .int (nI P2.length)), (9, .int (nI (cl x))), (0, .ref h), (1, .int (nI rj)), (2, .int (nI sh))] rfl ?_
                      exact k317 none (by rw [if_neg (fun z => by omega)])
                    · refine v_aload_n (pc := 280) C 7 d_Mo_take_280 rfl rfl ?_
                      refine v_iload_n (pc := 281) C 1 d_Mo_take_281 rfl rfl ?_
                      refine v_iconst (pc := 282) C (nI 1) d_Mo_take_282 (by decide +kernel) ?_
                      refine v_iadd (pc := 283) C (nI (n + 1)) d_Mo_take_283 (nI_add _ _) ?_
                      refine v_iload (pc := 284) C 3 d_Mo_take_284 rfl ?_
                      refine v_iload_n (pc := 286) C 1 d_Mo_take_286 rfl rfl ?_
                      refine v_iconst (pc := 287) C (nI 1) d_Mo_take_287 (by decide +kernel) ?_
                      refine v_icmpN_ne (pc := 288) C 301 n 1 d_Mo_take_288 (by decide) (by omega) (by omega) (fun hn8 => ?_) (fun hn8 => ?_)
                      · have hn2 : n = 2 := by omega
                        refine v_iload (pc := 301) C 4 d_Mo_take_301 rfl ?_
                        refine v_aload_n (pc := 303) C 7 d_Mo_take_303 rfl rfl ?_
                        refine v_get (pc := 304) (Cn := "WeightOrderModel") (T := T_Mo) (N := 17) (ci := 7) (v := .ref lf) C 0 12 rfl rfl hin_Mo (by decide) rfl k_474 rfl d_Mo_take_304 ?_
                        refine v_iload (pc := 307) C 6 d_Mo_take_307 rfl ?_
                        refine v_iald (pc := 309) C 9 rfl P2.length rfl (by omega) (by decide) d_Mo_take_309 ?_
                        refine v_seti (nI x) hxe ?_
                        refine v_callV (pc := 310) (As := [.int (nI (n + 1)), .int (nI a), .int (nI b), .int (nI x)]) (rest := []) C (c_Mo_lineOf _ G h pa ca la ro co ea tx sz lf fo f1 fl td nc (P2 ++ x :: xs).length es.length LN RW A (n + 1) a b x hA hLM (by omega) (by omega) ha1 hb1 hx1) l_Mo_67 ([(pa, aI G 5000 P), (ca, aI G 5000 C9), (co, aI G 500 CO), (ea, aI G 16000 EA), (tx, aII G 4 tf), (sz, aI G 4 SZ), (lf, aI G 200 LF), (fo, aI G 6400 FO), (ya, aI G 200 yf)]) (sp_pos [1, 2, 5, 6, 7, 8, 9, 10, 11] [0, 3, 4] rfl rfl rfl) 0 rfl rfl rfl rfl rfl (Nat.le_of_ble_eq_true rfl) (by decide) (by decide) (by decide) (by decide) d_Mo_take_310 (fun r w' hq => ?_)
                        obtain ⟨rfl, rfl⟩ := hq
                        show vv K ({ frames := 1, cells := 0, slots := 0, locals := 60 } : Room) G 11 0 0 ([(pa, aI G 5000 P), (ca, aI G 5000 C9), (co, aI G 500 CO), (ea, aI G 16000 EA), (tx, aII G 4 tf), (sz, aI G 4 SZ), (lf, aI G 200 LF), (fo, aI G 6400 FO), (ya, aI G 200 yf), (h, ob 7 [.int fl, .ref pa, .ref ca, .int (nI nc), .ref la, .ref ro, .ref co, .ref ea, .int (nI A.length), .int td, .ref tx, .ref sz, .ref lf, .int (nI ((P2 ++ x :: xs).length)), .ref fo, .int (nI es.length), .ref f1]), (la, aI G 500 LN), (ro, aI G 1500 RW)]) 313 [(9, .int (nI (cl x))), (3, .int (nI n)), (4, .int (nI i)), (5, .int (nI a)), (6, .int (nI b)), (7, .int (nI most)), (8, .int (nI P2.length)), (0, .ref h), (1, .int (nI rj)), (2, .int (nI sh))] [.int (fiI (fndA (keyN (n + 1) a b x) A))]
                        refine v_goto (pc := 313) C 317 d_Mo_take_313 (by decide) ?_
                        refine v_wsub [9, 0, 1, 10, 11, 2, 3, 4, 5, 6, 7, 8] ([(h, ob 7 [.int fl, .ref pa, .ref ca, .int (nI nc), .ref la, .ref ro, .ref co, .ref ea, .int (nI A.length), .int td, .ref tx, .ref sz, .ref lf, .int (nI ((P2 ++ x :: xs).length)), .ref fo, .int (nI es.length), .ref f1]), (pa, aI G 5000 P), (ca, aI G 5000 C9), (la, aI G 500 LN), (ro, aI G 1500 RW), (co, aI G 500 CO), (ea, aI G 16000 EA), (tx, aII G 4 tf), (sz, aI G 4 SZ), (lf, aI G 200 LF), (fo, aI G 6400 FO), (ya, aI G 200 yf)]) rfl rfl ?_
                        refine v_lsub [1, 2, 3, 4, 5, 6, 0, 7, 8, 9] [(3, .int (nI n)), (4, .int (nI i)), (5, .int (nI a)), (6, .int (nI b)), (7, .int (nI most)), (8, .int (nI P2.length)), (9, .int (nI (cl x))), (0, .ref h), (1, .int (nI rj)), (2, .int (nI sh))] rfl ?_
                        have hkk : keyN (n + 1) a b x = kx k x := by rw [hkr.2 hn2, hn2]; rfl
                        rw [hkk]
                        exact k317 _ (by rw [if_pos ⟨by omega, by omega⟩])
                      · refine v_aload_n (pc := 291) C 7 d_Mo_take_291 rfl rfl ?_
                        refine v_get (pc := 292) (Cn := "WeightOrderModel") (T := T_Mo) (N := 17) (ci := 7) (v := .ref lf) C 0 12 rfl rfl hin_Mo (by decide) rfl k_474 rfl d_Mo_take_292 ?_
                        refine v_iload (pc := 295) C 6 d_Mo_take_295 rfl ?_
                        refine v_iald (pc := 297) C 9 rfl P2.length rfl (by omega) (by decide) d_Mo_take_297 ?_
                        refine v_seti (nI x) hxe ?_
                        refine v_goto (pc := 298) C 303 d_Mo_take_298 (by decide) ?_
                        refine v_aload_n (pc := 303) C 7 d_Mo_take_303 rfl rfl ?_
                        refine v_get (pc := 304) (Cn := "WeightOrderModel") (T := T_Mo) (N := 17) (ci := 7) (v := .ref lf) C 0 12 rfl rfl hin_Mo (by decide) rfl k_474 rfl d_Mo_take_304 ?_
                        refine v_iload (pc := 307) C 6 d_Mo_take_307 rfl ?_
                        refine v_iald (pc := 309) C 9 rfl P2.length rfl (by omega) (by decide) d_Mo_take_309 ?_
                        refine v_seti (nI x) hxe ?_
                        refine v_callV (pc := 310) (As := [.int (nI (n + 1)), .int (nI a), .int (nI x), .int (nI x)]) (rest := []) C (c_Mo_lineOf _ G h pa ca la ro co ea tx sz lf fo f1 fl td nc (P2 ++ x :: xs).length es.length LN RW A (n + 1) a x x hA hLM (by omega) (by omega) ha1 hx1 hx1) l_Mo_67 ([(pa, aI G 5000 P), (ca, aI G 5000 C9), (co, aI G 500 CO), (ea, aI G 16000 EA), (tx, aII G 4 tf), (sz, aI G 4 SZ), (lf, aI G 200 LF), (fo, aI G 6400 FO), (ya, aI G 200 yf)]) (sp_pos [1, 2, 5, 6, 7, 8, 9, 10, 11] [0, 3, 4] rfl rfl rfl) 0 rfl rfl rfl rfl rfl (Nat.le_of_ble_eq_true rfl) (by decide) (by decide) (by decide) (by decide) d_Mo_take_310 (fun r w' hq => ?_)
                        obtain ⟨rfl, rfl⟩ := hq
                        show vv K ({ frames := 1, cells := 0, slots := 0, locals := 60 } : Room) G 11 0 0 ([(pa, aI G 5000 P), (ca, aI G 5000 C9), (co, aI G 500 CO), (ea, aI G 16000 EA), (tx, aII G 4 tf), (sz, aI G 4 SZ), (lf, aI G 200 LF), (fo, aI G 6400 FO), (ya, aI G 200 yf), (h, ob 7 [.int fl, .ref pa, .ref ca, .int (nI nc), .ref la, .ref ro, .ref co, .ref ea, .int (nI A.length), .int td, .ref tx, .ref sz, .ref lf, .int (nI ((P2 ++ x :: xs).length)), .ref fo, .int (nI es.length), .ref f1]), (la, aI G 500 LN), (ro, aI G 1500 RW)]) 313 [(9, .int (nI (cl x))), (3, .int (nI n)), (4, .int (nI i)), (5, .int (nI a)), (6, .int (nI b)), (7, .int (nI most)), (8, .int (nI P2.length)), (0, .ref h), (1, .int (nI rj)), (2, .int (nI sh))] [.int (fiI (fndA (keyN (n + 1) a x x) A))]
                        refine v_goto (pc := 313) C 317 d_Mo_take_313 (by decide) ?_
                        refine v_wsub [9, 0, 1, 10, 11, 2, 3, 4, 5, 6, 7, 8] ([(h, ob 7 [.int fl, .ref pa, .ref ca, .int (nI nc), .ref la, .ref ro, .ref co, .ref ea, .int (nI A.length), .int td, .ref tx, .ref sz, .ref lf, .int (nI ((P2 ++ x :: xs).length)), .ref fo, .int (nI es.length), .ref f1]), (pa, aI G 5000 P), (ca, aI G 5000 C9), (la, aI G 500 LN), (ro, aI G 1500 RW), (co, aI G 500 CO), (ea, aI G 16000 EA), (tx, aII G 4 tf), (sz, aI G 4 SZ), (lf, aI G 200 LF), (fo, aI G 6400 FO), (ya, aI G 200 yf)]) rfl rfl ?_
                        refine v_lsub [1, 2, 3, 4, 5, 6, 0, 7, 8, 9] [(3, .int (nI n)), (4, .int (nI i)), (5, .int (nI a)), (6, .int (nI b)), (7, .int (nI most)), (8, .int (nI P2.length)), (9, .int (nI (cl x))), (0, .ref h), (1, .int (nI rj)), (2, .int (nI sh))] rfl ?_
                        have hkk : keyN (n + 1) a x x = kx k x := by rw [hkr.1 hn8, hn8]; rfl
                        rw [hkk]
                        exact k317 _ (by rw [if_pos ⟨by omega, by omega⟩])
        have k142 : ∀ (o : Option (Nat × Nat × Nat)) (bi : Int32) (n : Nat), (bestN (fun k => fndA k A) rem (min 3 rem.length) = o) → (match o with | none => bi = -1 | some u => bi = nI u.2.2 ∧ n = u.2.1) → vv K ({ frames := 1, cells := 0, slots := 0, locals := 60 } : Room) G 11 0 0 ([(h, ob 7 [.int fl, .ref pa, .ref ca, .int (nI nc), .ref la, .ref ro, .ref co, .ref ea, .int (nI A.length), .int td, .ref tx, .ref sz, .ref lf, .int (nI rem.length), .ref fo, .int (nI es.length), .ref f1]), (pa, aI G 5000 P), (ca, aI G 5000 C9), (la, aI G 500 LN), (ro, aI G 1500 RW), (co, aI G 500 CO), (ea, aI G 16000 EA), (tx, aII G 4 tf), (sz, aI G 4 SZ), (lf, aI G 200 LF), (fo, aI G 6400 FO), (ya, aI G 200 yf)]) 142 [(3, .int (nI n)), (4, .int bi), (0, .ref h), (1, .int (nI rj)), (2, .int (nI sh))] [] := by
          intro o bi n hbo hm
          cases o with
          | none =>
            have hm : bi = -1 := hm
            subst hm
            show vv K ({ frames := 1, cells := 0, slots := 0, locals := 60 } : Room) G 11 0 0 ([(h, ob 7 [.int fl, .ref pa, .ref ca, .int (nI nc), .ref la, .ref ro, .ref co, .ref ea, .int (nI A.length), .int td, .ref tx, .ref sz, .ref lf, .int (nI rem.length), .ref fo, .int (nI es.length), .ref f1]), (pa, aI G 5000 P), (ca, aI G 5000 C9), (la, aI G 500 LN), (ro, aI G 1500 RW), (co, aI G 500 CO), (ea, aI G 16000 EA), (tx, aII G 4 tf), (sz, aI G 4 SZ), (lf, aI G 200 LF), (fo, aI G 6400 FO), (ya, aI G 200 yf)]) 142 [(3, .int (nI n)), (4, .int (-1)), (0, .ref h), (1, .int (nI rj)), (2, .int (nI sh))] []
            refine v_iload (pc := 142) C 1 d_Mo_take_142 rfl ?_
            refine v_if_ge (pc := 144) C 195 d_Mo_take_144 (by decide) (fun hg => ?_) (fun hg => ?_)
            · exact absurd hg (by decide)
            · have hst : stepR (fun k => fndA k A) cl (esA A) rem = (impE a, rem.tail) := by unfold stepR; rw [hbo]; simp only; rw [List.headD_eq_head?_getD, List.head?_eq_getElem?, ha]; rfl
              rw [hst] at heq
              have hes1 : (es ++ [(64448 + a / 32768, 32, 2, 0)]).length = es.length + 1 := by simp
              have himp : es ++ [(64448 + a / 32768, 32, 2, 0)] ++ [(a % 32768 + 32768, 0, 0, 0)] = es ++ impE a := by rw [List.append_assoc]; rfl
              refine v_aload_n (pc := 147) C 2 d_Mo_take_147 rfl rfl ?_
              refine v_ldc (pc := 148) C 64448 k_560 d_Mo_take_148 ?_
              refine v_seti (nI 64448) (by decide +kernel) ?_
              refine v_aload_n (pc := 150) C 2 d_Mo_take_150 rfl rfl ?_
              refine v_get (pc := 151) (Cn := "WeightOrderModel") (T := T_Mo) (N := 17) (ci := 7) (v := .ref lf) C 0 12 rfl rfl hin_Mo (by decide) rfl k_474 rfl d_Mo_take_151 ?_
              refine v_iconst (pc := 154) C (nI 0) d_Mo_take_154 (by decide +kernel) ?_
              refine v_iald (pc := 155) C 9 rfl 0 rfl (by omega) (by decide) d_Mo_take_155 ?_
              refine v_seti (nI a) hae ?_
              refine v_ldc (pc := 156) C 32768 k_561 d_Mo_take_156 ?_
              refine v_seti (nI 32768) (by decide +kernel) ?_
              refine v_idiv (pc := 158) C (nI (a / 32768)) d_Mo_take_158 (by decide) (pk_div (by omega) (by decide) (by decide)) ?_
              refine v_iadd (pc := 159) C (nI (64448 + (a / 32768))) d_Mo_take_159 (nI_add _ _) ?_
              refine v_bipush (pc := 160) C (nI 32) d_Mo_take_160 (by decide +kernel) ?_
              refine v_iconst (pc := 162) C (nI 2) d_Mo_take_162 (by decide +kernel) ?_
              refine v_iconst (pc := 163) C (nI 0) d_Mo_take_163 (by decide +kernel) ?_
              refine v_callV (pc := 164) (As := [.int (nI (64448 + (a / 32768))), .int (nI 32), .int (nI 2), .int (nI 0)]) (rest := []) C (c_Mo_give _ G h pa ca la ro co ea tx sz lf fo f1 fl td nc A.length rem.length FO (es) (64448 + a / 32768, 32, 2, 0) (by omega) hF) l_Mo_80 ([(pa, aI G 5000 P), (ca, aI G 5000 C9), (la, aI G 500 LN), (ro, aI G 1500 RW), (co, aI G 500 CO), (ea, aI G 16000 EA), (tx, aII G 4 tf), (sz, aI G 4 SZ), (lf, aI G 200 LF), (ya, aI G 200 yf)]) (sp_pos [1, 2, 3, 4, 5, 6, 7, 8, 9, 11] [0, 10] rfl rfl rfl) 0 rfl rfl rfl rfl rfl (Nat.le_of_ble_eq_true rfl) (by decide) (by decide) (by decide) (by decide) d_Mo_take_164 (fun r w' hq => ?_)
              obtain ⟨rfl, FO2, rfl, hF2⟩ := hq
              show vv K ({ frames := 1, cells := 0, slots := 0, locals := 60 } : Room) G 11 0 0 ([(pa, aI G 5000 P), (ca, aI G 5000 C9), (la, aI G 500 LN), (ro, aI G 1500 RW), (co, aI G 500 CO), (ea, aI G 16000 EA), (tx, aII G 4 tf), (sz, aI G 4 SZ), (lf, aI G 200 LF), (ya, aI G 200 yf), (h, ob 7 [.int fl, .ref pa, .ref ca, .int (nI nc), .ref la, .ref ro, .ref co, .ref ea, .int (nI A.length), .int td, .ref tx, .ref sz, .ref lf, .int (nI rem.length), .ref fo, .int (nI ((es ++ [(64448 + a / 32768, 32, 2, 0)]).length)), .ref f1]), (fo, aI G 6400 FO2)]) 167 [(3, .int (nI n)), (4, .int (-1)), (0, .ref h), (1, .int (nI rj)), (2, .int (nI sh))] []
              refine v_aload_n (pc := 167) C 2 d_Mo_take_167 rfl rfl ?_
              refine v_aload_n (pc := 168) C 2 d_Mo_take_168 rfl rfl ?_
              refine v_get (pc := 169) (Cn := "WeightOrderModel") (T := T_Mo) (N := 17) (ci := 7) (v := .ref lf) C 10 12 rfl rfl hin_Mo (by decide) rfl k_474 rfl d_Mo_take_169 ?_
              refine v_iconst (pc := 172) C (nI 0) d_Mo_take_172 (by decide +kernel) ?_
              refine v_iald (pc := 173) C 8 rfl 0 rfl (by omega) (by decide) d_Mo_take_173 ?_
              refine v_seti (nI a) hae ?_
              refine v_ldc (pc := 174) C 32768 k_561 d_Mo_take_174 ?_
              refine v_seti (nI 32768) (by decide +kernel) ?_
              refine v_irem (pc := 176) C (nI (a % 32768)) d_Mo_take_176 (by decide) (pk_rem (by omega) (by decide) (by decide)) ?_
              refine v_ldc (pc := 177) C 32768 k_561 d_Mo_take_177 ?_
              refine v_seti (nI 32768) (by decide +kernel) ?_
              refine v_iadd (pc := 179) C (nI (a % 32768 + 32768)) d_Mo_take_179 (nI_add _ _) ?_
              refine v_iconst (pc := 180) C (nI 0) d_Mo_take_180 (by decide +kernel) ?_
              refine v_iconst (pc := 181) C (nI 0) d_Mo_take_181 (by decide +kernel) ?_
              refine v_iconst (pc := 182) C (nI 0) d_Mo_take_182 (by decide +kernel) ?_
              refine v_callV (pc := 183) (As := [.int (nI (a % 32768 + 32768)), .int (nI 0), .int (nI 0), .int (nI 0)]) (rest := []) C (c_Mo_give _ G h pa ca la ro co ea tx sz lf fo f1 fl td nc A.length rem.length FO2 (es ++ [(64448 + a / 32768, 32, 2, 0)]) (a % 32768 + 32768, 0, 0, 0) (by omega) hF2) l_Mo_80 ([(pa, aI G 5000 P), (ca, aI G 5000 C9), (la, aI G 500 LN), (ro, aI G 1500 RW), (co, aI G 500 CO), (ea, aI G 16000 EA), (tx, aII G 4 tf), (sz, aI G 4 SZ), (lf, aI G 200 LF), (ya, aI G 200 yf)]) (sp_pos [0, 1, 2, 3, 4, 5, 6, 7, 8, 9] [10, 11] rfl rfl rfl) 0 rfl rfl rfl rfl rfl (Nat.le_of_ble_eq_true rfl) (by decide) (by decide) (by decide) (by decide) d_Mo_take_183 (fun r w' hq => ?_)
              obtain ⟨rfl, FO3, rfl, hF3⟩ := hq
              show vv K ({ frames := 1, cells := 0, slots := 0, locals := 60 } : Room) G 11 0 0 ([(pa, aI G 5000 P), (ca, aI G 5000 C9), (la, aI G 500 LN), (ro, aI G 1500 RW), (co, aI G 500 CO), (ea, aI G 16000 EA), (tx, aII G 4 tf), (sz, aI G 4 SZ), (lf, aI G 200 LF), (ya, aI G 200 yf), (h, ob 7 [.int fl, .ref pa, .ref ca, .int (nI nc), .ref la, .ref ro, .ref co, .ref ea, .int (nI A.length), .int td, .ref tx, .ref sz, .ref lf, .int (nI rem.length), .ref fo, .int (nI ((es ++ [(64448 + a / 32768, 32, 2, 0)] ++ [(a % 32768 + 32768, 0, 0, 0)]).length)), .ref f1]), (fo, aI G 6400 FO3)]) 186 [(3, .int (nI n)), (4, .int (-1)), (0, .ref h), (1, .int (nI rj)), (2, .int (nI sh))] []
              rw [himp] at hF3 ⊢
              show vv K ({ frames := 1, cells := 0, slots := 0, locals := 60 } : Room) G 11 0 0 ([(pa, aI G 5000 P), (ca, aI G 5000 C9), (la, aI G 500 LN), (ro, aI G 1500 RW), (co, aI G 500 CO), (ea, aI G 16000 EA), (tx, aII G 4 tf), (sz, aI G 4 SZ), (lf, aI G 200 LF), (ya, aI G 200 yf), (h, ob 7 [.int fl, .ref pa, .ref ca, .int (nI nc), .ref la, .ref ro, .ref co, .ref ea, .int (nI A.length), .int td, .ref tx, .ref sz, .ref lf, .int (nI rem.length), .ref fo, .int (nI ((es ++ impE a).length)), .ref f1]), (fo, aI G 6400 FO3)]) 186 [(3, .int (nI n)), (4, .int (-1)), (0, .ref h), (1, .int (nI rj)), (2, .int (nI sh))] []
              refine v_aload_n (pc := 186) C 2 d_Mo_take_186 rfl rfl ?_
              refine v_iconst (pc := 187) C (nI 0) d_Mo_take_187 (by decide +kernel) ?_
              refine v_iconst (pc := 188) C (nI 1) d_Mo_take_188 (by decide +kernel) ?_
              refine v_callV (pc := 189) (As := [.int (nI 0), .int (nI 1)]) (rest := []) C (c_Mo_drop _ G h pa ca la ro co ea tx sz lf fo f1 fl td nc A.length (es ++ impE a).length LF rem 0 1 (by omega) hL (by omega)) l_Mo_84 ([(pa, aI G 5000 P), (ca, aI G 5000 C9), (la, aI G 500 LN), (ro, aI G 1500 RW), (co, aI G 500 CO), (ea, aI G 16000 EA), (tx, aII G 4 tf), (sz, aI G 4 SZ), (ya, aI G 200 yf), (fo, aI G 6400 FO3)]) (sp_pos [0, 1, 2, 3, 4, 5, 6, 7, 9, 11] [10, 8] rfl rfl rfl) 0 rfl rfl rfl rfl rfl (Nat.le_of_ble_eq_true rfl) (by decide) (by decide) (by decide) (by decide) d_Mo_take_189 (fun r w' hq => ?_)
              obtain ⟨rfl, LF2, rfl, hL2⟩ := hq
              show vv K ({ frames := 1, cells := 0, slots := 0, locals := 60 } : Room) G 11 0 0 ([(pa, aI G 5000 P), (ca, aI G 5000 C9), (la, aI G 500 LN), (ro, aI G 1500 RW), (co, aI G 500 CO), (ea, aI G 16000 EA), (tx, aII G 4 tf), (sz, aI G 4 SZ), (ya, aI G 200 yf), (fo, aI G 6400 FO3), (h, ob 7 [.int fl, .ref pa, .ref ca, .int (nI nc), .ref la, .ref ro, .ref co, .ref ea, .int (nI A.length), .int td, .ref tx, .ref sz, .ref lf, .int (nI (rem.length - 1)), .ref fo, .int (nI ((es ++ impE a).length)), .ref f1]), (lf, aI G 200 LF2)]) 192 [(3, .int (nI n)), (4, .int (-1)), (0, .ref h), (1, .int (nI rj)), (2, .int (nI sh))] []
              have htl : rem.take 0 ++ rem.drop (0 + 1) = rem.tail := by simp
              have htll : rem.tail.length = rem.length - 1 := List.length_tail
              rw [htl] at hL2
              rw [← htll]
              show vv K ({ frames := 1, cells := 0, slots := 0, locals := 60 } : Room) G 11 0 0 ([(pa, aI G 5000 P), (ca, aI G 5000 C9), (la, aI G 500 LN), (ro, aI G 1500 RW), (co, aI G 500 CO), (ea, aI G 16000 EA), (tx, aII G 4 tf), (sz, aI G 4 SZ), (ya, aI G 200 yf), (fo, aI G 6400 FO3), (h, ob 7 [.int fl, .ref pa, .ref ca, .int (nI nc), .ref la, .ref ro, .ref co, .ref ea, .int (nI A.length), .int td, .ref tx, .ref sz, .ref lf, .int (nI rem.tail.length), .ref fo, .int (nI ((es ++ impE a).length)), .ref f1]), (lf, aI G 200 LF2)]) 192 [(3, .int (nI n)), (4, .int (-1)), (0, .ref h), (1, .int (nI rj)), (2, .int (nI sh))] []
              have hei : (es ++ impE a).length = es.length + 2 := by rw [List.length_append]; rfl
              refine v_goto (pc := 192) C 45 d_Mo_take_192 (by decide) ?_
              refine v_wsub [10, 0, 1, 2, 3, 4, 5, 6, 7, 11, 9, 8] ([(h, ob 7 [.int fl, .ref pa, .ref ca, .int (nI nc), .ref la, .ref ro, .ref co, .ref ea, .int (nI A.length), .int td, .ref tx, .ref sz, .ref lf, .int (nI rem.tail.length), .ref fo, .int (nI ((es ++ impE a).length)), .ref f1]), (pa, aI G 5000 P), (ca, aI G 5000 C9), (la, aI G 500 LN), (ro, aI G 1500 RW), (co, aI G 500 CO), (ea, aI G 16000 EA), (tx, aII G 4 tf), (sz, aI G 4 SZ), (lf, aI G 200 LF2), (fo, aI G 6400 FO3), (ya, aI G 200 yf)]) rfl rfl ?_
              refine v_lsub [2, 3, 4] [(0, .ref h), (1, .int (nI rj)), (2, .int (nI sh))] rfl ?_
              refine ih f rem.tail (es ++ impE a) LF2 FO3 (by omega) (by omega) (by omega) (fun e he => ?_) (by omega) hL2 hF3 (by rw [← heq, List.append_assoc])
              rcases List.mem_append.mp he with he | he
              · exact hok e he
              · exact impE_ok ha1 e he
          | some u =>
            obtain ⟨kk, n9, i⟩ := u
            obtain ⟨rfl, rfl⟩ : bi = nI i ∧ n = n9 := hm
            show vv K ({ frames := 1, cells := 0, slots := 0, locals := 60 } : Room) G 11 0 0 ([(h, ob 7 [.int fl, .ref pa, .ref ca, .int (nI nc), .ref la, .ref ro, .ref co, .ref ea, .int (nI A.length), .int td, .ref tx, .ref sz, .ref lf, .int (nI rem.length), .ref fo, .int (nI es.length), .ref f1]), (pa, aI G 5000 P), (ca, aI G 5000 C9), (la, aI G 500 LN), (ro, aI G 1500 RW), (co, aI G 500 CO), (ea, aI G 16000 EA), (tx, aII G 4 tf), (sz, aI G 4 SZ), (lf, aI G 200 LF), (fo, aI G 6400 FO), (ya, aI G 200 yf)]) 142 [(3, .int (nI n)), (4, .int (nI i)), (0, .ref h), (1, .int (nI rj)), (2, .int (nI sh))] []
            obtain ⟨hn1, hn2, hkk, hfi⟩ := bestN_len hbo
            have hn3 : n ≤ 3 := by omega
            have hnl : n ≤ rem.length := by omega
            obtain ⟨x0, hx0, -⟩ := fndA_at hfi
            have hi := (List.getElem?_eq_some_iff.mp hx0).1
            have hdl : (rem.drop n).length = rem.length - n := List.length_drop
            have hdt : rem.take 0 ++ rem.drop (0 + n) = rem.drop n := by simp
            have hbe : ∀ x, A[(beh (fun k => fndA k A) cl kk n i 0 [] (rem.drop n)).1]? = some x → stepR (fun k => fndA k A) cl (esA A) rem = (x.2, (beh (fun k => fndA k A) cl kk n i 0 [] (rem.drop n)).2) := fun x hx => by unfold stepR; rw [hbo]; simp only; rw [esA_get hx]
            refine v_iload (pc := 142) C 1 d_Mo_take_142 rfl ?_
            refine v_ifN_ge (pc := 144) C 195 i d_Mo_take_144 (by decide) (by omega) (fun hg => ?_) (fun hg => ?_)
            · refine v_aload_n (pc := 195) C 2 d_Mo_take_195 rfl rfl ?_
              refine v_get (pc := 196) (Cn := "WeightOrderModel") (T := T_Mo) (N := 17) (ci := 7) (v := .ref lf) C 0 12 rfl rfl hin_Mo (by decide) rfl k_474 rfl d_Mo_take_196 ?_
              refine v_iconst (pc := 199) C (nI 0) d_Mo_take_199 (by decide +kernel) ?_
              refine v_iald (pc := 200) C 9 rfl 0 rfl (by omega) (by decide) d_Mo_take_200 ?_
              refine v_seti (nI a) hae ?_
              refine v_istore (pc := 201) C [(5, .int (nI a)), (3, .int (nI n)), (4, .int (nI i)), (0, .ref h), (1, .int (nI rj)), (2, .int (nI sh))] d_Mo_take_201 (by decide) rfl ?_
              refine v_iload_n (pc := 203) C 1 d_Mo_take_203 rfl rfl ?_
              refine v_iconst (pc := 204) C (nI 1) d_Mo_take_204 (by decide +kernel) ?_
              refine v_icmpN_le (pc := 205) C 217 n 1 d_Mo_take_205 (by decide) (by omega) (by omega) (fun hn9 => ?_) (fun hn9 => ?_)
              · refine v_iconst (pc := 217) C (nI 0) d_Mo_take_217 (by decide +kernel) ?_
                refine v_istore (pc := 218) C [(6, .int (nI 0)), (5, .int (nI a)), (3, .int (nI n)), (4, .int (nI i)), (0, .ref h), (1, .int (nI rj)), (2, .int (nI sh))] d_Mo_take_218 (by decide) rfl ?_
                refine v_aload_n (pc := 220) C 4 d_Mo_take_220 rfl rfl ?_
                refine v_iconst (pc := 221) C (nI 0) d_Mo_take_221 (by decide +kernel) ?_
                refine v_iload_n (pc := 222) C 2 d_Mo_take_222 rfl rfl ?_
                refine v_callV (pc := 223) (As := [.int (nI 0), .int (nI n)]) (rest := []) C (c_Mo_drop _ G h pa ca la ro co ea tx sz lf fo f1 fl td nc A.length es.length LF rem 0 n (by omega) hL (by omega)) l_Mo_84 ([(pa, aI G 5000 P), (ca, aI G 5000 C9), (la, aI G 500 LN), (ro, aI G 1500 RW), (co, aI G 500 CO), (ea, aI G 16000 EA), (tx, aII G 4 tf), (sz, aI G 4 SZ), (fo, aI G 6400 FO), (ya, aI G 200 yf)]) (sp_pos [1, 2, 3, 4, 5, 6, 7, 8, 10, 11] [0, 9] rfl rfl rfl) 0 rfl rfl rfl rfl rfl (Nat.le_of_ble_eq_true rfl) (by decide) (by decide) (by decide) (by decide) d_Mo_take_223 (fun r w' hq => ?_)
                obtain ⟨rfl, LF2, rfl, hL2⟩ := hq
                show vv K ({ frames := 1, cells := 0, slots := 0, locals := 60 } : Room) G 11 0 0 ([(pa, aI G 5000 P), (ca, aI G 5000 C9), (la, aI G 500 LN), (ro, aI G 1500 RW), (co, aI G 500 CO), (ea, aI G 16000 EA), (tx, aII G 4 tf), (sz, aI G 4 SZ), (fo, aI G 6400 FO), (ya, aI G 200 yf), (h, ob 7 [.int fl, .ref pa, .ref ca, .int (nI nc), .ref la, .ref ro, .ref co, .ref ea, .int (nI A.length), .int td, .ref tx, .ref sz, .ref lf, .int (nI (rem.length - n)), .ref fo, .int (nI es.length), .ref f1]), (lf, aI G 200 LF2)]) 226 [(6, .int (nI 0)), (5, .int (nI a)), (3, .int (nI n)), (4, .int (nI i)), (0, .ref h), (1, .int (nI rj)), (2, .int (nI sh))] []
                rw [hdt] at hL2
                rw [← hdl]
                refine v_iconst (pc := 226) C (nI 0) d_Mo_take_226 (by decide +kernel) ?_
                refine v_istore (pc := 227) C [(7, .int (nI 0)), (6, .int (nI 0)), (5, .int (nI a)), (3, .int (nI n)), (4, .int (nI i)), (0, .ref h), (1, .int (nI rj)), (2, .int (nI sh))] d_Mo_take_227 (by decide) rfl ?_
                refine v_iconst (pc := 229) C (nI 0) d_Mo_take_229 (by decide +kernel) ?_
                refine v_istore (pc := 230) C [(8, .int (nI 0)), (7, .int (nI 0)), (6, .int (nI 0)), (5, .int (nI a)), (3, .int (nI n)), (4, .int (nI i)), (0, .ref h), (1, .int (nI rj)), (2, .int (nI sh))] d_Mo_take_230 (by decide) rfl ?_
                refine v_wsub [10, 0, 1, 2, 3, 4, 5, 6, 7, 11, 8, 9] ([(h, ob 7 [.int fl, .ref pa, .ref ca, .int (nI nc), .ref la, .ref ro, .ref co, .ref ea, .int (nI A.length), .int td, .ref tx, .ref sz, .ref lf, .int (nI ((rem.drop n).length)), .ref fo, .int (nI es.length), .ref f1]), (pa, aI G 5000 P), (ca, aI G 5000 C9), (la, aI G 500 LN), (ro, aI G 1500 RW), (co, aI G 500 CO), (ea, aI G 16000 EA), (tx, aII G 4 tf), (sz, aI G 4 SZ), (lf, aI G 200 LF2), (fo, aI G 6400 FO), (ya, aI G 200 yf)]) rfl rfl ?_
                refine v_lsub [4, 5, 3, 2, 1, 0, 6, 7, 8] [(3, .int (nI n)), (4, .int (nI i)), (5, .int (nI a)), (6, .int (nI 0)), (7, .int (nI 0)), (8, .int (nI 0)), (0, .ref h), (1, .int (nI rj)), (2, .int (nI sh))] rfl ?_
                exact bl (rem.length + 1) n i x0 0 0 kk [] (rem.drop n) LF2 (by omega) hn1 hn3 hx0 (by decide) (by decide) ⟨fun z => by rw [hkk, z, keyP_1 (b := 0) (c := 0) ha]; rfl, fun z => by omega⟩ (by show (rem.drop n).length < _; omega) hL2 hbe
              · obtain ⟨b, hb⟩ : ∃ b, rem[1]? = some b := ⟨_, List.getElem?_eq_getElem (by omega)⟩
                have hbe2 := hL.2 1 b hb
                have hb1 := hL.1 b (List.mem_of_getElem? hb)
                refine v_aload_n (pc := 208) C 3 d_Mo_take_208 rfl rfl ?_
                refine v_get (pc := 209) (Cn := "WeightOrderModel") (T := T_Mo) (N := 17) (ci := 7) (v := .ref lf) C 0 12 rfl rfl hin_Mo (by decide) rfl k_474 rfl d_Mo_take_209 ?_
                refine v_iconst (pc := 212) C (nI 1) d_Mo_take_212 (by decide +kernel) ?_
                refine v_iald (pc := 213) C 9 rfl 1 rfl (by omega) (by decide) d_Mo_take_213 ?_
                refine v_seti (nI b) hbe2 ?_
                refine v_goto (pc := 214) C 218 d_Mo_take_214 (by decide) ?_
                refine v_istore (pc := 218) C [(6, .int (nI b)), (5, .int (nI a)), (3, .int (nI n)), (4, .int (nI i)), (0, .ref h), (1, .int (nI rj)), (2, .int (nI sh))] d_Mo_take_218 (by decide) rfl ?_
                refine v_aload_n (pc := 220) C 4 d_Mo_take_220 rfl rfl ?_
                refine v_iconst (pc := 221) C (nI 0) d_Mo_take_221 (by decide +kernel) ?_
                refine v_iload_n (pc := 222) C 2 d_Mo_take_222 rfl rfl ?_
                refine v_callV (pc := 223) (As := [.int (nI 0), .int (nI n)]) (rest := []) C (c_Mo_drop _ G h pa ca la ro co ea tx sz lf fo f1 fl td nc A.length es.length LF rem 0 n (by omega) hL (by omega)) l_Mo_84 ([(pa, aI G 5000 P), (ca, aI G 5000 C9), (la, aI G 500 LN), (ro, aI G 1500 RW), (co, aI G 500 CO), (ea, aI G 16000 EA), (tx, aII G 4 tf), (sz, aI G 4 SZ), (fo, aI G 6400 FO), (ya, aI G 200 yf)]) (sp_pos [1, 2, 3, 4, 5, 6, 7, 8, 10, 11] [0, 9] rfl rfl rfl) 0 rfl rfl rfl rfl rfl (Nat.le_of_ble_eq_true rfl) (by decide) (by decide) (by decide) (by decide) d_Mo_take_223 (fun r w' hq => ?_)
                obtain ⟨rfl, LF2, rfl, hL2⟩ := hq
                show vv K ({ frames := 1, cells := 0, slots := 0, locals := 60 } : Room) G 11 0 0 ([(pa, aI G 5000 P), (ca, aI G 5000 C9), (la, aI G 500 LN), (ro, aI G 1500 RW), (co, aI G 500 CO), (ea, aI G 16000 EA), (tx, aII G 4 tf), (sz, aI G 4 SZ), (fo, aI G 6400 FO), (ya, aI G 200 yf), (h, ob 7 [.int fl, .ref pa, .ref ca, .int (nI nc), .ref la, .ref ro, .ref co, .ref ea, .int (nI A.length), .int td, .ref tx, .ref sz, .ref lf, .int (nI (rem.length - n)), .ref fo, .int (nI es.length), .ref f1]), (lf, aI G 200 LF2)]) 226 [(6, .int (nI b)), (5, .int (nI a)), (3, .int (nI n)), (4, .int (nI i)), (0, .ref h), (1, .int (nI rj)), (2, .int (nI sh))] []
                rw [hdt] at hL2
                rw [← hdl]
                refine v_iconst (pc := 226) C (nI 0) d_Mo_take_226 (by decide +kernel) ?_
                refine v_istore (pc := 227) C [(7, .int (nI 0)), (6, .int (nI b)), (5, .int (nI a)), (3, .int (nI n)), (4, .int (nI i)), (0, .ref h), (1, .int (nI rj)), (2, .int (nI sh))] d_Mo_take_227 (by decide) rfl ?_
                refine v_iconst (pc := 229) C (nI 0) d_Mo_take_229 (by decide +kernel) ?_
                refine v_istore (pc := 230) C [(8, .int (nI 0)), (7, .int (nI 0)), (6, .int (nI b)), (5, .int (nI a)), (3, .int (nI n)), (4, .int (nI i)), (0, .ref h), (1, .int (nI rj)), (2, .int (nI sh))] d_Mo_take_230 (by decide) rfl ?_
                refine v_wsub [10, 0, 1, 2, 3, 4, 5, 6, 7, 11, 8, 9] ([(h, ob 7 [.int fl, .ref pa, .ref ca, .int (nI nc), .ref la, .ref ro, .ref co, .ref ea, .int (nI A.length), .int td, .ref tx, .ref sz, .ref lf, .int (nI ((rem.drop n).length)), .ref fo, .int (nI es.length), .ref f1]), (pa, aI G 5000 P), (ca, aI G 5000 C9), (la, aI G 500 LN), (ro, aI G 1500 RW), (co, aI G 500 CO), (ea, aI G 16000 EA), (tx, aII G 4 tf), (sz, aI G 4 SZ), (lf, aI G 200 LF2), (fo, aI G 6400 FO), (ya, aI G 200 yf)]) rfl rfl ?_
                refine v_lsub [4, 5, 3, 2, 1, 0, 6, 7, 8] [(3, .int (nI n)), (4, .int (nI i)), (5, .int (nI a)), (6, .int (nI b)), (7, .int (nI 0)), (8, .int (nI 0)), (0, .ref h), (1, .int (nI rj)), (2, .int (nI sh))] rfl ?_
                exact bl (rem.length + 1) n i x0 b 0 kk [] (rem.drop n) LF2 (by omega) hn1 hn3 hx0 hb1 (by decide) ⟨fun z => by omega, fun z => by rw [hkk, z, keyP_2 (c := 0) ha hb]; rfl⟩ (by show (rem.drop n).length < _; omega) hL2 hbe
            · omega
        refine v_iconst (pc := 52) C (nI 0) d_Mo_take_52 (by decide +kernel) ?_
        refine v_istore_n (pc := 53) C [(3, .int (nI 0)), (0, .ref h), (1, .int (nI rj)), (2, .int (nI sh))] d_Mo_take_53 rfl (by decide) rfl ?_
        refine v_iconst (pc := 54) C (-1) d_Mo_take_54 (by decide +kernel) ?_
        refine v_istore (pc := 55) C [(4, .int (-1)), (3, .int (nI 0)), (0, .ref h), (1, .int (nI rj)), (2, .int (nI sh))] d_Mo_take_55 (by decide) rfl ?_
        refine v_iconst (pc := 57) C (nI 1) d_Mo_take_57 (by decide +kernel) ?_
        refine v_istore (pc := 58) C [(5, .int (nI 1)), (4, .int (-1)), (3, .int (nI 0)), (0, .ref h), (1, .int (nI rj)), (2, .int (nI sh))] d_Mo_take_58 (by decide) rfl ?_
        have kl : ∀ (d4 : Nat) (j : Nat) (o : Option (Nat × Nat × Nat)) (bi : Int32) (n : Nat), 3 - j < d4 → (j ≤ 3) → (j ≤ rem.length) → (bestN (fun k => fndA k A) rem j = o) → (match o with | none => bi = -1 | some u => bi = nI u.2.2 ∧ n = u.2.1) → vv K ({ frames := 1, cells := 0, slots := 0, locals := 60 } : Room) G 11 0 0 ([(h, ob 7 [.int fl, .ref pa, .ref ca, .int (nI nc), .ref la, .ref ro, .ref co, .ref ea, .int (nI A.length), .int td, .ref tx, .ref sz, .ref lf, .int (nI rem.length), .ref fo, .int (nI es.length), .ref f1]), (pa, aI G 5000 P), (ca, aI G 5000 C9), (la, aI G 500 LN), (ro, aI G 1500 RW), (co, aI G 500 CO), (ea, aI G 16000 EA), (tx, aII G 4 tf), (sz, aI G 4 SZ), (lf, aI G 200 LF), (fo, aI G 6400 FO), (ya, aI G 200 yf)]) 60 [(5, .int (nI (j + 1))), (3, .int (nI n)), (4, .int bi), (0, .ref h), (1, .int (nI rj)), (2, .int (nI sh))] [] := by
          intro d4
          induction d4 with
          | zero => intro j o bi n hm; exact absurd hm (Nat.not_lt_zero _)
          | succ d4 ih4 =>
            intro j o bi n hm hj3 hjl hbo hm
            refine v_iload (pc := 60) C 0 d_Mo_take_60 rfl ?_
            refine v_iconst (pc := 62) C (nI 3) d_Mo_take_62 (by decide +kernel) ?_
            refine v_icmpN_gt (pc := 63) C 142 (j + 1) 3 d_Mo_take_63 (by decide) (by omega) (by omega) (fun h1 => ?_) (fun h1 => ?_)
            · refine v_lsub [1, 2, 3, 4, 5] [(3, .int (nI n)), (4, .int bi), (0, .ref h), (1, .int (nI rj)), (2, .int (nI sh))] rfl ?_
              exact k142 o bi n (by rw [show min 3 rem.length = j by omega]; exact hbo) hm
            · refine v_iload (pc := 66) C 0 d_Mo_take_66 rfl ?_
              refine v_aload_n (pc := 68) C 3 d_Mo_take_68 rfl rfl ?_
              refine v_get (pc := 69) (Cn := "WeightOrderModel") (T := T_Mo) (N := 17) (ci := 7) (v := .int (nI rem.length)) C 0 13 rfl rfl hin_Mo (by decide) rfl k_475 rfl d_Mo_take_69 ?_
              refine v_icmpN_gt (pc := 72) C 142 (j + 1) rem.length d_Mo_take_72 (by decide) (by omega) (by omega) (fun h2 => ?_) (fun h2 => ?_)
              · refine v_lsub [1, 2, 3, 4, 5] [(3, .int (nI n)), (4, .int bi), (0, .ref h), (1, .int (nI rj)), (2, .int (nI sh))] rfl ?_
                exact k142 o bi n (by rw [show min 3 rem.length = j by omega]; exact hbo) hm
              · have k119 : ∀ (o9 : Option Nat), (fndA (keyP rem (j + 1)) A = o9) → vv K ({ frames := 1, cells := 0, slots := 0, locals := 60 } : Room) G 11 0 0 ([(h, ob 7 [.int fl, .ref pa, .ref ca, .int (nI nc), .ref la, .ref ro, .ref co, .ref ea, .int (nI A.length), .int td, .ref tx, .ref sz, .ref lf, .int (nI rem.length), .ref fo, .int (nI es.length), .ref f1]), (pa, aI G 5000 P), (ca, aI G 5000 C9), (la, aI G 500 LN), (ro, aI G 1500 RW), (co, aI G 500 CO), (ea, aI G 16000 EA), (tx, aII G 4 tf), (sz, aI G 4 SZ), (lf, aI G 200 LF), (fo, aI G 6400 FO), (ya, aI G 200 yf)]) 119 [(5, .int (nI (j + 1))), (3, .int (nI n)), (4, .int bi), (0, .ref h), (1, .int (nI rj)), (2, .int (nI sh))] [.int (fiI o9)] := by
                  intro o9 ho9
                  cases o9 with
                  | none =>
                    show vv K ({ frames := 1, cells := 0, slots := 0, locals := 60 } : Room) G 11 0 0 ([(h, ob 7 [.int fl, .ref pa, .ref ca, .int (nI nc), .ref la, .ref ro, .ref co, .ref ea, .int (nI A.length), .int td, .ref tx, .ref sz, .ref lf, .int (nI rem.length), .ref fo, .int (nI es.length), .ref f1]), (pa, aI G 5000 P), (ca, aI G 5000 C9), (la, aI G 500 LN), (ro, aI G 1500 RW), (co, aI G 500 CO), (ea, aI G 16000 EA), (tx, aII G 4 tf), (sz, aI G 4 SZ), (lf, aI G 200 LF), (fo, aI G 6400 FO), (ya, aI G 200 yf)]) 119 [(5, .int (nI (j + 1))), (3, .int (nI n)), (4, .int bi), (0, .ref h), (1, .int (nI rj)), (2, .int (nI sh))] [.int (-1)]
                    refine v_istore (pc := 119) C [(6, .int (-1)), (5, .int (nI (j + 1))), (3, .int (nI n)), (4, .int bi), (0, .ref h), (1, .int (nI rj)), (2, .int (nI sh))] d_Mo_take_119 (by decide) rfl ?_
                    refine v_iload (pc := 121) C 0 d_Mo_take_121 rfl ?_
                    refine v_if_ge (pc := 123) C 129 d_Mo_take_123 (by decide) (fun hg => ?_) (fun hg => ?_)
                    · exact absurd hg (by decide)
                    · refine v_goto (pc := 126) C 136 d_Mo_take_126 (by decide) ?_
                      refine v_iinc (pc := 136) C [(5, .int (nI (j + 1 + 1))), (6, .int (-1)), (3, .int (nI n)), (4, .int bi), (0, .ref h), (1, .int (nI rj)), (2, .int (nI sh))] 1 (nI (j + 1 + 1)) d_Mo_take_136 rfl (nI_inc1 _) (by decide) rfl ?_
                      refine v_goto (pc := 139) C 60 d_Mo_take_139 (by decide) ?_
                      refine v_lsub [0, 2, 3, 4, 5, 6] [(5, .int (nI (j + 1 + 1))), (3, .int (nI n)), (4, .int bi), (0, .ref h), (1, .int (nI rj)), (2, .int (nI sh))] rfl ?_
                      exact ih4 (j + 1) o bi n (by omega) (by omega) (by omega) (by rw [bestN]; simp only [ho9]; exact hbo) hm
                  | some i =>
                    show vv K ({ frames := 1, cells := 0, slots := 0, locals := 60 } : Room) G 11 0 0 ([(h, ob 7 [.int fl, .ref pa, .ref ca, .int (nI nc), .ref la, .ref ro, .ref co, .ref ea, .int (nI A.length), .int td, .ref tx, .ref sz, .ref lf, .int (nI rem.length), .ref fo, .int (nI es.length), .ref f1]), (pa, aI G 5000 P), (ca, aI G 5000 C9), (la, aI G 500 LN), (ro, aI G 1500 RW), (co, aI G 500 CO), (ea, aI G 16000 EA), (tx, aII G 4 tf), (sz, aI G 4 SZ), (lf, aI G 200 LF), (fo, aI G 6400 FO), (ya, aI G 200 yf)]) 119 [(5, .int (nI (j + 1))), (3, .int (nI n)), (4, .int bi), (0, .ref h), (1, .int (nI rj)), (2, .int (nI sh))] [.int (nI i)]
                    obtain ⟨xi, hxi, -⟩ := fndA_at ho9
                    have hi := (List.getElem?_eq_some_iff.mp hxi).1
                    refine v_istore (pc := 119) C [(6, .int (nI i)), (5, .int (nI (j + 1))), (3, .int (nI n)), (4, .int bi), (0, .ref h), (1, .int (nI rj)), (2, .int (nI sh))] d_Mo_take_119 (by decide) rfl ?_
                    refine v_iload (pc := 121) C 0 d_Mo_take_121 rfl ?_
                    refine v_ifN_ge (pc := 123) C 129 i d_Mo_take_123 (by decide) (by omega) (fun hg => ?_) (fun hg => ?_)
                    · refine v_iload (pc := 129) C 0 d_Mo_take_129 rfl ?_
                      refine v_istore (pc := 131) C [(4, .int (nI i)), (6, .int (nI i)), (5, .int (nI (j + 1))), (3, .int (nI n)), (0, .ref h), (1, .int (nI rj)), (2, .int (nI sh))] d_Mo_take_131 (by decide) rfl ?_
                      refine v_iload (pc := 133) C 2 d_Mo_take_133 rfl ?_
                      refine v_istore_n (pc := 135) C [(3, .int (nI (j + 1))), (4, .int (nI i)), (6, .int (nI i)), (5, .int (nI (j + 1))), (0, .ref h), (1, .int (nI rj)), (2, .int (nI sh))] d_Mo_take_135 rfl (by decide) rfl ?_
                      refine v_iinc (pc := 136) C [(5, .int (nI (j + 1 + 1))), (3, .int (nI (j + 1))), (4, .int (nI i)), (6, .int (nI i)), (0, .ref h), (1, .int (nI rj)), (2, .int (nI sh))] 3 (nI (j + 1 + 1)) d_Mo_take_136 rfl (nI_inc1 _) (by decide) rfl ?_
                      refine v_goto (pc := 139) C 60 d_Mo_take_139 (by decide) ?_
                      refine v_lsub [0, 1, 2, 4, 5, 6] [(5, .int (nI (j + 1 + 1))), (3, .int (nI (j + 1))), (4, .int (nI i)), (0, .ref h), (1, .int (nI rj)), (2, .int (nI sh))] rfl ?_
                      exact ih4 (j + 1) (some (keyP rem (j + 1), j + 1, i)) (nI i) (j + 1) (by omega) (by omega) (by omega) (by rw [bestN]; simp only [ho9]) ⟨rfl, rfl⟩
                    · omega
                refine v_aload_n (pc := 75) C 3 d_Mo_take_75 rfl rfl ?_
                refine v_iload (pc := 76) C 0 d_Mo_take_76 rfl ?_
                refine v_aload_n (pc := 78) C 3 d_Mo_take_78 rfl rfl ?_
                refine v_get (pc := 79) (Cn := "WeightOrderModel") (T := T_Mo) (N := 17) (ci := 7) (v := .ref lf) C 0 12 rfl rfl hin_Mo (by decide) rfl k_474 rfl d_Mo_take_79 ?_
                refine v_iconst (pc := 82) C (nI 0) d_Mo_take_82 (by decide +kernel) ?_
                refine v_iald (pc := 83) C 9 rfl 0 rfl (by omega) (by decide) d_Mo_take_83 ?_
                refine v_seti (nI a) hae ?_
                refine v_iload (pc := 84) C 0 d_Mo_take_84 rfl ?_
                refine v_iconst (pc := 86) C (nI 1) d_Mo_take_86 (by decide +kernel) ?_
                refine v_icmpN_le (pc := 87) C 99 (j + 1) 1 d_Mo_take_87 (by decide) (by omega) (by omega) (fun h3 => ?_) (fun h3 => ?_)
                · refine v_iconst (pc := 99) C (nI 0) d_Mo_take_99 (by decide +kernel) ?_
                  refine v_iload (pc := 100) C 0 d_Mo_take_100 rfl ?_
                  refine v_iconst (pc := 102) C (nI 2) d_Mo_take_102 (by decide +kernel) ?_
                  refine v_icmpN_le (pc := 103) C 115 (j + 1) 2 d_Mo_take_103 (by decide) (by omega) (by omega) (fun h4 => ?_) (fun h4 => ?_)
                  · refine v_iconst (pc := 115) C (nI 0) d_Mo_take_115 (by decide +kernel) ?_
                    refine v_callV (pc := 116) (As := [.int (nI (j + 1)), .int (nI a), .int (nI 0), .int (nI 0)]) (rest := []) C (c_Mo_lineOf _ G h pa ca la ro co ea tx sz lf fo f1 fl td nc rem.length es.length LN RW A (j + 1) a 0 0 hA hLM (by omega) (by omega) ha1 (by decide) (by decide)) l_Mo_67 ([(pa, aI G 5000 P), (ca, aI G 5000 C9), (co, aI G 500 CO), (ea, aI G 16000 EA), (tx, aII G 4 tf), (sz, aI G 4 SZ), (lf, aI G 200 LF), (fo, aI G 6400 FO), (ya, aI G 200 yf)]) (sp_pos [1, 2, 5, 6, 7, 8, 9, 10, 11] [0, 3, 4] rfl rfl rfl) 0 rfl rfl rfl rfl rfl (Nat.le_of_ble_eq_true rfl) (by decide) (by decide) (by decide) (by decide) d_Mo_take_116 (fun r w' hq => ?_)
                    obtain ⟨rfl, rfl⟩ := hq
                    show vv K ({ frames := 1, cells := 0, slots := 0, locals := 60 } : Room) G 11 0 0 ([(pa, aI G 5000 P), (ca, aI G 5000 C9), (co, aI G 500 CO), (ea, aI G 16000 EA), (tx, aII G 4 tf), (sz, aI G 4 SZ), (lf, aI G 200 LF), (fo, aI G 6400 FO), (ya, aI G 200 yf), (h, ob 7 [.int fl, .ref pa, .ref ca, .int (nI nc), .ref la, .ref ro, .ref co, .ref ea, .int (nI A.length), .int td, .ref tx, .ref sz, .ref lf, .int (nI rem.length), .ref fo, .int (nI es.length), .ref f1]), (la, aI G 500 LN), (ro, aI G 1500 RW)]) 119 [(5, .int (nI (j + 1))), (3, .int (nI n)), (4, .int bi), (0, .ref h), (1, .int (nI rj)), (2, .int (nI sh))] [.int (fiI (fndA (keyN (j + 1) a 0 0) A))]
                    refine v_wsub [9, 0, 1, 10, 11, 2, 3, 4, 5, 6, 7, 8] ([(h, ob 7 [.int fl, .ref pa, .ref ca, .int (nI nc), .ref la, .ref ro, .ref co, .ref ea, .int (nI A.length), .int td, .ref tx, .ref sz, .ref lf, .int (nI rem.length), .ref fo, .int (nI es.length), .ref f1]), (pa, aI G 5000 P), (ca, aI G 5000 C9), (la, aI G 500 LN), (ro, aI G 1500 RW), (co, aI G 500 CO), (ea, aI G 16000 EA), (tx, aII G 4 tf), (sz, aI G 4 SZ), (lf, aI G 200 LF), (fo, aI G 6400 FO), (ya, aI G 200 yf)]) rfl rfl ?_
                    have hkk : keyN (j + 1) a 0 0 = keyP rem (j + 1) := by rw [show j = 0 by omega]; exact (keyP_1 ha).symm
                    rw [hkk]
                    refine v_lsub [0, 1, 2, 3, 4, 5] [(5, .int (nI (j + 1))), (3, .int (nI n)), (4, .int bi), (0, .ref h), (1, .int (nI rj)), (2, .int (nI sh))] rfl ?_
                    exact k119 _ rfl
                  · omega
                · obtain ⟨b, hb⟩ : ∃ b, rem[1]? = some b := ⟨_, List.getElem?_eq_getElem (by omega)⟩
                  have hbe2 := hL.2 1 b hb
                  have hb1 := hL.1 b (List.mem_of_getElem? hb)
                  refine v_aload_n (pc := 90) C 3 d_Mo_take_90 rfl rfl ?_
                  refine v_get (pc := 91) (Cn := "WeightOrderModel") (T := T_Mo) (N := 17) (ci := 7) (v := .ref lf) C 0 12 rfl rfl hin_Mo (by decide) rfl k_474 rfl d_Mo_take_91 ?_
                  refine v_iconst (pc := 94) C (nI 1) d_Mo_take_94 (by decide +kernel) ?_
                  refine v_iald (pc := 95) C 9 rfl 1 rfl (by omega) (by decide) d_Mo_take_95 ?_
                  refine v_seti (nI b) hbe2 ?_
                  refine v_goto (pc := 96) C 100 d_Mo_take_96 (by decide) ?_
                  refine v_iload (pc := 100) C 0 d_Mo_take_100 rfl ?_
                  refine v_iconst (pc := 102) C (nI 2) d_Mo_take_102 (by decide +kernel) ?_
                  refine v_icmpN_le (pc := 103) C 115 (j + 1) 2 d_Mo_take_103 (by decide) (by omega) (by omega) (fun h4 => ?_) (fun h4 => ?_)
                  · refine v_iconst (pc := 115) C (nI 0) d_Mo_take_115 (by decide +kernel) ?_
                    refine v_callV (pc := 116) (As := [.int (nI (j + 1)), .int (nI a), .int (nI b), .int (nI 0)]) (rest := []) C (c_Mo_lineOf _ G h pa ca la ro co ea tx sz lf fo f1 fl td nc rem.length es.length LN RW A (j + 1) a b 0 hA hLM (by omega) (by omega) ha1 hb1 (by decide)) l_Mo_67 ([(pa, aI G 5000 P), (ca, aI G 5000 C9), (co, aI G 500 CO), (ea, aI G 16000 EA), (tx, aII G 4 tf), (sz, aI G 4 SZ), (lf, aI G 200 LF), (fo, aI G 6400 FO), (ya, aI G 200 yf)]) (sp_pos [1, 2, 5, 6, 7, 8, 9, 10, 11] [0, 3, 4] rfl rfl rfl) 0 rfl rfl rfl rfl rfl (Nat.le_of_ble_eq_true rfl) (by decide) (by decide) (by decide) (by decide) d_Mo_take_116 (fun r w' hq => ?_)
                    obtain ⟨rfl, rfl⟩ := hq
                    show vv K ({ frames := 1, cells := 0, slots := 0, locals := 60 } : Room) G 11 0 0 ([(pa, aI G 5000 P), (ca, aI G 5000 C9), (co, aI G 500 CO), (ea, aI G 16000 EA), (tx, aII G 4 tf), (sz, aI G 4 SZ), (lf, aI G 200 LF), (fo, aI G 6400 FO), (ya, aI G 200 yf), (h, ob 7 [.int fl, .ref pa, .ref ca, .int (nI nc), .ref la, .ref ro, .ref co, .ref ea, .int (nI A.length), .int td, .ref tx, .ref sz, .ref lf, .int (nI rem.length), .ref fo, .int (nI es.length), .ref f1]), (la, aI G 500 LN), (ro, aI G 1500 RW)]) 119 [(5, .int (nI (j + 1))), (3, .int (nI n)), (4, .int bi), (0, .ref h), (1, .int (nI rj)), (2, .int (nI sh))] [.int (fiI (fndA (keyN (j + 1) a b 0) A))]
                    refine v_wsub [9, 0, 1, 10, 11, 2, 3, 4, 5, 6, 7, 8] ([(h, ob 7 [.int fl, .ref pa, .ref ca, .int (nI nc), .ref la, .ref ro, .ref co, .ref ea, .int (nI A.length), .int td, .ref tx, .ref sz, .ref lf, .int (nI rem.length), .ref fo, .int (nI es.length), .ref f1]), (pa, aI G 5000 P), (ca, aI G 5000 C9), (la, aI G 500 LN), (ro, aI G 1500 RW), (co, aI G 500 CO), (ea, aI G 16000 EA), (tx, aII G 4 tf), (sz, aI G 4 SZ), (lf, aI G 200 LF), (fo, aI G 6400 FO), (ya, aI G 200 yf)]) rfl rfl ?_
                    have hkk : keyN (j + 1) a b 0 = keyP rem (j + 1) := by rw [show j = 1 by omega]; exact (keyP_2 ha hb).symm
                    rw [hkk]
                    refine v_lsub [0, 1, 2, 3, 4, 5] [(5, .int (nI (j + 1))), (3, .int (nI n)), (4, .int bi), (0, .ref h), (1, .int (nI rj)), (2, .int (nI sh))] rfl ?_
                    exact k119 _ rfl
                  · obtain ⟨c, hc2⟩ : ∃ c, rem[2]? = some c := ⟨_, List.getElem?_eq_getElem (by omega)⟩
                    have hce := hL.2 2 c hc2
                    have hc1 := hL.1 c (List.mem_of_getElem? hc2)
                    refine v_aload_n (pc := 106) C 3 d_Mo_take_106 rfl rfl ?_
                    refine v_get (pc := 107) (Cn := "WeightOrderModel") (T := T_Mo) (N := 17) (ci := 7) (v := .ref lf) C 0 12 rfl rfl hin_Mo (by decide) rfl k_474 rfl d_Mo_take_107 ?_
                    refine v_iconst (pc := 110) C (nI 2) d_Mo_take_110 (by decide +kernel) ?_
                    refine v_iald (pc := 111) C 9 rfl 2 rfl (by omega) (by decide) d_Mo_take_111 ?_
                    refine v_seti (nI c) hce ?_
                    refine v_goto (pc := 112) C 116 d_Mo_take_112 (by decide) ?_
                    refine v_callV (pc := 116) (As := [.int (nI (j + 1)), .int (nI a), .int (nI b), .int (nI c)]) (rest := []) C (c_Mo_lineOf _ G h pa ca la ro co ea tx sz lf fo f1 fl td nc rem.length es.length LN RW A (j + 1) a b c hA hLM (by omega) (by omega) ha1 hb1 hc1) l_Mo_67 ([(pa, aI G 5000 P), (ca, aI G 5000 C9), (co, aI G 500 CO), (ea, aI G 16000 EA), (tx, aII G 4 tf), (sz, aI G 4 SZ), (lf, aI G 200 LF), (fo, aI G 6400 FO), (ya, aI G 200 yf)]) (sp_pos [1, 2, 5, 6, 7, 8, 9, 10, 11] [0, 3, 4] rfl rfl rfl) 0 rfl rfl rfl rfl rfl (Nat.le_of_ble_eq_true rfl) (by decide) (by decide) (by decide) (by decide) d_Mo_take_116 (fun r w' hq => ?_)
                    obtain ⟨rfl, rfl⟩ := hq
                    show vv K ({ frames := 1, cells := 0, slots := 0, locals := 60 } : Room) G 11 0 0 ([(pa, aI G 5000 P), (ca, aI G 5000 C9), (co, aI G 500 CO), (ea, aI G 16000 EA), (tx, aII G 4 tf), (sz, aI G 4 SZ), (lf, aI G 200 LF), (fo, aI G 6400 FO), (ya, aI G 200 yf), (h, ob 7 [.int fl, .ref pa, .ref ca, .int (nI nc), .ref la, .ref ro, .ref co, .ref ea, .int (nI A.length), .int td, .ref tx, .ref sz, .ref lf, .int (nI rem.length), .ref fo, .int (nI es.length), .ref f1]), (la, aI G 500 LN), (ro, aI G 1500 RW)]) 119 [(5, .int (nI (j + 1))), (3, .int (nI n)), (4, .int bi), (0, .ref h), (1, .int (nI rj)), (2, .int (nI sh))] [.int (fiI (fndA (keyN (j + 1) a b c) A))]
                    refine v_wsub [9, 0, 1, 10, 11, 2, 3, 4, 5, 6, 7, 8] ([(h, ob 7 [.int fl, .ref pa, .ref ca, .int (nI nc), .ref la, .ref ro, .ref co, .ref ea, .int (nI A.length), .int td, .ref tx, .ref sz, .ref lf, .int (nI rem.length), .ref fo, .int (nI es.length), .ref f1]), (pa, aI G 5000 P), (ca, aI G 5000 C9), (la, aI G 500 LN), (ro, aI G 1500 RW), (co, aI G 500 CO), (ea, aI G 16000 EA), (tx, aII G 4 tf), (sz, aI G 4 SZ), (lf, aI G 200 LF), (fo, aI G 6400 FO), (ya, aI G 200 yf)]) rfl rfl ?_
                    have hkk : keyN (j + 1) a b c = keyP rem (j + 1) := by rw [show j = 2 by omega]; exact (keyP_3 ha hb hc2).symm
                    rw [hkk]
                    refine v_lsub [0, 1, 2, 3, 4, 5] [(5, .int (nI (j + 1))), (3, .int (nI n)), (4, .int bi), (0, .ref h), (1, .int (nI rj)), (2, .int (nI sh))] rfl ?_
                    exact k119 _ rfl
        refine v_lsub [0, 2, 1, 3, 4, 5] [(5, .int (nI 1)), (3, .int (nI 0)), (4, .int (-1)), (0, .ref h), (1, .int (nI rj)), (2, .int (nI sh))] rfl ?_
        exact kl 4 0 none (-1) 0 (by omega) (by omega) (by omega) rfl rfl
  refine v_aload_n (pc := 0) C 0 d_Mo_take_0 rfl rfl ?_
  refine v_aload_n (pc := 1) C 0 d_Mo_take_1 rfl rfl ?_
  refine v_get (pc := 2) (Cn := "WeightOrderModel") (T := T_Mo) (N := 17) (ci := 7) (v := .ref sz) C 0 11 rfl rfl hin_Mo (by decide) rfl k_473 rfl d_Mo_take_2 ?_
  refine v_iload_n (pc := 5) C 1 d_Mo_take_5 rfl rfl ?_
  refine v_iald (pc := 6) C 8 rfl rj rfl (by omega) (by decide) d_Mo_take_6 ?_
  refine v_seti (nI row.length) hsz ?_
  refine v_put (pc := 7) (Cn := "WeightOrderModel") (T := T_Mo) (N := 17) (ci := 7) (v := .int (nI row.length)) C 0 13 rfl rfl hin_Mo (by decide) rfl ([(h, ob 7 [.int fl, .ref pa, .ref ca, .int (nI nc), .ref la, .ref ro, .ref co, .ref ea, .int (nI A.length), .int td, .ref tx, .ref sz, .ref lf, .int (nI row.length), .ref fo, .int (nI fz), .ref f1]), (pa, aI G 5000 P), (ca, aI G 5000 C9), (la, aI G 500 LN), (ro, aI G 1500 RW), (co, aI G 500 CO), (ea, aI G 16000 EA), (tx, aII G 4 tf), (sz, aI G 4 SZ), (lf, aI G 200 LF), (fo, aI G 6400 FO), (ya, aI G 200 yf)]) t_Mo t_Mo_ok n_Mo (.int) rfl rfl rfl (Nat.le_of_ble_eq_true rfl) rfl rfl k_475 d_Mo_take_7 ?_
  refine v_iconst (pc := 10) C (nI 0) d_Mo_take_10 (by decide +kernel) ?_
  refine v_istore_n (pc := 11) C [(3, .int (nI 0)), (0, .ref h), (1, .int (nI rj)), (2, .int (nI sh))] d_Mo_take_11 rfl (by decide) rfl ?_
  have cl0 : ∀ (d5 : Nat) (k : Nat) (LF : Nat → Int32), row.length - k < d5 → (k ≤ row.length) → (∀ j x, j < k → row[j]? = some x → LF j = nI x) → vv K ({ frames := 1, cells := 0, slots := 0, locals := 60 } : Room) G 11 0 0 ([(h, ob 7 [.int fl, .ref pa, .ref ca, .int (nI nc), .ref la, .ref ro, .ref co, .ref ea, .int (nI A.length), .int td, .ref tx, .ref sz, .ref lf, .int (nI row.length), .ref fo, .int (nI fz), .ref f1]), (pa, aI G 5000 P), (ca, aI G 5000 C9), (la, aI G 500 LN), (ro, aI G 1500 RW), (co, aI G 500 CO), (ea, aI G 16000 EA), (tx, aII G 4 tf), (sz, aI G 4 SZ), (lf, aI G 200 LF), (fo, aI G 6400 FO), (ya, aI G 200 yf)]) 12 [(3, .int (nI k)), (0, .ref h), (1, .int (nI rj)), (2, .int (nI sh))] [] := by
    intro d5
    induction d5 with
    | zero => intro k LF hm; exact absurd hm (Nat.not_lt_zero _)
    | succ d5 ih5 =>
      intro k LF hm hk hg
      refine v_iload_n (pc := 12) C 0 d_Mo_take_12 rfl rfl ?_
      refine v_aload_n (pc := 13) C 1 d_Mo_take_13 rfl rfl ?_
      refine v_get (pc := 14) (Cn := "WeightOrderModel") (T := T_Mo) (N := 17) (ci := 7) (v := .int (nI row.length)) C 0 13 rfl rfl hin_Mo (by decide) rfl k_475 rfl d_Mo_take_14 ?_
      refine v_icmpN_ge (pc := 17) C 40 k row.length d_Mo_take_17 (by decide) (by omega) (by omega) (fun hc => ?_) (fun hc => ?_)
      · refine v_aload_n (pc := 40) C 1 d_Mo_take_40 rfl rfl ?_
        refine v_iconst (pc := 41) C (nI 0) d_Mo_take_41 (by decide +kernel) ?_
        refine v_put (pc := 42) (Cn := "WeightOrderModel") (T := T_Mo) (N := 17) (ci := 7) (v := .int (nI 0)) C 0 15 rfl rfl hin_Mo (by decide) rfl ([(h, ob 7 [.int fl, .ref pa, .ref ca, .int (nI nc), .ref la, .ref ro, .ref co, .ref ea, .int (nI A.length), .int td, .ref tx, .ref sz, .ref lf, .int (nI row.length), .ref fo, .int (nI 0), .ref f1]), (pa, aI G 5000 P), (ca, aI G 5000 C9), (la, aI G 500 LN), (ro, aI G 1500 RW), (co, aI G 500 CO), (ea, aI G 16000 EA), (tx, aII G 4 tf), (sz, aI G 4 SZ), (lf, aI G 200 LF), (fo, aI G 6400 FO), (ya, aI G 200 yf)]) t_Mo t_Mo_ok n_Mo (.int) rfl rfl rfl (Nat.le_of_ble_eq_true rfl) rfl rfl k_477 d_Mo_take_42 ?_
        refine v_lsub [1, 2, 3] [(0, .ref h), (1, .int (nI rj)), (2, .int (nI sh))] rfl ?_
        exact main (row.length + 1) 200 row [] LF FO (by omega) hr2 (by show 0 + 8 * row.length ≤ 1600; omega) (fun e he => absurd he List.not_mem_nil) hr2 ⟨hyo.2.1, fun j x hx => hg j x (by have := (List.getElem?_eq_some_iff.mp hx).1; omega) hx⟩ (fun i e he => by cases he) hES
      · obtain ⟨x, hx⟩ : ∃ x, row[k]? = some x := ⟨_, List.getElem?_eq_getElem hc⟩
        refine v_aload_n (pc := 20) C 1 d_Mo_take_20 rfl rfl ?_
        refine v_get (pc := 21) (Cn := "WeightOrderModel") (T := T_Mo) (N := 17) (ci := 7) (v := .ref lf) C 0 12 rfl rfl hin_Mo (by decide) rfl k_474 rfl d_Mo_take_21 ?_
        refine v_iload_n (pc := 24) C 0 d_Mo_take_24 rfl rfl ?_
        refine v_aload_n (pc := 25) C 1 d_Mo_take_25 rfl rfl ?_
        refine v_get (pc := 26) (Cn := "WeightOrderModel") (T := T_Mo) (N := 17) (ci := 7) (v := .ref tx) C 0 10 rfl rfl hin_Mo (by decide) rfl k_472 rfl d_Mo_take_26 ?_
        refine v_iload_n (pc := 29) C 2 d_Mo_take_29 rfl rfl ?_
        refine v_aaldII (pc := 30) C 7 rfl rj rfl (by omega) (by decide) d_Mo_take_30 ?_
        rw [htf]
        show vv K ({ frames := 1, cells := 0, slots := 0, locals := 60 } : Room) G 11 0 0 ([(h, ob 7 [.int fl, .ref pa, .ref ca, .int (nI nc), .ref la, .ref ro, .ref co, .ref ea, .int (nI A.length), .int td, .ref tx, .ref sz, .ref lf, .int (nI row.length), .ref fo, .int (nI fz), .ref f1]), (pa, aI G 5000 P), (ca, aI G 5000 C9), (la, aI G 500 LN), (ro, aI G 1500 RW), (co, aI G 500 CO), (ea, aI G 16000 EA), (tx, aII G 4 tf), (sz, aI G 4 SZ), (lf, aI G 200 LF), (fo, aI G 6400 FO), (ya, aI G 200 yf)]) 31 [(3, .int (nI k)), (0, .ref h), (1, .int (nI rj)), (2, .int (nI sh))] [.ref ya, .int (nI k), .ref lf]
        refine v_iload_n (pc := 31) C 0 d_Mo_take_31 rfl rfl ?_
        refine v_iald (pc := 32) C 11 rfl k rfl (by omega) (by decide) d_Mo_take_32 ?_
        refine v_seti (nI x) (hyo.2.2 k x hx) ?_
        refine v_iast (pc := 33) C 9 ([(h, ob 7 [.int fl, .ref pa, .ref ca, .int (nI nc), .ref la, .ref ro, .ref co, .ref ea, .int (nI A.length), .int td, .ref tx, .ref sz, .ref lf, .int (nI row.length), .ref fo, .int (nI fz), .ref f1]), (pa, aI G 5000 P), (ca, aI G 5000 C9), (la, aI G 500 LN), (ro, aI G 1500 RW), (co, aI G 500 CO), (ea, aI G 16000 EA), (tx, aII G 4 tf), (sz, aI G 4 SZ), (lf, aI G 200 (upd LF k (nI x))), (fo, aI G 6400 FO), (ya, aI G 200 yf)]) rfl k rfl (by omega) (by decide) rfl d_Mo_take_33 ?_
        refine v_iinc (pc := 34) C [(3, .int (nI (k + 1))), (0, .ref h), (1, .int (nI rj)), (2, .int (nI sh))] 0 (nI (k + 1)) d_Mo_take_34 rfl (nI_inc1 _) (by decide) rfl ?_
        refine v_goto (pc := 37) C 12 d_Mo_take_37 (by decide) ?_
        refine v_lsub [0, 1, 2, 3] [(3, .int (nI (k + 1))), (0, .ref h), (1, .int (nI rj)), (2, .int (nI sh))] rfl ?_
        exact ih5 (k + 1) _ (by omega) (by omega) (fun j z hj hz => by
          rcases Nat.lt_or_ge j k with c9 | c9
          · rw [pk_un (by omega)]; exact hg j z c9 hz
          · have ej : j = k := by omega
            subst ej
            rw [pk_us]; cases Option.some.inj (hx.symm.trans hz); rfl)
  refine v_lsub [0, 1, 2, 3] [(3, .int (nI 0)), (0, .ref h), (1, .int (nI rj)), (2, .int (nI sh))] rfl ?_
  exact cl0 (row.length + 1) 0 LF (by omega) (Nat.zero_le _) (fun j x hj => absurd hj (Nat.not_lt_zero _))
