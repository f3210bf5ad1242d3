/-! ===== nI under and, xor, >>>, one bit, 65535 ===== -/
theorem nx_and (a b : Nat) : nI a &&& nI b = nI (a &&& b) := by
  apply Int32.toBitVec_inj.1
  show BitVec.ofNat 32 a &&& BitVec.ofNat 32 b = BitVec.ofNat 32 (a &&& b)
  apply BitVec.eq_of_getLsbD_eq
  intro i hi
  simp [hi]
theorem nx_xor (a b : Nat) : nI a ^^^ nI b = nI (a ^^^ b) := by
  apply Int32.toBitVec_inj.1
  show BitVec.ofNat 32 a ^^^ BitVec.ofNat 32 b = BitVec.ofNat 32 (a ^^^ b)
  apply BitVec.eq_of_getLsbD_eq
  intro i hi
  simp [hi]
theorem nx_cnt : ∀ j : Fin 32, (UInt32.ofNat j.val &&& Int32.toUInt32 31).toNat % 32 = j.val := by decide +kernel
theorem nx_ush {k j : Nat} (hk : k < 65536) (hj : j < 32) : ((nI k).toUInt32 >>> ((nI j).toUInt32 &&& Int32.toUInt32 31)).toInt32 = nI (k >>> j) := by
  have hs : k >>> j ≤ k := by
    rw [Nat.shiftRight_eq_div_pow]
    exact Nat.div_le_self _ _
  have e2 : UInt32.ofNat k >>> (UInt32.ofNat j &&& Int32.toUInt32 31) = UInt32.ofNat (k >>> j) := by
    apply UInt32.toNat_inj.1
    have h1 : (UInt32.ofNat k).toNat = k := Nat.mod_eq_of_lt (by omega)
    have h2 : (UInt32.ofNat (k >>> j)).toNat = k >>> j := Nat.mod_eq_of_lt (by omega)
    rw [UInt32.toNat_shiftRight, nx_cnt ⟨j, hj⟩, h1, h2]
  show (UInt32.ofNat k >>> (UInt32.ofNat j &&& Int32.toUInt32 31)).toInt32 = _
  rw [e2]
  rfl
theorem nx_bit {k j : Nat} (hk : k < 65536) (hj : j < 16) : (((nI k).toUInt32 >>> ((nI j).toUInt32 &&& Int32.toUInt32 31)).toInt32 &&& 1) = 0 ↔ k.testBit j = false := by
  rw [nx_ush hk (by omega)]
  show nI (k >>> j) &&& nI 1 = 0 ↔ _
  rw [nx_and, Nat.and_one_is_mod, ← nI_0, nI_eq (by omega) (by omega), Nat.testBit_eq_decide_div_mod_eq, Nat.shiftRight_eq_div_pow, decide_eq_false_iff_not]
  generalize k / 2 ^ j = z
  omega
theorem nx_mod (k : Nat) : nI k &&& 65535 = nI (k % 65536) := by
  show nI k &&& nI 65535 = _
  rw [nx_and, show (65535 : Nat) = 2 ^ 16 - 1 from rfl, Nat.and_two_pow_sub_one_eq_mod]
theorem nx_m16 {k : Nat} (h : k < 65536) : nI k &&& 65535 = nI k := by rw [nx_mod, Nat.mod_eq_of_lt h]
theorem nx_mask (x : Int32) : ∃ k, k < 65536 ∧ x &&& 65535 = nI k := by
  have e : x = nI x.toBitVec.toNat := by
    apply Int32.toBitVec_inj.1
    show x.toBitVec = BitVec.ofNat 32 x.toBitVec.toNat
    simp
  refine ⟨x.toBitVec.toNat % 65536, Nat.mod_lt _ (by omega), ?_⟩
  rw [← nx_mod, ← e]
/-! ===== lN n to 2^64: shifts, and, or, masks, one bit ===== -/
theorem wb_tb (n : Nat) : (lN n).toBitVec = BitVec.ofNat 64 n := rfl
theorem wb_inj {a b : Int64} (h : a.toBitVec = b.toBitVec) : a = b := Int64.toBitVec_inj.mp h
theorem wb_tn {n : Nat} (h : n < 2 ^ 64) : (lN n).toBitVec.toNat = n := by rw [wb_tb, BitVec.toNat_ofNat, Nat.mod_eq_of_lt h]
theorem wb_of (x : Int64) : ∃ n, n < 2 ^ 64 ∧ x = lN n := ⟨x.toBitVec.toNat, x.toBitVec.isLt, wb_inj (by rw [wb_tb]; simp)⟩
theorem wb_of32 (x : Int32) : ∃ n, n < 2 ^ 32 ∧ x = nI n := ⟨x.toBitVec.toNat, x.toBitVec.isLt, Int32.toBitVec_inj.mp (by show _ = BitVec.ofNat 32 _; simp)⟩
theorem wb_c : ∀ k, k < 64 → ((nI k).toInt64 &&& 63) = lN k := by decide +kernel
theorem wb_cu : ∀ k, k < 64 → ((nI k).toInt64.toUInt64 &&& Int64.toUInt64 63) = UInt64.ofNat k := by decide +kernel
theorem wb_sm : ∀ k, k < 64 → (BitVec.ofNat 64 k).smod 64 = BitVec.ofNat 64 k := by decide +kernel
theorem wb_pw {a b : Nat} (h : a ≤ b) : 2 ^ b = 2 ^ a * 2 ^ (b - a) := by rw [← Nat.pow_add]; congr 1; omega
theorem wb_lt2 {a b : Nat} (h : a < b) : 2 ^ a < 2 ^ b := Nat.pow_lt_pow_right (by decide) h
theorem wb_mod (n : Nat) : lN n = lN (n % 2 ^ 64) := wb_inj (by rw [wb_tb, wb_tb]; apply BitVec.eq_of_toNat_eq; rw [BitVec.toNat_ofNat, BitVec.toNat_ofNat, Nat.mod_mod])
theorem wb_shr {n k : Nat} (hn : n < 2 ^ 64) (hk : k < 64) : ((lN n).toUInt64 >>> ((nI k).toInt64.toUInt64 &&& Int64.toUInt64 63)).toInt64 = lN (n / 2 ^ k) := by
  rw [wb_cu k hk]
  apply wb_inj
  apply BitVec.eq_of_toNat_eq
  show ((lN n).toUInt64 >>> UInt64.ofNat k).toNat = (BitVec.ofNat 64 _).toNat
  have h1 : (UInt64.ofNat k).toNat = k := by
    show (BitVec.ofNat 64 k).toNat = k
    rw [BitVec.toNat_ofNat, Nat.mod_eq_of_lt (by omega)]
  have h2 : (lN n).toUInt64.toNat = n := wb_tn hn
  rw [UInt64.toNat_shiftRight, h1, h2, Nat.mod_eq_of_lt hk, Nat.shiftRight_eq_div_pow, BitVec.toNat_ofNat, Nat.mod_eq_of_lt (Nat.lt_of_le_of_lt (Nat.div_le_self _ _) hn)]
theorem wb_shl (n : Nat) {k : Nat} (hk : k < 64) : lN n <<< ((nI k).toInt64 &&& 63) = lN (n * 2 ^ k) := by
  rw [wb_c k hk]
  apply wb_inj
  rw [Int64.toBitVec_shiftLeft, wb_tb, wb_tb, wb_tb, wb_sm k hk]
  apply BitVec.eq_of_toNat_eq
  rw [BitVec.shiftLeft_eq', BitVec.toNat_shiftLeft, BitVec.toNat_ofNat, BitVec.toNat_ofNat, BitVec.toNat_ofNat, Nat.mod_eq_of_lt (show k < 2 ^ 64 by omega), Nat.shiftLeft_eq, Nat.mul_mod, Nat.mod_mod, ← Nat.mul_mod]
theorem wb_and {a b : Nat} (ha : a < 2 ^ 64) (hb : b < 2 ^ 64) : lN a &&& lN b = lN (a &&& b) := by
  apply wb_inj
  rw [Int64.toBitVec_and, wb_tb, wb_tb, wb_tb]
  apply BitVec.eq_of_toNat_eq
  rw [BitVec.toNat_and, BitVec.toNat_ofNat, BitVec.toNat_ofNat, BitVec.toNat_ofNat, Nat.mod_eq_of_lt ha, Nat.mod_eq_of_lt hb, Nat.mod_eq_of_lt (Nat.and_lt_two_pow _ hb)]
theorem wb_or {a b : Nat} (ha : a < 2 ^ 64) (hb : b < 2 ^ 64) : lN a ||| lN b = lN (a ||| b) := by
  apply wb_inj
  rw [Int64.toBitVec_or, wb_tb, wb_tb, wb_tb]
  apply BitVec.eq_of_toNat_eq
  rw [BitVec.toNat_or, BitVec.toNat_ofNat, BitVec.toNat_ofNat, BitVec.toNat_ofNat, Nat.mod_eq_of_lt ha, Nat.mod_eq_of_lt hb, Nat.mod_eq_of_lt (Nat.or_lt_two_pow ha hb)]
theorem wb_mask {n k : Nat} (hn : n < 2 ^ 64) (hk : k < 64) : lN n &&& lN (2 ^ k - 1) = lN (n % 2 ^ k) := by
  rw [wb_and hn (by have := wb_lt2 hk; omega), Nat.and_two_pow_sub_one_eq_mod]
theorem wb_a1 {n : Nat} (hn : n < 2 ^ 64) : lN n &&& 1 = lN (n % 2) := wb_mask (k := 1) hn (by decide)
theorem wb_bit {n k : Nat} (hn : n < 2 ^ 64) (hk : k < 64) : ((lN n).toUInt64 >>> ((nI k).toInt64.toUInt64 &&& Int64.toUInt64 63)).toInt64 &&& 1 = lN (n / 2 ^ k % 2) := by
  rw [wb_shr hn hk, wb_a1 (Nat.lt_of_le_of_lt (Nat.div_le_self _ _) hn)]
theorem wb_xor {q k : Nat} (hk : k < 63) (h : 2 ^ k ≤ q) (h2 : q < 2 ^ (k + 1)) : lN q ^^^ lN (2 ^ k) = lN (q - 2 ^ k) := by
  obtain ⟨r, rfl⟩ : ∃ r, q = 2 ^ k + r := ⟨q - 2 ^ k, by omega⟩
  have hr : r < 2 ^ k := by rw [Nat.pow_succ] at h2; omega
  have hx : (2 ^ k + r) ^^^ 2 ^ k = r := by
    apply Nat.eq_of_testBit_eq
    intro i
    rw [Nat.testBit_xor, Nat.testBit_two_pow]
    rcases Nat.lt_trichotomy i k with h | h | h
    · rw [Nat.testBit_two_pow_add_gt h]
      simp [show ¬ k = i by omega]
    · subst h
      rw [Nat.testBit_two_pow_add_eq]
      simp
    · have a1 : 2 ^ (k + 1) ≤ 2 ^ i := Nat.pow_le_pow_right (by decide) h
      rw [Nat.testBit_lt_two_pow (show 2 ^ k + r < 2 ^ i by omega), Nat.testBit_lt_two_pow (show r < 2 ^ i by omega)]
      simp [show ¬ k = i by omega]
  have b1 := wb_lt2 (show k + 1 < 64 by omega)
  have b2 := wb_lt2 (show k < 64 by omega)
  apply wb_inj
  rw [Int64.toBitVec_xor, wb_tb, wb_tb, wb_tb]
  apply BitVec.eq_of_toNat_eq
  rw [BitVec.toNat_xor, BitVec.toNat_ofNat, BitVec.toNat_ofNat, BitVec.toNat_ofNat, Nat.mod_eq_of_lt (by omega : 2 ^ k + r < 2 ^ 64), Nat.mod_eq_of_lt b2, hx, Nat.add_sub_cancel_left, Nat.mod_eq_of_lt (by omega)]
/-! ===== lN: masks, 'or' of parts that don't overlap is a sum ===== -/
theorem u_tn {n : Nat} (h : n < 2 ^ 64) : (UInt64.ofNat n).toNat = n := Nat.mod_eq_of_lt h
theorem g_and {a b c : Nat} (ha : a < 2 ^ 64) (hb : b < 2 ^ 64) (hc : a &&& b = c) : lN a &&& lN b = lN c := by
  subst hc
  have h : UInt64.ofNat a &&& UInt64.ofNat b = UInt64.ofNat (a &&& b) := UInt64.toNat_inj.mp (by rw [UInt64.toNat_and, u_tn ha, u_tn hb, u_tn (Nat.and_lt_two_pow a hb)])
  have h2 := congrArg UInt64.toInt64 h
  exact h2
theorem g_and1 {a : Nat} (ha : a < 2 ^ 64) : lN a &&& 1 = lN (a % 2) := g_and (b := 1) ha (by decide) (Nat.and_two_pow_sub_one_eq_mod a 1)
theorem g_mask {a s p : Nat} (hp : 2 ^ s = p) (hs : s < 64) (ha : a < 2 ^ 64) : lN a &&& lN (p - 1) = lN (a % p) := by
  subst hp
  have := Nat.pow_lt_pow_right (show 1 < 2 by decide) hs
  exact g_and ha (by omega) (Nat.and_two_pow_sub_one_eq_mod a s)
theorem g_or {k p a b : Nat} (hp : 2 ^ k = p) (ha : a < p) (h : b * p + a < 2 ^ 64) : lN (b * p) ||| lN a = lN (b * p + a) := by
  subst hp
  have h1 : b * 2 ^ k ||| a = b * 2 ^ k + a := by rw [← Nat.shiftLeft_eq, Nat.shiftLeft_add_eq_or_of_lt ha]
  have h3 : UInt64.ofNat (b * 2 ^ k) ||| UInt64.ofNat a = UInt64.ofNat (b * 2 ^ k + a) := UInt64.toNat_inj.mp (by rw [UInt64.toNat_or, u_tn (by omega), u_tn (by omega), u_tn h, h1])
  have h2 := congrArg UInt64.toInt64 h3
  exact h2
theorem g_or' {k p a b : Nat} (hp : 2 ^ k = p) (ha : a < p) (h : a + b * p < 2 ^ 64) : lN a ||| lN (b * p) = lN (a + b * p) := by
  rw [Int64.or_comm, g_or hp ha (by omega), Nat.add_comm]
theorem g_ushr {a k p : Nat} {y : UInt64} (hy : y = UInt64.ofNat k) (hk : k < 64) (hp : 2 ^ k = p) (ha : a < 2 ^ 64) : ((lN a).toUInt64 >>> y).toInt64 = lN (a / p) := by
  subst hy hp
  have h : UInt64.ofNat a >>> UInt64.ofNat k = UInt64.ofNat (a / 2 ^ k) := UInt64.toNat_inj.mp (by rw [UInt64.toNat_shiftRight, u_tn ha, u_tn (by omega), u_tn (Nat.lt_of_le_of_lt (Nat.div_le_self _ _) ha), Nat.mod_eq_of_lt hk, Nat.shiftRight_eq_div_pow])
  have h2 := congrArg UInt64.toInt64 h
  exact h2
theorem g_shl {a k p : Nat} {y : Int64} (hy : y.toBitVec.smod 64 = BitVec.ofNat 64 k) (hk : k < 64) (hp : 2 ^ k = p) (ha : a < 2 ^ 64) : lN a <<< y = lN (a * p) := by
  subst hp
  apply Int64.toBitVec_inj.mp
  rw [Int64.toBitVec_shiftLeft, hy]
  apply BitVec.eq_of_toNat_eq
  have hb : (lN a).toBitVec.toNat = a := Nat.mod_eq_of_lt ha
  have hk' : (BitVec.ofNat 64 k).toNat = k := Nat.mod_eq_of_lt (by omega)
  have h : ((lN a).toBitVec <<< BitVec.ofNat 64 k).toNat = (a * 2 ^ k) % 2 ^ 64 := by simp only [BitVec.shiftLeft_eq', BitVec.toNat_shiftLeft, hb, hk', Nat.shiftLeft_eq]
  exact h
/-! keys and packed weights, as numbers -/
/-- a key with one more point -/
def kx (k p : Nat) : Nat := k * 2097152 + (p + 1)
def keyN (n a b c : Nat) : Nat := if n ≤ 1 then kx 0 a else if n ≤ 2 then kx (kx 0 a) b else kx (kx (kx 0 a) b) c
def pkN (p s t f : Nat) : Nat := p * 281474976710656 + s * 4294967296 + t * 65536 + f
def wtN (n w : Nat) : Nat := n / 2 ^ (48 - 16 * w) % 65536
theorem lk_shl (k : Nat) : lN k <<< ((nI 21).toInt64 &&& 63) = lN (k * 2097152) := wb_shl k (k := 21) (by decide)
theorem lk_or {k p : Nat} (hp : p ≤ 1114111) (hk : k < 4398046511104) : lN (k * 2097152) ||| lN (p + 1) = lN (kx k p) := g_or (k := 21) rfl (by omega) (by have : (2:Nat)^64 = 18446744073709551616 := rfl; omega)
theorem pw64 : (2 : Nat) ^ 64 = 18446744073709551616 := rfl
theorem pk_shl48 (p : Nat) : lN p <<< ((nI 48).toInt64 &&& 63) = lN (p * 281474976710656) := wb_shl p (k := 48) (by decide)
theorem pk_shl32 (p : Nat) : lN p <<< ((nI 32).toInt64 &&& 63) = lN (p * 4294967296) := wb_shl p (k := 32) (by decide)
theorem pk_shl16 (p : Nat) : lN p <<< ((nI 16).toInt64 &&& 63) = lN (p * 65536) := wb_shl p (k := 16) (by decide)
theorem pk_or1 {p s : Nat} (hp : p < 65536) (hs : s < 65536) : lN (p * 281474976710656) ||| lN (s * 4294967296) = lN (p * 281474976710656 + s * 4294967296) :=
  g_or (k := 48) (p := 281474976710656) (b := p) (a := s * 4294967296) rfl (by omega) (by rw [pw64]; omega)
theorem pk_e2 (p s t : Nat) : (p * 65536 + s) * 4294967296 + t * 65536 = pkN p s t 0 := by simp only [pkN, Nat.add_zero, Nat.add_mul, Nat.mul_assoc, Nat.reduceMul]
theorem pk_or2 {p s t : Nat} (hp : p < 65536) (hs : s < 65536) (ht : t < 65536) : lN (p * 281474976710656 + s * 4294967296) ||| lN (t * 65536) = lN (pkN p s t 0) := by
  have e1 : p * 281474976710656 + s * 4294967296 = (p * 65536 + s) * 4294967296 := by omega
  rw [e1, g_or (k := 32) (p := 4294967296) (b := p * 65536 + s) (a := t * 65536) rfl (by omega) (by rw [pw64]; omega), pk_e2]
theorem wt_and (m : Nat) : nI m &&& nI 65535 = nI (m % 65536) := nx_mod m
theorem wt_shr {n w : Nat} (hn : n < 18446744073709551616) (hw : w ≤ 3) : ((lN n).toUInt64 >>> ((nI (48 - 16 * w)).toInt64.toUInt64 &&& Int64.toUInt64 63)).toInt64 = lN (n / 2 ^ (48 - 16 * w)) := wb_shr (by rw [pw64]; exact hn) (by omega)
theorem pkN_lt {p s t f : Nat} (hp : p < 65536) (hs : s < 65536) (ht : t < 65536) (hf : f < 65536) : pkN p s t f < 18446744073709551616 := by unfold pkN; omega
theorem wt_0 {p s t f : Nat} (hp : p < 65536) (hs : s < 65536) (ht : t < 65536) (hf : f < 65536) : wtN (pkN p s t f) 0 = p := by unfold wtN pkN; simp only [Nat.mul_zero, Nat.sub_zero, Nat.reducePow]; omega
theorem wt_1 {p s t f : Nat} (hp : p < 65536) (hs : s < 65536) (ht : t < 65536) (hf : f < 65536) : wtN (pkN p s t f) 1 = s := by unfold wtN pkN; simp only [Nat.reduceMul, Nat.reduceSub, Nat.reducePow]; omega
theorem wt_2 {p s t f : Nat} (hp : p < 65536) (hs : s < 65536) (ht : t < 65536) (hf : f < 65536) : wtN (pkN p s t f) 2 = t := by unfold wtN pkN; simp only [Nat.reduceMul, Nat.reduceSub, Nat.reducePow]; omega
theorem wt_3 {p s t f : Nat} (hp : p < 65536) (hs : s < 65536) (ht : t < 65536) (hf : f < 65536) : wtN (pkN p s t f) 3 = f := by unfold wtN pkN; simp only [Nat.reduceMul, Nat.reduceSub, Nat.reducePow]; omega
theorem wtN_lt (n w : Nat) : wtN n w < 65536 := Nat.mod_lt _ (by decide)
/-- a weight or-ed with 65535 -/
theorem pk_orF {p s t : Nat} (hp : p < 65536) (hs : s < 65536) (ht : t < 65536) : lN (pkN p s t 0) ||| lN 65535 = lN (pkN p s t 65535) := by
  have e1 : pkN p s t 0 = (p * 4294967296 + s * 65536 + t) * 65536 := by unfold pkN; omega
  rw [e1, g_or (k := 16) (p := 65536) (b := p * 4294967296 + s * 65536 + t) (a := 65535) rfl (by omega) (by rw [pw64]; omega)]
  exact congrArg lN (by unfold pkN; omega)
theorem pkN_eq0 {p s t : Nat} : pkN p s t 0 = 0 ↔ p = 0 ∧ s = 0 ∧ t = 0 := by unfold pkN; omega
theorem kx_lt {k p : Nat} (hp : p ≤ 1114111) (hk : k < 4398046511104) : kx k p < 9223372036854775808 := by unfold kx; omega

set_option maxHeartbeats 4000000 in
set_option maxRecDepth 100000 in
theorem c_Wo_longerKey (l : Launch) (G : Gx) (k p : Nat) (hp : p ≤ 1114111) (hk : k < 4398046511104) : CT l G y_Wo_longerKey b_Wo_longerKey 3 (some .long) ({ frames := 0, cells := 0, slots := 0, locals := 0 } : Room) ([]) [.long (lN k), .int (nI p)] (fun r w' => w' = [] ∧ r = some (.long (lN (kx k p)))) := by
  refine ct_of [(0, .long (lN k)), (2, .int (nI p))] (by decide) (Nat.le_of_ble_eq_true rfl) rfl (fun K hKl hNI C X => ?_)
  subst hKl
  refine v_lload_n (pc := 0) C 0 d_Wo_longerKey_0 rfl rfl ?_
  refine v_bipush (pc := 1) C (nI 21) d_Wo_longerKey_1 (by decide +kernel) ?_
  refine v_lshl (pc := 3) C (lN (k * 2097152)) d_Wo_longerKey_3 (lk_shl k) ?_
  refine v_iload_n (pc := 4) C 1 d_Wo_longerKey_4 rfl rfl ?_
  refine v_iconst (pc := 5) C (nI 1) d_Wo_longerKey_5 (by decide +kernel) ?_
  refine v_iadd (pc := 6) C (nI (p + 1)) d_Wo_longerKey_6 (nI_add _ _) ?_
  refine v_i2l (pc := 7) C (lN (p + 1)) d_Wo_longerKey_7 (nI_l (by omega)) ?_
  refine v_lor (pc := 8) C (lN (kx k p)) d_Wo_longerKey_8 (lk_or hp hk) ?_
  exact v_lret (pc := 9) C X d_Wo_longerKey_9 ⟨rfl, rfl⟩ (by decide) (by decide)

set_option maxHeartbeats 4000000 in
set_option maxRecDepth 100000 in
theorem c_Wo_keyOf (l : Launch) (G : Gx) (n a b c : Nat) (hn : n ≤ 3) (ha : a ≤ 1114111) (hb : b ≤ 1114111) (hc : c ≤ 1114111) : CT l G y_Wo_keyOf b_Wo_keyOf 6 (some .long) ({ frames := 1, cells := 0, slots := 0, locals := 22 } : Room) ([]) [.int (nI n), .int (nI a), .int (nI b), .int (nI c)] (fun r w' => w' = [] ∧ r = some (.long (lN (keyN n a b c)))) := by
  refine ct_of [(0, .int (nI n)), (1, .int (nI a)), (2, .int (nI b)), (3, .int (nI c))] (by decide) (Nat.le_of_ble_eq_true rfl) rfl (fun K hKl hNI C X => ?_)
  subst hKl
  refine v_lconst (pc := 0) C (lN 0) d_Wo_keyOf_0 (by decide +kernel) ?_
  refine v_iload_n (pc := 1) C 1 d_Wo_keyOf_1 rfl rfl ?_
  refine v_callS (pc := 2) (As := [.long (lN 0), .int (nI a)]) (rest := []) C (c_Wo_longerKey _ G 0 a ha (by decide)) l_Wo_128 ([]) (sp_pos [] [] rfl rfl rfl) rfl rfl (Nat.le_of_ble_eq_true rfl) (by decide) (by decide) (by decide) (by decide) d_Wo_keyOf_2 (fun r w' hq => ?_)
  obtain ⟨rfl, rfl⟩ := hq
  show vv K ({ frames := 1, cells := 0, slots := 0, locals := 22 } : Room) G 6 0 0 ([]) 5 [(0, .int (nI n)), (1, .int (nI a)), (2, .int (nI b)), (3, .int (nI c))] [.long (lN (kx 0 a))]
  refine v_lstore (pc := 5) C [(4, .long (lN (kx 0 a))), (0, .int (nI n)), (1, .int (nI a)), (2, .int (nI b)), (3, .int (nI c))] d_Wo_keyOf_5 (by decide) rfl ?_
  refine v_iload_n (pc := 7) C 1 d_Wo_keyOf_7 rfl rfl ?_
  refine v_iconst (pc := 8) C (nI 1) d_Wo_keyOf_8 (by decide +kernel) ?_
  refine v_icmpN_le (pc := 9) C 20 n 1 d_Wo_keyOf_9 (by decide) (by omega) (by omega) (fun h1 => ?_) (fun h1 => ?_)
  · refine v_iload_n (pc := 20) C 1 d_Wo_keyOf_20 rfl rfl ?_
    refine v_iconst (pc := 21) C (nI 2) d_Wo_keyOf_21 (by decide +kernel) ?_
    refine v_icmpN_le (pc := 22) C 33 n 2 d_Wo_keyOf_22 (by decide) (by omega) (by omega) (fun h2 => ?_) (fun h2 => ?_)
    · refine v_lload (pc := 33) C 0 d_Wo_keyOf_33 rfl ?_
      exact v_lret (pc := 35) C X d_Wo_keyOf_35 ⟨rfl, by unfold keyN; rw [if_pos h1]⟩ (by decide) (by decide)
    · omega
  · refine v_lload (pc := 12) C 0 d_Wo_keyOf_12 rfl ?_
    refine v_iload_n (pc := 14) C 3 d_Wo_keyOf_14 rfl rfl ?_
    refine v_callS (pc := 15) (As := [.long (lN (kx 0 a)), .int (nI b)]) (rest := []) C (c_Wo_longerKey _ G (kx 0 a) b hb (by unfold kx; omega)) l_Wo_128 ([]) (sp_pos [] [] rfl rfl rfl) rfl rfl (Nat.le_of_ble_eq_true rfl) (by decide) (by decide) (by decide) (by decide) d_Wo_keyOf_15 (fun r w' hq => ?_)
    obtain ⟨rfl, rfl⟩ := hq
    show vv K ({ frames := 1, cells := 0, slots := 0, locals := 22 } : Room) G 6 0 0 ([]) 18 [(4, .long (lN (kx 0 a))), (0, .int (nI n)), (1, .int (nI a)), (2, .int (nI b)), (3, .int (nI c))] [.long (lN (kx (kx 0 a) b))]
    refine v_lstore (pc := 18) C [(4, .long (lN (kx (kx 0 a) b))), (0, .int (nI n)), (1, .int (nI a)), (2, .int (nI b)), (3, .int (nI c))] d_Wo_keyOf_18 (by decide) rfl ?_
    refine v_iload_n (pc := 20) C 1 d_Wo_keyOf_20 rfl rfl ?_
    refine v_iconst (pc := 21) C (nI 2) d_Wo_keyOf_21 (by decide +kernel) ?_
    refine v_icmpN_le (pc := 22) C 33 n 2 d_Wo_keyOf_22 (by decide) (by omega) (by omega) (fun h2 => ?_) (fun h2 => ?_)
    · refine v_lload (pc := 33) C 0 d_Wo_keyOf_33 rfl ?_
      exact v_lret (pc := 35) C X d_Wo_keyOf_35 ⟨rfl, by unfold keyN; rw [if_neg (by omega), if_pos h2]⟩ (by decide) (by decide)
    · refine v_lload (pc := 25) C 0 d_Wo_keyOf_25 rfl ?_
      refine v_iload_n (pc := 27) C 4 d_Wo_keyOf_27 rfl rfl ?_
      refine v_callS (pc := 28) (As := [.long (lN (kx (kx 0 a) b)), .int (nI c)]) (rest := []) C (c_Wo_longerKey _ G (kx (kx 0 a) b) c hc (by unfold kx; omega)) l_Wo_128 ([]) (sp_pos [] [] rfl rfl rfl) rfl rfl (Nat.le_of_ble_eq_true rfl) (by decide) (by decide) (by decide) (by decide) d_Wo_keyOf_28 (fun r w' hq => ?_)
      obtain ⟨rfl, rfl⟩ := hq
      show vv K ({ frames := 1, cells := 0, slots := 0, locals := 22 } : Room) G 6 0 0 ([]) 31 [(4, .long (lN (kx (kx 0 a) b))), (0, .int (nI n)), (1, .int (nI a)), (2, .int (nI b)), (3, .int (nI c))] [.long (lN (kx (kx (kx 0 a) b) c))]
      refine v_lstore (pc := 31) C [(4, .long (lN (kx (kx (kx 0 a) b) c))), (0, .int (nI n)), (1, .int (nI a)), (2, .int (nI b)), (3, .int (nI c))] d_Wo_keyOf_31 (by decide) rfl ?_
      refine v_lload (pc := 33) C 0 d_Wo_keyOf_33 rfl ?_
      exact v_lret (pc := 35) C X d_Wo_keyOf_35 ⟨rfl, by unfold keyN; rw [if_neg (by omega), if_neg (by omega)]⟩ (by decide) (by decide)

set_option maxHeartbeats 4000000 in
set_option maxRecDepth 100000 in
theorem c_Wo_pack (l : Launch) (G : Gx) (p s t : Nat) (hp : p < 65536) (hs : s < 65536) (ht : t < 65536) : CT l G y_Wo_pack b_Wo_pack 3 (some .long) ({ frames := 0, cells := 0, slots := 0, locals := 0 } : Room) ([]) [.int (nI p), .int (nI s), .int (nI t)] (fun r w' => w' = [] ∧ r = some (.long (lN (pkN p s t 0)))) := by
  refine ct_of [(0, .int (nI p)), (1, .int (nI s)), (2, .int (nI t))] (by decide) (Nat.le_of_ble_eq_true rfl) rfl (fun K hKl hNI C X => ?_)
  subst hKl
  refine v_iload_n (pc := 0) C 0 d_Wo_pack_0 rfl rfl ?_
  refine v_i2l (pc := 1) C (lN p) d_Wo_pack_1 (nI_l (by omega)) ?_
  refine v_bipush (pc := 2) C (nI 48) d_Wo_pack_2 (by decide +kernel) ?_
  refine v_lshl (pc := 4) C (lN (p * 281474976710656)) d_Wo_pack_4 (pk_shl48 p) ?_
  refine v_iload_n (pc := 5) C 1 d_Wo_pack_5 rfl rfl ?_
  refine v_i2l (pc := 6) C (lN s) d_Wo_pack_6 (nI_l (by omega)) ?_
  refine v_bipush (pc := 7) C (nI 32) d_Wo_pack_7 (by decide +kernel) ?_
  refine v_lshl (pc := 9) C (lN (s * 4294967296)) d_Wo_pack_9 (pk_shl32 s) ?_
  refine v_lor (pc := 10) C (lN (p * 281474976710656 + s * 4294967296)) d_Wo_pack_10 (pk_or1 hp hs) ?_
  refine v_iload_n (pc := 11) C 2 d_Wo_pack_11 rfl rfl ?_
  refine v_i2l (pc := 12) C (lN t) d_Wo_pack_12 (nI_l (by omega)) ?_
  refine v_bipush (pc := 13) C (nI 16) d_Wo_pack_13 (by decide +kernel) ?_
  refine v_lshl (pc := 15) C (lN (t * 65536)) d_Wo_pack_15 (pk_shl16 t) ?_
  refine v_lor (pc := 16) C (lN (pkN p s t 0)) d_Wo_pack_16 (pk_or2 hp hs ht) ?_
  exact v_lret (pc := 17) C X d_Wo_pack_17 ⟨rfl, rfl⟩ (by decide) (by decide)

set_option maxHeartbeats 4000000 in
set_option maxRecDepth 100000 in
theorem c_Wo_weightOf (l : Launch) (G : Gx) (n w : Nat) (hn : n < 18446744073709551616) (hw : w ≤ 3) : CT l G y_Wo_weightOf b_Wo_weightOf 3 (some .int) ({ frames := 0, cells := 0, slots := 0, locals := 0 } : Room) ([]) [.long (lN n), .int (nI w)] (fun r w' => w' = [] ∧ r = some (.int (nI (wtN n w)))) := by
  refine ct_of [(0, .long (lN n)), (2, .int (nI w))] (by decide) (Nat.le_of_ble_eq_true rfl) rfl (fun K hKl hNI C X => ?_)
  subst hKl
  refine v_lload_n (pc := 0) C 0 d_Wo_weightOf_0 rfl rfl ?_
  refine v_bipush (pc := 1) C (nI 48) d_Wo_weightOf_1 (by decide +kernel) ?_
  refine v_bipush (pc := 3) C (nI 16) d_Wo_weightOf_3 (by decide +kernel) ?_
  refine v_iload_n (pc := 5) C 1 d_Wo_weightOf_5 rfl rfl ?_
  refine v_imul (pc := 6) C (nI (16 * w)) d_Wo_weightOf_6 (pk_mul _ _) ?_
  refine v_isub (pc := 7) C (nI (48 - (16 * w))) d_Wo_weightOf_7 (pk_sub (by omega)) ?_
  refine v_lushr (pc := 8) C (lN (n / 2 ^ (48 - 16 * w))) d_Wo_weightOf_8 (wt_shr hn hw) ?_
  refine v_l2i (pc := 9) C (nI (n / 2 ^ (48 - 16 * w))) d_Wo_weightOf_9 (lN_i _) ?_
  refine v_ldc (pc := 10) C 65535 k_326 d_Wo_weightOf_10 ?_
  refine v_seti (nI 65535) (by decide +kernel) ?_
  refine v_iand (pc := 12) C (nI (n / 2 ^ (48 - 16 * w) % 65536)) d_Wo_weightOf_12 (wt_and _) ?_
  exact v_iret (pc := 13) C X d_Wo_weightOf_13 ⟨rfl, rfl⟩ (by decide) (by decide)

def ap3 (a b c : Int32) : Int32 := if (a < 0 ∨ nI 1114111 < a) ∨ (b < 0 ∨ nI 1114111 < b) ∨ (c < 0 ∨ nI 1114111 < c) then nI 0 else nI 1
set_option maxHeartbeats 4000000 in
set_option maxRecDepth 100000 in
theorem c_Wo_arePoints (l : Launch) (G : Gx) (a b c : Int32)  : CT l G y_Wo_arePoints b_Wo_arePoints 3 (some .boolean) ({ frames := 1, cells := 0, slots := 0, locals := 21 } : Room) ([]) [.int a, .int b, .int c] (fun r w' => w' = [] ∧ r = some (.int (ap3 a b c))) := by
  refine ct_of [(0, .int a), (1, .int b), (2, .int c)] (by decide) (Nat.le_of_ble_eq_true rfl) rfl (fun K hKl hNI C X => ?_)
  subst hKl
  refine v_iload_n (pc := 0) C 0 d_Wo_arePoints_0 rfl rfl ?_
  refine v_ldc (pc := 1) C 1114111 k_167 d_Wo_arePoints_1 ?_
  refine v_seti (nI 1114111) (by decide +kernel) ?_
  refine v_callS (pc := 3) (As := [.int a, .int (nI 1114111)]) (rest := []) C (c_Wo_isWithin _ G a (nI 1114111)) l_Wo_52 ([]) (sp_pos [] [] rfl rfl rfl) rfl rfl (Nat.le_of_ble_eq_true rfl) (by decide) (by decide) (by decide) (by decide) d_Wo_arePoints_3 (fun r w' hq => ?_)
  obtain ⟨rfl, rfl⟩ := hq
  show vv K ({ frames := 1, cells := 0, slots := 0, locals := 21 } : Room) G 3 0 0 ([]) 6 [(0, .int a), (1, .int b), (2, .int c)] [.int (wi a (nI 1114111))]
  refine v_if_eq (pc := 6) C 31 d_Wo_arePoints_6 (by decide) (fun ha => ?_) (fun ha => ?_)
  · refine v_iconst (pc := 31) C (nI 0) d_Wo_arePoints_31 (by decide +kernel) ?_
    exact v_zret (pc := 32) C X rfl d_Wo_arePoints_32 ⟨rfl, by unfold ap3; rw [if_pos (Or.inl (wi_eq0 ha))]⟩ (by decide) (by decide)
  · refine v_iload_n (pc := 9) C 1 d_Wo_arePoints_9 rfl rfl ?_
    refine v_ldc (pc := 10) C 1114111 k_167 d_Wo_arePoints_10 ?_
    refine v_seti (nI 1114111) (by decide +kernel) ?_
    refine v_callS (pc := 12) (As := [.int b, .int (nI 1114111)]) (rest := []) C (c_Wo_isWithin _ G b (nI 1114111)) l_Wo_52 ([]) (sp_pos [] [] rfl rfl rfl) rfl rfl (Nat.le_of_ble_eq_true rfl) (by decide) (by decide) (by decide) (by decide) d_Wo_arePoints_12 (fun r w' hq => ?_)
    obtain ⟨rfl, rfl⟩ := hq
    show vv K ({ frames := 1, cells := 0, slots := 0, locals := 21 } : Room) G 3 0 0 ([]) 15 [(0, .int a), (1, .int b), (2, .int c)] [.int (wi b (nI 1114111))]
    refine v_if_eq (pc := 15) C 31 d_Wo_arePoints_15 (by decide) (fun hb => ?_) (fun hb => ?_)
    · refine v_iconst (pc := 31) C (nI 0) d_Wo_arePoints_31 (by decide +kernel) ?_
      exact v_zret (pc := 32) C X rfl d_Wo_arePoints_32 ⟨rfl, by unfold ap3; rw [if_pos (Or.inr (Or.inl (wi_eq0 hb)))]⟩ (by decide) (by decide)
    · refine v_iload_n (pc := 18) C 2 d_Wo_arePoints_18 rfl rfl ?_
      refine v_ldc (pc := 19) C 1114111 k_167 d_Wo_arePoints_19 ?_
      refine v_seti (nI 1114111) (by decide +kernel) ?_
      refine v_callS (pc := 21) (As := [.int c, .int (nI 1114111)]) (rest := []) C (c_Wo_isWithin _ G c (nI 1114111)) l_Wo_52 ([]) (sp_pos [] [] rfl rfl rfl) rfl rfl (Nat.le_of_ble_eq_true rfl) (by decide) (by decide) (by decide) (by decide) d_Wo_arePoints_21 (fun r w' hq => ?_)
      obtain ⟨rfl, rfl⟩ := hq
      show vv K ({ frames := 1, cells := 0, slots := 0, locals := 21 } : Room) G 3 0 0 ([]) 24 [(0, .int a), (1, .int b), (2, .int c)] [.int (wi c (nI 1114111))]
      refine v_if_eq (pc := 24) C 31 d_Wo_arePoints_24 (by decide) (fun hc => ?_) (fun hc => ?_)
      · refine v_iconst (pc := 31) C (nI 0) d_Wo_arePoints_31 (by decide +kernel) ?_
        exact v_zret (pc := 32) C X rfl d_Wo_arePoints_32 ⟨rfl, by unfold ap3; rw [if_pos (Or.inr (Or.inr (wi_eq0 hc)))]⟩ (by decide) (by decide)
      · refine v_iconst (pc := 27) C (nI 1) d_Wo_arePoints_27 (by decide +kernel) ?_
        refine v_goto (pc := 28) C 32 d_Wo_arePoints_28 (by decide) ?_
        exact v_zret (pc := 32) C X rfl d_Wo_arePoints_32 ⟨rfl, by unfold ap3; rw [if_neg (fun q => q.elim (fun z => z.elim (wi_ne0 ha).1 (wi_ne0 ha).2) (fun q => q.elim (fun z => z.elim (wi_ne0 hb).1 (wi_ne0 hb).2) (fun z => z.elim (wi_ne0 hc).1 (wi_ne0 hc).2)))]⟩ (by decide) (by decide)
