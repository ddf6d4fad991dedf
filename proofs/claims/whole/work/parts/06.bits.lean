/-! bits: masks and shifts as numbers -/
theorem wb_tb (n : Nat) : (lN n).toBitVec = BitVec.ofNat 64 n := rfl
theorem wb_inj {a b : Int64} (h : a.toBitVec = b.toBitVec) : a = b := Int64.toBitVec_inj.mp h
theorem wb_tn {n : Nat} (h : n < 2 ^ 64) : (lN n).toBitVec.toNat = n := by rw [wb_tb, BitVec.toNat_ofNat, Nat.mod_eq_of_lt h]
theorem wb_cu : ∀ k, k < 64 → ((nI k).toInt64.toUInt64 &&& Int64.toUInt64 63) = UInt64.ofNat k := by decide +kernel
theorem wb_c : ∀ k, k < 64 → ((nI k).toInt64 &&& 63) = lN k := by decide +kernel
theorem wb_sm : ∀ k, k < 64 → (BitVec.ofNat 64 k).smod 64 = BitVec.ofNat 64 k := by decide +kernel
theorem wb_shr {n k : Nat} (hn : n < 2 ^ 64) (hk : k < 64) : ((lN n).toUInt64 >>> ((nI k).toInt64.toUInt64 &&& Int64.toUInt64 63)).toInt64 = lN (n / 2 ^ k) := by
  rw [wb_cu k hk]
  apply wb_inj
  apply BitVec.eq_of_toNat_eq
  show ((lN n).toUInt64 >>> UInt64.ofNat k).toNat = (BitVec.ofNat 64 _).toNat
  have h1 : (UInt64.ofNat k).toNat = k := by
    show (BitVec.ofNat 64 k).toNat = k
    rw [BitVec.toNat_ofNat, Nat.mod_eq_of_lt (by omega)]
  have h2 : (lN n).toUInt64.toNat = n := wb_tn hn
  rw [UInt64.toNat_shiftRight, h1, h2, Nat.mod_eq_of_lt hk, Nat.shiftRight_eq_div_pow, BitVec.toNat_ofNat, Nat.mod_eq_of_lt (Nat.lt_of_le_of_lt (Nat.div_le_self _ _) hn)]
theorem wb_and {a b : Nat} (ha : a < 2 ^ 64) (hb : b < 2 ^ 64) : lN a &&& lN b = lN (a &&& b) := by
  apply wb_inj
  rw [Int64.toBitVec_and, wb_tb, wb_tb, wb_tb]
  apply BitVec.eq_of_toNat_eq
  rw [BitVec.toNat_and, BitVec.toNat_ofNat, BitVec.toNat_ofNat, BitVec.toNat_ofNat, Nat.mod_eq_of_lt ha, Nat.mod_eq_of_lt hb, Nat.mod_eq_of_lt (Nat.and_lt_two_pow _ hb)]
/-- the carry of a sum below 2^64: '>>> 32' -/
theorem sg_hi {n : Nat} (h : n < 18446744073709551616) : ((lN n).toUInt64 >>> ((nI 32).toInt64.toUInt64 &&& Int64.toUInt64 63)).toInt64 = lN (n / 4294967296) := wb_shr (k := 32) h (by decide)
/-- a part of 32 bits as a number: '& 0xFFFFFFFFL' -/
theorem sg_low {d : Nat} (h : d < 4294967296) : (nI d).toInt64 &&& lN 4294967295 = lN d := by
  apply wb_inj
  apply BitVec.eq_of_toNat_eq
  have h1 : (nI d).toInt64.toBitVec.toNat % 2 ^ 32 = d := by
    show (BitVec.signExtend 64 (BitVec.ofNat 32 d)).toNat % 2 ^ 32 = d
    rw [BitVec.toNat_signExtend, BitVec.toNat_setWidth, BitVec.toNat_ofNat]
    split <;> omega
  rw [Int64.toBitVec_and, BitVec.toNat_and]
  show (nI d).toInt64.toBitVec.toNat &&& (BitVec.ofNat 64 4294967295).toNat = (BitVec.ofNat 64 d).toNat
  rw [show (BitVec.ofNat 64 4294967295).toNat = 2 ^ 32 - 1 from by decide, Nat.and_two_pow_sub_one_eq_mod, h1, BitVec.toNat_ofNat, Nat.mod_eq_of_lt (by omega)]
/-- the low 16 bits of a number: '& 65535L' -/
theorem sg_low16 {n : Nat} (h : n < 18446744073709551616) : lN n &&& lN 65535 = lN (n % 65536) := by
  rw [wb_and h (by decide), show (65535 : Nat) = 2 ^ 16 - 1 from rfl, Nat.and_two_pow_sub_one_eq_mod]
/-- '>> 16' -/
theorem sg_hi16 {n : Nat} (h : n < 4611686018427387904) : lN n >>> ((nI 16).toInt64 &&& 63) = lN (n / 65536) := by
  have hd : n / 2 ^ 16 ≤ n := Nat.div_le_self _ _
  apply Int64.toInt_inj.mp
  have e : (lN n >>> ((nI 16).toInt64 &&& 63)).toInt = (lN n).toInt >>> 16 := by
    rw [wb_c 16 (by decide)]
    have hD : ((lN 16).toBitVec.smod 64).toNat = 16 := by decide
    rw [← hD]
    exact BitVec.toInt_sshiftRight ..
  rw [e, Int.shiftRight_eq_div_pow, pk_lT (by omega), pk_lT (by omega)]
  rfl
/-- two limbs of 16 bits as one part -/
theorem sg_two {a b : Nat} (ha : a < 65536) (hb : b < 65536) : nI a ||| (nI b <<< (nI 16 &&& 31)) = nI (a + 65536 * b) := by
  have h1 : nI b <<< (nI 16 &&& 31) = nI (b * 2 ^ 16) := pk_shlN _ 16 (by decide) (by omega)
  rw [h1]
  apply Int32.toBitVec_inj.mp
  apply BitVec.eq_of_toNat_eq
  rw [Int32.toBitVec_or, BitVec.toNat_or, pk_tn (by omega), pk_tn (by omega), pk_tn (by omega)]
  rw [Nat.or_comm, Nat.mul_comm b, ← Nat.two_pow_add_eq_or_of_lt (by omega : a < 2 ^ 16)]
  omega
/-- an unsigned compare by signed ones -/
theorem sg_uns {a : Nat} (h : a < 4294967296) : (nI a + (-2147483648)).toInt = (a : Int) - 2147483648 := by
  rw [show (-2147483648 : Int32) = nI 2147483648 from by decide, nI_add]
  show (BitVec.ofNat 32 (a + 2147483648)).toInt = _
  rw [BitVec.toInt_eq_toNat_cond, BitVec.toNat_ofNat]
  split <;> omega
theorem sg_cmp {a b : Nat} (ha : a < 9223372036854775808) (hb : b < 9223372036854775808) : (lg_cmp (lN a) (lN b)).toInt = if b < a then 1 else if a = b then 0 else -1 := by
  unfold lg_cmp
  simp only [gt_iff_lt, pk_lLT hb ha, pk_lEQ ha hb]
  split
  · rfl
  · split <;> rfl
theorem sg_s31 (x : Int32) : ∃ j : Nat, j < 32 ∧ x &&& nI 31 = nI j := pk_andE x 5 (by decide)
