/-! Longs and ints as numbers. -/
def wN (x : Int64) : Nat := x.toBitVec.toNat
theorem wN_lt (x : Int64) : wN x < 2 ^ 64 := x.toBitVec.isLt
theorem wN_inj {x y : Int64} (h : wN x = wN y) : x = y := Int64.toBitVec_inj.mp (BitVec.eq_of_toNat_eq h)
theorem wN_lN {n : Nat} (h : n < 2 ^ 64) : wN (lN n) = n := by
  show (BitVec.ofNat 64 n).toNat = n
  rw [BitVec.toNat_ofNat, Nat.mod_eq_of_lt h]
theorem wN_and (x y : Int64) : wN (x &&& y) = wN x &&& wN y := by
  unfold wN
  rw [Int64.toBitVec_and, BitVec.toNat_and]
theorem wN_or (x y : Int64) : wN (x ||| y) = wN x ||| wN y := by
  unfold wN
  rw [Int64.toBitVec_or, BitVec.toNat_or]
theorem wN_xor (x y : Int64) : wN (x ^^^ y) = wN x ^^^ wN y := by
  unfold wN
  rw [Int64.toBitVec_xor, BitVec.toNat_xor]
theorem wN_add (x y : Int64) : wN (x + y) = (wN x + wN y) % 2 ^ 64 := by
  unfold wN
  rw [Int64.toBitVec_add, BitVec.toNat_add]
theorem wN_mul (x y : Int64) : wN (x * y) = (wN x * wN y) % 2 ^ 64 := by
  unfold wN
  rw [Int64.toBitVec_mul, BitVec.toNat_mul]
theorem wN_255 (x : Int64) : wN (x &&& 255) = wN x % 256 := by
  rw [wN_and]
  exact Nat.and_two_pow_sub_one_eq_mod _ 8
theorem wN_mask (x : Int64) : wN (x &&& 4294967295) = wN x % 2 ^ 32 := by
  rw [wN_and]
  exact Nat.and_two_pow_sub_one_eq_mod _ 32
theorem sh_c : ∀ k, k < 64 → (((nI k).toInt64 &&& 63).toBitVec.smod 64).toNat = k := by decide +kernel
theorem sh_u : ∀ k, k < 64 → ((nI k).toInt64.toUInt64 &&& Int64.toUInt64 63).toNat % 64 = k := by decide +kernel
theorem wN_us {x : Int64} {k : Nat} (hk : k < 64) : wN (us64 x (nI k)) = wN x / 2 ^ k := by
  show (x.toUInt64 >>> ((nI k).toInt64.toUInt64 &&& Int64.toUInt64 63)).toNat = _
  rw [UInt64.toNat_shiftRight, sh_u k hk, Nat.shiftRight_eq_div_pow]
  rfl
theorem wN_sl {x : Int64} {k : Nat} (hk : k < 64) : wN (sl64 x (nI k)) = wN x * 2 ^ k % 2 ^ 64 := by
  show (x.toBitVec <<< (((nI k).toInt64 &&& 63).toBitVec.smod 64).toNat).toNat = _
  rw [sh_c k hk, BitVec.toNat_shiftLeft, Nat.shiftLeft_eq]
  rfl
theorem sr_bv {x : Int64} {k : Nat} (hk : k < 64) : (sr64 x (nI k)).toBitVec = x.toBitVec.sshiftRight k := by
  show x.toBitVec.sshiftRight (((nI k).toInt64 &&& 63).toBitVec.smod 64).toNat = _
  rw [sh_c k hk]
theorem wN_sr {x : Int64} {k : Nat} (hk : k < 64) (hx : wN x < 2 ^ 63) : wN (sr64 x (nI k)) = wN x / 2 ^ k := by
  unfold wN
  rw [sr_bv hk]
  have hm : x.toBitVec.msb = false := by
    rw [BitVec.msb_eq_false_iff_two_mul_lt]
    have : wN x < 2 ^ 63 := hx
    unfold wN at this
    omega
  rw [BitVec.sshiftRight_eq_of_msb_false hm, BitVec.toNat_ushiftRight, Nat.shiftRight_eq_div_pow]
theorem wN_sr8 {x : Int64} {k : Nat} (hk : k ≤ 56) : wN (sr64 x (nI k) &&& 255) = wN x / 2 ^ k % 256 := by
  rw [wN_255]
  apply Nat.eq_of_testBit_eq
  intro i
  rw [show (256 : Nat) = 2 ^ 8 from rfl, Nat.testBit_mod_two_pow, Nat.testBit_mod_two_pow, Nat.testBit_div_two_pow]
  by_cases hi : i < 8
  · simp only [hi, decide_true, Bool.true_and]
    show (sr64 x (nI k)).toBitVec.getLsbD i = x.toBitVec.getLsbD (i + k)
    rw [sr_bv (by omega), BitVec.getLsbD_sshiftRight]
    simp [show ¬ 64 ≤ i from by omega, show k + i < 64 from by omega, Nat.add_comm]
  · simp [hi]
theorem toI_wN (y : Int64) : y.toInt32 = nI (wN y) := by
  apply Int32.toBitVec_inj.mp
  apply BitVec.eq_of_toNat_eq
  unfold nI wN
  simp only [Int64.toBitVec_toInt32, Int32.toBitVec_ofNat']
  simp [BitVec.signExtend_eq_setWidth_of_le]
theorem lo8_wN (y : Int64) : lo8 y.toInt32 = wN y % 256 := by
  rw [toI_wN]
  unfold lo8
  show (BitVec.ofNat 32 (wN y)).toNat % 256 = _
  rw [BitVec.toNat_ofNat]
  omega
/-- byte s of a long -/
def bo (x : Int64) (s : Nat) : Nat := wN x / 2 ^ (8 * s) % 256
theorem bo_lt (x : Int64) (s : Nat) : bo x s < 256 := Nat.mod_lt _ (by decide)
theorem c_bo (x : Int64) {s : Nat} (hs : s ≤ 7) : lo8 (us64 x ((8 : Int32) * nI s)).toInt32 = bo x s := by
  rw [show (8 : Int32) * nI s = nI (8 * s) from pk_mul 8 s, lo8_wN, wN_us (by omega)]
  rfl
theorem m_bo (x : Int64) {s : Nat} (hs : s ≤ 7) : (sr64 x ((8 : Int32) * nI s) &&& (255 : Int64)).toInt32 = nI (bo x s) := by
  rw [show (8 : Int32) * nI s = nI (8 * s) from pk_mul 8 s, toI_wN, wN_sr8 (by omega)]
  rfl
