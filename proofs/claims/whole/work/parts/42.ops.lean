/-! the machine's shifts and masks, over whole numbers -/
theorem jsl : ∀ k, k < 64 → ((nI k).toInt64 &&& 63).toBitVec.smod 64 = BitVec.ofNat 64 k := by decide +kernel
theorem jsu : ∀ k, k < 64 → (((nI k).toInt64.toUInt64 &&& Int64.toUInt64 63).toBitVec % 64) = BitVec.ofNat 64 k := by decide +kernel
theorem jil : ∀ k, k < 32 → ((nI k &&& 31).toBitVec.smod 32).toNat = k := by decide +kernel
theorem jiu : ∀ k, k < 32 → (((nI k).toUInt32 &&& Int32.toUInt32 31).toBitVec % 32).toNat = k := by decide +kernel
theorem lN_tn {n : Nat} (h : n < 2 ^ 64) : (lN n).toBitVec.toNat = n := Nat.mod_eq_of_lt h
theorem lN_inj' {a b : Nat} (h : a % 2 ^ 64 = b % 2 ^ 64) : lN a = lN b := by
  apply Int64.toBitVec_inj.mp
  apply BitVec.eq_of_toNat_eq
  exact h
theorem nI_inj' {a b : Nat} (h : a % 2 ^ 32 = b % 2 ^ 32) : nI a = nI b := by
  apply Int32.toBitVec_inj.mp
  apply BitVec.eq_of_toNat_eq
  exact h
theorem jl_shl (n k : Nat) (hk : k < 64) : j_lshl (lN n) (nI k) = lN (n * 2 ^ k) := by
  unfold j_lshl
  apply Int64.toBitVec_inj.mp
  apply BitVec.eq_of_toNat_eq
  show ((lN n).toBitVec <<< (((nI k).toInt64 &&& 63).toBitVec.smod 64)).toNat = _
  rw [jsl k hk, BitVec.shiftLeft_eq', BitVec.toNat_shiftLeft, BitVec.toNat_ofNat, Nat.mod_eq_of_lt (by omega : k < 2 ^ 64), Nat.shiftLeft_eq]
  show (n % 2 ^ 64) * 2 ^ k % 2 ^ 64 = (n * 2 ^ k) % 2 ^ 64
  rw [Nat.mod_mul_mod]
theorem jl_ushr {n : Nat} (k : Nat) (hn : n < 2 ^ 64) (hk : k < 64) : j_lushr (lN n) (nI k) = lN (n / 2 ^ k) := by
  unfold j_lushr
  apply Int64.toBitVec_inj.mp
  apply BitVec.eq_of_toNat_eq
  show ((lN n).toBitVec >>> (((nI k).toInt64.toUInt64 &&& Int64.toUInt64 63).toBitVec % 64)).toNat = _
  rw [jsu k hk, BitVec.ushiftRight_eq', BitVec.toNat_ushiftRight, BitVec.toNat_ofNat, Nat.mod_eq_of_lt (by omega : k < 2 ^ 64), lN_tn hn, Nat.shiftRight_eq_div_pow, lN_tn (Nat.lt_of_le_of_lt (Nat.div_le_self _ _) hn)]
theorem jl_shr {z : Int} (k : Nat) (h1 : -9223372036854775808 ≤ z) (h2 : z < 9223372036854775808) (hk : k < 64) : j_lshr (lZ z) (nI k) = lZ (z / 2 ^ k) := by
  unfold j_lshr
  apply Int64.toBitVec_inj.mp
  apply BitVec.eq_of_toInt_eq
  show ((lZ z).toBitVec.sshiftRight' (((nI k).toInt64 &&& 63).toBitVec.smod 64)).toInt = _
  rw [jsl k hk, BitVec.sshiftRight_eq', BitVec.toInt_sshiftRight, BitVec.toNat_ofNat, Nat.mod_eq_of_lt (by omega : k < 2 ^ 64)]
  have e1 : (lZ z).toBitVec.toInt = z := lZ_t h1 h2
  have hp : (0 : Int) < 2 ^ k := by exact_mod_cast Nat.two_pow_pos k
  have b1 : -9223372036854775808 ≤ z / 2 ^ k := by
    rcases Int.lt_or_le z 0 with h | h
    · have := Int.mul_ediv_self_le (x := z) (k := 2 ^ k) (Int.ne_of_gt hp)
      have h3 : z ≤ z / 2 ^ k := by
        rw [Int.le_ediv_iff_mul_le hp]
        have : (1 : Int) ≤ 2 ^ k := hp
        have h4 : z * (2 ^ k) ≤ z * 1 := Int.mul_le_mul_of_nonpos_left (by omega) (by omega)
        omega
      omega
    · have := Int.ediv_nonneg h (Int.le_of_lt hp)
      omega
  have b2 : z / 2 ^ k < 9223372036854775808 := by
    rcases Int.lt_or_le z 0 with h | h
    · have := Int.ediv_neg_of_neg_of_pos h hp
      omega
    · have : z / 2 ^ k ≤ z := Int.ediv_le_self _ h
      omega
  have e2 : (lZ (z / 2 ^ k)).toBitVec.toInt = z / 2 ^ k := lZ_t b1 b2
  rw [e1, e2, Int.shiftRight_eq_div_pow]
  norm_cast
theorem ji_ushr {n : Nat} (k : Nat) (hn : n < 2 ^ 32) (hk : k < 32) : j_iushr (nI n) (nI k) = nI (n / 2 ^ k) := pk_ushrN hn (nI k) k (jiu k hk)
theorem ji_shl (n k : Nat) (hk : k < 32) : nI n <<< (nI k &&& 31) = nI (n * 2 ^ k) := by
  apply Int32.toBitVec_inj.mp
  apply BitVec.eq_of_toNat_eq
  rw [pk_shl _ _ k (jil k hk)]
  show (n % 2 ^ 32) * 2 ^ k % 2 ^ 32 = (n * 2 ^ k) % 2 ^ 32
  rw [Nat.mod_mul_mod]
theorem ji_shr {n : Nat} (k : Nat) (hn : n < 2 ^ 31) (hk : k < 32) : nI n >>> (nI k &&& 31) = nI (n / 2 ^ k) := pk_shrN hn _ k (jil k hk)
theorem ji_shrZ {z : Int} (k : Nat) (h1 : -2147483648 ≤ z) (h2 : z < 2147483648) (hk : k < 32) : iZ z >>> (nI k &&& 31) = iZ (z / 2 ^ k) := by
  apply Int32.toInt_inj.mp
  have hp : (0 : Int) < 2 ^ k := by exact_mod_cast Nat.two_pow_pos k
  have b1 : -2147483648 ≤ z / 2 ^ k := by
    rcases Int.lt_or_le z 0 with h | h
    · have h3 : z ≤ z / 2 ^ k := by
        rw [Int.le_ediv_iff_mul_le hp]
        have h4 : z * (2 ^ k) ≤ z * 1 := Int.mul_le_mul_of_nonpos_left (by omega) (by omega)
        omega
      omega
    · have := Int.ediv_nonneg h (Int.le_of_lt hp)
      omega
  have b2 : z / 2 ^ k < 2147483648 := by
    rcases Int.lt_or_le z 0 with h | h
    · have := Int.ediv_neg_of_neg_of_pos h hp
      omega
    · have : z / 2 ^ k ≤ z := Int.ediv_le_self _ h
      omega
  rw [pk_shr _ _ k (jil k hk), iZ_t h1 h2, iZ_t b1 b2, Int.shiftRight_eq_div_pow]
  norm_cast
theorem l_or {a b : Nat} (ha : a < 2 ^ 64) (hb : b < 2 ^ 64) : lN a ||| lN b = lN (a ||| b) := by
  apply Int64.toBitVec_inj.mp
  apply BitVec.eq_of_toNat_eq
  rw [Int64.toBitVec_or, BitVec.toNat_or, lN_tn ha, lN_tn hb, lN_tn (Nat.or_lt_two_pow ha hb)]
theorem i_or {a b : Nat} (ha : a < 2 ^ 32) (hb : b < 2 ^ 32) : nI a ||| nI b = nI (a ||| b) := by
  apply Int32.toBitVec_inj.mp
  apply BitVec.eq_of_toNat_eq
  rw [Int32.toBitVec_or, BitVec.toNat_or, pk_tn ha, pk_tn hb, pk_tn (Nat.or_lt_two_pow ha hb)]
theorem i_and {a b : Nat} (ha : a < 2 ^ 32) (hb : b < 2 ^ 32) : nI a &&& nI b = nI (a &&& b) := by
  apply Int32.toBitVec_inj.mp
  apply BitVec.eq_of_toNat_eq
  rw [Int32.toBitVec_and, BitVec.toNat_and, pk_tn ha, pk_tn hb, pk_tn (Nat.lt_of_le_of_lt Nat.and_le_left ha)]
theorem i_xor {a b : Nat} (ha : a < 2 ^ 32) (hb : b < 2 ^ 32) : nI a ^^^ nI b = nI (a ^^^ b) := by
  apply Int32.toBitVec_inj.mp
  apply BitVec.eq_of_toNat_eq
  rw [Int32.toBitVec_xor, BitVec.toNat_xor, pk_tn ha, pk_tn hb, pk_tn (Nat.xor_lt_two_pow ha hb)]
theorem or_add {a b k : Nat} (hb : b < 2 ^ k) : (a * 2 ^ k) ||| b = a * 2 ^ k + b := by
  rw [← Nat.shiftLeft_eq, ← Nat.shiftLeft_add_eq_or_of_lt hb]
theorem or_add' {a b k : Nat} (hb : b < 2 ^ k) : b ||| (a * 2 ^ k) = b + a * 2 ^ k := by
  rw [Nat.or_comm, or_add hb, Nat.add_comm]
theorem l_mask31 {n : Nat} (h : n < 2 ^ 63) : lN n &&& (2147483647 : Int64) = lN (n % 2147483648) := by
  rw [lZ_lN, lZ_mask _ 31 _ (by decide) (by decide), lZ_lN]
  norm_cast
theorem l_mask16 {n : Nat} (h : n < 2 ^ 63) : lN n &&& (65535 : Int64) = lN (n % 65536) := by
  rw [lZ_lN, lZ_mask _ 16 _ (by decide) (by decide), lZ_lN]
  norm_cast
