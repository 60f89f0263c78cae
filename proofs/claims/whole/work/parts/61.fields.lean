/-! a packed number's fields: the one at sh of width w, and a new value there -/
def FD (x sh w : Nat) : Nat := x / 2 ^ sh % 2 ^ w
def FS (x sh w v : Nat) : Nat := 2 ^ sh * (2 ^ w * (x / 2 ^ (sh + w)) + v) + x % 2 ^ sh
theorem fd_lt (x sh w : Nat) : FD x sh w < 2 ^ w := Nat.mod_lt _ (Nat.two_pow_pos w)
theorem fd_bit (x sh w i : Nat) : (FD x sh w).testBit i = (decide (i < w) && x.testBit (sh + i)) := by
  rw [FD, Nat.testBit_mod_two_pow, Nat.testBit_div_two_pow, Nat.add_comm]
theorem fs_bit {x sh w v : Nat} (hv : v < 2 ^ w) (i : Nat) : (FS x sh w v).testBit i = if i < sh then x.testBit i else if i < sh + w then v.testBit (i - sh) else x.testBit i := by
  rw [FS, Nat.testBit_two_pow_mul_add _ (Nat.mod_lt _ (Nat.two_pow_pos sh))]
  by_cases h1 : i < sh
  · simp [h1, Nat.testBit_mod_two_pow]
  · simp only [h1, if_false]
    rw [Nat.testBit_two_pow_mul_add _ hv]
    by_cases h2 : i < sh + w
    · have h3 : i - sh < w := by omega
      simp [h2, h3]
    · have h3 : ¬ i - sh < w := by omega
      simp only [h2, h3, if_false]
      rw [Nat.testBit_div_two_pow]
      congr 1
      omega
theorem fd_fs_same {x sh w v : Nat} (hv : v < 2 ^ w) : FD (FS x sh w v) sh w = v := by
  apply Nat.eq_of_testBit_eq
  intro i
  rw [fd_bit, fs_bit hv]
  by_cases h : i < w
  · simp [h, show ¬ sh + i < sh by omega]
  · simp only [h, decide_false, Bool.false_and]
    exact (Nat.testBit_lt_two_pow (Nat.lt_of_lt_of_le hv (Nat.pow_le_pow_right (by decide) (by omega)))).symm
theorem fd_fs_ne {x sh w v sh' w' : Nat} (hv : v < 2 ^ w) (h : sh' + w' ≤ sh ∨ sh + w ≤ sh') : FD (FS x sh w v) sh' w' = FD x sh' w' := by
  apply Nat.eq_of_testBit_eq
  intro i
  rw [fd_bit, fd_bit, fs_bit hv]
  by_cases hi : i < w'
  · simp only [hi, decide_true, Bool.true_and]
    rcases h with h | h
    · simp [show sh' + i < sh by omega]
    · simp [show ¬ sh' + i < sh by omega, show ¬ sh' + i < sh + w by omega]
  · simp [hi]
theorem fs_lt {x sh w v N : Nat} (hx : x < 2 ^ N) (hv : v < 2 ^ w) (h : sh + w ≤ N) : FS x sh w v < 2 ^ N := by
  apply Nat.lt_pow_two_of_testBit
  intro i hi
  rw [fs_bit hv]
  have h1 : x.testBit i = false := Nat.testBit_lt_two_pow (Nat.lt_of_lt_of_le hx (Nat.pow_le_pow_right (by decide) hi))
  simp [show ¬ i < sh by omega, show ¬ i < sh + w by omega, h1]
theorem fs_fd (x sh w : Nat) : FS x sh w (FD x sh w) = x := by
  apply Nat.eq_of_testBit_eq
  intro i
  rw [fs_bit (fd_lt x sh w), fd_bit]
  by_cases h1 : i < sh
  · simp [h1]
  · by_cases h2 : i < sh + w
    · simp [h1, h2, show i - sh < w by omega, show sh + (i - sh) = i by omega]
    · simp [h1, h2]
theorem fs_same {x sh w v u : Nat} (hv : v < 2 ^ w) (hu : u < 2 ^ w) : FS (FS x sh w v) sh w u = FS x sh w u := by
  apply Nat.eq_of_testBit_eq
  intro i
  rw [fs_bit hu, fs_bit hv, fs_bit hu]
  by_cases h1 : i < sh
  · simp [h1]
  · by_cases h2 : i < sh + w <;> simp [h1, h2]
/-- one added in a field that isn't full -/
theorem fs_inc {x sh w : Nat} (h : FD x sh w + 1 < 2 ^ w) : x + 2 ^ sh = FS x sh w (FD x sh w + 1) := by
  have e := fs_fd x sh w
  have e2 : FS x sh w (FD x sh w + 1) = FS x sh w (FD x sh w) + 2 ^ sh := by
    simp only [FS, Nat.mul_add, Nat.mul_one]
    omega
  rw [e2, e]
/-- the same of longs: x & ~(mask << sh) | (d << sh) -/
theorem lN_m1 {m : Nat} (hm : m < 2 ^ 64) : lN m ^^^ (-1) = lN (2 ^ 64 - (m + 1)) := by
  apply wb_inj
  rw [Int64.toBitVec_xor, wb_tb, wb_tb]
  apply BitVec.eq_of_getLsbD_eq
  intro i hi
  have h1 : ((-1 : Int64)).toBitVec = BitVec.allOnes 64 := by decide
  rw [h1, BitVec.getLsbD_xor, BitVec.getLsbD_allOnes, BitVec.getLsbD_ofNat, BitVec.getLsbD_ofNat, Nat.testBit_two_pow_sub_succ hm]
  simp [hi]
theorem jl_set {x sh w d : Nat} (hx : x < 2 ^ 63) (hs : sh + w ≤ 63) (hd : d < 2 ^ w) : (lN x &&& ((lN (2 ^ w - 1) <<< ((nI sh).toInt64 &&& 63)) ^^^ (-1))) ||| (lN d <<< ((nI sh).toInt64 &&& 63)) = lN (FS x sh w d) := by
  have hp : 2 ^ (sh + w) ≤ 2 ^ 63 := Nat.pow_le_pow_right (by decide) hs
  have hw0 := Nat.two_pow_pos w
  have hs0 := Nat.two_pow_pos sh
  have hm : (2 ^ w - 1) * 2 ^ sh < 2 ^ 64 := by
    have h1 : (2 ^ w - 1) * 2 ^ sh ≤ 2 ^ w * 2 ^ sh := Nat.mul_le_mul_right _ (Nat.sub_le _ _)
    rw [← Nat.pow_add, Nat.add_comm w sh] at h1
    omega
  have hd2 : d * 2 ^ sh < 2 ^ 64 := by
    have h1 : d * 2 ^ sh < 2 ^ w * 2 ^ sh := Nat.mul_lt_mul_of_pos_right hd hs0
    rw [← Nat.pow_add, Nat.add_comm w sh] at h1
    omega
  rw [wb_shl _ (show sh < 64 by omega), wb_shl _ (show sh < 64 by omega), lN_m1 hm, wb_and (by omega) (by omega), wb_or (Nat.lt_of_le_of_lt (Nat.and_le_left) (by omega)) hd2]
  congr 1
  apply Nat.eq_of_testBit_eq
  intro i
  rw [Nat.testBit_or, Nat.testBit_and, Nat.testBit_two_pow_sub_succ hm, fs_bit hd, Nat.testBit_mul_two_pow, Nat.testBit_mul_two_pow, Nat.testBit_two_pow_sub_one]
  by_cases h1 : i < sh
  · simp [h1, show ¬ sh ≤ i by omega, show i < 64 by omega]
  · by_cases h2 : i < sh + w
    · simp [h1, h2, show sh ≤ i by omega, show i - sh < w by omega]
    · have h3 : d.testBit (i - sh) = false := Nat.testBit_lt_two_pow (Nat.lt_of_lt_of_le hd (Nat.pow_le_pow_right (by decide) (by omega)))
      by_cases h4 : i < 64
      · simp [h1, h2, h3, h4, show sh ≤ i by omega, show ¬ i - sh < w by omega]
      · have h5 : x.testBit i = false := Nat.testBit_lt_two_pow (Nat.lt_of_lt_of_le hx (Nat.pow_le_pow_right (by decide) (by omega)))
        simp [h1, h2, h3, h4, h5]
/-- bits read as an int -/
theorem nI_mask {q k : Nat} (hk : k ≤ 32) {m : Int32} (hm : m.toBitVec.toNat = 2 ^ k - 1) : nI q &&& m = nI (q % 2 ^ k) := by
  rw [pk_and _ k hm]
  congr 1
  show (BitVec.ofNat 32 q).toNat % 2 ^ k = q % 2 ^ k
  rw [BitVec.toNat_ofNat, Nat.mod_mod_of_dvd _ (Nat.pow_dvd_pow 2 hk)]
theorem jl_get {x sh k : Nat} (hx : x < 2 ^ 64) (hs : sh < 64) (hk : k ≤ 32) {m : Int32} (hm : m.toBitVec.toNat = 2 ^ k - 1) : (((lN x).toUInt64 >>> ((nI sh).toInt64.toUInt64 &&& Int64.toUInt64 63)).toInt64).toInt32 &&& m = nI (FD x sh k) := by
  rw [wb_shr hx hs, lN_i, nI_mask hk hm, FD]
