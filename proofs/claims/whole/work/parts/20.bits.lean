/-! 20: bits: rows pasted out of kit/laws (BITS, NUMBERS), then the numbers in bytes -/
def bt (x : Int32) (i : Nat) : Bool := x.toBitVec.getLsbD i
theorem b_ext {x y : Int32} (h : ∀ i, i < 32 → bt x i = bt y i) : x = y := Int32.toBitVec_inj.mp (BitVec.eq_of_getLsbD_eq (fun i hi => h i hi))
theorem b_or (x y : Int32) (i : Nat) : bt (x ||| y) i = (bt x i || bt y i) := by unfold bt; rw [Int32.toBitVec_or, BitVec.getLsbD_or]
theorem b_and (x y : Int32) (i : Nat) : bt (x &&& y) i = (bt x i && bt y i) := by unfold bt; rw [Int32.toBitVec_and, BitVec.getLsbD_and]
theorem b_xor (x y : Int32) (i : Nat) : bt (x ^^^ y) i = (bt x i ^^ bt y i) := by unfold bt; rw [Int32.toBitVec_xor, BitVec.getLsbD_xor]
theorem b_big {x : Int32} {i : Nat} (h : 32 ≤ i) : bt x i = false := BitVec.getLsbD_of_ge _ _ h
theorem b_255 (i : Nat) : bt 255 i = decide (i < 8) := by
  rcases Nat.lt_or_ge i 32 with h | h
  · exact (by decide +kernel : ∀ i, i < 32 → bt 255 i = decide (i < 8)) i h
  · rw [b_big h, decide_eq_false (by omega)]
theorem b_65535 (i : Nat) : bt 65535 i = decide (i < 16) := by
  rcases Nat.lt_or_ge i 32 with h | h
  · exact (by decide +kernel : ∀ i, i < 32 → bt 65535 i = decide (i < 16)) i h
  · rw [b_big h, decide_eq_false (by omega)]
theorem b_m1 : ∀ i, i < 32 → bt (-1) i = true := by decide +kernel
theorem b_0 (i : Nat) : bt 0 i = false := BitVec.getLsbD_zero
theorem s_l : ∀ n, n < 32 → ((nI n &&& 31).toBitVec.smod 32).toNat = n := by decide +kernel
theorem s_u : ∀ n, n < 32 → (((nI n).toUInt32 &&& Int32.toUInt32 31).toBitVec % 32).toNat = n := by decide +kernel
theorem b_shl (n : Nat) (hn : n < 32) (x : Int32) {i : Nat} (hi : i < 32) : bt (x <<< (nI n &&& 31)) i = (decide (n ≤ i) && bt x (i - n)) := by
  unfold bt
  rw [Int32.toBitVec_shiftLeft]
  show (x.toBitVec <<< ((nI n &&& 31).toBitVec.smod 32).toNat).getLsbD i = _
  rw [s_l n hn, BitVec.getLsbD_shiftLeft]
  rcases Nat.lt_or_ge i n with h | h
  · simp [h, Nat.not_le.mpr h]
  · simp [hi, h, Nat.not_lt.mpr h]
theorem b_ushr (n : Nat) (hn : n < 32) (x : Int32) (i : Nat) : bt ((x.toUInt32 >>> ((nI n).toUInt32 &&& Int32.toUInt32 31)).toInt32) i = bt x (n + i) := by
  show (x.toUInt32 >>> ((nI n).toUInt32 &&& Int32.toUInt32 31)).toBitVec.getLsbD i = x.toUInt32.toBitVec.getLsbD (n + i)
  rw [UInt32.toBitVec_shiftRight]
  show (x.toUInt32.toBitVec >>> (((nI n).toUInt32 &&& Int32.toUInt32 31).toBitVec % 32).toNat).getLsbD i = _
  rw [s_u n hn, BitVec.getLsbD_ushiftRight]
theorem b_sshr (n : Nat) (hn : n < 32) (x : Int32) {i : Nat} (hi : i < 32) : bt (x >>> (nI n &&& 31)) i = if n + i < 32 then bt x (n + i) else bt x 31 := by
  unfold bt
  rw [Int32.toBitVec_shiftRight]
  show (x.toBitVec.sshiftRight ((nI n &&& 31).toBitVec.smod 32).toNat).getLsbD i = _
  rw [s_l n hn, BitVec.getLsbD_sshiftRight, BitVec.msb_eq_getLsbD_last]
  simp [hi]
theorem b_shl8 (x : Int32) {i : Nat} (hi : i < 32) : bt (x <<< ((8 : Int32) &&& 31)) i = (decide (8 ≤ i) && bt x (i - 8)) := b_shl 8 (by omega) x hi
theorem b_shl16 (x : Int32) {i : Nat} (hi : i < 32) : bt (x <<< ((16 : Int32) &&& 31)) i = (decide (16 ≤ i) && bt x (i - 16)) := b_shl 16 (by omega) x hi
theorem b_shl24 (x : Int32) {i : Nat} (hi : i < 32) : bt (x <<< ((24 : Int32) &&& 31)) i = (decide (24 ≤ i) && bt x (i - 24)) := b_shl 24 (by omega) x hi
theorem b_sshr8 (x : Int32) {i : Nat} (hi : i < 32) : bt (x >>> ((8 : Int32) &&& 31)) i = if 8 + i < 32 then bt x (8 + i) else bt x 31 := b_sshr 8 (by omega) x hi
theorem wb_tb (n : Nat) : (lN n).toBitVec = BitVec.ofNat 64 n := rfl
theorem wb_inj {a b : Int64} (h : a.toBitVec = b.toBitVec) : a = b := Int64.toBitVec_inj.mp h
theorem wb_tn {n : Nat} (h : n < 2 ^ 64) : (lN n).toBitVec.toNat = n := by rw [wb_tb, BitVec.toNat_ofNat, Nat.mod_eq_of_lt h]
theorem wb_of (x : Int64) : ∃ n, n < 2 ^ 64 ∧ x = lN n := ⟨x.toBitVec.toNat, x.toBitVec.isLt, wb_inj (by rw [wb_tb]; simp)⟩
theorem wb_of32 (x : Int32) : ∃ n, n < 2 ^ 32 ∧ x = nI n := ⟨x.toBitVec.toNat, x.toBitVec.isLt, Int32.toBitVec_inj.mp (by show _ = BitVec.ofNat 32 _; simp)⟩
theorem wb_c : ∀ k, k < 64 → ((nI k).toInt64 &&& 63) = lN k := by decide +kernel
theorem wb_cu : ∀ k, k < 64 → ((nI k).toInt64.toUInt64 &&& Int64.toUInt64 63) = UInt64.ofNat k := by decide +kernel
theorem wb_sm : ∀ k, k < 64 → (BitVec.ofNat 64 k).smod 64 = BitVec.ofNat 64 k := by decide +kernel
theorem wb_pw {a b : Nat} (h : a ≤ b) : 2 ^ b = 2 ^ a * 2 ^ (b - a) := by rw [← Nat.pow_add]; congr 1; omega
theorem wb_lt2 {a b : Nat} (h : a < b) : 2 ^ a < 2 ^ b := Nat.pow_lt_pow_right (by decide) h
theorem wb_mod (n : Nat) : lN n = lN (n % 2 ^ 64) := wb_inj (by rw [wb_tb, wb_tb]; apply BitVec.eq_of_toNat_eq; rw [BitVec.toNat_ofNat, BitVec.toNat_ofNat, Nat.mod_mod])
theorem wb_shr {n k : Nat} (hn : n < 2 ^ 64) (hk : k < 64) : ((lN n).toUInt64 >>> ((nI k).toInt64.toUInt64 &&& Int64.toUInt64 63)).toInt64 = lN (n / 2 ^ k) := by
  rw [wb_cu k hk]
  apply wb_inj
  apply BitVec.eq_of_toNat_eq
  show ((lN n).toUInt64 >>> UInt64.ofNat k).toNat = (BitVec.ofNat 64 _).toNat
  have h1 : (UInt64.ofNat k).toNat = k := by
    show (BitVec.ofNat 64 k).toNat = k
    rw [BitVec.toNat_ofNat, Nat.mod_eq_of_lt (by omega)]
  have h2 : (lN n).toUInt64.toNat = n := wb_tn hn
  rw [UInt64.toNat_shiftRight, h1, h2, Nat.mod_eq_of_lt hk, Nat.shiftRight_eq_div_pow, BitVec.toNat_ofNat, Nat.mod_eq_of_lt (Nat.lt_of_le_of_lt (Nat.div_le_self _ _) hn)]
theorem wb_shl (n : Nat) {k : Nat} (hk : k < 64) : lN n <<< ((nI k).toInt64 &&& 63) = lN (n * 2 ^ k) := by
  rw [wb_c k hk]
  apply wb_inj
  rw [Int64.toBitVec_shiftLeft, wb_tb, wb_tb, wb_tb, wb_sm k hk]
  apply BitVec.eq_of_toNat_eq
  rw [BitVec.shiftLeft_eq', BitVec.toNat_shiftLeft, BitVec.toNat_ofNat, BitVec.toNat_ofNat, BitVec.toNat_ofNat, Nat.mod_eq_of_lt (show k < 2 ^ 64 by omega), Nat.shiftLeft_eq, Nat.mul_mod, Nat.mod_mod, ← Nat.mul_mod]
theorem wb_and {a b : Nat} (ha : a < 2 ^ 64) (hb : b < 2 ^ 64) : lN a &&& lN b = lN (a &&& b) := by
  apply wb_inj
  rw [Int64.toBitVec_and, wb_tb, wb_tb, wb_tb]
  apply BitVec.eq_of_toNat_eq
  rw [BitVec.toNat_and, BitVec.toNat_ofNat, BitVec.toNat_ofNat, BitVec.toNat_ofNat, Nat.mod_eq_of_lt ha, Nat.mod_eq_of_lt hb, Nat.mod_eq_of_lt (Nat.and_lt_two_pow _ hb)]
theorem wb_or {a b : Nat} (ha : a < 2 ^ 64) (hb : b < 2 ^ 64) : lN a ||| lN b = lN (a ||| b) := by
  apply wb_inj
  rw [Int64.toBitVec_or, wb_tb, wb_tb, wb_tb]
  apply BitVec.eq_of_toNat_eq
  rw [BitVec.toNat_or, BitVec.toNat_ofNat, BitVec.toNat_ofNat, BitVec.toNat_ofNat, Nat.mod_eq_of_lt ha, Nat.mod_eq_of_lt hb, Nat.mod_eq_of_lt (Nat.or_lt_two_pow ha hb)]
theorem wb_mask {n k : Nat} (hn : n < 2 ^ 64) (hk : k < 64) : lN n &&& lN (2 ^ k - 1) = lN (n % 2 ^ k) := by
  rw [wb_and hn (by have := wb_lt2 hk; omega), Nat.and_two_pow_sub_one_eq_mod]
theorem wb_a1 {n : Nat} (hn : n < 2 ^ 64) : lN n &&& 1 = lN (n % 2) := wb_mask (k := 1) hn (by decide)
theorem wb_bit {n k : Nat} (hn : n < 2 ^ 64) (hk : k < 64) : ((lN n).toUInt64 >>> ((nI k).toInt64.toUInt64 &&& Int64.toUInt64 63)).toInt64 &&& 1 = lN (n / 2 ^ k % 2) := by
  rw [wb_shr hn hk, wb_a1 (Nat.lt_of_le_of_lt (Nat.div_le_self _ _) hn)]
theorem u_tn {n : Nat} (h : n < 2 ^ 64) : (UInt64.ofNat n).toNat = n := Nat.mod_eq_of_lt h
theorem g_and {a b c : Nat} (ha : a < 2 ^ 64) (hb : b < 2 ^ 64) (hc : a &&& b = c) : lN a &&& lN b = lN c := by
  subst hc
  have h : UInt64.ofNat a &&& UInt64.ofNat b = UInt64.ofNat (a &&& b) := UInt64.toNat_inj.mp (by rw [UInt64.toNat_and, u_tn ha, u_tn hb, u_tn (Nat.and_lt_two_pow a hb)])
  have h2 := congrArg UInt64.toInt64 h
  exact h2
theorem g_and1 {a : Nat} (ha : a < 2 ^ 64) : lN a &&& 1 = lN (a % 2) := g_and (b := 1) ha (by decide) (Nat.and_two_pow_sub_one_eq_mod a 1)
theorem g_mask {a s p : Nat} (hp : 2 ^ s = p) (hs : s < 64) (ha : a < 2 ^ 64) : lN a &&& lN (p - 1) = lN (a % p) := by
  subst hp
  have := Nat.pow_lt_pow_right (show 1 < 2 by decide) hs
  exact g_and ha (by omega) (Nat.and_two_pow_sub_one_eq_mod a s)
theorem g_or {k p a b : Nat} (hp : 2 ^ k = p) (ha : a < p) (h : b * p + a < 2 ^ 64) : lN (b * p) ||| lN a = lN (b * p + a) := by
  subst hp
  have h1 : b * 2 ^ k ||| a = b * 2 ^ k + a := by rw [← Nat.shiftLeft_eq, Nat.shiftLeft_add_eq_or_of_lt ha]
  have h3 : UInt64.ofNat (b * 2 ^ k) ||| UInt64.ofNat a = UInt64.ofNat (b * 2 ^ k + a) := UInt64.toNat_inj.mp (by rw [UInt64.toNat_or, u_tn (by omega), u_tn (by omega), u_tn h, h1])
  have h2 := congrArg UInt64.toInt64 h3
  exact h2
theorem g_or' {k p a b : Nat} (hp : 2 ^ k = p) (ha : a < p) (h : a + b * p < 2 ^ 64) : lN a ||| lN (b * p) = lN (a + b * p) := by
  rw [Int64.or_comm, g_or hp ha (by omega), Nat.add_comm]
theorem g_ushr {a k p : Nat} {y : UInt64} (hy : y = UInt64.ofNat k) (hk : k < 64) (hp : 2 ^ k = p) (ha : a < 2 ^ 64) : ((lN a).toUInt64 >>> y).toInt64 = lN (a / p) := by
  subst hy hp
  have h : UInt64.ofNat a >>> UInt64.ofNat k = UInt64.ofNat (a / 2 ^ k) := UInt64.toNat_inj.mp (by rw [UInt64.toNat_shiftRight, u_tn ha, u_tn (by omega), u_tn (Nat.lt_of_le_of_lt (Nat.div_le_self _ _) ha), Nat.mod_eq_of_lt hk, Nat.shiftRight_eq_div_pow])
  have h2 := congrArg UInt64.toInt64 h
  exact h2
theorem g_shl {a k p : Nat} {y : Int64} (hy : y.toBitVec.smod 64 = BitVec.ofNat 64 k) (hk : k < 64) (hp : 2 ^ k = p) (ha : a < 2 ^ 64) : lN a <<< y = lN (a * p) := by
  subst hp
  apply Int64.toBitVec_inj.mp
  rw [Int64.toBitVec_shiftLeft, hy]
  apply BitVec.eq_of_toNat_eq
  have hb : (lN a).toBitVec.toNat = a := Nat.mod_eq_of_lt ha
  have hk' : (BitVec.ofNat 64 k).toNat = k := Nat.mod_eq_of_lt (by omega)
  have h : ((lN a).toBitVec <<< BitVec.ofNat 64 k).toNat = (a * 2 ^ k) % 2 ^ 64 := by simp only [BitVec.shiftLeft_eq', BitVec.toNat_shiftLeft, hb, hk', Nat.shiftLeft_eq]
  exact h
theorem fa_and (a b : Nat) : nI a &&& nI b = nI (a &&& b) := by
  apply Int32.toBitVec_inj.1
  show BitVec.ofNat 32 a &&& BitVec.ofNat 32 b = BitVec.ofNat 32 (a &&& b)
  apply BitVec.eq_of_getLsbD_eq
  intro i hi
  simp [hi]
theorem fa_or (a b : Nat) : nI a ||| nI b = nI (a ||| b) := by
  apply Int32.toBitVec_inj.1
  show BitVec.ofNat 32 a ||| BitVec.ofNat 32 b = BitVec.ofNat 32 (a ||| b)
  apply BitVec.eq_of_getLsbD_eq
  intro i hi
  simp [hi]
/-- a remainder by a power of two, as a mask -/
theorem fa_mask (n k : Nat) : nI n &&& nI (2 ^ k - 1) = nI (n % 2 ^ k) := by rw [fa_and, Nat.and_two_pow_sub_one_eq_mod]
/-- 'or' of a high part and a low one that don't meet is their sum -/
theorem fa_or_sum {a k : Nat} (b : Nat) (h : a < 2 ^ k) : nI (2 ^ k * b) ||| nI a = nI (2 ^ k * b + a) := by rw [fa_or, Nat.two_pow_add_eq_or_of_lt h]
/-! numbers in bytes -/
/-- the number in n bytes from a on, the lowest first -/
def nv (bv : Nat → Nat) (a : Nat) : Nat → Nat
  | 0 => 0
  | n + 1 => nv bv a n + bv (a + n) * 2 ^ (8 * n)
/-- the row holds the bytes bv, places 0 .. m - 1 -/
def by_R (f : Nat → Int32) (bv : Nat → Nat) (m : Nat) : Prop := ∀ j, j < m → f j = nI (bv j) ∧ bv j < 256
theorem nv_lt {bv : Nat → Nat} {a m : Nat} : ∀ n, (∀ j, j < n → bv (a + j) < 256) → nv bv a n < 2 ^ (8 * n)
  | 0, _ => by show 0 < 2 ^ 0; decide
  | n + 1, h => by
    have h1 := nv_lt (m := m) n (fun j hj => h j (by omega))
    have h2 := h n (by omega)
    have h3 : 2 ^ (8 * (n + 1)) = 2 ^ (8 * n) * 256 := by rw [Nat.mul_add, Nat.pow_add]
    rw [h3]
    show nv bv a n + bv (a + n) * 2 ^ (8 * n) < _
    have h4 : bv (a + n) * 2 ^ (8 * n) ≤ 255 * 2 ^ (8 * n) := Nat.mul_le_mul_right _ (by omega)
    have h5 : 2 ^ (8 * n) * 256 = 255 * 2 ^ (8 * n) + 2 ^ (8 * n) := by omega
    omega
theorem nv_cong {b c : Nat → Nat} {a : Nat} : ∀ n, (∀ j, j < n → b (a + j) = c (a + j)) → nv b a n = nv c a n
  | 0, _ => rfl
  | n + 1, h => by
    show nv b a n + b (a + n) * 2 ^ (8 * n) = nv c a n + c (a + n) * 2 ^ (8 * n)
    rw [nv_cong n (fun j hj => h j (by omega)), h n (by omega)]
theorem nv_add (bv : Nat → Nat) (a k : Nat) : ∀ n, nv bv a (k + n) = nv bv a k + 2 ^ (8 * k) * nv bv (a + k) n
  | 0 => by show nv bv a k = nv bv a k + 2 ^ (8 * k) * 0; omega
  | n + 1 => by
    show nv bv a (k + n) + bv (a + (k + n)) * 2 ^ (8 * (k + n)) = nv bv a k + 2 ^ (8 * k) * (nv bv (a + k) n + bv (a + k + n) * 2 ^ (8 * n))
    rw [nv_add bv a k n, Nat.mul_add 8 k n, Nat.pow_add, Nat.mul_add (2 ^ (8 * k)), ← Nat.add_assoc a k n]
    have : bv (a + k + n) * (2 ^ (8 * k) * 2 ^ (8 * n)) = 2 ^ (8 * k) * (bv (a + k + n) * 2 ^ (8 * n)) := by
      rw [Nat.mul_left_comm]
    omega
theorem pu_num_nv {f : Nat → Int32} {bv : Nat → Nat} {a m : Nat} (hf : by_R f bv m) : ∀ n, n ≤ 8 → a + n ≤ m → pu_num f a n = lN (nv bv a n)
  | 0, _, _ => rfl
  | n + 1, h8, hm => by
    show pu_num f a n ||| (f (a + n)).toInt64 <<< ((8 * nI n : Int32).toInt64 &&& 63) = lN (nv bv a n + bv (a + n) * 2 ^ (8 * n))
    obtain ⟨h1, h2⟩ := hf (a + n) (by omega)
    have hlt := nv_lt (bv := bv) (a := a) (m := m) n (fun j hj => (hf (a + j) (by omega)).2)
    have hlt1 := nv_lt (bv := bv) (a := a) (m := m) (n + 1) (fun j hj => (hf (a + j) (by omega)).2)
    have hle : 2 ^ (8 * (n + 1)) ≤ 2 ^ 64 := Nat.pow_le_pow_right (by decide) (by omega)
    rw [pu_num_nv hf n (by omega) (by omega), h1, nI_l (by omega), show (8 : Int32) * nI n = nI (8 * n) from pk_mul 8 n, wb_shl _ (show 8 * n < 64 by omega)]
    exact g_or' (k := 8 * n) rfl hlt (by show nv bv a n + bv (a + n) * 2 ^ (8 * n) < _; exact Nat.lt_of_lt_of_le hlt1 hle)
/-- byte k of an int, of a long -/
def ib (x : Int32) (k : Nat) : Nat := x.toBitVec.toNat / 2 ^ (8 * k) % 256
def lb (x : Int64) (k : Nat) : Nat := x.toBitVec.toNat / 2 ^ (8 * k) % 256
theorem ib_lt (x : Int32) (k : Nat) : ib x k < 256 := Nat.mod_lt _ (by decide)
theorem lb_lt (x : Int64) (k : Nat) : lb x k < 256 := Nat.mod_lt _ (by decide)
theorem pu_byt_lb (x : Int64) {k : Nat} (hk : k < 8) : pu_byt x k = nI (lb x k) := by
  obtain ⟨n, hn, rfl⟩ := wb_of x
  unfold pu_byt lb
  rw [show (8 : Int32) * nI k = nI (8 * k) from pk_mul 8 k, wb_shr hn (by omega), lN_i, wb_tn hn]
  exact fa_mask _ 8
theorem ib_shr (x : Int32) {k : Nat} (hk : k < 4) : (x >>> ((8 * nI k : Int32) &&& 31)) &&& 255 = nI (ib x k) := by
  have h1 : (x >>> ((8 * nI k : Int32) &&& 31)) &&& 255 = (x.toUInt32 >>> ((nI (8 * k)).toUInt32 &&& Int32.toUInt32 31)).toInt32 &&& 255 := by
    rw [show (8 : Int32) * nI k = nI (8 * k) from pk_mul 8 k]
    apply b_ext
    intro i hi
    rw [b_and, b_and, b_sshr _ (by omega) x hi, b_ushr _ (by omega), b_255]
    by_cases h8 : i < 8
    · rw [if_pos (by omega)]
    · simp [h8]
  rw [h1]
  obtain ⟨n, hn, rfl⟩ := wb_of32 x
  rw [pk_ushrN hn (nI (8 * k)) (8 * k) (s_u _ (by omega))]
  unfold ib
  rw [pk_tn hn]
  exact fa_mask _ 8
theorem ib_ushr (x : Int32) {k : Nat} (hk : k < 4) : (x.toUInt32 >>> ((8 * nI k : Int32).toUInt32 &&& Int32.toUInt32 31)).toInt32 &&& 255 = nI (ib x k) := by
  rw [show (8 : Int32) * nI k = nI (8 * k) from pk_mul 8 k]
  obtain ⟨n, hn, rfl⟩ := wb_of32 x
  rw [pk_ushrN hn (nI (8 * k)) (8 * k) (s_u _ (by omega))]
  unfold ib
  rw [pk_tn hn]
  exact fa_mask _ 8
theorem toInt64_nat (x : Int32) : x.toInt64.toBitVec.toNat % 2 ^ 32 = x.toBitVec.toNat := by
  obtain ⟨m, hm, e⟩ := wb_of x.toInt64
  have h : x.toInt64.toInt32 = x := Int32.toInt32_toInt64 x
  rw [e, lN_i] at h
  rw [e, wb_tn hm, ← h]
  show m % 2 ^ 32 = (BitVec.ofNat 32 m).toNat
  rw [BitVec.toNat_ofNat]
theorem lb_int (x : Int32) {k : Nat} (hk : k < 4) : lb x.toInt64 k = ib x k := by
  unfold lb ib
  rw [← toInt64_nat x]
  rcases (show k = 0 ∨ k = 1 ∨ k = 2 ∨ k = 3 by omega) with rfl | rfl | rfl | rfl <;> omega
/-- the low and the high half of a long -/
theorem lo_nat (x : Int64) : x.toInt32.toBitVec.toNat = x.toBitVec.toNat % 2 ^ 32 := by
  obtain ⟨m, hm, rfl⟩ := wb_of x
  rw [lN_i, wb_tn hm]
  show (BitVec.ofNat 32 m).toNat = _
  rw [BitVec.toNat_ofNat]
theorem hi_u (x : Int64) : (x.toUInt64 >>> ((32 : Int32).toInt64.toUInt64 &&& Int64.toUInt64 63)).toInt64.toInt32.toBitVec.toNat = x.toBitVec.toNat / 2 ^ 32 := by
  obtain ⟨m, hm, rfl⟩ := wb_of x
  rw [show (32 : Int32) = nI 32 from rfl, wb_shr hm (by decide), lN_i, wb_tn hm]
  show (BitVec.ofNat 32 _).toNat = _
  rw [BitVec.toNat_ofNat]
  omega
theorem hi_s (x : Int64) : (x >>> ((32 : Int32).toInt64 &&& 63)).toInt32 = (x.toUInt64 >>> ((32 : Int32).toInt64.toUInt64 &&& Int64.toUInt64 63)).toInt64.toInt32 := by
  apply Int32.toBitVec_inj.mp
  apply BitVec.eq_of_toNat_eq
  rw [hi_u, lo_nat]
  rw [show ((32 : Int32).toInt64 &&& 63) = lN 32 from rfl, Int64.toBitVec_shiftRight, wb_tb, wb_sm 32 (by decide)]
  have h : (x.toBitVec.sshiftRight (BitVec.ofNat 64 32).toNat).toNat % 2 ^ 32 = x.toBitVec.toNat / 2 ^ 32 := by
    rw [BitVec.toNat_sshiftRight]
    have hx := x.toBitVec.isLt
    simp only [show (BitVec.ofNat 64 32).toNat = 32 from rfl, Nat.shiftRight_eq_div_pow]
    split <;> omega
  exact h
theorem lb_lo (x : Int64) {k : Nat} (hk : k < 4) : ib x.toInt32 k = lb x k := by
  unfold lb ib
  rw [lo_nat]
  rcases (show k = 0 ∨ k = 1 ∨ k = 2 ∨ k = 3 by omega) with rfl | rfl | rfl | rfl <;> omega
theorem lb_hi (x : Int64) {k : Nat} (hk : k < 4) : ib (x >>> ((32 : Int32).toInt64 &&& 63)).toInt32 k = lb x (k + 4) := by
  unfold lb ib
  rw [hi_s, hi_u]
  have := x.toBitVec.isLt
  rcases (show k = 0 ∨ k = 1 ∨ k = 2 ∨ k = 3 by omega) with rfl | rfl | rfl | rfl <;> omega
/-- a long out of two ints -/
theorem two_nat (a b : Int32) : ((a.toInt64 <<< ((32 : Int32).toInt64 &&& 63)) ||| (b.toInt64 &&& 4294967295)) = lN (a.toBitVec.toNat * 2 ^ 32 + b.toBitVec.toNat) := by
  have ha := toInt64_nat a
  have hb := toInt64_nat b
  obtain ⟨m, hm, em⟩ := wb_of a.toInt64
  obtain ⟨n, hn, en⟩ := wb_of b.toInt64
  rw [em, wb_tn hm] at ha
  rw [en, wb_tn hn] at hb
  rw [em, en, show (32 : Int32) = nI 32 from rfl, wb_shl m (by decide), show (4294967295 : Int64) = lN (2 ^ 32 - 1) from rfl, wb_mask hn (by decide), hb, wb_mod (m * 2 ^ 32), show m * 2 ^ 32 % 2 ^ 64 = a.toBitVec.toNat * 2 ^ 32 by omega]
  have h1 := a.toBitVec.isLt
  have h2 := b.toBitVec.isLt
  exact g_or (k := 32) rfl h2 (by omega)
theorem two_tn (a b : Int32) : ((a.toInt64 <<< ((32 : Int32).toInt64 &&& 63)) ||| (b.toInt64 &&& 4294967295)).toBitVec.toNat = a.toBitVec.toNat * 2 ^ 32 + b.toBitVec.toNat := by
  have h1 := a.toBitVec.isLt
  have h2 := b.toBitVec.isLt
  rw [two_nat, wb_tn (by omega)]
theorem two_lo (a b : Int32) {k : Nat} (hk : k < 4) : lb ((a.toInt64 <<< ((32 : Int32).toInt64 &&& 63)) ||| (b.toInt64 &&& 4294967295)) k = ib b k := by
  have h2 := b.toBitVec.isLt
  unfold lb ib
  rw [two_tn]
  rcases (show k = 0 ∨ k = 1 ∨ k = 2 ∨ k = 3 by omega) with rfl | rfl | rfl | rfl <;> omega
theorem two_hi (a b : Int32) {k : Nat} (hk : k < 4) : lb ((a.toInt64 <<< ((32 : Int32).toInt64 &&& 63)) ||| (b.toInt64 &&& 4294967295)) (k + 4) = ib a k := by
  have h1 := a.toBitVec.isLt
  have h2 := b.toBitVec.isLt
  unfold lb ib
  rw [two_tn]
  rcases (show k = 0 ∨ k = 1 ∨ k = 2 ∨ k = 3 by omega) with rfl | rfl | rfl | rfl <;> omega
theorem io_or {a k b : Nat} (h : a < 2 ^ k) : nI a ||| nI (b * 2 ^ k) = nI (a + b * 2 ^ k) := by
  rw [fa_or, Nat.or_comm, Nat.mul_comm b, ← Nat.two_pow_add_eq_or_of_lt h, Nat.add_comm]
theorem io_shl {b k : Nat} (hb : b < 256) (hk : k ≤ 24) : nI b <<< (nI k &&& 31) = nI (b * 2 ^ k) := by
  refine pk_shlN _ k (s_l k (by omega)) ?_
  have h1 : b * 2 ^ k ≤ 255 * 2 ^ k := Nat.mul_le_mul_right _ (by omega)
  have h2 : 2 ^ k ≤ 2 ^ 24 := Nat.pow_le_pow_right (by decide) hk
  omega
/-- an int out of four bytes, as the reference has it -/
theorem four_nv {f : Nat → Int32} {bv : Nat → Nat} {a m : Nat} (hf : by_R f bv m) (ha : a + 4 ≤ m) : ((f a ||| f (a + 1) <<< ((8 : Int32) &&& 31)) ||| f (a + 2) <<< ((16 : Int32) &&& 31)) ||| f (a + 3) <<< ((24 : Int32) &&& 31) = nI (nv bv a 4) := by
  obtain ⟨e0, h0⟩ := hf a (by omega)
  obtain ⟨e1, h1⟩ := hf (a + 1) (by omega)
  obtain ⟨e2, h2⟩ := hf (a + 2) (by omega)
  obtain ⟨e3, h3⟩ := hf (a + 3) (by omega)
  rw [e0, e1, e2, e3, show (8 : Int32) = nI 8 from rfl, show (16 : Int32) = nI 16 from rfl, show (24 : Int32) = nI 24 from rfl, io_shl h1 (by decide), io_shl h2 (by decide), io_shl h3 (by decide), io_or (by omega), io_or (by omega), io_or (by omega)]
  show _ = nI (0 + bv (a + 0) * 2 ^ (8 * 0) + bv (a + 1) * 2 ^ (8 * 1) + bv (a + 2) * 2 ^ (8 * 2) + bv (a + 3) * 2 ^ (8 * 3))
  congr 1
  simp only [Nat.add_zero]
  omega
theorem two_nv {f : Nat → Int32} {bv : Nat → Nat} {a m : Nat} (hf : by_R f bv m) (ha : a + 2 ≤ m) : f a ||| f (a + 1) <<< ((8 : Int32) &&& 31) = nI (nv bv a 2) := by
  obtain ⟨e0, h0⟩ := hf a (by omega)
  obtain ⟨e1, h1⟩ := hf (a + 1) (by omega)
  rw [e0, e1, show (8 : Int32) = nI 8 from rfl, io_shl h1 (by decide), io_or (by omega)]
  show _ = nI (0 + bv (a + 0) * 2 ^ (8 * 0) + bv (a + 1) * 2 ^ (8 * 1))
  congr 1
  simp only [Nat.add_zero]
  omega
theorem word_step {x b : Nat} (hx : x < 2 ^ 24) (hb : b < 256) : nI x <<< ((8 : Int32) &&& 31) ||| nI b = nI (x * 256 + b) := by
  rw [show (8 : Int32) = nI 8 from rfl, pk_shlN _ 8 (s_l 8 (by decide)) (by omega), fa_or, Nat.mul_comm x, ← Nat.two_pow_add_eq_or_of_lt (i := 8) hb]
theorem nv_min {bv : Nat → Nat} {n i : Nat} (h : 4 * i < n) : nv bv (4 * i) (min 4 (n - 4 * i)) = nv (fun j => if j < n then bv j else 0) (4 * i) 4 := by
  have key : ∀ q, q ≤ 4 → nv (fun j => if j < n then bv j else 0) (4 * i) q = nv bv (4 * i) (min q (n - 4 * i)) := by
    intro q hq
    induction q with
    | zero => rw [Nat.zero_min]; rfl
    | succ q ih =>
      show nv _ (4 * i) q + (if 4 * i + q < n then bv (4 * i + q) else 0) * 2 ^ (8 * q) = _
      rw [ih (by omega)]
      by_cases hq2 : 4 * i + q < n
      · rw [if_pos hq2, Nat.min_eq_left (by omega), Nat.min_eq_left (by omega)]
        rfl
      · rw [if_neg hq2, Nat.min_eq_right (by omega), Nat.min_eq_right (by omega)]
        omega
  exact (key 4 (Nat.le_refl 4)).symm
theorem pu_word_nv {f : Nat → Int32} {bv : Nat → Nat} {n i m : Nat} (hf : by_R f bv m) (hn : n ≤ m) (h : 4 * i < n) : pu_word f n i = nI (nv (fun j => if j < n then bv j else 0) (4 * i) 4) := by
  unfold pu_word
  rw [pu_num_nv hf _ (by omega) (by omega), lN_i, nv_min h]
/-- a seal in eight bytes is right just where both its ints are -/
theorem seal_iff {bv : Nat → Nat} {a m : Nat} (hb : ∀ j, j < m → bv j < 256) (ha : a + 8 ≤ m) (s0 s1 : Int32) : lN (nv bv a 8) = ((s1.toInt64 <<< ((32 : Int32).toInt64 &&& 63)) ||| (s0.toInt64 &&& 4294967295)) ↔ s0 = nI (nv bv a 4) ∧ s1 = nI (nv bv (a + 4) 4) := by
  have h0 := nv_lt (bv := bv) (a := a) (m := m) 4 (fun j hj => hb _ (by omega))
  have h1 := nv_lt (bv := bv) (a := a + 4) (m := m) 4 (fun j hj => hb _ (by omega))
  have e := nv_add bv a 4 4
  obtain ⟨n0, b0, rfl⟩ := wb_of32 s0
  obtain ⟨n1, b1, rfl⟩ := wb_of32 s1
  have t0 : (nI n0).toBitVec.toNat = n0 := pk_tn b0
  have t1 : (nI n1).toBitVec.toNat = n1 := pk_tn b1
  rw [two_nat, t0, t1, e]
  constructor
  · intro q
    have q2 := congrArg (fun z : Int64 => z.toBitVec.toNat) q
    rw [wb_tn (by omega), wb_tn (by omega)] at q2
    exact ⟨by congr 1; omega, by congr 1; omega⟩
  · rintro ⟨q0, q1⟩
    have q2 := congrArg (fun z : Int32 => z.toBitVec.toNat) q0
    have q3 := congrArg (fun z : Int32 => z.toBitVec.toNat) q1
    rw [pk_tn b0, pk_tn (by omega)] at q2
    rw [pk_tn b1, pk_tn (by omega)] at q3
    congr 1
    omega
