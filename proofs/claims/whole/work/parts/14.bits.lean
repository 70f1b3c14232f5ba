/-! ===== lN n to 2^64: shifts, and, or, masks, one bit ===== -/
theorem wb_tb (n : Nat) : (lN n).toBitVec = BitVec.ofNat 64 n := rfl
theorem wb_inj {a b : Int64} (h : a.toBitVec = b.toBitVec) : a = b := Int64.toBitVec_inj.mp h
theorem wb_tn {n : Nat} (h : n < 2 ^ 64) : (lN n).toBitVec.toNat = n := by rw [wb_tb, BitVec.toNat_ofNat, Nat.mod_eq_of_lt h]
theorem wb_of (x : Int64) : ∃ n, n < 2 ^ 64 ∧ x = lN n := ⟨x.toBitVec.toNat, x.toBitVec.isLt, wb_inj (by rw [wb_tb]; simp)⟩
theorem wb_of32 (x : Int32) : ∃ n, n < 2 ^ 32 ∧ x = nI n := ⟨x.toBitVec.toNat, x.toBitVec.isLt, Int32.toBitVec_inj.mp (by show _ = BitVec.ofNat 32 _; simp)⟩
theorem wb_c : ∀ k, k < 64 → ((nI k).toInt64 &&& 63) = lN k := by decide +kernel
theorem wb_cu : ∀ k, k < 64 → ((nI k).toInt64.toUInt64 &&& Int64.toUInt64 63) = UInt64.ofNat k := by decide +kernel
theorem wb_sm : ∀ k, k < 64 → (BitVec.ofNat 64 k).smod 64 = BitVec.ofNat 64 k := by decide +kernel
theorem wb_pw {a b : Nat} (h : a ≤ b) : 2 ^ b = 2 ^ a * 2 ^ (b - a) := by rw [← Nat.pow_add]; congr 1; omega
theorem wb_lt2 {a b : Nat} (h : a < b) : 2 ^ a < 2 ^ b := Nat.pow_lt_pow_right (by decide) h
theorem wb_mod (n : Nat) : lN n = lN (n % 2 ^ 64) := wb_inj (by rw [wb_tb, wb_tb]; apply BitVec.eq_of_toNat_eq; rw [BitVec.toNat_ofNat, BitVec.toNat_ofNat, Nat.mod_mod])
theorem wb_shr {n k : Nat} (hn : n < 2 ^ 64) (hk : k < 64) : ((lN n).toUInt64 >>> ((nI k).toInt64.toUInt64 &&& Int64.toUInt64 63)).toInt64 = lN (n / 2 ^ k) := by
  rw [wb_cu k hk]
  apply wb_inj
  apply BitVec.eq_of_toNat_eq
  show ((lN n).toUInt64 >>> UInt64.ofNat k).toNat = (BitVec.ofNat 64 _).toNat
  have h1 : (UInt64.ofNat k).toNat = k := by
    show (BitVec.ofNat 64 k).toNat = k
    rw [BitVec.toNat_ofNat, Nat.mod_eq_of_lt (by omega)]
  have h2 : (lN n).toUInt64.toNat = n := wb_tn hn
  rw [UInt64.toNat_shiftRight, h1, h2, Nat.mod_eq_of_lt hk, Nat.shiftRight_eq_div_pow, BitVec.toNat_ofNat, Nat.mod_eq_of_lt (Nat.lt_of_le_of_lt (Nat.div_le_self _ _) hn)]
theorem wb_shl (n : Nat) {k : Nat} (hk : k < 64) : lN n <<< ((nI k).toInt64 &&& 63) = lN (n * 2 ^ k) := by
  rw [wb_c k hk]
  apply wb_inj
  rw [Int64.toBitVec_shiftLeft, wb_tb, wb_tb, wb_tb, wb_sm k hk]
  apply BitVec.eq_of_toNat_eq
  rw [BitVec.shiftLeft_eq', BitVec.toNat_shiftLeft, BitVec.toNat_ofNat, BitVec.toNat_ofNat, BitVec.toNat_ofNat, Nat.mod_eq_of_lt (show k < 2 ^ 64 by omega), Nat.shiftLeft_eq, Nat.mul_mod, Nat.mod_mod, ← Nat.mul_mod]
theorem wb_and {a b : Nat} (ha : a < 2 ^ 64) (hb : b < 2 ^ 64) : lN a &&& lN b = lN (a &&& b) := by
  apply wb_inj
  rw [Int64.toBitVec_and, wb_tb, wb_tb, wb_tb]
  apply BitVec.eq_of_toNat_eq
  rw [BitVec.toNat_and, BitVec.toNat_ofNat, BitVec.toNat_ofNat, BitVec.toNat_ofNat, Nat.mod_eq_of_lt ha, Nat.mod_eq_of_lt hb, Nat.mod_eq_of_lt (Nat.and_lt_two_pow _ hb)]
theorem wb_or {a b : Nat} (ha : a < 2 ^ 64) (hb : b < 2 ^ 64) : lN a ||| lN b = lN (a ||| b) := by
  apply wb_inj
  rw [Int64.toBitVec_or, wb_tb, wb_tb, wb_tb]
  apply BitVec.eq_of_toNat_eq
  rw [BitVec.toNat_or, BitVec.toNat_ofNat, BitVec.toNat_ofNat, BitVec.toNat_ofNat, Nat.mod_eq_of_lt ha, Nat.mod_eq_of_lt hb, Nat.mod_eq_of_lt (Nat.or_lt_two_pow ha hb)]
theorem wb_mask {n k : Nat} (hn : n < 2 ^ 64) (hk : k < 64) : lN n &&& lN (2 ^ k - 1) = lN (n % 2 ^ k) := by
  rw [wb_and hn (by have := wb_lt2 hk; omega), Nat.and_two_pow_sub_one_eq_mod]
theorem wb_a1 {n : Nat} (hn : n < 2 ^ 64) : lN n &&& 1 = lN (n % 2) := wb_mask (k := 1) hn (by decide)
theorem wb_bit {n k : Nat} (hn : n < 2 ^ 64) (hk : k < 64) : ((lN n).toUInt64 >>> ((nI k).toInt64.toUInt64 &&& Int64.toUInt64 63)).toInt64 &&& 1 = lN (n / 2 ^ k % 2) := by
  rw [wb_shr hn hk, wb_a1 (Nat.lt_of_le_of_lt (Nat.div_le_self _ _) hn)]
/-! the bits of what is barred -/
theorem bsum_lt (X : Nat → Nat → Bool) : ∀ n, bsum X n < 2 ^ n
  | 0 => (by show 0 < 1; decide)
  | n + 1 => by
    have ih := bsum_lt X n
    rw [Nat.pow_succ]
    simp only [bsum]
    split <;> omega
theorem bsum_tb (X : Nat → Nat → Bool) : ∀ n i, (bsum X n).testBit i = (decide (i < n) && X (i / 14) (i % 14))
  | 0, i => by simp [bsum]
  | n + 1, i => by
    have ih := bsum_tb X n i
    have hb := bsum_lt X n
    simp only [bsum]
    by_cases hX : X (n / 14) (n % 14) = true
    · rw [if_pos hX, Nat.add_comm]
      rcases Nat.lt_trichotomy i n with h | h | h
      · rw [Nat.testBit_two_pow_add_gt h, ih]
        simp [h, Nat.lt_succ_of_lt h]
      · subst h
        rw [Nat.testBit_two_pow_add_eq, ih]
        simp [hX]
      · have h2 : 2 ^ (n + 1) ≤ 2 ^ i := Nat.pow_le_pow_right (by decide) h
        rw [Nat.pow_succ] at h2
        rw [Nat.testBit_lt_two_pow (by omega)]
        simp [show ¬ i < n + 1 by omega]
    · rw [if_neg hX, Nat.add_zero, ih]
      rcases Nat.lt_trichotomy i n with h | h | h
      · simp [h, Nat.lt_succ_of_lt h]
      · subst h
        simp [hX]
      · simp [show ¬ i < n by omega, show ¬ i < n + 1 by omega]
theorem bit_is {X : Nat → Nat → Bool} {k i : Nat} (hk : k < 3) (hi : i < 14) : bsum X 42 / 2 ^ (k * 14 + i) % 2 = if X k i then 1 else 0 := by
  have h := bsum_tb X 42 (k * 14 + i)
  rw [(dv14 hi).1, (dv14 hi).2, show decide (k * 14 + i < 42) = true from decide_eq_true (by omega), Bool.true_and, Nat.testBit_eq_decide_div_mod_eq] at h
  have h2 := Nat.mod_two_eq_zero_or_one (bsum X 42 / 2 ^ (k * 14 + i))
  cases hX : X k i with
  | true => rw [hX] at h; simpa using h
  | false =>
    rw [hX] at h
    have h3 := of_decide_eq_false h
    simp
    omega
def upX (X : Nat → Nat → Bool) (k i : Nat) : Nat → Nat → Bool := fun a b => if a = k ∧ b = i then true else X a b
theorem bb_up {X : Nat → Nat → Bool} {k i : Nat} (hk : k < 3) (hi : i < 14) : bbOf X ||| lN (2 ^ (k * 14 + i)) = bbOf (upX X k i) := by
  unfold bbOf
  have h1 : bsum X 42 < 2 ^ 42 := bsum_lt X 42
  have h2 : 2 ^ (k * 14 + i) < 2 ^ 42 := Nat.pow_lt_pow_right (by decide) (by omega)
  rw [wb_or (by omega) (by omega)]
  congr 1
  apply Nat.eq_of_testBit_eq
  intro j
  rw [Nat.testBit_or, bsum_tb, bsum_tb, Nat.testBit_two_pow]
  unfold upX
  by_cases hj : k * 14 + i = j
  · subst hj
    rw [(dv14 hi).1, (dv14 hi).2]
    simp
    omega
  · have : ¬ (j / 14 = k ∧ j % 14 = i) := by
      intro q
      omega
    rw [if_neg this]
    simp [hj]
theorem bb_or {X : Nat → Nat → Bool} {k i : Nat} (hk : k < 3) (hi : i < 14) : bbOf X ||| ((1 : Int64) <<< ((nI (k * 14 + i)).toInt64 &&& 63)) = bbOf (upX X k i) := by
  rw [show (1 : Int64) = lN 1 from rfl, wb_shl 1 (show k * 14 + i < 64 by omega), Nat.one_mul]
  exact bb_up hk hi
theorem bb_bit {X : Nat → Nat → Bool} {k i : Nat} (hk : k < 3) (hi : i < 14) : ((bbOf X).toUInt64 >>> ((nI (k * 14 + i)).toInt64.toUInt64 &&& Int64.toUInt64 63)).toInt64 &&& 1 = if X k i = true then 1 else 0 := by
  unfold bbOf
  have h1 : bsum X 42 < 2 ^ 42 := bsum_lt X 42
  rw [wb_bit (by omega) (by omega), bit_is hk hi]
  cases X k i <;> rfl
/-! how many are barred: the count of bits of a long, byte by byte -/
def M8 (c : Nat) : Nat → Nat
  | 0 => 0
  | n + 1 => c + 256 * M8 c n
theorem and_byte {a c : Nat} (q r : Nat) (ha : a < 256) (hc : c < 256) : (a + 256 * q) &&& (c + 256 * r) = (a &&& c) + 256 * (q &&& r) := by
  have hac : a &&& c < 2 ^ 8 := Nat.and_lt_two_pow a hc
  apply Nat.eq_of_testBit_eq
  intro j
  rw [Nat.testBit_and, Nat.add_comm a, Nat.add_comm c, Nat.add_comm (a &&& c), show 256 = 2 ^ 8 from rfl, Nat.testBit_two_pow_mul_add _ ha, Nat.testBit_two_pow_mul_add _ hc, Nat.testBit_two_pow_mul_add _ hac]
  split <;> simp
theorem ni_and (a b : Nat) : nI a &&& nI b = nI (a &&& b) := by
  apply Int32.toBitVec_inj.1
  show BitVec.ofNat 32 a &&& BitVec.ofNat 32 b = BitVec.ofNat 32 (a &&& b)
  apply BitVec.eq_of_getLsbD_eq
  intro i hi
  simp [hi]
def h1 (a : Nat) : Nat := a - (a / 2 &&& 85)
def h2 (c : Nat) : Nat := (c &&& 51) + (c / 4 &&& 51)
def h3 (d : Nat) : Nat := (d + d / 16) &&& 15
def pc8 (b : Nat) : Nat := b % 2 + b / 2 % 2 + b / 4 % 2 + b / 8 % 2 + b / 16 % 2 + b / 32 % 2 + b / 64 % 2 + b / 128 % 2
theorem by_1 : ∀ a, a < 256 → (∀ r, r < 2 → (a / 2 + 128 * r) &&& 85 = a / 2 &&& 85) ∧ (a / 2 &&& 85) ≤ a ∧ h1 a < 256 ∧ h2 (h1 a) % 16 ≤ 4 ∧ h2 (h1 a) / 16 ≤ 4 ∧ h3 (h2 (h1 a)) = pc8 a ∧ pc8 a ≤ 8 := by decide +kernel
theorem by_2 : ∀ c, c < 256 → ∀ r, r < 4 → (c / 4 + 64 * r) &&& 51 = c / 4 &&& 51 := by decide +kernel
theorem by_3 : ∀ d, d < 69 → ∀ r, r < 5 → (d + d / 16 + 16 * r) &&& 15 = (d + d / 16) &&& 15 := by decide +kernel
def S1 (m n : Nat) : Nat := n - (n / 2 &&& M8 85 m)
def S2 (m n : Nat) : Nat := (n &&& M8 51 m) + (n / 4 &&& M8 51 m)
def S3 (m n : Nat) : Nat := (n + n / 16) &&& M8 15 m
theorem S1_s {a q m : Nat} (ha : a < 256) : S1 (m + 1) (a + 256 * q) = h1 a + 256 * S1 m q := by
  obtain ⟨b1, b2, -⟩ := by_1 a ha
  have e : (a + 256 * q) / 2 = (a / 2 + 128 * (q % 2)) + 256 * (q / 2) := by omega
  have hle : (q / 2 &&& M8 85 m) ≤ q := Nat.le_trans Nat.and_le_left (Nat.div_le_self q 2)
  unfold S1 h1
  rw [M8, e, and_byte _ _ (by omega) (by decide), b1 _ (Nat.mod_lt _ (by decide))]
  omega
theorem S2_s {c q m : Nat} (hc : c < 256) : S2 (m + 1) (c + 256 * q) = h2 c + 256 * S2 m q := by
  have e : (c + 256 * q) / 4 = (c / 4 + 64 * (q % 4)) + 256 * (q / 4) := by omega
  unfold S2 h2
  rw [M8, e, and_byte _ _ hc (by decide), and_byte _ _ (by omega) (by decide), by_2 c hc _ (Nat.mod_lt _ (by decide))]
  omega
theorem S3_s {d q m : Nat} (hd : d < 69) (hq : q % 16 < 5) : S3 (m + 1) (d + 256 * q) = h3 d + 256 * S3 m q := by
  have e : (d + 256 * q) + (d + 256 * q) / 16 = (d + d / 16 + 16 * (q % 16)) + 256 * (q + q / 16) := by omega
  unfold S3 h3
  rw [M8, e, and_byte _ _ (by omega) (by decide), by_3 d hd _ hq]
theorem swar6 {a b c d e f : Nat} (ha : a < 256) (hb : b < 256) (hc : c < 256) (hd : d < 256) (he : e < 256) (hf : f < 256) :
    S3 8 (S2 8 (S1 8 (a + 256 * (b + 256 * (c + 256 * (d + 256 * (e + 256 * (f + 256 * 0)))))))) = pc8 a + 256 * (pc8 b + 256 * (pc8 c + 256 * (pc8 d + 256 * (pc8 e + 256 * (pc8 f + 256 * 0))))) := by
  obtain ⟨-, -, a3, a4, a5, a6, -⟩ := by_1 a ha
  obtain ⟨-, -, b3, b4, b5, b6, -⟩ := by_1 b hb
  obtain ⟨-, -, c3, c4, c5, c6, -⟩ := by_1 c hc
  obtain ⟨-, -, d3, d4, d5, d6, -⟩ := by_1 d hd
  obtain ⟨-, -, e3, e4, e5, e6, -⟩ := by_1 e he
  obtain ⟨-, -, f3, f4, f5, f6, -⟩ := by_1 f hf
  have z1 : S1 2 0 = 0 := by decide
  have z2 : S2 2 0 = 0 := by decide
  have z3 : S3 2 0 = 0 := by decide
  rw [S1_s ha, S1_s hb, S1_s hc, S1_s hd, S1_s he, S1_s hf, z1]
  rw [S2_s a3, S2_s b3, S2_s c3, S2_s d3, S2_s e3, S2_s f3, z2]
  rw [S3_s (by omega) (by omega), S3_s (by omega) (by omega), S3_s (by omega) (by omega), S3_s (by omega) (by omega), S3_s (by omega) (by omega), S3_s (by omega) (by omega), z3]
  rw [a6, b6, c6, d6, e6, f6]
/-- m bits from the k-th on -/
def bs (X : Nat → Nat → Bool) (k : Nat) : Nat → Nat
  | 0 => 0
  | m + 1 => bs X k m + (if X ((k + m) / 14) ((k + m) % 14) then 2 ^ m else 0)
theorem bs_0 (X : Nat → Nat → Bool) : ∀ n, bsum X n = bs X 0 n
  | 0 => rfl
  | n + 1 => by simp only [bsum, bs, bs_0 X n, Nat.zero_add]
theorem bs_split (X : Nat → Nat → Bool) (k : Nat) : ∀ m, bs X k (8 + m) = bs X k 8 + 256 * bs X (k + 8) m
  | 0 => rfl
  | m + 1 => by
    have e : k + (8 + m) = k + 8 + m := by omega
    have e2 : 2 ^ (8 + m) = 256 * 2 ^ m := by rw [Nat.pow_add]
    show bs X k (8 + m) + (if X ((k + (8 + m)) / 14) ((k + (8 + m)) % 14) then 2 ^ (8 + m) else 0) = bs X k 8 + 256 * (bs X (k + 8) m + (if X ((k + 8 + m) / 14) ((k + 8 + m) % 14) then 2 ^ m else 0))
    rw [bs_split X k m, e, e2]
    split <;> omega
def cb (X : Nat → Nat → Bool) (j : Nat) : Bool := X (j / 14) (j % 14)
theorem cnt_split (p : Nat → Bool) (a : Nat) : ∀ b, cnt p (a + b) = cnt p a + cnt (fun j => p (a + j)) b
  | 0 => rfl
  | b + 1 => by
    have h := cnt_split p a b
    show cnt p (a + b) + (if p (a + b) then 1 else 0) = cnt p a + (cnt (fun j => p (a + j)) b + (if p (a + b) then 1 else 0))
    omega
theorem byte_in (X : Nat → Nat → Bool) (k : Nat) : ∀ m, bs X k m < 2 ^ m
  | 0 => (by show 0 < 1; decide)
  | m + 1 => by
    have ih := byte_in X k m
    rw [Nat.pow_succ]
    simp only [bs]
    split <;> omega
theorem by_8 : ∀ u0 u1 u2 u3 u4 u5 u6 u7 : Fin 2, pc8 (u0.val + 2 * u1.val + 4 * u2.val + 8 * u3.val + 16 * u4.val + 32 * u5.val + 64 * u6.val + 128 * u7.val) = u0.val + u1.val + u2.val + u3.val + u4.val + u5.val + u6.val + u7.val := by decide +kernel
theorem byte_pc (X : Nat → Nat → Bool) (k : Nat) : pc8 (bs X k 8) = cnt (fun j => cb X (k + j)) 8 := by
  have hu : ∀ j, ∃ u, u ≤ 1 ∧ (if cb X (k + j) = true then 1 else 0) = u ∧ ∀ c, (if cb X (k + j) = true then c else 0) = u * c := by
    intro j
    cases cb X (k + j)
    · exact ⟨0, by decide, rfl, fun c => by simp⟩
    · exact ⟨1, by decide, rfl, fun c => by simp⟩
  obtain ⟨u0, l0, a0, b0⟩ := hu 0
  obtain ⟨u1, l1, a1, b1⟩ := hu 1
  obtain ⟨u2, l2, a2, b2⟩ := hu 2
  obtain ⟨u3, l3, a3, b3⟩ := hu 3
  obtain ⟨u4, l4, a4, b4⟩ := hu 4
  obtain ⟨u5, l5, a5, b5⟩ := hu 5
  obtain ⟨u6, l6, a6, b6⟩ := hu 6
  obtain ⟨u7, l7, a7, b7⟩ := hu 7
  have e1 : bs X k 8 = u0 + 2 * u1 + 4 * u2 + 8 * u3 + 16 * u4 + 32 * u5 + 64 * u6 + 128 * u7 := by
    show ((((((((0 + (if cb X (k + 0) = true then 2 ^ 0 else 0)) + (if cb X (k + 1) = true then 2 ^ 1 else 0)) + (if cb X (k + 2) = true then 2 ^ 2 else 0)) + (if cb X (k + 3) = true then 2 ^ 3 else 0)) + (if cb X (k + 4) = true then 2 ^ 4 else 0)) + (if cb X (k + 5) = true then 2 ^ 5 else 0)) + (if cb X (k + 6) = true then 2 ^ 6 else 0)) + (if cb X (k + 7) = true then 2 ^ 7 else 0)) = _
    rw [b0, b1, b2, b3, b4, b5, b6, b7]
    omega
  have e2 : cnt (fun j => cb X (k + j)) 8 = u0 + u1 + u2 + u3 + u4 + u5 + u6 + u7 := by
    show ((((((((0 + (if cb X (k + 0) = true then 1 else 0)) + (if cb X (k + 1) = true then 1 else 0)) + (if cb X (k + 2) = true then 1 else 0)) + (if cb X (k + 3) = true then 1 else 0)) + (if cb X (k + 4) = true then 1 else 0)) + (if cb X (k + 5) = true then 1 else 0)) + (if cb X (k + 6) = true then 1 else 0)) + (if cb X (k + 7) = true then 1 else 0)) = _
    rw [a0, a1, a2, a3, a4, a5, a6, a7]
    omega
  rw [e1, e2]
  exact by_8 ⟨u0, by omega⟩ ⟨u1, by omega⟩ ⟨u2, by omega⟩ ⟨u3, by omega⟩ ⟨u4, by omega⟩ ⟨u5, by omega⟩ ⟨u6, by omega⟩ ⟨u7, by omega⟩
