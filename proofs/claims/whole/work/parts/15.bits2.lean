theorem by_2b : ∀ u0 u1 : Fin 2, pc8 (u0.val + 2 * u1.val) = u0.val + u1.val := by decide +kernel
theorem pc2 (X : Nat → Nat → Bool) (k : Nat) : pc8 (bs X k 2) = cnt (fun j => cb X (k + j)) 2 := by
  have hu : ∀ j, ∃ u, u ≤ 1 ∧ (if cb X (k + j) = true then 1 else 0) = u ∧ ∀ c, (if cb X (k + j) = true then c else 0) = u * c := by
    intro j
    cases cb X (k + j)
    · exact ⟨0, by decide, rfl, fun c => by simp⟩
    · exact ⟨1, by decide, rfl, fun c => by simp⟩
  obtain ⟨u0, l0, a0, b0⟩ := hu 0
  obtain ⟨u1, l1, a1, b1⟩ := hu 1
  have e1 : bs X k 2 = u0 + 2 * u1 := by
    show ((0 + (if cb X (k + 0) = true then 2 ^ 0 else 0)) + (if cb X (k + 1) = true then 2 ^ 1 else 0)) = _
    rw [b0, b1]
    omega
  have e2 : cnt (fun j => cb X (k + j)) 2 = u0 + u1 := by
    show ((0 + (if cb X (k + 0) = true then 1 else 0)) + (if cb X (k + 1) = true then 1 else 0)) = _
    rw [a0, a1]
    omega
  rw [e1, e2]
  exact by_2b ⟨u0, by omega⟩ ⟨u1, by omega⟩
theorem fold6 {a b c d e f : Nat} (ha : a ≤ 8) (hb : b ≤ 8) (hc : c ≤ 8) (hd : d ≤ 8) (he : e ≤ 8) (hf : f ≤ 8) (x y z : Nat) (hx : x = a + 256 * (b + 256 * (c + 256 * (d + 256 * (e + 256 * (f + 256 * 0)))))) (hy : y = x + x / 256) (hz : z = y + y / 65536) : (z + z / 4294967296) % 128 = a + b + c + d + e + f := by
  have h1 : x / 256 = b + 256 * (c + 256 * (d + 256 * (e + 256 * f))) := by omega
  have h2 : y = (a + b) + 256 * ((b + c) + 256 * ((c + d) + 256 * ((d + e) + 256 * ((e + f) + 256 * f)))) := by omega
  have h3 : y / 65536 = (c + d) + 256 * ((d + e) + 256 * ((e + f) + 256 * f)) := by omega
  have h4 : z = (a + b + c + d) + 256 * ((b + c + d + e) + 256 * ((c + d + e + f) + 256 * ((d + e + f) + 256 * ((e + f) + 256 * f)))) := by omega
  have h5 : z / 4294967296 = (e + f) + 256 * f := by omega
  omega
theorem bcount (X : Nat → Nat → Bool) (x y z : Nat) (hx : x = S3 8 (S2 8 (S1 8 (bsum X 42)))) (hy : y = x + x / 256) (hz : z = y + y / 65536) : (z + z / 4294967296) &&& 127 = cnt (cb X) 42 := by
  have k0 := byte_in X 0 8
  have k1 := byte_in X 8 8
  have k2 := byte_in X 16 8
  have k3 := byte_in X 24 8
  have k4 := byte_in X 32 8
  have k5 := byte_in X 40 2
  have e0 : bsum X 42 = bs X 0 8 + 256 * (bs X 8 8 + 256 * (bs X 16 8 + 256 * (bs X 24 8 + 256 * (bs X 32 8 + 256 * (bs X 40 2 + 256 * 0))))) := by
    rw [bs_0 X 42, show 42 = 8 + 34 from rfl, bs_split X 0 34, show 34 = 8 + 26 from rfl, bs_split X (0 + 8) 26, show 26 = 8 + 18 from rfl, bs_split X (0 + 8 + 8) 18, show 18 = 8 + 10 from rfl, bs_split X (0 + 8 + 8 + 8) 10, show 10 = 8 + 2 from rfl, bs_split X (0 + 8 + 8 + 8 + 8) 2]
    rfl
  have e1 : cnt (cb X) 42 = cnt (fun j => cb X (0 + j)) 8 + (cnt (fun j => cb X (8 + j)) 8 + (cnt (fun j => cb X (16 + j)) 8 + (cnt (fun j => cb X (24 + j)) 8 + (cnt (fun j => cb X (32 + j)) 8 + cnt (fun j => cb X (40 + j)) 2)))) := by
    have c1 := cnt_split (cb X) 40 2
    have c2 := cnt_split (cb X) 32 8
    have c3 := cnt_split (cb X) 24 8
    have c4 := cnt_split (cb X) 16 8
    have c5 := cnt_split (cb X) 8 8
    have c6 : cnt (fun j => cb X (0 + j)) 8 = cnt (cb X) 8 := by simp only [Nat.zero_add]
    have c1 : cnt (cb X) 42 = _ := c1
    have c2 : cnt (cb X) 40 = _ := c2
    have c3 : cnt (cb X) 32 = _ := c3
    have c4 : cnt (cb X) 24 = _ := c4
    have c5 : cnt (cb X) 16 = _ := c5
    omega
  have hx2 := hx
  rw [e0, swar6 (by omega) (by omega) (by omega) (by omega) (by omega) (by omega)] at hx2
  have p0 := (by_1 _ (show bs X 0 8 < 256 from k0)).2.2.2.2.2.2
  have p1 := (by_1 _ (show bs X 8 8 < 256 from k1)).2.2.2.2.2.2
  have p2 := (by_1 _ (show bs X 16 8 < 256 from k2)).2.2.2.2.2.2
  have p3 := (by_1 _ (show bs X 24 8 < 256 from k3)).2.2.2.2.2.2
  have p4 := (by_1 _ (show bs X 32 8 < 256 from k4)).2.2.2.2.2.2
  have p5 := (by_1 _ (show bs X 40 2 < 256 by omega)).2.2.2.2.2.2
  rw [show 127 = 2 ^ 7 - 1 from rfl, Nat.and_two_pow_sub_one_eq_mod]
  have h := fold6 p0 p1 p2 p3 p4 p5 x y z hx2 hy hz
  have h : (z + z / 4294967296) % 2 ^ 7 = _ := h
  rw [h, byte_pc, byte_pc, byte_pc, byte_pc, byte_pc, pc2, e1]
  omega
theorem bt1 {n : Nat} : lN n - lN (n / 2 &&& 6148914691236517205) = lN (S1 8 n) := by
  rw [lN_sub (Nat.le_trans Nat.and_le_left (Nat.div_le_self _ _))]
  unfold S1
  rw [show M8 85 8 = 6148914691236517205 from by decide]
theorem bt2 {x : Nat} : lN (x &&& 3689348814741910323) + lN (x / 4 &&& 3689348814741910323) = lN (S2 8 x) := by
  rw [lN_add]
  unfold S2
  rw [show M8 51 8 = 3689348814741910323 from by decide]
theorem bt3 {x : Nat} (h : x + x / 16 < 2 ^ 64) : lN (x + x / 16) &&& lN 1085102592571150095 = lN (S3 8 x) := by
  rw [wb_and h (by decide)]
  unfold S3
  rw [show M8 15 8 = 1085102592571150095 from by decide]
theorem S1_lt {n : Nat} (h : n < 2 ^ 42) : S1 8 n < 2 ^ 42 := Nat.lt_of_le_of_lt (Nat.sub_le _ _) h
theorem S2_lt {n : Nat} (h : n < 2 ^ 42) : S2 8 n < 2 ^ 43 := by
  have h1 : n &&& M8 51 8 ≤ n := Nat.and_le_left
  have h2 : n / 4 &&& M8 51 8 ≤ n / 4 := Nat.and_le_left
  unfold S2
  omega
theorem S3_lt {n : Nat} (h : n < 2 ^ 43) : S3 8 n < 2 ^ 44 := by
  have h1 : (n + n / 16) &&& M8 15 8 ≤ n + n / 16 := Nat.and_le_left
  unfold S3
  omega
/-! how many in the reference's row -/
theorem cnt_cong {p q : Nat → Bool} : ∀ {n : Nat}, (∀ k, k < n → p k = q k) → cnt p n = cnt q n
  | 0, _ => rfl
  | n + 1, h => by simp only [cnt]; rw [cnt_cong (fun k hk => h k (Nat.lt_succ_of_lt hk)), h n (Nat.lt_succ_self n)]
theorem cnt48 {X : Nat → Nat → Bool} (hX : ∀ k i, 14 ≤ i → X k i = false) : cnt (fun j => X (j / 16) (j % 16)) 48 = cnt (cb X) 42 := by
  have row : ∀ k, cnt (fun i => X k i) 16 = cnt (fun i => X k i) 14 := by
    intro k
    rw [cnt_no (p := fun i => X k i) (n := 15) (hX k 15 (by decide)), cnt_no (p := fun i => X k i) (n := 14) (hX k 14 (by decide))]
  have a1 := cnt_split (fun j => X (j / 16) (j % 16)) 32 16
  have a2 := cnt_split (fun j => X (j / 16) (j % 16)) 16 16
  have a1 : cnt (fun j => X (j / 16) (j % 16)) 48 = _ := a1
  have a2 : cnt (fun j => X (j / 16) (j % 16)) 32 = _ := a2
  have b1 := cnt_split (cb X) 28 14
  have b2 := cnt_split (cb X) 14 14
  have b1 : cnt (cb X) 42 = _ := b1
  have b2 : cnt (cb X) 28 = _ := b2
  have r0 : cnt (fun j => X (j / 16) (j % 16)) 16 = cnt (fun i => X 0 i) 16 := cnt_cong (fun k hk => by rw [show k / 16 = 0 by omega, show k % 16 = k by omega])
  have r1 : cnt (fun j => X ((16 + j) / 16) ((16 + j) % 16)) 16 = cnt (fun i => X 1 i) 16 := cnt_cong (fun k hk => by rw [show (16 + k) / 16 = 1 by omega, show (16 + k) % 16 = k by omega])
  have r2 : cnt (fun j => X ((32 + j) / 16) ((32 + j) % 16)) 16 = cnt (fun i => X 2 i) 16 := cnt_cong (fun k hk => by rw [show (32 + k) / 16 = 2 by omega, show (32 + k) % 16 = k by omega])
  have q0 : cnt (cb X) 14 = cnt (fun i => X 0 i) 14 := cnt_cong (fun k hk => by unfold cb; rw [show k / 14 = 0 by omega, show k % 14 = k by omega])
  have q1 : cnt (fun j => cb X (14 + j)) 14 = cnt (fun i => X 1 i) 14 := cnt_cong (fun k hk => by unfold cb; rw [show (14 + k) / 14 = 1 by omega, show (14 + k) % 14 = k by omega])
  have q2 : cnt (fun j => cb X (28 + j)) 14 = cnt (fun i => X 2 i) 14 := cnt_cong (fun k hk => by unfold cb; rw [show (28 + k) / 14 = 2 by omega, show (28 + k) % 14 = k by omega])
  have z0 := row 0
  have z1 := row 1
  have z2 := row 2
  omega
