/-! a ROUND, by the part of MISS along one TONE or TIME, and by MISS: the same -/
def zs (g : Nat → Int) : Nat → Int
  | 0 => 0
  | n + 1 => zs g n + g n
theorem zs_cong {g g' : Nat → Int} : ∀ {n : Nat}, (∀ k, k < n → g k = g' k) → zs g n = zs g' n
  | 0, _ => rfl
  | n + 1, h => by simp only [zs]; rw [zs_cong (fun k hk => h k (Nat.lt_succ_of_lt hk)), h n (Nat.lt_succ_self n)]
theorem zs_sub (g g' : Nat → Int) : ∀ n, zs g n - zs g' n = zs (fun k => g k - g' k) n
  | 0 => rfl
  | n + 1 => by
    have ih := zs_sub g g' n
    simp only [zs]
    omega
theorem zs_zero {g : Nat → Int} : ∀ {n : Nat}, (∀ k, k < n → g k = 0) → zs g n = 0
  | 0, _ => rfl
  | n + 1, h => by simp only [zs]; rw [zs_zero (fun k hk => h k (Nat.lt_succ_of_lt hk)), h n (Nat.lt_succ_self n)]; rfl
theorem zs_one {g g' : Nat → Int} {i : Nat} : ∀ {n : Nat}, i < n → (∀ k, k < n → k ≠ i → g k = g' k) → zs g n - zs g' n = g i - g' i
  | 0, h, _ => absurd h (Nat.not_lt_zero i)
  | n + 1, h, hg => by
    simp only [zs]
    by_cases e : i = n
    · subst e
      have z := zs_cong (g := g) (g' := g') (n := i) (fun k hk => hg k (by omega) (by omega))
      omega
    · have ih := zs_one (g := g) (g' := g') (i := i) (n := n) (by omega) (fun k hk => hg k (by omega))
      have z := hg n (by omega) (fun q => e q.symm)
      omega
theorem l_sum_zs {g : Nat → Int32} {c N : Nat} (hc : (N : Int) * c < 2147483648) : ∀ {n : Nat}, n ≤ N → (∀ k, k < n → 0 ≤ (g k).toInt ∧ (g k).toInt ≤ c) → (l_sum g n).toInt = zs (fun k => (g k).toInt) n
  | 0, _, _ => by rw [l_sum_0]; show (0 : Int32).toInt = 0; decide
  | n + 1, hn, h => by
    have ih := l_sum_zs (g := g) (c := c) (N := N) hc (n := n) (by omega) (fun k hk => h k (Nat.lt_succ_of_lt hk))
    have b := l_sum_in2 (N := N) (c := c) (n := n) (g := g) (by omega) (fun k hk => h k (Nat.lt_succ_of_lt hk)) hc
    have b2 := l_sum_in2 (N := N) (c := c) (n := n + 1) (g := g) hn h hc
    have e : ((n + 1 : Nat) : Int) * (c : Int) ≤ (N : Int) * c := Int.mul_le_mul_of_nonneg_right (by omega) (by omega)
    have e2 : ((n + 1 : Nat) : Int) * (c : Int) = (n : Int) * c + c := by rw [Int.natCast_add, Int.add_mul]; simp
    have b3 := l_sum_in (n := n) (c := c) (g := g) (fun k hk => h k (Nat.lt_succ_of_lt hk)) (by omega)
    have hn1 := h n (Nat.lt_succ_self n)
    rw [l_sum_s, Int32_toInt_add_of (by omega) (by omega), ih]
    rfl
theorem div10 {y : Int32} (h : 0 ≤ y.toInt ∧ y.toInt ≤ 1687401) : 0 ≤ (y / 10).toInt ∧ (y / 10).toInt ≤ 168740 := by
  obtain ⟨n, hn, rfl⟩ : ∃ n : Nat, n ≤ 1687401 ∧ y = nI n := ⟨y.toInt.toNat, by omega, Int32.toInt_inj.mp (by rw [nI_toInt (by omega)]; omega)⟩
  rw [show (10 : Int32) = nI 10 from rfl, pk_div (by omega) (by decide) (by decide), nI_toInt (by omega)]
  omega
theorem fc_in {A : St} (hI : Inv A) (f t : Nat) : 0 ≤ (fc A f t).toInt ∧ (fc A f t).toInt ≤ 1687401 := by
  have hd := fab_in (a := 99) (b := 1200) (hI.B (f * 8 + t)) (fS_in hI f t) (by decide)
  unfold fc fco
  generalize fab (sB A (f * 8 + t) - fS A f t) = d at hd
  have hd2 : 0 ≤ d.toInt ∧ d.toInt ≤ ((1299 : Nat) : Int) := hd
  have h2 := (mul_in hd2 hd2 (by decide)).2
  have h2 : 0 ≤ (d * d).toInt ∧ (d * d).toInt ≤ 1687401 := h2
  have h3 := div10 h2
  split
  · omega
  · split
    · exact h2
    · have e : (90 : Int32).toInt = 90 := by decide
      rw [Int32_toInt_add_of (by omega) (by omega), e]
      omega
theorem fm_zs {A : St} (hI : Inv A) : (fm A).toInt = zs (fun f => zs (fun t => (fc A f t).toInt) (sT A)) (sF A) := by
  have hF := hI.F
  have hT := hI.T
  unfold fm
  have h1 : ∀ f, f < sF A → 0 ≤ (l_sum (fun t => fc A f t) (sT A)).toInt ∧ (l_sum (fun t => fc A f t) (sT A)).toInt ≤ ((8 * 1687401 : Nat) : Int) := fun f _ => l_sum_in2 hT.2 (fun k _ => fc_in hI f k) (by decide)
  rw [l_sum_zs (N := 6) (c := 8 * 1687401) (by decide) hF.2 h1]
  exact zs_cong (fun f _ => l_sum_zs (N := 8) (c := 1687401) (by decide) hT.2 (fun k _ => fc_in hI f k))
theorem fal_zs0 {A : St} (hI : Inv A) (i : Nat) : (fal A 0 i).toInt = zs (fun t => (fc A i t).toInt) (sT A) := l_sum_zs (N := 8) (c := 1687401) (by decide) hI.T.2 (fun k _ => fc_in hI i k)
theorem fal_zs1 {A : St} (hI : Inv A) (i : Nat) : (fal A 1 i).toInt = zs (fun f => (fc A f i).toInt) (sF A) := l_sum_zs (N := 6) (c := 1687401) (by decide) hI.F.2 (fun k _ => fc_in hI k i)
theorem fS_off {A : St} {k q x y f t : Nat} (h1 : f ≠ q) (h2 : 6 + t ≠ q) : fS (tryV A k q x) f t = fS (tryV A k q y) f t := by
  show l_sum (fun j => upV (sV A) k q (nI x) j f * upV (sV A) k q (nI x) j (6 + t)) (sK A) = l_sum (fun j => upV (sV A) k q (nI y) j f * upV (sV A) k q (nI y) j (6 + t)) (sK A)
  apply l_sum_cong
  intro j _
  unfold upV
  rw [if_neg (fun z => h1 z.2), if_neg (fun z => h2 z.2), if_neg (fun z => h1 z.2), if_neg (fun z => h2 z.2)]
theorem fc_off {A : St} {k q x y f t : Nat} (h1 : f ≠ q) (h2 : 6 + t ≠ q) : fc (tryV A k q x) f t = fc (tryV A k q y) f t := by
  unfold fc
  rw [fS_off (x := x) (y := y) h1 h2]
  rfl
theorem miss_part {A : St} (hI : Inv A) {k o i x y : Nat} (ho : o < 2) (hi : i < if o = 0 then sF A else sT A) (hx : x ≤ 20) (hy : y ≤ 20) : (fm (tryV A k (qi o i) x)).toInt - (fm (tryV A k (qi o i) y)).toInt = (fal (tryV A k (qi o i) x) o i).toInt - (fal (tryV A k (qi o i) y) o i).toInt := by
  have hF := hI.F
  have hT := hI.T
  rw [fm_zs (hI.try hx), fm_zs (hI.try hy)]
  rcases (show o = 0 ∨ o = 1 by omega) with rfl | rfl
  · have hi : i < sF A := hi
    rw [fal_zs0 (hI.try hx), fal_zs0 (hI.try hy)]
    exact zs_one (g := fun f => zs (fun t => (fc (tryV A k (qi 0 i) x) f t).toInt) (sT A)) (g' := fun f => zs (fun t => (fc (tryV A k (qi 0 i) y) f t).toInt) (sT A)) (n := sF A) hi (fun f hf hne => zs_cong (fun t _ => by rw [fc_off (x := x) (y := y) (show f ≠ qi 0 i from hne) (show 6 + t ≠ i by omega)]))
  · have hi : i < sT A := hi
    rw [fal_zs1 (hI.try hx), fal_zs1 (hI.try hy)]
    show zs (fun f => zs (fun t => (fc (tryV A k (qi 1 i) x) f t).toInt) (sT A)) (sF A) - zs (fun f => zs (fun t => (fc (tryV A k (qi 1 i) y) f t).toInt) (sT A)) (sF A) = zs (fun f => (fc (tryV A k (qi 1 i) x) f i).toInt) (sF A) - zs (fun f => (fc (tryV A k (qi 1 i) y) f i).toInt) (sF A)
    rw [zs_sub, zs_sub]
    exact zs_cong (fun f hf => zs_one (g := fun t => (fc (tryV A k (qi 1 i) x) f t).toInt) (g' := fun t => (fc (tryV A k (qi 1 i) y) f t).toInt) (n := sT A) hi (fun t ht hne => by
      show (fc (tryV A k (qi 1 i) x) f t).toInt = (fc (tryV A k (qi 1 i) y) f t).toInt
      rw [fc_off (x := x) (y := y) (show f ≠ qi 1 i from (show f ≠ 6 + i by omega)) (show 6 + t ≠ qi 1 i from (show 6 + t ≠ 6 + i by omega))]))
theorem bst_cong {ms ms' : Nat → Int32} {a : Nat} (ha : a ≤ 20) (h : ∀ x y, x ≤ 20 → y ≤ 20 → (ms x < ms y ↔ ms' x < ms' y)) : bst ms a = bst ms' a := by
  have e1 : (if 1 ≤ a ∧ ms (a - 1) < ms a then a - 1 else a) = (if 1 ≤ a ∧ ms' (a - 1) < ms' a then a - 1 else a) := by
    have q := h (a - 1) a (by omega) ha
    by_cases z : 1 ≤ a ∧ ms (a - 1) < ms a
    · rw [if_pos z, if_pos ⟨z.1, q.mp z.2⟩]
    · rw [if_neg z, if_neg (fun w => z ⟨w.1, q.mpr w.2⟩)]
  have hb : (if 1 ≤ a ∧ ms' (a - 1) < ms' a then a - 1 else a) ≤ 20 := by split <;> omega
  unfold bst
  rw [e1]
  generalize (if 1 ≤ a ∧ ms' (a - 1) < ms' a then a - 1 else a) = b at hb
  by_cases z : a + 1 ≤ 20 ∧ ms (a + 1) < ms b
  · rw [if_pos z, if_pos ⟨z.1, (h _ _ z.1 hb).mp z.2⟩]
  · rw [if_neg z, if_neg (fun w => z ⟨w.1, (h _ _ w.1 hb).mpr w.2⟩)]
theorem step_same {A : St} (hI : Inv A) {k o i : Nat} (ho : o < 2) (hi : i < if o = 0 then sF A else sT A) : cst A k o i = mst A k o i := by
  unfold cst mst
  split
  · rfl
  · obtain ⟨a, ha, ea⟩ := V_nI hI k (qi o i)
    rw [ea, cl_nI (by omega)]
    rw [bst_cong ha (fun x y hx hy => ?_)]
    have z := miss_part hI (k := k) (x := x) (y := y) ho hi hx hy
    show fal (tryV A k (qi o i) x) o i < fal (tryV A k (qi o i) y) o i ↔ fm (tryV A k (qi o i) x) < fm (tryV A k (qi o i) y)
    rw [Int32.lt_iff_toInt_lt, Int32.lt_iff_toInt_lt]
    omega
theorem rI_0 (st : St → Nat → Nat → Nat → St) (A : St) (k o : Nat) : rI st A k o 0 = A := rfl
theorem rI_s (st : St → Nat → Nat → Nat → St) (A : St) (k o i : Nat) : rI st A k o (i + 1) = st (rI st A k o i) k o i := rfl
theorem rO_0 (st : St → Nat → Nat → Nat → St) (A : St) (k : Nat) : rO st A k 0 = A := rfl
theorem rO_s (st : St → Nat → Nat → Nat → St) (A : St) (k o : Nat) : rO st A k (o + 1) = rI st (rO st A k o) k o (if o = 0 then sF A else sT A) := rfl
theorem rK_0 (st : St → Nat → Nat → Nat → St) (A : St) : rK st A 0 = A := rfl
theorem rK_s (st : St → Nat → Nat → Nat → St) (A : St) (k : Nat) : rK st A (k + 1) = rO st (rK st A k) k 2 := rfl
theorem rN_0 (st : St → Nat → Nat → Nat → St) (A : St) : rN st A 0 = A := rfl
theorem rN_s (st : St → Nat → Nat → Nat → St) (A : St) (n : Nat) : rN st A (n + 1) = rK st (rN st A n) (sK A) := rfl
theorem rI_same {A : St} (hI : Inv A) {k o : Nat} (ho : o < 2) (i : Nat) : i ≤ (if o = 0 then sF A else sT A) → rI cst A k o i = rI mst A k o i := by
  induction i with
  | zero => intro _; rw [rI_0, rI_0]
  | succ i ih =>
    intro h
    have ih := ih (Nat.le_of_succ_le h)
    have kp := kp_I Kp_mst A k o i
    rw [rI_s, rI_s, ih]
    refine step_same (kp.2 hI) ho ?_
    rw [kp.1.1, kp.1.2.1]
    exact h
theorem rO_same {A : St} (hI : Inv A) {k : Nat} (o : Nat) : o ≤ 2 → rO cst A k o = rO mst A k o := by
  induction o with
  | zero => intro _; rw [rO_0, rO_0]
  | succ o ih =>
    intro h
    have ih := ih (Nat.le_of_succ_le h)
    have kp := kp_O Kp_mst A k o
    rw [rO_s, rO_s, ih]
    refine rI_same (kp.2 hI) h _ ?_
    rw [kp.1.1, kp.1.2.1]
    exact Nat.le_refl _
theorem rK_same {A : St} (hI : Inv A) (k : Nat) : rK cst A k = rK mst A k := by
  induction k with
  | zero => rw [rK_0, rK_0]
  | succ k ih =>
    rw [rK_s, rK_s, ih]
    exact rO_same ((kp_K Kp_mst A k).2 hI) 2 (Nat.le_refl 2)
theorem rN_same {A : St} (hI : Inv A) (n : Nat) : rN cst A n = rN mst A n := by
  induction n with
  | zero => rw [rN_0, rN_0]
  | succ n ih =>
    rw [rN_s, rN_s, ih]
    exact rK_same ((kp_N Kp_mst A n).2 hI) (sK A)
theorem nRn_same {A : St} (hI : Inv A) (x : Int32) : nRm A x = nRn A x := by unfold nRm nRn; rw [rN_same hI]
theorem aRn_same {A : St} (hI : Inv A) (x : Int32) : aRm A x = aRn A x := by unfold aRm aRn; rw [rN_same hI]
