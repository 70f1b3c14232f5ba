/-! LATER: the one that beats all others -/
def cz (z : Int) : Int32 := Int32.ofInt z
def ph (A : St) (z : Int) : Int := (fpd A (cz z)).toInt
def bts (A : St) (z w : Int) : Prop := ph A w < ph A z ∨ (ph A z = ph A w ∧ (z.natAbs < w.natAbs ∨ (z.natAbs = w.natAbs ∧ z < w)))
theorem bts_tr {A : St} {x y z : Int} (h1 : bts A x y) (h2 : bts A y z) : bts A x z := by
  unfold bts at *
  omega
theorem bts_no {A : St} {x y : Int} (h1 : bts A x y) (h2 : bts A y x) : False := by
  unfold bts at *
  omega
theorem dI_cz : ∀ i, i < 15 → dI i = cz ((i : Int) - 7) := by decide +kernel
theorem fab_dI : ∀ i, i < 15 → ∀ j, j < 15 → (fab (dI i) < fab (dI j) ↔ ((i : Int) - 7).natAbs < ((j : Int) - 7).natAbs) := by decide +kernel
theorem nI_cz : ∀ n, n < 8 → nI n = cz (n : Int) ∧ -(nI n) = cz (-(n : Int)) := by decide +kernel
theorem flb_le (A : St) (i : Nat) : flb A i ≤ i := by
  induction i with
  | zero => exact Nat.le_refl 0
  | succ i ih =>
    simp only [flb]
    split <;> omega
theorem flb_best (A : St) (i : Nat) : i < 15 → ∀ j, j ≤ i → j ≠ flb A i → bts A ((flb A i : Int) - 7) ((j : Int) - 7) := by
  induction i with
  | zero =>
    intro _ j hj hne
    exact absurd (show j = flb A 0 from (show j = 0 by omega)) hne
  | succ i ih =>
    intro hi
    have ih := ih (by omega)
    have hl := flb_le A i
    have e1 : (fpd A (dI (flb A i))).toInt = ph A ((flb A i : Int) - 7) := by unfold ph; rw [dI_cz _ (by omega)]
    have e2 : (fpd A (dI (i + 1))).toInt = ph A (((i + 1 : Nat) : Int) - 7) := by unfold ph; rw [dI_cz _ hi]
    have ef := fab_dI (i + 1) hi (flb A i) (by omega)
    by_cases c : fpd A (dI (flb A i)) < fpd A (dI (i + 1)) ∨ (fpd A (dI (i + 1)) = fpd A (dI (flb A i)) ∧ fab (dI (i + 1)) < fab (dI (flb A i)))
    · have ec : flb A (i + 1) = i + 1 := if_pos c
      rw [ec]
      have b : bts A (((i + 1 : Nat) : Int) - 7) ((flb A i : Int) - 7) := by
        unfold bts
        rcases c with c | c
        · have c := Int32.lt_iff_toInt_lt.mp c
          rw [e1, e2] at c
          exact Or.inl c
        · have c1 := congrArg Int32.toInt c.1
          rw [e1, e2] at c1
          exact Or.inr ⟨c1, Or.inl (ef.mp c.2)⟩
      intro j hj hne
      by_cases q : j = flb A i
      · rw [q]; exact b
      · exact bts_tr b (ih j (by omega) q)
    · have ec : flb A (i + 1) = flb A i := if_neg c
      rw [ec]
      intro j hj hne
      by_cases q : j = i + 1
      · subst q
        have n1 : ¬ (fpd A (dI (flb A i))).toInt < (fpd A (dI (i + 1))).toInt := fun z => c (Or.inl (Int32.lt_iff_toInt_lt.mpr z))
        rw [e1, e2] at n1
        unfold bts
        by_cases n2 : ph A ((flb A i : Int) - 7) = ph A (((i + 1 : Nat) : Int) - 7)
        · have n3 : ¬ (((i + 1 : Nat) : Int) - 7).natAbs < ((flb A i : Int) - 7).natAbs := fun z => c (Or.inr ⟨Int32.toInt_inj.mp (by rw [e1, e2]; exact n2.symm), ef.mpr z⟩)
          omega
        · omega
      · exact ih j (by omega) hne
theorem mlb_best (A : St) (n : Nat) : n < 8 → ∃ z : Int, mlb A n = cz z ∧ z.natAbs ≤ n ∧ ∀ w : Int, w.natAbs ≤ n → w ≠ z → bts A z w := by
  induction n with
  | zero =>
    intro _
    refine ⟨0, (show nI 0 = cz 0 by decide), by decide, fun w hw hne => ?_⟩
    omega
  | succ n ih =>
    intro hn
    obtain ⟨z, e, hz, hb⟩ := ih (by omega)
    have c1 := (nI_cz (n + 1) hn).2
    have c2 := (nI_cz (n + 1) hn).1
    have s1 : ∃ y : Int, mls A (mlb A n) (n + 1) = cz y ∧ (y = z ∨ y = -((n + 1 : Nat) : Int)) ∧ (∀ w : Int, w.natAbs ≤ n → w ≠ y → bts A y w) ∧ (-((n + 1 : Nat) : Int) ≠ y → bts A y (-((n + 1 : Nat) : Int))) := by
      unfold mls
      rw [e, c1]
      by_cases q : fpd A (cz z) < fpd A (cz (-((n + 1 : Nat) : Int)))
      · rw [if_pos q]
        have q := Int32.lt_iff_toInt_lt.mp q
        have b : bts A (-((n + 1 : Nat) : Int)) z := Or.inl q
        refine ⟨_, rfl, Or.inr rfl, fun w hw hne => ?_, fun h => absurd rfl h⟩
        by_cases y : w = z
        · rw [y]; exact b
        · exact bts_tr b (hb w hw y)
      · rw [if_neg q]
        have q : ¬ ph A z < ph A (-((n + 1 : Nat) : Int)) := fun y => q (Int32.lt_iff_toInt_lt.mpr y)
        refine ⟨z, rfl, Or.inl rfl, fun w hw hne => hb w hw hne, fun _ => ?_⟩
        unfold bts
        omega
    obtain ⟨y, ey, hy, hb1, hb2⟩ := s1
    show ∃ z : Int, mlt A (mls A (mlb A n) (n + 1)) (n + 1) = cz z ∧ z.natAbs ≤ n + 1 ∧ ∀ w : Int, w.natAbs ≤ n + 1 → w ≠ z → bts A z w
    unfold mlt
    rw [ey, c2]
    by_cases q : fpd A (cz y) < fpd A (cz ((n + 1 : Nat) : Int))
    · rw [if_pos q]
      have q := Int32.lt_iff_toInt_lt.mp q
      have b : bts A ((n + 1 : Nat) : Int) y := Or.inl q
      refine ⟨_, rfl, by omega, fun w hw hne => ?_⟩
      by_cases w1 : w = y
      · rw [w1]; exact b
      · by_cases w2 : w = -((n + 1 : Nat) : Int)
        · rw [w2]; exact bts_tr b (hb2 (fun x => w1 (by rw [w2]; exact x)))
        · exact bts_tr b (hb1 w (by omega) w1)
    · rw [if_neg q]
      have q : ¬ ph A y < ph A ((n + 1 : Nat) : Int) := fun x => q (Int32.lt_iff_toInt_lt.mpr x)
      refine ⟨y, rfl, by omega, fun w hw hne => ?_⟩
      by_cases w2 : w = -((n + 1 : Nat) : Int)
      · rw [w2]; exact hb2 (fun x => hne (by rw [w2]; exact x))
      · by_cases w3 : w = ((n + 1 : Nat) : Int)
        · rw [w3]
          unfold bts
          omega
        · exact hb1 w (by omega) hne
theorem later_same (A : St) : aLm A = aLa A := by
  unfold aLm aLa
  split
  · rfl
  · obtain ⟨z, e, hz, hb⟩ := mlb_best A 7 (by decide)
    have hl := flb_le A 14
    have hc := flb_best A 14 (by decide)
    rw [e, dI_cz _ (by omega)]
    by_cases q : z = (flb A 14 : Int) - 7
    · rw [q]
    · exfalso
      have b1 := hb ((flb A 14 : Int) - 7) (by omega) (fun x => q x.symm)
      have b2 := hc (z + 7).toNat (by omega) (by omega)
      rw [show (((z + 7).toNat : Nat) : Int) - 7 = z by omega] at b2
      exact bts_no b1 b2
/-! TURNED and BACK -/
theorem fsg_mul (k i : Nat) (x : Int32) : fsg k i * x = if pc3 (k &&& i) % 2 = 1 then -x else x := by
  unfold fsg
  by_cases q : pc3 (k &&& i) % 2 = 0
  · rw [if_pos q, if_neg (by omega), Int32.one_mul]
  · rw [if_neg q, if_pos (by omega)]
    grind
theorem ftu_same (A : St) (k : Nat) : mtu A k = ftu A k := by
  unfold mtu ftu
  apply l_sum_cong
  intro i _
  rw [fsg_mul]
  rfl
theorem fsg_0_0 : fsg 0 0 = 1 := by decide
theorem fsg_0_1 : fsg 0 1 = 1 := by decide
theorem fsg_0_2 : fsg 0 2 = 1 := by decide
theorem fsg_0_3 : fsg 0 3 = 1 := by decide
theorem fsg_0_4 : fsg 0 4 = 1 := by decide
theorem fsg_0_5 : fsg 0 5 = 1 := by decide
theorem fsg_0_6 : fsg 0 6 = 1 := by decide
theorem fsg_0_7 : fsg 0 7 = 1 := by decide
theorem fsg_1_0 : fsg 1 0 = 1 := by decide
theorem fsg_1_1 : fsg 1 1 = -1 := by decide
theorem fsg_1_2 : fsg 1 2 = 1 := by decide
theorem fsg_1_3 : fsg 1 3 = -1 := by decide
theorem fsg_1_4 : fsg 1 4 = 1 := by decide
theorem fsg_1_5 : fsg 1 5 = -1 := by decide
theorem fsg_1_6 : fsg 1 6 = 1 := by decide
theorem fsg_1_7 : fsg 1 7 = -1 := by decide
theorem fsg_2_0 : fsg 2 0 = 1 := by decide
theorem fsg_2_1 : fsg 2 1 = 1 := by decide
theorem fsg_2_2 : fsg 2 2 = -1 := by decide
theorem fsg_2_3 : fsg 2 3 = -1 := by decide
theorem fsg_2_4 : fsg 2 4 = 1 := by decide
theorem fsg_2_5 : fsg 2 5 = 1 := by decide
theorem fsg_2_6 : fsg 2 6 = -1 := by decide
theorem fsg_2_7 : fsg 2 7 = -1 := by decide
theorem fsg_3_0 : fsg 3 0 = 1 := by decide
theorem fsg_3_1 : fsg 3 1 = -1 := by decide
theorem fsg_3_2 : fsg 3 2 = -1 := by decide
theorem fsg_3_3 : fsg 3 3 = 1 := by decide
theorem fsg_3_4 : fsg 3 4 = 1 := by decide
theorem fsg_3_5 : fsg 3 5 = -1 := by decide
theorem fsg_3_6 : fsg 3 6 = -1 := by decide
theorem fsg_3_7 : fsg 3 7 = 1 := by decide
theorem fsg_4_0 : fsg 4 0 = 1 := by decide
theorem fsg_4_1 : fsg 4 1 = 1 := by decide
theorem fsg_4_2 : fsg 4 2 = 1 := by decide
theorem fsg_4_3 : fsg 4 3 = 1 := by decide
theorem fsg_4_4 : fsg 4 4 = -1 := by decide
theorem fsg_4_5 : fsg 4 5 = -1 := by decide
theorem fsg_4_6 : fsg 4 6 = -1 := by decide
theorem fsg_4_7 : fsg 4 7 = -1 := by decide
theorem fsg_5_0 : fsg 5 0 = 1 := by decide
theorem fsg_5_1 : fsg 5 1 = -1 := by decide
theorem fsg_5_2 : fsg 5 2 = 1 := by decide
theorem fsg_5_3 : fsg 5 3 = -1 := by decide
theorem fsg_5_4 : fsg 5 4 = -1 := by decide
theorem fsg_5_5 : fsg 5 5 = 1 := by decide
theorem fsg_5_6 : fsg 5 6 = -1 := by decide
theorem fsg_5_7 : fsg 5 7 = 1 := by decide
theorem fsg_6_0 : fsg 6 0 = 1 := by decide
theorem fsg_6_1 : fsg 6 1 = 1 := by decide
theorem fsg_6_2 : fsg 6 2 = -1 := by decide
theorem fsg_6_3 : fsg 6 3 = -1 := by decide
theorem fsg_6_4 : fsg 6 4 = -1 := by decide
theorem fsg_6_5 : fsg 6 5 = -1 := by decide
theorem fsg_6_6 : fsg 6 6 = 1 := by decide
theorem fsg_6_7 : fsg 6 7 = 1 := by decide
theorem fsg_7_0 : fsg 7 0 = 1 := by decide
theorem fsg_7_1 : fsg 7 1 = -1 := by decide
theorem fsg_7_2 : fsg 7 2 = -1 := by decide
theorem fsg_7_3 : fsg 7 3 = 1 := by decide
theorem fsg_7_4 : fsg 7 4 = -1 := by decide
theorem fsg_7_5 : fsg 7 5 = 1 := by decide
theorem fsg_7_6 : fsg 7 6 = 1 := by decide
theorem fsg_7_7 : fsg 7 7 = -1 := by decide
theorem bk_0 (x0 x1 x2 x3 x4 x5 x6 x7 : Int32) : ((((((((0 + 1 * ((((((((0 + 1 * x0) + 1 * x1) + 1 * x2) + 1 * x3) + 1 * x4) + 1 * x5) + 1 * x6) + 1 * x7)) + 1 * ((((((((0 + 1 * x0) + (-1) * x1) + 1 * x2) + (-1) * x3) + 1 * x4) + (-1) * x5) + 1 * x6) + (-1) * x7)) + 1 * ((((((((0 + 1 * x0) + 1 * x1) + (-1) * x2) + (-1) * x3) + 1 * x4) + 1 * x5) + (-1) * x6) + (-1) * x7)) + 1 * ((((((((0 + 1 * x0) + (-1) * x1) + (-1) * x2) + 1 * x3) + 1 * x4) + (-1) * x5) + (-1) * x6) + 1 * x7)) + 1 * ((((((((0 + 1 * x0) + 1 * x1) + 1 * x2) + 1 * x3) + (-1) * x4) + (-1) * x5) + (-1) * x6) + (-1) * x7)) + 1 * ((((((((0 + 1 * x0) + (-1) * x1) + 1 * x2) + (-1) * x3) + (-1) * x4) + 1 * x5) + (-1) * x6) + 1 * x7)) + 1 * ((((((((0 + 1 * x0) + 1 * x1) + (-1) * x2) + (-1) * x3) + (-1) * x4) + (-1) * x5) + 1 * x6) + 1 * x7)) + 1 * ((((((((0 + 1 * x0) + (-1) * x1) + (-1) * x2) + 1 * x3) + (-1) * x4) + 1 * x5) + 1 * x6) + (-1) * x7)) = 8 * x0 := by grind
theorem bk_1 (x0 x1 x2 x3 x4 x5 x6 x7 : Int32) : ((((((((0 + 1 * ((((((((0 + 1 * x0) + 1 * x1) + 1 * x2) + 1 * x3) + 1 * x4) + 1 * x5) + 1 * x6) + 1 * x7)) + (-1) * ((((((((0 + 1 * x0) + (-1) * x1) + 1 * x2) + (-1) * x3) + 1 * x4) + (-1) * x5) + 1 * x6) + (-1) * x7)) + 1 * ((((((((0 + 1 * x0) + 1 * x1) + (-1) * x2) + (-1) * x3) + 1 * x4) + 1 * x5) + (-1) * x6) + (-1) * x7)) + (-1) * ((((((((0 + 1 * x0) + (-1) * x1) + (-1) * x2) + 1 * x3) + 1 * x4) + (-1) * x5) + (-1) * x6) + 1 * x7)) + 1 * ((((((((0 + 1 * x0) + 1 * x1) + 1 * x2) + 1 * x3) + (-1) * x4) + (-1) * x5) + (-1) * x6) + (-1) * x7)) + (-1) * ((((((((0 + 1 * x0) + (-1) * x1) + 1 * x2) + (-1) * x3) + (-1) * x4) + 1 * x5) + (-1) * x6) + 1 * x7)) + 1 * ((((((((0 + 1 * x0) + 1 * x1) + (-1) * x2) + (-1) * x3) + (-1) * x4) + (-1) * x5) + 1 * x6) + 1 * x7)) + (-1) * ((((((((0 + 1 * x0) + (-1) * x1) + (-1) * x2) + 1 * x3) + (-1) * x4) + 1 * x5) + 1 * x6) + (-1) * x7)) = 8 * x1 := by grind
theorem bk_2 (x0 x1 x2 x3 x4 x5 x6 x7 : Int32) : ((((((((0 + 1 * ((((((((0 + 1 * x0) + 1 * x1) + 1 * x2) + 1 * x3) + 1 * x4) + 1 * x5) + 1 * x6) + 1 * x7)) + 1 * ((((((((0 + 1 * x0) + (-1) * x1) + 1 * x2) + (-1) * x3) + 1 * x4) + (-1) * x5) + 1 * x6) + (-1) * x7)) + (-1) * ((((((((0 + 1 * x0) + 1 * x1) + (-1) * x2) + (-1) * x3) + 1 * x4) + 1 * x5) + (-1) * x6) + (-1) * x7)) + (-1) * ((((((((0 + 1 * x0) + (-1) * x1) + (-1) * x2) + 1 * x3) + 1 * x4) + (-1) * x5) + (-1) * x6) + 1 * x7)) + 1 * ((((((((0 + 1 * x0) + 1 * x1) + 1 * x2) + 1 * x3) + (-1) * x4) + (-1) * x5) + (-1) * x6) + (-1) * x7)) + 1 * ((((((((0 + 1 * x0) + (-1) * x1) + 1 * x2) + (-1) * x3) + (-1) * x4) + 1 * x5) + (-1) * x6) + 1 * x7)) + (-1) * ((((((((0 + 1 * x0) + 1 * x1) + (-1) * x2) + (-1) * x3) + (-1) * x4) + (-1) * x5) + 1 * x6) + 1 * x7)) + (-1) * ((((((((0 + 1 * x0) + (-1) * x1) + (-1) * x2) + 1 * x3) + (-1) * x4) + 1 * x5) + 1 * x6) + (-1) * x7)) = 8 * x2 := by grind
theorem bk_3 (x0 x1 x2 x3 x4 x5 x6 x7 : Int32) : ((((((((0 + 1 * ((((((((0 + 1 * x0) + 1 * x1) + 1 * x2) + 1 * x3) + 1 * x4) + 1 * x5) + 1 * x6) + 1 * x7)) + (-1) * ((((((((0 + 1 * x0) + (-1) * x1) + 1 * x2) + (-1) * x3) + 1 * x4) + (-1) * x5) + 1 * x6) + (-1) * x7)) + (-1) * ((((((((0 + 1 * x0) + 1 * x1) + (-1) * x2) + (-1) * x3) + 1 * x4) + 1 * x5) + (-1) * x6) + (-1) * x7)) + 1 * ((((((((0 + 1 * x0) + (-1) * x1) + (-1) * x2) + 1 * x3) + 1 * x4) + (-1) * x5) + (-1) * x6) + 1 * x7)) + 1 * ((((((((0 + 1 * x0) + 1 * x1) + 1 * x2) + 1 * x3) + (-1) * x4) + (-1) * x5) + (-1) * x6) + (-1) * x7)) + (-1) * ((((((((0 + 1 * x0) + (-1) * x1) + 1 * x2) + (-1) * x3) + (-1) * x4) + 1 * x5) + (-1) * x6) + 1 * x7)) + (-1) * ((((((((0 + 1 * x0) + 1 * x1) + (-1) * x2) + (-1) * x3) + (-1) * x4) + (-1) * x5) + 1 * x6) + 1 * x7)) + 1 * ((((((((0 + 1 * x0) + (-1) * x1) + (-1) * x2) + 1 * x3) + (-1) * x4) + 1 * x5) + 1 * x6) + (-1) * x7)) = 8 * x3 := by grind
theorem bk_4 (x0 x1 x2 x3 x4 x5 x6 x7 : Int32) : ((((((((0 + 1 * ((((((((0 + 1 * x0) + 1 * x1) + 1 * x2) + 1 * x3) + 1 * x4) + 1 * x5) + 1 * x6) + 1 * x7)) + 1 * ((((((((0 + 1 * x0) + (-1) * x1) + 1 * x2) + (-1) * x3) + 1 * x4) + (-1) * x5) + 1 * x6) + (-1) * x7)) + 1 * ((((((((0 + 1 * x0) + 1 * x1) + (-1) * x2) + (-1) * x3) + 1 * x4) + 1 * x5) + (-1) * x6) + (-1) * x7)) + 1 * ((((((((0 + 1 * x0) + (-1) * x1) + (-1) * x2) + 1 * x3) + 1 * x4) + (-1) * x5) + (-1) * x6) + 1 * x7)) + (-1) * ((((((((0 + 1 * x0) + 1 * x1) + 1 * x2) + 1 * x3) + (-1) * x4) + (-1) * x5) + (-1) * x6) + (-1) * x7)) + (-1) * ((((((((0 + 1 * x0) + (-1) * x1) + 1 * x2) + (-1) * x3) + (-1) * x4) + 1 * x5) + (-1) * x6) + 1 * x7)) + (-1) * ((((((((0 + 1 * x0) + 1 * x1) + (-1) * x2) + (-1) * x3) + (-1) * x4) + (-1) * x5) + 1 * x6) + 1 * x7)) + (-1) * ((((((((0 + 1 * x0) + (-1) * x1) + (-1) * x2) + 1 * x3) + (-1) * x4) + 1 * x5) + 1 * x6) + (-1) * x7)) = 8 * x4 := by grind
theorem bk_5 (x0 x1 x2 x3 x4 x5 x6 x7 : Int32) : ((((((((0 + 1 * ((((((((0 + 1 * x0) + 1 * x1) + 1 * x2) + 1 * x3) + 1 * x4) + 1 * x5) + 1 * x6) + 1 * x7)) + (-1) * ((((((((0 + 1 * x0) + (-1) * x1) + 1 * x2) + (-1) * x3) + 1 * x4) + (-1) * x5) + 1 * x6) + (-1) * x7)) + 1 * ((((((((0 + 1 * x0) + 1 * x1) + (-1) * x2) + (-1) * x3) + 1 * x4) + 1 * x5) + (-1) * x6) + (-1) * x7)) + (-1) * ((((((((0 + 1 * x0) + (-1) * x1) + (-1) * x2) + 1 * x3) + 1 * x4) + (-1) * x5) + (-1) * x6) + 1 * x7)) + (-1) * ((((((((0 + 1 * x0) + 1 * x1) + 1 * x2) + 1 * x3) + (-1) * x4) + (-1) * x5) + (-1) * x6) + (-1) * x7)) + 1 * ((((((((0 + 1 * x0) + (-1) * x1) + 1 * x2) + (-1) * x3) + (-1) * x4) + 1 * x5) + (-1) * x6) + 1 * x7)) + (-1) * ((((((((0 + 1 * x0) + 1 * x1) + (-1) * x2) + (-1) * x3) + (-1) * x4) + (-1) * x5) + 1 * x6) + 1 * x7)) + 1 * ((((((((0 + 1 * x0) + (-1) * x1) + (-1) * x2) + 1 * x3) + (-1) * x4) + 1 * x5) + 1 * x6) + (-1) * x7)) = 8 * x5 := by grind
theorem bk_6 (x0 x1 x2 x3 x4 x5 x6 x7 : Int32) : ((((((((0 + 1 * ((((((((0 + 1 * x0) + 1 * x1) + 1 * x2) + 1 * x3) + 1 * x4) + 1 * x5) + 1 * x6) + 1 * x7)) + 1 * ((((((((0 + 1 * x0) + (-1) * x1) + 1 * x2) + (-1) * x3) + 1 * x4) + (-1) * x5) + 1 * x6) + (-1) * x7)) + (-1) * ((((((((0 + 1 * x0) + 1 * x1) + (-1) * x2) + (-1) * x3) + 1 * x4) + 1 * x5) + (-1) * x6) + (-1) * x7)) + (-1) * ((((((((0 + 1 * x0) + (-1) * x1) + (-1) * x2) + 1 * x3) + 1 * x4) + (-1) * x5) + (-1) * x6) + 1 * x7)) + (-1) * ((((((((0 + 1 * x0) + 1 * x1) + 1 * x2) + 1 * x3) + (-1) * x4) + (-1) * x5) + (-1) * x6) + (-1) * x7)) + (-1) * ((((((((0 + 1 * x0) + (-1) * x1) + 1 * x2) + (-1) * x3) + (-1) * x4) + 1 * x5) + (-1) * x6) + 1 * x7)) + 1 * ((((((((0 + 1 * x0) + 1 * x1) + (-1) * x2) + (-1) * x3) + (-1) * x4) + (-1) * x5) + 1 * x6) + 1 * x7)) + 1 * ((((((((0 + 1 * x0) + (-1) * x1) + (-1) * x2) + 1 * x3) + (-1) * x4) + 1 * x5) + 1 * x6) + (-1) * x7)) = 8 * x6 := by grind
theorem bk_7 (x0 x1 x2 x3 x4 x5 x6 x7 : Int32) : ((((((((0 + 1 * ((((((((0 + 1 * x0) + 1 * x1) + 1 * x2) + 1 * x3) + 1 * x4) + 1 * x5) + 1 * x6) + 1 * x7)) + (-1) * ((((((((0 + 1 * x0) + (-1) * x1) + 1 * x2) + (-1) * x3) + 1 * x4) + (-1) * x5) + 1 * x6) + (-1) * x7)) + (-1) * ((((((((0 + 1 * x0) + 1 * x1) + (-1) * x2) + (-1) * x3) + 1 * x4) + 1 * x5) + (-1) * x6) + (-1) * x7)) + 1 * ((((((((0 + 1 * x0) + (-1) * x1) + (-1) * x2) + 1 * x3) + 1 * x4) + (-1) * x5) + (-1) * x6) + 1 * x7)) + (-1) * ((((((((0 + 1 * x0) + 1 * x1) + 1 * x2) + 1 * x3) + (-1) * x4) + (-1) * x5) + (-1) * x6) + (-1) * x7)) + 1 * ((((((((0 + 1 * x0) + (-1) * x1) + 1 * x2) + (-1) * x3) + (-1) * x4) + 1 * x5) + (-1) * x6) + 1 * x7)) + 1 * ((((((((0 + 1 * x0) + 1 * x1) + (-1) * x2) + (-1) * x3) + (-1) * x4) + (-1) * x5) + 1 * x6) + 1 * x7)) + (-1) * ((((((((0 + 1 * x0) + (-1) * x1) + (-1) * x2) + 1 * x3) + (-1) * x4) + 1 * x5) + 1 * x6) + (-1) * x7)) = 8 * x7 := by grind
theorem mul8 : ∀ n, n < 2001 → (8 * (nI n - 1000)) / 8 = nI n - 1000 := by decide +kernel
theorem ffr_in {A : St} (hI : Inv A) (i : Nat) : -1000 ≤ (ffr A i).toInt ∧ (ffr A i).toInt ≤ 1000 := by
  unfold ffr
  split
  · exact hI.R i
  · decide
theorem div8 {x : Int32} (h : -1000 ≤ x.toInt ∧ x.toInt ≤ 1000) : (8 * x) / 8 = x := by
  obtain ⟨n, hn, e⟩ : ∃ n : Nat, n < 2001 ∧ x = nI n - 1000 := by
    refine ⟨(x.toInt + 1000).toNat, by omega, ?_⟩
    apply Int32.toInt_inj.mp
    have e0 : (1000 : Int32).toInt = 1000 := by decide
    have e1 : (nI (x.toInt + 1000).toNat).toInt = x.toInt + 1000 := by rw [nI_toInt (by omega)]; omega
    rw [Int32_toInt_sub_of (by omega) (by omega), e0, e1]
    omega
  rw [e]
  exact mul8 n hn
theorem ftu_ex (A : St) (i : Nat) : ftu A i = ((((((((0 + fsg i 0 * ffr A 0) + fsg i 1 * ffr A 1) + fsg i 2 * ffr A 2) + fsg i 3 * ffr A 3) + fsg i 4 * ffr A 4) + fsg i 5 * ffr A 5) + fsg i 6 * ffr A 6) + fsg i 7 * ffr A 7) := rfl
theorem fba_ex (A : St) (k : Nat) : fba A k = ((((((((0 + fsg k 0 * ftu A 0) + fsg k 1 * ftu A 1) + fsg k 2 * ftu A 2) + fsg k 3 * ftu A 3) + fsg k 4 * ftu A 4) + fsg k 5 * ftu A 5) + fsg k 6 * ftu A 6) + fsg k 7 * ftu A 7) / 8 := rfl
theorem back_same {A : St} (hI : Inv A) {k : Nat} (hk : k < 8) : fba A k = ffr A k := by
  have fin : ∀ j, fba A j = (8 * ffr A j) / 8 → fba A j = ffr A j := fun j e => by rw [e]; exact div8 (ffr_in hI j)
  apply fin
  rw [fba_ex]
  congr 1
  simp only [ftu_ex]
  rcases (show k = 0 ∨ k = 1 ∨ k = 2 ∨ k = 3 ∨ k = 4 ∨ k = 5 ∨ k = 6 ∨ k = 7 by omega) with rfl | rfl | rfl | rfl | rfl | rfl | rfl | rfl
  · simp only [fsg_0_0, fsg_0_1, fsg_0_2, fsg_0_3, fsg_0_4, fsg_0_5, fsg_0_6, fsg_0_7, fsg_1_0, fsg_1_1, fsg_1_2, fsg_1_3, fsg_1_4, fsg_1_5, fsg_1_6, fsg_1_7, fsg_2_0, fsg_2_1, fsg_2_2, fsg_2_3, fsg_2_4, fsg_2_5, fsg_2_6, fsg_2_7, fsg_3_0, fsg_3_1, fsg_3_2, fsg_3_3, fsg_3_4, fsg_3_5, fsg_3_6, fsg_3_7, fsg_4_0, fsg_4_1, fsg_4_2, fsg_4_3, fsg_4_4, fsg_4_5, fsg_4_6, fsg_4_7, fsg_5_0, fsg_5_1, fsg_5_2, fsg_5_3, fsg_5_4, fsg_5_5, fsg_5_6, fsg_5_7, fsg_6_0, fsg_6_1, fsg_6_2, fsg_6_3, fsg_6_4, fsg_6_5, fsg_6_6, fsg_6_7, fsg_7_0, fsg_7_1, fsg_7_2, fsg_7_3, fsg_7_4, fsg_7_5, fsg_7_6, fsg_7_7]; exact bk_0 _ _ _ _ _ _ _ _
  · simp only [fsg_0_0, fsg_0_1, fsg_0_2, fsg_0_3, fsg_0_4, fsg_0_5, fsg_0_6, fsg_0_7, fsg_1_0, fsg_1_1, fsg_1_2, fsg_1_3, fsg_1_4, fsg_1_5, fsg_1_6, fsg_1_7, fsg_2_0, fsg_2_1, fsg_2_2, fsg_2_3, fsg_2_4, fsg_2_5, fsg_2_6, fsg_2_7, fsg_3_0, fsg_3_1, fsg_3_2, fsg_3_3, fsg_3_4, fsg_3_5, fsg_3_6, fsg_3_7, fsg_4_0, fsg_4_1, fsg_4_2, fsg_4_3, fsg_4_4, fsg_4_5, fsg_4_6, fsg_4_7, fsg_5_0, fsg_5_1, fsg_5_2, fsg_5_3, fsg_5_4, fsg_5_5, fsg_5_6, fsg_5_7, fsg_6_0, fsg_6_1, fsg_6_2, fsg_6_3, fsg_6_4, fsg_6_5, fsg_6_6, fsg_6_7, fsg_7_0, fsg_7_1, fsg_7_2, fsg_7_3, fsg_7_4, fsg_7_5, fsg_7_6, fsg_7_7]; exact bk_1 _ _ _ _ _ _ _ _
  · simp only [fsg_0_0, fsg_0_1, fsg_0_2, fsg_0_3, fsg_0_4, fsg_0_5, fsg_0_6, fsg_0_7, fsg_1_0, fsg_1_1, fsg_1_2, fsg_1_3, fsg_1_4, fsg_1_5, fsg_1_6, fsg_1_7, fsg_2_0, fsg_2_1, fsg_2_2, fsg_2_3, fsg_2_4, fsg_2_5, fsg_2_6, fsg_2_7, fsg_3_0, fsg_3_1, fsg_3_2, fsg_3_3, fsg_3_4, fsg_3_5, fsg_3_6, fsg_3_7, fsg_4_0, fsg_4_1, fsg_4_2, fsg_4_3, fsg_4_4, fsg_4_5, fsg_4_6, fsg_4_7, fsg_5_0, fsg_5_1, fsg_5_2, fsg_5_3, fsg_5_4, fsg_5_5, fsg_5_6, fsg_5_7, fsg_6_0, fsg_6_1, fsg_6_2, fsg_6_3, fsg_6_4, fsg_6_5, fsg_6_6, fsg_6_7, fsg_7_0, fsg_7_1, fsg_7_2, fsg_7_3, fsg_7_4, fsg_7_5, fsg_7_6, fsg_7_7]; exact bk_2 _ _ _ _ _ _ _ _
  · simp only [fsg_0_0, fsg_0_1, fsg_0_2, fsg_0_3, fsg_0_4, fsg_0_5, fsg_0_6, fsg_0_7, fsg_1_0, fsg_1_1, fsg_1_2, fsg_1_3, fsg_1_4, fsg_1_5, fsg_1_6, fsg_1_7, fsg_2_0, fsg_2_1, fsg_2_2, fsg_2_3, fsg_2_4, fsg_2_5, fsg_2_6, fsg_2_7, fsg_3_0, fsg_3_1, fsg_3_2, fsg_3_3, fsg_3_4, fsg_3_5, fsg_3_6, fsg_3_7, fsg_4_0, fsg_4_1, fsg_4_2, fsg_4_3, fsg_4_4, fsg_4_5, fsg_4_6, fsg_4_7, fsg_5_0, fsg_5_1, fsg_5_2, fsg_5_3, fsg_5_4, fsg_5_5, fsg_5_6, fsg_5_7, fsg_6_0, fsg_6_1, fsg_6_2, fsg_6_3, fsg_6_4, fsg_6_5, fsg_6_6, fsg_6_7, fsg_7_0, fsg_7_1, fsg_7_2, fsg_7_3, fsg_7_4, fsg_7_5, fsg_7_6, fsg_7_7]; exact bk_3 _ _ _ _ _ _ _ _
  · simp only [fsg_0_0, fsg_0_1, fsg_0_2, fsg_0_3, fsg_0_4, fsg_0_5, fsg_0_6, fsg_0_7, fsg_1_0, fsg_1_1, fsg_1_2, fsg_1_3, fsg_1_4, fsg_1_5, fsg_1_6, fsg_1_7, fsg_2_0, fsg_2_1, fsg_2_2, fsg_2_3, fsg_2_4, fsg_2_5, fsg_2_6, fsg_2_7, fsg_3_0, fsg_3_1, fsg_3_2, fsg_3_3, fsg_3_4, fsg_3_5, fsg_3_6, fsg_3_7, fsg_4_0, fsg_4_1, fsg_4_2, fsg_4_3, fsg_4_4, fsg_4_5, fsg_4_6, fsg_4_7, fsg_5_0, fsg_5_1, fsg_5_2, fsg_5_3, fsg_5_4, fsg_5_5, fsg_5_6, fsg_5_7, fsg_6_0, fsg_6_1, fsg_6_2, fsg_6_3, fsg_6_4, fsg_6_5, fsg_6_6, fsg_6_7, fsg_7_0, fsg_7_1, fsg_7_2, fsg_7_3, fsg_7_4, fsg_7_5, fsg_7_6, fsg_7_7]; exact bk_4 _ _ _ _ _ _ _ _
  · simp only [fsg_0_0, fsg_0_1, fsg_0_2, fsg_0_3, fsg_0_4, fsg_0_5, fsg_0_6, fsg_0_7, fsg_1_0, fsg_1_1, fsg_1_2, fsg_1_3, fsg_1_4, fsg_1_5, fsg_1_6, fsg_1_7, fsg_2_0, fsg_2_1, fsg_2_2, fsg_2_3, fsg_2_4, fsg_2_5, fsg_2_6, fsg_2_7, fsg_3_0, fsg_3_1, fsg_3_2, fsg_3_3, fsg_3_4, fsg_3_5, fsg_3_6, fsg_3_7, fsg_4_0, fsg_4_1, fsg_4_2, fsg_4_3, fsg_4_4, fsg_4_5, fsg_4_6, fsg_4_7, fsg_5_0, fsg_5_1, fsg_5_2, fsg_5_3, fsg_5_4, fsg_5_5, fsg_5_6, fsg_5_7, fsg_6_0, fsg_6_1, fsg_6_2, fsg_6_3, fsg_6_4, fsg_6_5, fsg_6_6, fsg_6_7, fsg_7_0, fsg_7_1, fsg_7_2, fsg_7_3, fsg_7_4, fsg_7_5, fsg_7_6, fsg_7_7]; exact bk_5 _ _ _ _ _ _ _ _
  · simp only [fsg_0_0, fsg_0_1, fsg_0_2, fsg_0_3, fsg_0_4, fsg_0_5, fsg_0_6, fsg_0_7, fsg_1_0, fsg_1_1, fsg_1_2, fsg_1_3, fsg_1_4, fsg_1_5, fsg_1_6, fsg_1_7, fsg_2_0, fsg_2_1, fsg_2_2, fsg_2_3, fsg_2_4, fsg_2_5, fsg_2_6, fsg_2_7, fsg_3_0, fsg_3_1, fsg_3_2, fsg_3_3, fsg_3_4, fsg_3_5, fsg_3_6, fsg_3_7, fsg_4_0, fsg_4_1, fsg_4_2, fsg_4_3, fsg_4_4, fsg_4_5, fsg_4_6, fsg_4_7, fsg_5_0, fsg_5_1, fsg_5_2, fsg_5_3, fsg_5_4, fsg_5_5, fsg_5_6, fsg_5_7, fsg_6_0, fsg_6_1, fsg_6_2, fsg_6_3, fsg_6_4, fsg_6_5, fsg_6_6, fsg_6_7, fsg_7_0, fsg_7_1, fsg_7_2, fsg_7_3, fsg_7_4, fsg_7_5, fsg_7_6, fsg_7_7]; exact bk_6 _ _ _ _ _ _ _ _
  · simp only [fsg_0_0, fsg_0_1, fsg_0_2, fsg_0_3, fsg_0_4, fsg_0_5, fsg_0_6, fsg_0_7, fsg_1_0, fsg_1_1, fsg_1_2, fsg_1_3, fsg_1_4, fsg_1_5, fsg_1_6, fsg_1_7, fsg_2_0, fsg_2_1, fsg_2_2, fsg_2_3, fsg_2_4, fsg_2_5, fsg_2_6, fsg_2_7, fsg_3_0, fsg_3_1, fsg_3_2, fsg_3_3, fsg_3_4, fsg_3_5, fsg_3_6, fsg_3_7, fsg_4_0, fsg_4_1, fsg_4_2, fsg_4_3, fsg_4_4, fsg_4_5, fsg_4_6, fsg_4_7, fsg_5_0, fsg_5_1, fsg_5_2, fsg_5_3, fsg_5_4, fsg_5_5, fsg_5_6, fsg_5_7, fsg_6_0, fsg_6_1, fsg_6_2, fsg_6_3, fsg_6_4, fsg_6_5, fsg_6_6, fsg_6_7, fsg_7_0, fsg_7_1, fsg_7_2, fsg_7_3, fsg_7_4, fsg_7_5, fsg_7_6, fsg_7_7]; exact bk_7 _ _ _ _ _ _ _ _
theorem turned_same {A : St} (hI : Inv A) (k w : Int32) : aTm A k w = aTu A k w := by
  unfold aTm aTu
  split
  · next q =>
    obtain ⟨j, hj, rfl⟩ := iN_of q.1 (by decide) (by decide)
    rw [cl_nI (by omega), ftu_same, back_same hI hj]
  · rfl
