theorem fbL_is {c : Nat → Bool} {g : Nat → Int32} {z : Int32} : ∀ (n o : Nat), (∃ u, fbL c g z n o = g u) ∨ fbL c g z n o = z
  | 0, _ => Or.inr rfl
  | n + 1, o => by
    by_cases hc : c o = true
    · exact Or.inl ⟨o, if_pos hc⟩
    · rw [fbL, if_neg hc]
      exact fbL_is n (o + 1)
theorem fbg_in {A : St} (hI : Inv A) (q f t : Nat) : 0 ≤ (fbg A q f t).toInt ∧ (fbg A q f t).toInt ≤ 99 := by
  rcases fbL_is (c := fbc A q f t) (g := fun o => sB A (f * 8 + o)) (z := sB A (f * 8 + t)) (sT A) 0 with ⟨u, hu⟩ | hu
  · unfold fbg; rw [hu]; exact hI.B _
  · unfold fbg; rw [hu]; exact hI.B _
/-- the size of a difference -/
theorem fab_in {x y : Int32} {a b : Nat} (hx : 0 ≤ x.toInt ∧ x.toInt ≤ a) (hy : 0 ≤ y.toInt ∧ y.toInt ≤ b) (h : (a : Int) + b < 2147483647) : 0 ≤ (fab (x - y)).toInt ∧ (fab (x - y)).toInt ≤ (a : Int) + b := by
  have e := Int32_toInt_sub_of (x := x) (y := y) (by omega) (by omega)
  have z : (0 : Int32).toInt = 0 := by decide
  unfold fab
  split
  · next q =>
    have q := Int32.le_iff_toInt_le.mp q
    omega
  · next q =>
    have q : ¬ (0 : Int32).toInt ≤ (x - y).toInt := fun w => q (Int32.le_iff_toInt_le.mpr w)
    have e2 := Int32_toInt_sub_of (x := 0) (y := x - y) (by omega) (by omega)
    omega
theorem l_sum_in2 {g : Nat → Int32} {c N n : Nat} (hn : n ≤ N) (h : ∀ k, k < n → 0 ≤ (g k).toInt ∧ (g k).toInt ≤ c) (hc : (N : Int) * c < 2147483648) : 0 ≤ (l_sum g n).toInt ∧ (l_sum g n).toInt ≤ ((N * c : Nat) : Int) := by
  have e : (n : Int) * c ≤ (N : Int) * c := Int.mul_le_mul_of_nonneg_right (by omega) (by omega)
  have h1 := l_sum_in h (by omega)
  rw [Int.natCast_mul]
  omega
theorem fpr_nn {A : St} (hI : Inv A) {q : Nat} (hq : q ≤ 9) : ¬ fpr A q < 0 := by
  have hF := hI.F
  have hT := hI.T
  intro z
  have z := Int32.lt_iff_toInt_lt.mp z
  have e0 : (0 : Int32).toInt = 0 := by decide
  unfold fpr at z
  rw [acc2_eq] at z
  have h1 : ∀ f, f < sF A → 0 ≤ (l_sum (fun t => fab (sB A (f * 8 + t) - fbg A q f t)) (sT A)).toInt ∧ (l_sum (fun t => fab (sB A (f * 8 + t) - fbg A q f t)) (sT A)).toInt ≤ ((8 * 198 : Nat) : Int) := fun f _ => l_sum_in2 hT.2 (fun k _ => fab_in (a := 99) (b := 99) (hI.B _) (fbg_in hI q f k) (by decide)) (by decide)
  have h2 := l_sum_in2 (N := 6) hF.2 h1 (by decide)
  have h3 : q * sF A ≤ 9 * 6 := Nat.mul_le_mul hq hF.2
  have h4 : (nI (q * sF A)).toInt = ((q * sF A : Nat) : Int) := nI_toInt (by omega)
  rw [Int32_toInt_add_of (by omega) (by omega)] at z
  omega
theorem fbp_keep {pr : Nat → Int32} {i : Nat} (h : ¬ i = 0) (hc : ¬ pr (i + 1) < pr (fbp pr (i - 1))) : fbp pr (i + 1 - 1) = fbp pr (i - 1) := by
  obtain ⟨j, rfl⟩ : ∃ j, i = j + 1 := ⟨i - 1, by omega⟩
  exact if_neg hc
theorem fbp_take {pr : Nat → Int32} {i : Nat} (h : ¬ i = 0) (hc : pr (i + 1) < pr (fbp pr (i - 1))) : fbp pr (i + 1 - 1) = i + 1 := by
  obtain ⟨j, rfl⟩ : ∃ j, i = j + 1 := ⟨i - 1, by omega⟩
  exact if_pos hc
