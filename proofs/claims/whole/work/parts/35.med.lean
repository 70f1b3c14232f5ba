/-! the middle one: by rank, and by a row in order -/
theorem i3_way (a b : Int32) : a < b ∨ a = b ∨ b < a := by
  rcases Int.lt_trichotomy a.toInt b.toInt with h | h | h
  · exact Or.inl (Int32.lt_iff_toInt_lt.mpr h)
  · exact Or.inr (Or.inl (Int32.toInt_inj.mp h))
  · exact Or.inr (Or.inr (Int32.lt_iff_toInt_lt.mpr h))
theorem cnt_sub {p q : Nat → Bool} : ∀ {n : Nat}, (∀ k, k < n → p k = true → q k = true) → cnt p n ≤ cnt q n
  | 0, _ => Nat.le_refl 0
  | n + 1, h => by
    have ih := cnt_sub (p := p) (q := q) (n := n) (fun k hk => h k (by omega))
    have h1 := h n (by omega)
    simp only [cnt]
    by_cases hp : p n = true
    · rw [if_pos hp, if_pos (h1 hp)]; omega
    · rw [if_neg hp]; omega
theorem cnt_ssub {p q : Nat → Bool} {j : Nat} : ∀ {n : Nat}, j < n → (∀ k, k < n → p k = true → q k = true) → q j = true → p j = false → cnt p n < cnt q n
  | 0, hj, _, _, _ => absurd hj (Nat.not_lt_zero j)
  | n + 1, hj, h, hq, hp => by
    by_cases e : j = n
    · subst e
      have h1 := cnt_sub (p := p) (q := q) (n := j) (fun k hk => h k (by omega))
      rw [cnt_yes hq, cnt_no hp]; omega
    · have ih := cnt_ssub (p := p) (q := q) (j := j) (n := n) (by omega) (fun k hk => h k (by omega)) hq hp
      have h1 := h n (by omega)
      simp only [cnt]
      by_cases hp : p n = true
      · rw [if_pos hp, if_pos (h1 hp)]; omega
      · rw [if_neg hp]; omega
theorem cnt_dis {p q r : Nat → Bool} : ∀ {n : Nat}, (∀ k, k < n → r k = (p k || q k)) → (∀ k, k < n → ¬ (p k = true ∧ q k = true)) → cnt r n = cnt p n + cnt q n
  | 0, _, _ => rfl
  | n + 1, h, hd => by
    have ih := cnt_dis (p := p) (q := q) (r := r) (n := n) (fun k hk => h k (by omega)) (fun k hk => hd k (by omega))
    have h1 := h n (by omega)
    have h2 := hd n (by omega)
    simp only [cnt]
    rw [h1, ih]
    cases hp : p n <;> cases hq : q n
    · simp
    · simp; omega
    · simp; omega
    · exact absurd ⟨hp, hq⟩ h2
theorem cnt_zero {p : Nat → Bool} : ∀ {n : Nat}, (∀ k, k < n → p k = false) → cnt p n = 0
  | 0, _ => rfl
  | n + 1, h => by rw [cnt_no (h n (by omega)), cnt_zero (fun k hk => h k (by omega))]
theorem cnt_all {p : Nat → Bool} : ∀ {n : Nat}, (∀ k, k < n → p k = true) → cnt p n = n
  | 0, _ => rfl
  | n + 1, h => by rw [cnt_yes (h n (by omega)), cnt_all (fun k hk => h k (by omega))]
theorem cnt_kth {p : Nat → Bool} {k : Nat} : ∀ {n : Nat}, k < cnt p n → ∃ i, i < n ∧ p i = true ∧ cnt p i = k
  | 0, h => absurd h (Nat.not_lt_zero k)
  | n + 1, h => by
    rcases Nat.lt_or_ge k (cnt p n) with q | q
    · obtain ⟨i, h1, h2⟩ := cnt_kth q
      exact ⟨i, by omega, h2⟩
    · by_cases hp : p n = true
      · rw [cnt_yes hp] at h
        exact ⟨n, by omega, hp, by omega⟩
      · rw [cnt_no (Bool.eq_false_iff.mpr hp)] at h
        omega
theorem cnt_cut {p : Nat → Bool} {u : Nat} : ∀ {n : Nat}, u ≤ n → cnt (fun o => p o && decide (o < u)) n = cnt p u
  | 0, h => by
    have e : u = 0 := by omega
    subst e; rfl
  | n + 1, h => by
    by_cases e : u = n + 1
    · subst e
      exact cnt_cong (fun k hk => by simp [hk])
    · have ih := cnt_cut (p := p) (u := u) (n := n) (by omega)
      rw [cnt_no (p := fun o => p o && decide (o < u)) (by simp; omega)]
      exact ih
def pos (g : Nat → Int32) (v : Int32) : Nat → Nat
  | 0 => 0
  | n + 1 => if v < g n then pos g v n else n + 1
def ins (g : Nat → Int32) (n : Nat) (v : Int32) : Nat → Int32 := fun i => if i < pos g v n then g i else if i = pos g v n then v else g (i - 1)
theorem pos_le (g : Nat → Int32) (v : Int32) : ∀ n, pos g v n ≤ n
  | 0 => Nat.le_refl 0
  | n + 1 => by
    have ih := pos_le g v n
    simp only [pos]
    split <;> omega
theorem pos_gt (g : Nat → Int32) (v : Int32) : ∀ n i, pos g v n ≤ i → i < n → v < g i
  | 0, i, _, h => absurd h (Nat.not_lt_zero i)
  | n + 1, i, h1, h2 => by
    by_cases q : v < g n
    · simp only [pos, if_pos q] at h1
      by_cases e : i = n
      · subst e; exact q
      · exact pos_gt g v n i h1 (by omega)
    · simp only [pos, if_neg q] at h1
      omega
theorem pos_low (g : Nat → Int32) (v : Int32) : ∀ n, 0 < pos g v n → ¬ v < g (pos g v n - 1)
  | 0, h => absurd h (Nat.lt_irrefl 0)
  | n + 1, h => by
    by_cases q : v < g n
    · simp only [pos, if_pos q] at h ⊢
      exact pos_low g v n h
    · simp only [pos, if_neg q]
      exact q
def srtd (g : Nat → Int32) (n : Nat) : Prop := ∀ i j, i ≤ j → j < n → g i ≤ g j
theorem ins_srtd {g : Nat → Int32} {n : Nat} {v : Int32} (h : srtd g n) : srtd (ins g n v) (n + 1) := by
  have hl := pos_le g v n
  have hg := pos_gt g v n
  have hw := pos_low g v n
  intro i j hij hj
  unfold ins
  generalize pos g v n = p at *
  by_cases i1 : i < p
  · rw [if_pos i1]
    have lo : g i ≤ v := by
      have h1 := Int32.not_lt.mp (hw (by omega))
      exact Int32.le_trans (h i (p - 1) (by omega) (by omega)) h1
    by_cases j1 : j < p
    · rw [if_pos j1]; exact h i j hij (by omega)
    · rw [if_neg j1]
      by_cases j2 : j = p
      · rw [if_pos j2]; exact lo
      · rw [if_neg j2]; exact h i (j - 1) (by omega) (by omega)
  · rw [if_neg i1, if_neg (show ¬ j < p by omega)]
    by_cases i2 : i = p
    · rw [if_pos i2]
      by_cases j2 : j = p
      · rw [if_pos j2]; exact Int32.le_refl v
      · rw [if_neg j2]; exact Int32.le_of_lt (hg (j - 1) (by omega) (by omega))
    · rw [if_neg i2, if_neg (show ¬ j = p by omega)]
      exact h (i - 1) (j - 1) (by omega) (by omega)
theorem ins_cnt (P : Int32 → Bool) (g : Nat → Int32) (n : Nat) (v : Int32) : cnt (fun i => P (ins g n v i)) (n + 1) = cnt (fun i => P (g i)) n + (if P v then 1 else 0) := by
  have hl := pos_le g v n
  unfold ins
  generalize pos g v n = p at *
  have a1 := cnt_split (fun i => P (if i < p then g i else if i = p then v else g (i - 1))) p (1 + (n - p))
  have a2 := cnt_split (fun j => P (if p + j < p then g (p + j) else if p + j = p then v else g (p + j - 1))) 1 (n - p)
  have a3 := cnt_split (fun i => P (g i)) p (n - p)
  rw [show p + (1 + (n - p)) = n + 1 by omega] at a1
  rw [show p + (n - p) = n by omega] at a3
  have b1 : cnt (fun i => P (if i < p then g i else if i = p then v else g (i - 1))) p = cnt (fun i => P (g i)) p := cnt_cong (fun k hk => by rw [if_pos hk])
  have b2 : cnt (fun j => P (if p + j < p then g (p + j) else if p + j = p then v else g (p + j - 1))) 1 = if P v then 1 else 0 := by
    show 0 + (if P (if p + 0 < p then g (p + 0) else if p + 0 = p then v else g (p + 0 - 1)) = true then 1 else 0) = _
    rw [if_neg (show ¬ p + 0 < p by omega), if_pos (show p + 0 = p by omega), Nat.zero_add]
  have b3 : cnt (fun j => P (if p + (1 + j) < p then g (p + (1 + j)) else if p + (1 + j) = p then v else g (p + (1 + j) - 1))) (n - p) = cnt (fun j => P (g (p + j))) (n - p) := cnt_cong (fun k hk => by rw [if_neg (show ¬ p + (1 + k) < p by omega), if_neg (show ¬ p + (1 + k) = p by omega), show p + (1 + k) - 1 = p + k by omega])
  rw [a1, b1, a2, b2, b3, a3]
  omega
def sg (A : St) (q f t : Nat) : Nat → Nat × (Nat → Int32)
  | 0 => (0, fun _ => 0)
  | o + 1 => if fis q t o = true then ((sg A q f t o).1 + 1, ins (sg A q f t o).2 (sg A q f t o).1 (sB A (f * 8 + o))) else sg A q f t o
theorem sg_all (A : St) (q f t : Nat) : ∀ o, (sg A q f t o).1 = cnt (fis q t) o ∧ srtd (sg A q f t o).2 (sg A q f t o).1 ∧ ∀ P : Int32 → Bool, cnt (fun i => P ((sg A q f t o).2 i)) (sg A q f t o).1 = cnt (fun u => fis q t u && P (sB A (f * 8 + u))) o
  | 0 => ⟨rfl, fun i j _ h => absurd h (Nat.not_lt_zero j), fun _ => rfl⟩
  | o + 1 => by
    obtain ⟨h1, h2, h3⟩ := sg_all A q f t o
    by_cases hf : fis q t o = true
    · simp only [sg, if_pos hf]
      refine ⟨by rw [cnt_yes hf, h1], ins_srtd h2, fun P => ?_⟩
      rw [ins_cnt, h3 P]
      simp only [cnt, hf, Bool.true_and]
    · simp only [sg, if_neg hf]
      have hf' : fis q t o = false := Bool.eq_false_iff.mpr hf
      refine ⟨by rw [cnt_no hf', h1], h2, fun P => ?_⟩
      rw [h3 P]
      simp only [cnt, hf', Bool.false_and]
      simp
def mbg (A : St) (q f t : Nat) : Int32 := (sg A q f t (sT A)).2 (fmi A q t)
theorem fbL_at {c : Nat → Bool} {g : Nat → Int32} {z : Int32} : ∀ (n o : Nat), (∃ u, o ≤ u ∧ u < o + n ∧ c u = true) → ∃ u, o ≤ u ∧ u < o + n ∧ c u = true ∧ fbL c g z n o = g u
  | 0, o, h => by obtain ⟨u, a, b, -⟩ := h; omega
  | n + 1, o, h => by
    by_cases hc : c o = true
    · exact ⟨o, Nat.le_refl o, by omega, hc, if_pos hc⟩
    · obtain ⟨u, a, b, e⟩ := h
      have hu : o ≠ u := fun q => hc (by rw [q]; exact e)
      obtain ⟨w, a2, b2, e2, r⟩ := fbL_at (g := g) (z := z) n (o + 1) ⟨u, by omega, by omega, e⟩
      refine ⟨w, by omega, by omega, e2, ?_⟩
      rw [fbL, if_neg hc]
      exact r
/-- by rank and by order: the same number -/
theorem med_eq {A : St} {q f t : Nat} (ht : t < sT A) : mbg A q f t = fbg A q f t := by
  obtain ⟨h1, h2, h3⟩ := sg_all A q f t (sT A)
  have hn : 1 ≤ cnt (fis q t) (sT A) := cnt_pos (j := t) (show _ = true from decide_eq_true rfl) ht
  have hmid : fmi A q t < (sg A q f t (sT A)).1 := by rw [h1]; unfold fmi; omega
  obtain ⟨m, em⟩ : ∃ m, m = mbg A q f t := ⟨_, rfl⟩
  have em2 : m = (sg A q f t (sT A)).2 (fmi A q t) := em
  have L1 : cnt (fun u => fis q t u && decide (sB A (f * 8 + u) < m)) (sT A) ≤ fmi A q t := by
    rw [← h3 (fun x => decide (x < m))]
    have a := cnt_split (fun i => decide ((sg A q f t (sT A)).2 i < m)) (fmi A q t) ((sg A q f t (sT A)).1 - fmi A q t)
    rw [show fmi A q t + ((sg A q f t (sT A)).1 - fmi A q t) = (sg A q f t (sT A)).1 by omega] at a
    have b : cnt (fun j => decide ((sg A q f t (sT A)).2 (fmi A q t + j) < m)) ((sg A q f t (sT A)).1 - fmi A q t) = 0 := cnt_zero (fun k hk => decide_eq_false (Int32.not_lt.mpr (by rw [em2]; exact h2 _ _ (by omega) (by omega))))
    have c := cnt_le (fun i => decide ((sg A q f t (sT A)).2 i < m)) (fmi A q t)
    omega
  have L2 : fmi A q t < cnt (fun u => fis q t u && decide (sB A (f * 8 + u) ≤ m)) (sT A) := by
    rw [← h3 (fun x => decide (x ≤ m))]
    have a := cnt_split (fun i => decide ((sg A q f t (sT A)).2 i ≤ m)) (fmi A q t + 1) ((sg A q f t (sT A)).1 - (fmi A q t + 1))
    rw [show fmi A q t + 1 + ((sg A q f t (sT A)).1 - (fmi A q t + 1)) = (sg A q f t (sT A)).1 by omega] at a
    have b : cnt (fun i => decide ((sg A q f t (sT A)).2 i ≤ m)) (fmi A q t + 1) = fmi A q t + 1 := cnt_all (fun k hk => decide_eq_true (by rw [em2]; exact h2 _ _ (by omega) (by omega)))
    omega
  have Le : cnt (fun u => fis q t u && decide (sB A (f * 8 + u) ≤ m)) (sT A) = cnt (fun u => fis q t u && decide (sB A (f * 8 + u) < m)) (sT A) + cnt (fun u => fis q t u && decide (sB A (f * 8 + u) = m)) (sT A) := by
    refine cnt_dis (fun k _ => ?_) (fun k _ z => ?_)
    · rcases i3_way (sB A (f * 8 + k)) m with z | z | z
      · simp [z, Int32.le_of_lt z]; exact fun y _ => y
      · simp [z, Int32.le_refl, Int32.lt_irrefl]
      · have y : ¬ sB A (f * 8 + k) ≤ m := Int32.not_le.mpr z
        have y2 : ¬ sB A (f * 8 + k) < m := fun w => y (Int32.le_of_lt w)
        have y3 : ¬ sB A (f * 8 + k) = m := fun w => y (by rw [w]; exact Int32.le_refl m)
        simp [y, y2, y3]
    · have a := z.1
      have b := z.2
      simp only [Bool.and_eq_true, decide_eq_true_eq] at a b
      rw [b.2] at a
      exact Int32.lt_irrefl a.2
  obtain ⟨u, hu, pu, cu⟩ := cnt_kth (p := fun u => fis q t u && decide (sB A (f * 8 + u) = m)) (k := fmi A q t - cnt (fun u => fis q t u && decide (sB A (f * 8 + u) < m)) (sT A)) (n := sT A) (by omega)
  have rank : ∀ v, t % q = v % q → frk A q f v = cnt (fun o => fis q t o && decide (sB A (f * 8 + o) < sB A (f * 8 + v))) (sT A) + cnt (fun o => (fis q t o && decide (sB A (f * 8 + o) = sB A (f * 8 + v))) && decide (o < v)) (sT A) := by
    intro v hv
    unfold frk
    refine cnt_dis (fun k _ => ?_) (fun k _ z => ?_)
    · unfold fra fis
      rw [← hv]
      by_cases a : t % q = k % q <;> by_cases b : sB A (f * 8 + k) < sB A (f * 8 + v) <;> by_cases c : sB A (f * 8 + k) = sB A (f * 8 + v) <;> by_cases d : k < v <;> simp [a, b, c, d]
    · have a := z.1
      have b := z.2
      simp only [Bool.and_eq_true, decide_eq_true_eq] at a b
      rw [b.1.2] at a
      exact Int32.lt_irrefl a.2
  simp only [Bool.and_eq_true, decide_eq_true_eq] at pu
  have pu1 : t % q = u % q := of_decide_eq_true pu.1
  have fu : fbc A q f t u = true := by
    refine decide_eq_true ⟨pu1, ?_⟩
    rw [rank u pu1, cnt_cut (Nat.le_of_lt hu), pu.2]
    omega
  obtain ⟨v, -, hv, fv, rv⟩ := fbL_at (c := fbc A q f t) (g := fun o => sB A (f * 8 + o)) (z := sB A (f * 8 + t)) (sT A) 0 ⟨u, Nat.zero_le u, by omega, fu⟩
  have hv : v < sT A := by omega
  have gv := of_decide_eq_true fv
  show mbg A q f t = fbL (fbc A q f t) (fun o => sB A (f * 8 + o)) (sB A (f * 8 + t)) (sT A) 0
  rw [rv, ← em]
  show m = sB A (f * 8 + v)
  have rk := rank v gv.1
  rw [gv.2] at rk
  have K1 : cnt (fun o => fis q t o && decide (sB A (f * 8 + o) < sB A (f * 8 + v))) (sT A) ≤ fmi A q t := by omega
  have K2 : fmi A q t < cnt (fun o => fis q t o && decide (sB A (f * 8 + o) ≤ sB A (f * 8 + v))) (sT A) := by
    have e := gv.2
    rw [← e]
    unfold frk
    refine cnt_ssub hv (fun k _ hk => ?_) ?_ ?_
    · have z := of_decide_eq_true hk
      simp only [Bool.and_eq_true, decide_eq_true_eq]
      refine ⟨decide_eq_true (gv.1.trans z.1), ?_⟩
      rcases z.2 with y | y
      · exact Int32.le_of_lt y
      · rw [y.1]; exact Int32.le_refl _
    · simp only [Bool.and_eq_true, decide_eq_true_eq]
      exact ⟨decide_eq_true gv.1, Int32.le_refl _⟩
    · refine decide_eq_false (fun z => ?_)
      rcases z.2 with y | y
      · exact Int32.lt_irrefl y
      · exact Nat.lt_irrefl v y.2
  rcases i3_way m (sB A (f * 8 + v)) with z | z | z
  · exfalso
    have c := cnt_sub (p := fun u => fis q t u && decide (sB A (f * 8 + u) ≤ m)) (q := fun o => fis q t o && decide (sB A (f * 8 + o) < sB A (f * 8 + v))) (n := sT A) (fun k _ hk => by
      simp only [Bool.and_eq_true, decide_eq_true_eq] at hk ⊢
      exact ⟨hk.1, Int32.lt_of_le_of_lt hk.2 z⟩)
    omega
  · exact z
  · exfalso
    have c := cnt_sub (p := fun o => fis q t o && decide (sB A (f * 8 + o) ≤ sB A (f * 8 + v))) (q := fun u => fis q t u && decide (sB A (f * 8 + u) < m)) (n := sT A) (fun k _ hk => by
      simp only [Bool.and_eq_true, decide_eq_true_eq] at hk ⊢
      exact ⟨hk.1, Int32.lt_of_le_of_lt hk.2 z⟩)
    omega
theorem sg_skip {A : St} {q f t o : Nat} (ho : o % q = t % q) : ∀ d, 1 ≤ d → d ≤ q → sg A q f t (o + d) = sg A q f t (o + 1)
  | 0, h, _ => absurd h (by decide)
  | 1, _, _ => rfl
  | d + 2, _, h => by
    have ih := sg_skip (A := A) (q := q) (f := f) (t := t) (o := o) ho (d + 1) (by omega) (by omega)
    have hn : ¬ fis q t (o + (d + 1)) = true := by
      intro z
      have z : t % q = (o + (d + 1)) % q := of_decide_eq_true z
      rw [← ho] at z
      have e : (o + (d + 1)) % q = (o % q + (d + 1) % q) % q := Nat.add_mod o (d + 1) q
      rw [Nat.mod_eq_of_lt (show d + 1 < q by omega)] at e
      have l := Nat.mod_lt o (show q > 0 by omega)
      by_cases w : o % q + (d + 1) < q
      · rw [Nat.mod_eq_of_lt w] at e; omega
      · have e2 : (o % q + (d + 1)) % q = o % q + (d + 1) - q := by
          rw [Nat.mod_eq_sub_mod (by omega), Nat.mod_eq_of_lt (by omega)]
        omega
    rw [← ih]
    show (if fis q t (o + (d + 1)) = true then _ else sg A q f t (o + (d + 1))) = _
    rw [if_neg hn]
theorem sg_none {A : St} {q f t : Nat} (hq : 0 < q) : ∀ d, d ≤ t % q → sg A q f t d = (0, fun _ => 0)
  | 0, _ => rfl
  | d + 1, h => by
    have ih := sg_none (A := A) (q := q) (f := f) (t := t) hq d (by omega)
    have l := Nat.mod_lt t hq
    have hn : ¬ fis q t d = true := by
      intro z
      have z : t % q = d % q := of_decide_eq_true z
      rw [Nat.mod_eq_of_lt (show d < q by omega)] at z
      omega
    show (if fis q t d = true then _ else sg A q f t d) = _
    rw [if_neg hn, ih]
theorem sg_step {A : St} {q f t o : Nat} (hq : 0 < q) (ho : o % q = t % q) (hT : o < sT A) : sg A q f t (min (o + q) (sT A)) = ((sg A q f t o).1 + 1, ins (sg A q f t o).2 (sg A q f t o).1 (sB A (f * 8 + o))) := by
  have e : min (o + q) (sT A) = o + min q (sT A - o) := by omega
  rw [e, sg_skip ho _ (by omega) (by omega)]
  show (if fis q t o = true then _ else _) = _
  rw [if_pos (show fis q t o = true from decide_eq_true ho.symm)]
theorem min_o {A : St} {o : Nat} (h : o < sT A) : min o (sT A) = o := by omega
theorem min_T {A : St} {o : Nat} (h : sT A ≤ o) : min o (sT A) = sT A := by omega
