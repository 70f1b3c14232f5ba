/-! the numbers that both sides work out, further -/
def cnt (p : Nat → Bool) : Nat → Nat
  | 0 => 0
  | n + 1 => cnt p n + (if p n then 1 else 0)
theorem cnt_yes {p : Nat → Bool} {n : Nat} (h : p n = true) : cnt p (n + 1) = cnt p n + 1 := by simp [cnt, h]
theorem cnt_no {p : Nat → Bool} {n : Nat} (h : p n = false) : cnt p (n + 1) = cnt p n := by simp [cnt, h]
theorem cnt_le (p : Nat → Bool) : ∀ n, cnt p n ≤ n
  | 0 => Nat.le_refl 0
  | n + 1 => by
    have ih := cnt_le p n
    simp only [cnt]
    split <;> omega
theorem cnt_pos {p : Nat → Bool} {j : Nat} (h : p j = true) : ∀ {n : Nat}, j < n → 1 ≤ cnt p n
  | 0, hj => absurd hj (Nat.not_lt_zero j)
  | n + 1, hj => by
    by_cases q : j = n
    · subst q; rw [cnt_yes h]; omega
    · have := cnt_pos (p := p) h (show j < n by omega)
      simp only [cnt]; omega
/-- z and then g 0, g 1 .. -/
def acc (z : Int32) (g : Nat → Int32) : Nat → Int32
  | 0 => z
  | n + 1 => acc z g n + g n
def acc2 (z : Int32) (g : Nat → Nat → Int32) (T : Nat) : Nat → Int32
  | 0 => z
  | n + 1 => acc (acc2 z g T n) (g n) T
theorem acc_eq (z : Int32) (g : Nat → Int32) : ∀ n, acc z g n = z + l_sum g n
  | 0 => (Int32.add_zero z).symm
  | n + 1 => by rw [acc, l_sum_s, acc_eq z g n, Int32.add_assoc]
theorem l_sum_cong {f g : Nat → Int32} : ∀ {n : Nat}, (∀ k, k < n → f k = g k) → l_sum f n = l_sum g n
  | 0, _ => rfl
  | n + 1, h => by rw [l_sum_s, l_sum_s, l_sum_cong (fun k hk => h k (Nat.lt_succ_of_lt hk)), h n (Nat.lt_succ_self n)]
theorem acc_cong {z : Int32} {f g : Nat → Int32} {n : Nat} (h : ∀ k, k < n → f k = g k) : acc z f n = acc z g n := by rw [acc_eq, acc_eq, l_sum_cong h]
theorem acc2_eq (z : Int32) (g : Nat → Nat → Int32) (T : Nat) : ∀ n, acc2 z g T n = z + l_sum (fun f => l_sum (g f) T) n
  | 0 => (Int32.add_zero z).symm
  | n + 1 => by rw [acc2, acc_eq, acc2_eq z g T n, l_sum_s, Int32.add_assoc]
/-- what is left over of v, after the first n -/
def flf (v a : Int32) (th : Nat → Int32) : Nat → Int32
  | 0 => v
  | n + 1 => flf v a th n - th n / a
def frm (x a : Int32) : Int32 := x - x / a * a
def fth (A : St) (f t : Nat) (k : Nat) : Int32 := sB A (f * 8 + t) * (sV A k f * sV A k (6 + t))
/-- VOICE j stands ahead of VOICE k -/
def fah (A : St) (k f t : Nat) (j : Nat) : Bool := decide (frm (fth A f t k) (fS A f t) < frm (fth A f t j) (fS A f t) ∨ (frm (fth A f t j) (fS A f t) = frm (fth A f t k) (fS A f t) ∧ j < k))
/-- SHARE -/
def fsh (A : St) (k f t : Nat) : Int32 := if fS A f t = 0 then (if k = 0 then sB A (f * 8 + t) else 0) else fth A f t k / fS A f t + (if nI (cnt (fah A k f t) (sK A)) < flf (sB A (f * 8 + t)) (fS A f t) (fth A f t) (sK A) then 1 else 0)
theorem Int32_toInt_mul_of {x y : Int32} (h1 : -2147483648 ≤ x.toInt * y.toInt) (h2 : x.toInt * y.toInt < 2147483648) : (x * y).toInt = x.toInt * y.toInt := by
  rw [Int32.toInt_mul, Int.bmod_eq_of_le (by omega) (by omega)]
theorem Int32_toInt_add_of {x y : Int32} (h1 : -2147483648 ≤ x.toInt + y.toInt) (h2 : x.toInt + y.toInt < 2147483648) : (x + y).toInt = x.toInt + y.toInt := by
  rw [Int32.toInt_add, Int.bmod_eq_of_le (by omega) (by omega)]
theorem Int32_toInt_sub_of {x y : Int32} (h1 : -2147483648 ≤ x.toInt - y.toInt) (h2 : x.toInt - y.toInt < 2147483648) : (x - y).toInt = x.toInt - y.toInt := by
  rw [Int32.toInt_sub, Int.bmod_eq_of_le (by omega) (by omega)]
/-- a product of two small numbers -/
theorem mul_in {x y : Int32} {a b : Nat} (hx : 0 ≤ x.toInt ∧ x.toInt ≤ a) (hy : 0 ≤ y.toInt ∧ y.toInt ≤ b) (h : (a : Int) * b < 2147483648) : (x * y).toInt = x.toInt * y.toInt ∧ 0 ≤ (x * y).toInt ∧ (x * y).toInt ≤ (a : Int) * b := by
  have h0 : 0 ≤ x.toInt * y.toInt := Int.mul_nonneg hx.1 hy.1
  have h1 : x.toInt * y.toInt ≤ (a : Int) * b := Int.mul_le_mul hx.2 hy.2 hy.1 (by omega)
  have e := Int32_toInt_mul_of (x := x) (y := y) (by omega) (by omega)
  rw [e]
  exact ⟨rfl, h0, h1⟩
/-- a sum of small numbers -/
theorem l_sum_in {g : Nat → Int32} {c : Nat} {n : Nat} (h : ∀ k, k < n → 0 ≤ (g k).toInt ∧ (g k).toInt ≤ c) (hc : (n : Int) * c < 2147483648) : 0 ≤ (l_sum g n).toInt ∧ (l_sum g n).toInt ≤ (n : Int) * c := by
  induction n with
  | zero =>
    rw [l_sum_0]
    have e : (0 : Int32).toInt = 0 := by decide
    rw [e]
    simp
  | succ n ih =>
    have e : ((n + 1 : Nat) : Int) * (c : Int) = (n : Int) * c + c := by
      rw [Int.natCast_add, Int.add_mul]; simp
    rw [e] at hc ⊢
    have ih := ih (fun k hk => h k (Nat.lt_succ_of_lt hk)) (by omega)
    have h1 := h n (Nat.lt_succ_self n)
    rw [l_sum_s, Int32_toInt_add_of (by omega) (by omega)]
    omega
theorem fS_in {A : St} (hI : Inv A) (f t : Nat) : 0 ≤ (fS A f t).toInt ∧ (fS A f t).toInt ≤ 1200 := by
  have h := l_sum_in (g := fun k => sV A k f * sV A k (6 + t)) (c := 400) (n := sK A) (fun k _ => (mul_in (a := 20) (b := 20) (hI.V k f) (hI.V k (6 + t)) (by decide)).2) (by have := hI.K; omega)
  have hK := hI.K
  refine ⟨h.1, Int.le_trans h.2 ?_⟩
  omega
theorem fS_0 {A : St} (hI : Inv A) {f t : Nat} (h : ¬ 0 < fS A f t) : fS A f t = 0 := by
  have h1 := fS_in hI f t
  have h2 : ¬ (0 : Int32).toInt < (fS A f t).toInt := fun q => h (Int32.lt_iff_toInt_lt.mpr q)
  have h3 : (0 : Int32).toInt = 0 := by decide
  exact Int32.toInt_inj.mp (by omega)
theorem ne_of_pos {x : Int32} (h : 0 < x) : ¬ x = 0 := fun z => by rw [z] at h; exact absurd h (by decide)
/-- TIMES in step -/
theorem step_fin : ∀ t : Fin 8, ∀ o : Fin 8, ∀ p : Fin 9, 0 < p.val → ((nI t.val - nI o.val) - (nI t.val - nI o.val) / nI p.val * nI p.val = 0 ↔ t.val % p.val = o.val % p.val) := by decide +kernel
theorem step_eq {t o p : Nat} (ht : t < 8) (ho : o < 8) (hp : p < 9) (h : 0 < p) : ((nI t - nI o) - (nI t - nI o) / nI p * nI p = 0 ↔ t % p = o % p) := step_fin ⟨t, ht⟩ ⟨o, ho⟩ ⟨p, hp⟩ h
/-- how many stand ahead of TIME t -/
def fra (A : St) (p f t : Nat) (o : Nat) : Bool := decide (t % p = o % p ∧ (sB A (f * 8 + o) < sB A (f * 8 + t) ∨ (sB A (f * 8 + o) = sB A (f * 8 + t) ∧ o < t)))
def frk (A : St) (p f t : Nat) : Nat := cnt (fra A p f t) (sT A)
def fis (p t : Nat) (o : Nat) : Bool := decide (t % p = o % p)
def fmi (A : St) (p t : Nat) : Nat := (cnt (fis p t) (sT A) - 1) / 2
def fbL (c : Nat → Bool) (g : Nat → Int32) (z : Int32) : Nat → Nat → Int32
  | 0, _ => z
  | n + 1, o => if c o then g o else fbL c g z n (o + 1)
def fbc (A : St) (p f t : Nat) (o : Nat) : Bool := decide (t % p = o % p ∧ frk A p f o = fmi A p t)
/-- THE BACKGROUND -/
def fbg (A : St) (p f t : Nat) : Int32 := fbL (fbc A p f t) (fun o => sB A (f * 8 + o)) (sB A (f * 8 + t)) (sT A) 0
def fpr (A : St) (p : Nat) : Int32 := acc2 (nI (p * sF A)) (fun f t => fab (sB A (f * 8 + t) - fbg A p f t)) (sT A) (sF A)
/-- the best of 1 .. n + 1 -/
def fbp (pr : Nat → Int32) : Nat → Nat
  | 0 => 1
  | n + 1 => if pr (n + 2) < pr (fbp pr n) then n + 2 else fbp pr n
theorem fbp_in (pr : Nat → Int32) : ∀ n, 1 ≤ fbp pr n ∧ fbp pr n ≤ n + 1
  | 0 => ⟨Nat.le_refl 1, Nat.le_refl 1⟩
  | n + 1 => by
    have ih := fbp_in pr n
    simp only [fbp]
    split <;> omega
def fpe (A : St) : Nat := fbp (fpr A) (sT A - 1)
/-- ROW 0 filled up with 0 -/
def ffr (A : St) (i : Nat) : Int32 := if i < sZ A 0 then sR A i else 0
def fpt (A : St) (d : Int32) (i : Nat) : Int32 := if iN (nI i + d) (sZ A 1) then sR A i * sR A (8 + (nI i + d).toNatClampNeg) else 0
def fpd (A : St) (d : Int32) : Int32 := l_sum (fpt A d) (sZ A 0)
def pc3 (n : Nat) : Nat := n % 2 + n / 2 % 2 + n / 4 % 2
def fsg (k i : Nat) : Int32 := if pc3 (k &&& i) % 2 = 0 then 1 else -1
def ftu (A : St) (k : Nat) : Int32 := l_sum (fun i => fsg k i * ffr A i) 8
def fba (A : St) (k : Nat) : Int32 := l_sum (fun i => fsg k i * ftu A i) 8 / 8
def fno (K : Nat) : Nat := if K = 1 then 1 else if K = 2 then 2 else 6
def fvo (K o k : Nat) : Nat := if K = 1 then 0 else if K = 2 then (o + k) % 2 else [0, 1, 2, 0, 2, 1, 1, 0, 2, 1, 2, 0, 2, 0, 1, 2, 1, 0].getD (o * 3 + k) 0
def fav (A : St) (k v : Nat) : Int32 := acc2 0 (fun f t => fab (fsh A k f t - sE A (v * 48 + (f * 8 + t)))) (sT A) (sF A)
def fap (A : St) (o : Nat) : Int32 := l_sum (fun k => fav A k (fvo (sK A) o k)) (sK A)
/-- the least of 0 .. n, the least by ap -/
def fle (ap : Nat → Int32) : Nat → Nat
  | 0 => 0
  | n + 1 => if ap (n + 1) < ap (fle ap n) then n + 1 else fle ap n
theorem iN_of {x : Int32} {n : Nat} (h : iN x n) (h1 : 1 ≤ n) (hn : n < 2 ^ 31) : ∃ j : Nat, j < n ∧ x = nI j := by
  obtain ⟨ha, hb⟩ := h
  have h2 : ¬ x < 0 := Int32.not_lt.mpr ha
  obtain ⟨j, hj, e⟩ := nI_of2 (M := nI (n - 1)) (n := n - 1) (nI_toInt (by omega)) h2 hb
  exact ⟨j, by omega, e⟩
theorem iN_nI {j n : Nat} (h : j < n) (hn : n < 2 ^ 31) : iN (nI j) n := ⟨(nI_leI (by decide) (by omega)).mpr (Nat.zero_le j), (nI_leI (by omega) (by omega)).mpr (by omega)⟩
def qi (o i : Nat) : Nat := if o = 0 then i else 6 + i
theorem qi_lt {A : St} (hI : Inv A) {o i : Nat} (ho : o < 2) (h : i < if nI o = 0 then sF A else sT A) : qi o i < 14 := by
  have hF := hI.F
  have hT := hI.T
  unfold qi
  rcases (show o = 0 ∨ o = 1 by omega) with rfl | rfl
  · have h : i < sF A := h
    rw [if_pos rfl]; omega
  · have h : i < sT A := h
    rw [if_neg (by decide)]; omega
theorem fno_in (K : Nat) : 1 ≤ fno K ∧ fno K ≤ 6 := by
  unfold fno
  split
  · omega
  · split <;> omega
