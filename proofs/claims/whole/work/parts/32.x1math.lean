/-! what the reference works out in its own way -/
def mls (A : St) (b : Int32) (n : Nat) : Int32 := if fpd A b < fpd A (-(nI n)) then -(nI n) else b
def mlt (A : St) (b : Int32) (n : Nat) : Int32 := if fpd A b < fpd A (nI n) then nI n else b
def mlb (A : St) : Nat → Int32
  | 0 => nI 0
  | n + 1 => mlt A (mls A (mlb A n) (n + 1)) (n + 1)
def aLm (A : St) : Int32 := if sZ A 0 = 0 ∨ sZ A 1 = 0 then -9 else mlb A 7
def mtt (A : St) (k i : Nat) : Int32 := if pc3 (k &&& i) % 2 = 1 then -(ffr A i) else ffr A i
def mtu (A : St) (k : Nat) : Int32 := l_sum (mtt A k) 8
def aTm (A : St) (k w : Int32) : Int32 := if iN k 8 ∧ iN w 2 then (if cl w = 0 then mtu A (cl k) else ffr A (cl k)) else -1000000
def acc3 (z : Int32) (g : Nat → Nat → Nat → Int32) (F T : Nat) : Nat → Int32
  | 0 => z
  | k + 1 => acc2 (acc3 z g F T k) (g k) T F
theorem acc3_eq (z : Int32) (g : Nat → Nat → Nat → Int32) (F T : Nat) : ∀ n, acc3 z g F T n = z + l_sum (fun k => l_sum (fun f => l_sum (g k f) T) F) n
  | 0 => (Int32.add_zero z).symm
  | n + 1 => by rw [acc3, acc2_eq, acc3_eq z g F T n, l_sum_s, Int32.add_assoc]
theorem fap_eq (A : St) (o : Nat) : acc3 0 (fun k f t => fab (fsh A k f t - sE A (fvo (sK A) o k * 48 + (f * 8 + t)))) (sF A) (sT A) (sK A) = fap A o := by
  rw [acc3_eq, Int32.zero_add]
  unfold fap fav
  apply l_sum_cong
  intro k _
  rw [acc2_eq, Int32.zero_add]
theorem fle_le (ap : Nat → Int32) : ∀ n, fle ap n ≤ n
  | 0 => Nat.le_refl 0
  | n + 1 => by
    have ih := fle_le ap n
    simp only [fle]
    split <;> omega
