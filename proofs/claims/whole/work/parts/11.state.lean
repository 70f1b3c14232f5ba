/-! what a state IS: one value for both sides; the class's cells and the reference's cells are read off it -/
abbrev St : Type := Nat × Nat × Nat × (Nat → Int32) × (Nat → Nat → Int32) × (Nat → Nat → Bool) × (Nat → Int32) × (Nat → Int32) × (Nat → Nat) × Nat × Int32 × Int64
def sF (A : St) : Nat := A.1
def sT (A : St) : Nat := A.2.1
def sK (A : St) : Nat := A.2.2.1
def sB (A : St) : Nat → Int32 := A.2.2.2.1
def sV (A : St) : Nat → Nat → Int32 := A.2.2.2.2.1
def sX (A : St) : Nat → Nat → Bool := A.2.2.2.2.2.1
def sE (A : St) : Nat → Int32 := A.2.2.2.2.2.2.1
def sR (A : St) : Nat → Int32 := A.2.2.2.2.2.2.2.1
def sZ (A : St) : Nat → Nat := A.2.2.2.2.2.2.2.2.1
def sJ (A : St) : Nat := A.2.2.2.2.2.2.2.2.2.1
def sN (A : St) : Int32 := A.2.2.2.2.2.2.2.2.2.2.1
def sC (A : St) : Int64 := A.2.2.2.2.2.2.2.2.2.2.2
def mkS (F T K : Nat) (B : Nat → Int32) (V : Nat → Nat → Int32) (X : Nat → Nat → Bool) (E R : Nat → Int32) (Z : Nat → Nat) (J : Nat) (N : Int32) (C : Int64) : St := (F, T, K, B, V, X, E, R, Z, J, N, C)
def uB (A : St) (x : Nat → Int32) : St := mkS (sF A) (sT A) (sK A) x (sV A) (sX A) (sE A) (sR A) (sZ A) (sJ A) (sN A) (sC A)
def uV (A : St) (x : Nat → Nat → Int32) : St := mkS (sF A) (sT A) (sK A) (sB A) x (sX A) (sE A) (sR A) (sZ A) (sJ A) (sN A) (sC A)
def uX (A : St) (x : Nat → Nat → Bool) : St := mkS (sF A) (sT A) (sK A) (sB A) (sV A) x (sE A) (sR A) (sZ A) (sJ A) (sN A) (sC A)
def uE (A : St) (x : Nat → Int32) : St := mkS (sF A) (sT A) (sK A) (sB A) (sV A) (sX A) x (sR A) (sZ A) (sJ A) (sN A) (sC A)
def uR (A : St) (x : Nat → Int32) : St := mkS (sF A) (sT A) (sK A) (sB A) (sV A) (sX A) (sE A) x (sZ A) (sJ A) (sN A) (sC A)
def uZ (A : St) (x : Nat → Nat) : St := mkS (sF A) (sT A) (sK A) (sB A) (sV A) (sX A) (sE A) (sR A) x (sJ A) (sN A) (sC A)
def uJ (A : St) (x : Nat) : St := mkS (sF A) (sT A) (sK A) (sB A) (sV A) (sX A) (sE A) (sR A) (sZ A) x (sN A) (sC A)
def uN (A : St) (x : Int32) : St := mkS (sF A) (sT A) (sK A) (sB A) (sV A) (sX A) (sE A) (sR A) (sZ A) (sJ A) x (sC A)
def uC (A : St) (x : Int64) : St := mkS (sF A) (sT A) (sK A) (sB A) (sV A) (sX A) (sE A) (sR A) (sZ A) (sJ A) (sN A) x
/-- the bits of what is barred -/
def bsum (X : Nat → Nat → Bool) : Nat → Nat
  | 0 => 0
  | n + 1 => bsum X n + (if X (n / 14) (n % 14) then 2 ^ n else 0)
def bbOf (X : Nat → Nat → Bool) : Int64 := lN (bsum X 42)
/-- the class's cells -/
def xw (h : Nat → Nat) (cI : ClassId) (A : St) : va_W :=
  [(h 0, .inr (0, [.int (nI (sF A)), .int (nI (sT A)), .int (nI (sK A)), .ref (h 1), .ref (h 2), .long (bbOf (sX A)), .ref (h 3), .ref (h 4), .ref (h 5), .int (nI (sJ A)), .int (sN A), .long (sC A)])),
   (h 1, .inl (cI, 48, .inl (sB A))), (h 2, .inl (cI, 42, .inl (fun j => sV A (j / 14) (j % 14)))), (h 3, .inl (cI, 144, .inl (sE A))), (h 4, .inl (cI, 16, .inl (sR A))), (h 5, .inl (cI, 2, .inl (fun j => nI (sZ A j))))]
/-- the reference's cells -/
def mw (h : Nat → Nat) (cI cZ : ClassId) (A : St) (M : Nat → Int32) : va_W :=
  [(h 0, .inr (1, [.int (nI (sF A)), .int (nI (sT A)), .int (nI (sK A)), .ref (h 1), .ref (h 2), .ref (h 3), .ref (h 4), .int (nI (sJ A)), .int (sN A), .ref (h 5), .ref (h 6), .long (sC A), .ref (h 7)])),
   (h 1, .inl (cI, 48, .inl (sB A))), (h 2, .inl (cI, 48, .inl (fun j => sV A (j / 16) (j % 16)))), (h 3, .inl (cZ, 48, .inl (fun j => if sX A (j / 16) (j % 16) then 1 else 0))), (h 4, .inl (cI, 144, .inl (sE A))), (h 5, .inl (cI, 2, .inl (fun j => nI (sZ A j)))), (h 6, .inl (cI, 16, .inl (sR A))), (h 7, .inl (cI, 8, .inl M))]
/-- what every state that a run of calls reaches keeps -/
def Inv (A : St) : Prop := (1 ≤ sF A ∧ sF A ≤ 6) ∧ (1 ≤ sT A ∧ sT A ≤ 8) ∧ (1 ≤ sK A ∧ sK A ≤ 3) ∧ sJ A ≤ 2 ∧ (sZ A 0 ≤ 8 ∧ sZ A 1 ≤ 8) ∧ (∀ j, 0 ≤ (sB A j).toInt ∧ (sB A j).toInt ≤ 99) ∧ (∀ k i, 0 ≤ (sV A k i).toInt ∧ (sV A k i).toInt ≤ 20) ∧ (∀ k i, 14 ≤ i → sX A k i = false) ∧ (∀ j, -1000 ≤ (sR A j).toInt ∧ (sR A j).toInt ≤ 1000) ∧ (∀ j, 0 ≤ (sE A j).toInt ∧ (sE A j).toInt ≤ 99)
theorem Inv.F {A : St} (h : Inv A) : 1 ≤ sF A ∧ sF A ≤ 6 := h.1
theorem Inv.T {A : St} (h : Inv A) : 1 ≤ sT A ∧ sT A ≤ 8 := h.2.1
theorem Inv.K {A : St} (h : Inv A) : 1 ≤ sK A ∧ sK A ≤ 3 := h.2.2.1
theorem Inv.J {A : St} (h : Inv A) : sJ A ≤ 2 := h.2.2.2.1
theorem Inv.Z {A : St} (h : Inv A) : sZ A 0 ≤ 8 ∧ sZ A 1 ≤ 8 := h.2.2.2.2.1
theorem Inv.B {A : St} (h : Inv A) : ∀ j, 0 ≤ (sB A j).toInt ∧ (sB A j).toInt ≤ 99 := h.2.2.2.2.2.1
theorem Inv.V {A : St} (h : Inv A) : ∀ k i, 0 ≤ (sV A k i).toInt ∧ (sV A k i).toInt ≤ 20 := h.2.2.2.2.2.2.1
theorem Inv.X {A : St} (h : Inv A) : ∀ k i, 14 ≤ i → sX A k i = false := h.2.2.2.2.2.2.2.1
theorem Inv.R {A : St} (h : Inv A) : ∀ j, -1000 ≤ (sR A j).toInt ∧ (sR A j).toInt ≤ 1000 := h.2.2.2.2.2.2.2.2.1
theorem Inv.E {A : St} (h : Inv A) : ∀ j, 0 ≤ (sE A j).toInt ∧ (sE A j).toInt ≤ 99 := h.2.2.2.2.2.2.2.2.2
/-! the numbers that both sides work out -/
abbrev iN (x : Int32) (n : Nat) : Prop := nI 0 ≤ x ∧ x ≤ nI (n - 1)
def fab (x : Int32) : Int32 := if 0 ≤ x then x else 0 - x
def fco (J : Nat) (d : Int32) : Int32 := if J = 0 then d else if J = 1 ∨ d * d ≤ 100 then d * d else 90 + d * d / 10
def fS (A : St) (f t : Nat) : Int32 := l_sum (fun k => sV A k f * sV A k (6 + t)) (sK A)
def fc (A : St) (f t : Nat) : Int32 := fco (sJ A) (fab (sB A (f * 8 + t) - fS A f t))
/-- MISS along a TONE (o = 0), a TIME (else) -/
def fal (A : St) (o i : Nat) : Int32 := if o = 0 then l_sum (fun t => fc A i t) (sT A) else l_sum (fun f => fc A f i) (sF A)
def fm (A : St) : Int32 := l_sum (fun f => l_sum (fun t => fc A f t) (sT A)) (sF A)
theorem l_sum_s (b : Nat → Int32) (n : Nat) : l_sum b (n + 1) = l_sum b n + b n := rfl
theorem l_sum_0 (b : Nat → Int32) : l_sum b 0 = 0 := rfl
theorem dv14 {k i : Nat} (h : i < 14) : (k * 14 + i) / 14 = k ∧ (k * 14 + i) % 14 = i := by omega
theorem dv16 {k i : Nat} (h : i < 16) : (k * 16 + i) / 16 = k ∧ (k * 16 + i) % 16 = i := by omega
theorem xVat {f : Nat → Nat → Int32} {k i j : Nat} (h : i < 14) (hj : j = k * 14 + i) : (fun j => f (j / 14) (j % 14)) j = f k i := by
  subst hj
  show f ((k * 14 + i) / 14) ((k * 14 + i) % 14) = f k i
  rw [(dv14 h).1, (dv14 h).2]
theorem mVat {f : Nat → Nat → Int32} {k i j : Nat} (h : i < 16) (hj : j = k * 16 + i) : (fun j => f (j / 16) (j % 16)) j = f k i := by
  subst hj
  show f ((k * 16 + i) / 16) ((k * 16 + i) % 16) = f k i
  rw [(dv16 h).1, (dv16 h).2]
