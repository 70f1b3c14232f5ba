/-! the answers of the calls that only read -/
def cl (x : Int32) : Nat := x.toNatClampNeg
theorem cl_nI {n : Nat} (h : n < 2 ^ 31) : cl (nI n) = n := nI_clamp h
def fAt (A : St) (f t w : Nat) : Int32 := if w = 0 then sB A (f * 8 + t) else if w = 1 then fS A f t else fbg A (fpe A) f t
def aAt (A : St) (x y w : Int32) : Int32 := if (iN x (sF A) ∧ iN y (sT A)) ∧ iN w 3 then fAt A (cl x) (cl y) (cl w) else -1
abbrev pNu (A : St) (x o y : Int32) : Prop := iN x (sK A) ∧ (nI 0 ≤ o ∧ o ≤ nI 1) ∧ iN y (if o = 0 then sF A else sT A)
def aNu (A : St) (x o y : Int32) : Int32 := if pNu A x o y then sV A (cl x) (qi (cl o) (cl y)) else -1
def aSh (A : St) (x y z : Int32) : Int32 := if iN x (sK A) ∧ (iN y (sF A) ∧ iN z (sT A)) then fsh A (cl x) (cl y) (cl z) else -1
def aBg (A : St) (q x y : Int32) : Int32 := if (nI 1 ≤ q ∧ q ≤ nI (sT A)) ∧ (iN x (sF A) ∧ iN y (sT A)) then fbg A (cl q) (cl x) (cl y) else -1
/-- -7 .. 7 -/
def dI (i : Nat) : Int32 := nI i - nI 7
def flb (A : St) : Nat → Nat
  | 0 => 0
  | i + 1 => if fpd A (dI (flb A i)) < fpd A (dI (i + 1)) ∨ (fpd A (dI (i + 1)) = fpd A (dI (flb A i)) ∧ fab (dI (i + 1)) < fab (dI (flb A i))) then i + 1 else flb A i
def aLa (A : St) : Int32 := if sZ A 0 = 0 ∨ sZ A 1 = 0 then -9 else dI (flb A 14)
def aTu (A : St) (k w : Int32) : Int32 := if iN k 8 ∧ iN w 2 then (if cl w = 0 then ftu A (cl k) else fba A (cl k)) else -1000000
def aAp (A : St) (o : Int32) : Int32 := if iN o (fno (sK A)) then fap A (cl o) else -1
def aOr (A : St) : Int32 := nI (fle (fap A) (fno (sK A) - 1))
def fCo (A : St) (w : Nat) : Int32 := if w = 0 then nI (sF A) else if w = 1 then nI (sT A) else if w = 2 then nI (sK A) else if w = 3 then nI (sJ A) else if w = 4 then nI (cnt (cb (sX A)) 42) else if w = 5 then nI (sZ A 0) else if w = 6 then nI (sZ A 1) else sN A
def aCo (A : St) (w : Int32) : Int32 := if iN w 8 then fCo A (cl w) else -1
theorem dI_s (i : Nat) : dI i + Int32.ofInt 1 = dI (i + 1) := by
  unfold dI
  rw [nI_succ i, show Int32.ofInt 1 = (1 : Int32) from rfl]
  generalize nI 7 = z
  generalize nI i = y
  grind
theorem dI_le {i : Nat} (h : i ≤ 14) : ¬ nI 7 < dI i := (show ∀ i : Fin 15, ¬ nI 7 < dI i.val by decide +kernel) ⟨i, by omega⟩
theorem iN_out {w : Int32} {n : Nat} (h : ¬ iN w n) (h1 : 1 ≤ n) (hn : n < 2 ^ 31) : w.toInt < 0 ∨ (n : Int) - 1 < w.toInt := by
  rcases Int.lt_or_le w.toInt 0 with q | q
  · exact Or.inl q
  · refine Or.inr ?_
    rcases Int.lt_or_le ((n : Int) - 1) w.toInt with z | z
    · exact z
    · refine absurd ⟨Int32.le_iff_toInt_le.mpr ?_, Int32.le_iff_toInt_le.mpr ?_⟩ h
      · rw [nI_toInt (by omega)]; omega
      · rw [nI_toInt (by omega)]; omega
theorem of01 {o : Int32} (h : nI 0 ≤ o ∧ o ≤ nI 1) : o = nI 0 ∨ o = nI 1 := by
  obtain ⟨j, hj, e⟩ := iN_of (n := 2) h (by decide) (by decide)
  rcases (show j = 0 ∨ j = 1 by omega) with rfl | rfl
  · exact Or.inl e
  · exact Or.inr e
theorem q1_of {q : Int32} {n : Nat} (h : nI 1 ≤ q ∧ q ≤ nI n) (hn : n < 2 ^ 31 - 1) : ∃ j : Nat, (1 ≤ j ∧ j ≤ n) ∧ q = nI j := by
  have h0 : nI 0 ≤ q := Int32.le_trans (by decide) h.1
  obtain ⟨j, hj, e⟩ := iN_of (n := n + 1) ⟨h0, h.2⟩ (by omega) (by omega)
  subst e
  have h1 := (nI_leI (a := 1) (by decide) (by omega)).mp h.1
  exact ⟨j, ⟨h1, by omega⟩, rfl⟩
