def uF (A : St) (x : Nat) : St := mkS x (sT A) (sK A) (sB A) (sV A) (sX A) (sE A) (sR A) (sZ A) (sJ A) (sN A) (sC A)
def uT (A : St) (x : Nat) : St := mkS (sF A) x (sK A) (sB A) (sV A) (sX A) (sE A) (sR A) (sZ A) (sJ A) (sN A) (sC A)
def uK (A : St) (x : Nat) : St := mkS (sF A) (sT A) x (sB A) (sV A) (sX A) (sE A) (sR A) (sZ A) (sJ A) (sN A) (sC A)
theorem lcz {P : Prop} [Decidable P] : lg_cmp (if P then 1 else 0) 0 = if P then (1 : Int32) else 0 := by
  by_cases h : P
  · rw [if_pos h, if_pos h]; decide
  · rw [if_neg h, if_neg h]; decide
def tkn (J : Nat) : Nat := if J = 0 then 1 else if J = 1 then 11 else 111
theorem tk_eq {J : Nat} (h : J ≤ 2) : (nI (tkn J)).toInt64 = tk J := by
  rcases (show J = 0 ∨ J = 1 ∨ J = 2 by omega) with rfl | rfl | rfl <;> decide
theorem cell_cong {cA : ClassId} {n : Nat} {f g : Nat → Int32} (h : ∀ j, j < n → f j = g j) : vp_cell cA (n, .inl f) = vp_cell cA (n, .inl g) := by
  rw [vp_cell_i, vp_cell_i]
  unfold arrV
  congr 1
  apply congrArg
  funext j
  show Value.int (f j.val) = Value.int (g j.val)
  rw [h j.val j.isLt]
/-- a row that is filled up to i -/
def fw (a : Nat) (cI : ClassId) (n : Nat) (f : Nat → Int32) (x : Int32) (i : Nat) : va_W := [(a, .inl (cI, n, .inl (fun j => if j < i then x else f j)))]
theorem fw_s {f : Nat → Int32} {x : Int32} {i : Nat} : upd (fun j => if j < i then x else f j) i x = fun j => if j < i + 1 then x else f j := by
  funext j
  unfold upd
  by_cases q : j = i
  · subst q; rw [if_pos rfl, if_pos (Nat.lt_succ_self j)]
  · by_cases z : j < i
    · rw [if_neg q]
      show (if j < i then x else f j) = _
      rw [if_pos z, if_pos (by omega)]
    · rw [if_neg q]
      show (if j < i then x else f j) = _
      rw [if_neg z, if_neg (by omega)]
theorem fw_0 {D : va_G} {a : Nat} {cI : ClassId} {n : Nat} {f : Nat → Int32} {x : Int32} {H : Heap} (h : va_P D vwCl [(a, .inl (cI, n, .inl f))] H) : va_P D vwCl (fw a cI n f x 0) H := by
  have e : (fun j => if j < 0 then x else f j) = f := by funext j; rw [if_neg (Nat.not_lt_zero j)]
  unfold fw
  rw [e]; exact h
theorem fw_n {D : va_G} {a : Nat} {cI : ClassId} {n : Nat} {f : Nat → Int32} {x : Int32} {H : Heap} (h : va_P D vwCl (fw a cI n f x n) H) : va_P D vwCl [(a, .inl (cI, n, .inl (fun _ => x)))] H := by
  intro k q hk
  match k, hk with
  | 0, hk =>
    cases hk
    have h1 := h 0 _ rfl
    have h1 : H[a]? = some (vp_cell cI (n, .inl (fun j => if j < n then x else f j))) := h1
    show H[a]? = some (vp_cell cI (n, .inl (fun _ => x)))
    rw [h1, cell_cong (g := fun _ => x) (fun j hj => if_pos hj)]
  | k + 1, hk => cases hk
theorem Inv.uV {A : St} (h : Inv A) {k i : Nat} {x : Int32} (hx : 0 ≤ x.toInt ∧ x.toInt ≤ 20) : Inv (uV A (upV (sV A) k i x)) := by
  refine ⟨h.F, h.T, h.K, h.J, h.Z, h.B, fun a b => ?_, h.X, h.R, h.E⟩
  show 0 ≤ (upV (sV A) k i x a b).toInt ∧ (upV (sV A) k i x a b).toInt ≤ 20
  unfold upV
  split
  · exact hx
  · exact h.V a b
theorem nI_20 {a : Nat} (h : a ≤ 20) : 0 ≤ (nI a).toInt ∧ (nI a).toInt ≤ 20 := by rw [nI_toInt (by omega)]; omega
theorem Inv.try {A : St} (h : Inv A) {k i a : Nat} (ha : a ≤ 20) : Inv (tryV A k i a) := h.uV (nI_20 ha)
theorem V_nI {A : St} (h : Inv A) (k i : Nat) : ∃ a : Nat, a ≤ 20 ∧ sV A k i = nI a := by
  have h1 := h.V k i
  refine ⟨(sV A k i).toInt.toNat, by omega, ?_⟩
  apply Int32.toInt_inj.mp
  rw [nI_toInt (by omega)]
  omega
theorem in20 {x : Int32} (h : p20 x) : 0 ≤ x.toInt ∧ x.toInt ≤ 20 := by
  have h1 := Int32.le_iff_toInt_le.mp h.1
  have h2 := Int32.le_iff_toInt_le.mp h.2
  rw [nI_toInt (by decide)] at h1 h2
  exact ⟨h1, h2⟩
theorem st_a : ∀ a, a < 21 → ¬ nI (a + 1) < nI a - nI 1 := by decide +kernel
theorem st_b : ∀ a, a < 21 → (nI 0 ≤ nI a - nI 1 ∧ nI a - nI 1 ≤ nI 20 ↔ 1 ≤ a) := by decide +kernel
theorem st_c : ∀ a, a < 21 → (nI 0 ≤ nI (a + 1) ∧ nI (a + 1) ≤ nI 20 ↔ a + 1 ≤ 20) := by decide +kernel
theorem st_d (a : Nat) : nI a - nI 1 + Int32.ofInt 2 = nI (a + 1) := by
  rw [← nI_1 a, show Int32.ofInt 2 = (2 : Int32) from rfl, show nI 1 = (1 : Int32) from rfl]
  generalize nI a = y
  grind
theorem st_e {a : Nat} (h : 1 ≤ a) : nI (a - 1) + Int32.ofInt 2 = nI (a + 1) := by
  rw [← pk_sub h]; exact st_d a
theorem try_try (A : St) (k q x y : Nat) : uV (tryV A k q x) (upV (sV (tryV A k q x)) k q (nI y)) = tryV A k q y := by
  show uV (uV A (upV (sV A) k q (nI x))) (upV (upV (sV A) k q (nI x)) k q (nI y)) = uV A (upV (sV A) k q (nI y))
  rw [upV_upV]
  rfl
theorem try_self {A : St} {k q a : Nat} (h : sV A k q = nI a) : tryV A k q a = A := by
  unfold tryV
  rw [upV_self h]
  rfl
