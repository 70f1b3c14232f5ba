/-! bits of small numbers; the tables of orders -/
theorem nI_and8 {a b : Nat} (ha : a < 8) (hb : b < 8) : nI a &&& nI b = nI (a &&& b) := (show ∀ a b : Fin 8, nI a.val &&& nI b.val = nI (a.val &&& b.val) by decide +kernel) ⟨a, ha⟩ ⟨b, hb⟩
theorem and8 {a b : Nat} (ha : a < 8) : a &&& b < 8 := Nat.lt_of_le_of_lt Nat.and_le_left ha
def g1 (n : Nat) : Nat := [0, 1, 1, 2, 4, 5, 5, 6].getD n 0
theorem fvo_lt {K o k : Nat} (hK : 1 ≤ K ∧ K ≤ 3) : fvo K o k < 3 := by
  unfold fvo
  split
  · decide
  · split
    · omega
    · have h : ∀ n, [0, 1, 2, 0, 2, 1, 1, 0, 2, 1, 2, 0, 2, 0, 1, 2, 1, 0].getD n 0 < 3 := by
        intro n
        by_cases q : n < 18
        · exact (show ∀ n : Fin 18, [0, 1, 2, 0, 2, 1, 1, 0, 2, 1, 2, 0, 2, 0, 1, 2, 1, 0].getD n.val 0 < 3 by decide +kernel) ⟨n, q⟩
        · rw [List.getD_eq_getElem?_getD, List.getElem?_eq_none (by simpa using q)]
          decide
      exact h _
def tb2 (n : Nat) : Nat := [0, 1, 1, 0].getD n 0
def tb3 (n : Nat) : Nat := [0, 1, 2, 0, 2, 1, 1, 0, 2, 1, 2, 0, 2, 0, 1, 2, 1, 0].getD n 0
theorem tb2_eq {o k : Nat} (ho : o < 2) (hk : k < 2) : tb2 (o * 2 + k) = (o + k) % 2 := (show ∀ o k : Fin 2, tb2 (o.val * 2 + k.val) = (o.val + k.val) % 2 by decide +kernel) ⟨o, ho⟩ ⟨k, hk⟩
/-- the tables of orders stand at t 1, t 2, t 3 -/
def xST (t : Nat → Nat) (G : Nat → Prop) (U : State) (H : Heap) : Prop :=
  (va_Z "VoiceParts" "ORDERS_OF_ONE" "[I" (.ref (t 1)) G U H ∧ va_T .int (t 1) 1 (fun _ => .int (nI 0)) G U H) ∧ (va_Z "VoiceParts" "ORDERS_OF_TWO" "[I" (.ref (t 2)) G U H ∧ va_T .int (t 2) 4 (fun j => .int (nI (tb2 j))) G U H) ∧ (va_Z "VoiceParts" "ORDERS_OF_THREE" "[I" (.ref (t 3)) G U H ∧ va_T .int (t 3) 18 (fun j => .int (nI (tb3 j))) G U H)
theorem xST.moved {t : Nat → Nat} {G : Nat → Prop} {u U : State} {H : Heap} (hvm : u.vm.Alike U.vm) (h : xST t G u H) : xST t G U H := ⟨⟨h.1.1.moved hvm, h.1.2.moved hvm⟩, ⟨h.2.1.1.moved hvm, h.2.1.2.moved hvm⟩, ⟨h.2.2.1.moved hvm, h.2.2.2.moved hvm⟩⟩
theorem xST.kept {t : Nat → Nat} {G : Nat → Prop} {U : State} {H H1 : Heap} (h : xST t G U H) (hq : ∀ a : Nat, a < H.size → ¬ G a → H1[a]? = H[a]?) : xST t G U H1 := ⟨⟨h.1.1.kept hq, h.1.2.kept hq⟩, ⟨h.2.1.1.kept hq, h.2.1.2.kept hq⟩, ⟨h.2.2.1.kept hq, h.2.2.2.kept hq⟩⟩
theorem xST.narrow {t : Nat → Nat} {G G2 : Nat → Prop} {U : State} {H : Heap} (h : xST t G U H) (hq : ∀ a, G2 a → G a) : xST t G2 U H := ⟨⟨h.1.1.narrow hq, h.1.2.narrow hq⟩, ⟨h.2.1.1.narrow hq, h.2.1.2.narrow hq⟩, ⟨h.2.2.1.narrow hq, h.2.2.2.narrow hq⟩⟩
def vB2 (D : va_G) (ws : va_W) (tys : List (ClassId × FieldType)) (t : Nat → Nat) (U : State) : Prop := vB D ws tys U ∧ xST t (fun _ => False) U U.heap
theorem vB2_bl {D : va_G} {ws : va_W} {tys : List (ClassId × FieldType)} {t : Nat → Nat} : ∀ (a : Array Value) (U : State) (g : JFrame) (mk : MethodId), vB2 D ws tys t U → vB2 D ws tys t (U.calling g mk a) := fun a U g mk q => ⟨vB_bl a U g mk q.1, xST.moved (u := U) (U := U.calling g mk a) (Vm.Alike.refl U.vm) q.2⟩
theorem vB2_at {D : va_G} {ws : va_W} {tys : List (ClassId × FieldType)} {t : Nat → Nat} {s : State} {H : Heap} (hP : va_P D vwCl ws H) (hK : va_K D vwCl tys s) (hT : xST t (fun _ => False) s H) : ∀ U : State, U.heap = H → s.WarmedH U.vm → vB2 D ws tys t U := fun U hU hW => ⟨vB_at hP hK U hU hW, by rw [hU]; exact hT.moved hW.alike⟩
