/-! rounds -/
theorem qi_lt2 {o i : Nat} (ho : o < 2) (h : i < if o = 0 then 6 else 8) : qi o i < 14 := by
  unfold qi
  rcases (show o = 0 ∨ o = 1 by omega) with rfl | rfl
  · have h : i < 6 := h
    rw [if_pos rfl]; omega
  · have h : i < 8 := h
    rw [if_neg (by decide)]; omega
theorem bst_in (ms : Nat → Int32) {a : Nat} (h : a ≤ 20) : bst ms a ≤ 20 := by
  unfold bst
  repeat' split
  all_goals omega
theorem bst_0 {ms : Nat → Int32} {a b : Nat} (h1 : (if 1 ≤ a ∧ ms (a - 1) < ms a then a - 1 else a) = b) (h2 : ¬ (a + 1 ≤ 20 ∧ ms (a + 1) < ms b)) : bst ms a = b := by
  unfold bst
  rw [h1, if_neg h2]
theorem bst_1 {ms : Nat → Int32} {a b : Nat} (h1 : (if 1 ≤ a ∧ ms (a - 1) < ms a then a - 1 else a) = b) (h2 : a + 1 ≤ 20 ∧ ms (a + 1) < ms b) : bst ms a = a + 1 := by
  unfold bst
  rw [h1, if_pos h2]
theorem cst_eq {A : St} {k o i a b : Nat} (hX : ¬ sX A k (qi o i) = true) (ea : sV A k (qi o i) = nI a) (ha : a ≤ 20) (hb : bst (fun x => fal (tryV A k (qi o i) x) o i) a = b) : cst A k o i = tryV A k (qi o i) b := by
  unfold cst
  rw [if_neg hX, ea, cl_nI (by omega), hb]
theorem mst_eq {A : St} {k o i a b : Nat} (hX : ¬ sX A k (qi o i) = true) (ea : sV A k (qi o i) = nI a) (ha : a ≤ 20) (hb : bst (fun x => fm (tryV A k (qi o i) x)) a = b) : mst A k o i = tryV A k (qi o i) b := by
  unfold mst
  rw [if_neg hX, ea, cl_nI (by omega), hb]
/-- a step keeps the sizes, what is barred, and Inv -/
def Kp (st : St → Nat → Nat → Nat → St) : Prop := ∀ A k o i, (sF (st A k o i) = sF A ∧ sT (st A k o i) = sT A ∧ sK (st A k o i) = sK A ∧ sN (st A k o i) = sN A) ∧ (Inv A → Inv (st A k o i))
theorem Kp_cst : Kp cst := by
  intro A k o i
  unfold cst
  split
  · exact ⟨⟨rfl, rfl, rfl, rfl⟩, id⟩
  · refine ⟨⟨rfl, rfl, rfl, rfl⟩, fun h => ?_⟩
    obtain ⟨a, ha, ea⟩ := V_nI h k (qi o i)
    rw [ea, cl_nI (by omega)]
    exact h.try (bst_in _ ha)
theorem Kp_mst : Kp mst := by
  intro A k o i
  unfold mst
  split
  · exact ⟨⟨rfl, rfl, rfl, rfl⟩, id⟩
  · refine ⟨⟨rfl, rfl, rfl, rfl⟩, fun h => ?_⟩
    obtain ⟨a, ha, ea⟩ := V_nI h k (qi o i)
    rw [ea, cl_nI (by omega)]
    exact h.try (bst_in _ ha)
theorem kp_I {st : St → Nat → Nat → Nat → St} (h : Kp st) (A : St) (k o : Nat) : ∀ i, (sF (rI st A k o i) = sF A ∧ sT (rI st A k o i) = sT A ∧ sK (rI st A k o i) = sK A ∧ sN (rI st A k o i) = sN A) ∧ (Inv A → Inv (rI st A k o i))
  | 0 => ⟨⟨rfl, rfl, rfl, rfl⟩, id⟩
  | i + 1 => by
    have ih := kp_I h A k o i
    have h1 := h (rI st A k o i) k o i
    exact ⟨⟨h1.1.1.trans ih.1.1, h1.1.2.1.trans ih.1.2.1, h1.1.2.2.1.trans ih.1.2.2.1, h1.1.2.2.2.trans ih.1.2.2.2⟩, fun q => h1.2 (ih.2 q)⟩
theorem kp_O {st : St → Nat → Nat → Nat → St} (h : Kp st) (A : St) (k : Nat) : ∀ o, (sF (rO st A k o) = sF A ∧ sT (rO st A k o) = sT A ∧ sK (rO st A k o) = sK A ∧ sN (rO st A k o) = sN A) ∧ (Inv A → Inv (rO st A k o))
  | 0 => ⟨⟨rfl, rfl, rfl, rfl⟩, id⟩
  | o + 1 => by
    have ih := kp_O h A k o
    have h1 := kp_I h (rO st A k o) k o (if o = 0 then sF A else sT A)
    exact ⟨⟨h1.1.1.trans ih.1.1, h1.1.2.1.trans ih.1.2.1, h1.1.2.2.1.trans ih.1.2.2.1, h1.1.2.2.2.trans ih.1.2.2.2⟩, fun q => h1.2 (ih.2 q)⟩
theorem kp_K {st : St → Nat → Nat → Nat → St} (h : Kp st) (A : St) : ∀ k, (sF (rK st A k) = sF A ∧ sT (rK st A k) = sT A ∧ sK (rK st A k) = sK A ∧ sN (rK st A k) = sN A) ∧ (Inv A → Inv (rK st A k))
  | 0 => ⟨⟨rfl, rfl, rfl, rfl⟩, id⟩
  | k + 1 => by
    have ih := kp_K h A k
    have h1 := kp_O h (rK st A k) k 2
    exact ⟨⟨h1.1.1.trans ih.1.1, h1.1.2.1.trans ih.1.2.1, h1.1.2.2.1.trans ih.1.2.2.1, h1.1.2.2.2.trans ih.1.2.2.2⟩, fun q => h1.2 (ih.2 q)⟩
theorem kp_N {st : St → Nat → Nat → Nat → St} (h : Kp st) (A : St) : ∀ n, (sF (rN st A n) = sF A ∧ sT (rN st A n) = sT A ∧ sK (rN st A n) = sK A ∧ sN (rN st A n) = sN A) ∧ (Inv A → Inv (rN st A n))
  | 0 => ⟨⟨rfl, rfl, rfl, rfl⟩, id⟩
  | n + 1 => by
    have ih := kp_N h A n
    have h1 := kp_K h (rN st A n) (sK A)
    exact ⟨⟨h1.1.1.trans ih.1.1, h1.1.2.1.trans ih.1.2.1, h1.1.2.2.1.trans ih.1.2.2.1, h1.1.2.2.2.trans ih.1.2.2.2⟩, fun q => h1.2 (ih.2 q)⟩
theorem Inv.uN {A : St} (h : Inv A) (x : Int32) : Inv (uN A x) := ⟨h.F, h.T, h.K, h.J, h.Z, h.B, h.V, h.X, h.R, h.E⟩
