/-! every call keeps Inv -/
theorem in_0 {x : Int32} {n : Nat} (h : nI 0 ≤ x ∧ x ≤ nI n) (hn : n < 2 ^ 31) : 0 ≤ x.toInt ∧ x.toInt ≤ n := by
  have h1 := Int32.le_iff_toInt_le.mp h.1
  have h2 := Int32.le_iff_toInt_le.mp h.2
  rw [nI_toInt (by omega)] at h1 h2
  exact ⟨h1, h2⟩
theorem upd_in {f : Nat → Int32} {k : Nat} {x : Int32} {lo hi : Int} (h : ∀ j, lo ≤ (f j).toInt ∧ (f j).toInt ≤ hi) (hx : lo ≤ x.toInt ∧ x.toInt ≤ hi) : ∀ j, lo ≤ (upd f k x j).toInt ∧ (upd f k x j).toInt ≤ hi := by
  intro j
  unfold upd
  split
  · exact hx
  · exact h j
theorem upN_in {Z : Nat → Nat} {k x : Nat} (h : Z 0 ≤ 8 ∧ Z 1 ≤ 8) (hx : x ≤ 8) : upN Z k x 0 ≤ 8 ∧ upN Z k x 1 ≤ 8 := by
  unfold upN
  constructor
  · split
    · exact hx
    · exact h.1
  · split
    · exact hx
    · exact h.2
theorem iv_Set {A : St} (h : Inv A) (x y v : Int32) : Inv (nSet A x y v) := by
  unfold nSet
  split
  · next q => exact ⟨h.F, h.T, h.K, h.J, h.Z, upd_in h.B (in_0 (n := 99) q.2 (by decide)), h.V, h.X, h.R, h.E⟩
  · exact h
theorem iv_Beg {A : St} (h : Inv A) (x o y v : Int32) : Inv (nBeg A x o y v) := by
  unfold nBeg
  split
  · next q => exact h.uV (in_0 (n := 20) q.1.2 (by decide))
  · exact h
theorem iv_Bar {A : St} (h : Inv A) (x o y : Int32) : Inv (nBar A x o y) := by
  unfold nBar
  split
  · next q =>
    have h1 : Inv (uV A (upV (sV A) (cl x) (qi (cl o) (cl y)) (nI 0))) := h.uV (by decide)
    obtain ⟨q1, -⟩ := q
    obtain ⟨b, hb, rfl⟩ := iN_of (n := 2) q1.2.1 (by decide) (by decide)
    have hF := h.F
    have hT := h.T
    obtain ⟨i, hi, rfl⟩ := iN_of q1.2.2 (by split <;> omega) (by split <;> omega)
    have hi8 : i < 2 ^ 31 := by split at hi <;> omega
    have hq := qi_lt h hb hi
    rw [cl_nI (n := b) (by omega), cl_nI hi8] at h1 ⊢
    refine ⟨h1.F, h1.T, h1.K, h1.J, h1.Z, h1.B, h1.V, fun a c hc => ?_, h1.R, h1.E⟩
    show upX (sX A) (cl x) (qi b i) a c = false
    unfold upX
    rw [if_neg (fun z => by omega)]
    exact h.X a c hc
  · exact h
theorem iv_Ju {A : St} (h : Inv A) (x : Int32) : Inv (nJu A x) := by
  unfold nJu
  split
  · next q =>
    obtain ⟨j, hj, rfl⟩ := iN_of (n := 3) q (by decide) (by decide)
    rw [cl_nI (by omega)]
    exact ⟨h.F, h.T, h.K, (show j ≤ 2 by omega), h.Z, h.B, h.V, h.X, h.R, h.E⟩
  · exact h
theorem iv_Cs {A : St} (h : Inv A) (x d : Int32) : Inv (nCs A x d) := by
  unfold nCs
  split
  · exact ⟨h.F, h.T, h.K, h.J, h.Z, h.B, h.V, h.X, h.R, h.E⟩
  · exact h
theorem iv_fresh {A : St} (hZ : sZ A 0 ≤ 8 ∧ sZ A 1 ≤ 8) (hJ : sJ A ≤ 2) (hR : ∀ j, -1000 ≤ (sR A j).toInt ∧ (sR A j).toInt ≤ 1000) {f t k : Nat} (hf : 1 ≤ f ∧ f ≤ 6) (ht : 1 ≤ t ∧ t ≤ 8) (hk : 1 ≤ k ∧ k ≤ 3) : Inv (fresh A f t k) := by
  refine ⟨hf, ht, hk, hJ, hZ, fun j => ?_, fun a b => ?_, fun a b _ => rfl, hR, fun j => ?_⟩
  · show 0 ≤ (nI 0).toInt ∧ (nI 0).toInt ≤ 99
    decide
  · show 0 ≤ (nI 1).toInt ∧ (nI 1).toInt ≤ 20
    decide
  · show 0 ≤ (nI 0).toInt ∧ (nI 0).toInt ≤ 99
    decide
theorem iv_Bd {A : St} (h : Inv A) (x y z : Int32) : Inv (nBd A x y z) := by
  unfold nBd
  split
  · next q =>
    obtain ⟨f, hf, rfl⟩ := q1_of q.1 (by decide)
    obtain ⟨t, ht, rfl⟩ := q1_of q.2.1 (by decide)
    obtain ⟨k, hk, rfl⟩ := q1_of q.2.2 (by decide)
    rw [cl_nI (by omega), cl_nI (by omega), cl_nI (by omega)]
    exact iv_fresh h.Z h.J h.R hf ht hk
  · exact h
theorem iv_He {A : St} (h : Inv A) (r v : Int32) : Inv (nHe A r v) := by
  unfold nHe
  split
  · next q =>
    have h1 := Int32.le_iff_toInt_le.mp q.1.2.1
    have h2 := Int32.le_iff_toInt_le.mp q.1.2.2
    have e1 : (-1000 : Int32).toInt = -1000 := by decide
    have e2 : (nI 1000).toInt = 1000 := by decide
    rw [e1] at h1
    rw [e2] at h2
    exact ⟨h.F, h.T, h.K, h.J, upN_in h.Z q.2, h.B, h.V, h.X, upd_in h.R ⟨h1, h2⟩, h.E⟩
  · exact h
theorem iv_Cl {A : St} (h : Inv A) (r : Int32) : Inv (nCl A r) := by
  unfold nCl
  split
  · exact ⟨h.F, h.T, h.K, h.J, upN_in h.Z (by decide), h.B, h.V, h.X, h.R, h.E⟩
  · exact h
theorem iv_Tr {A : St} (h : Inv A) (k x y v : Int32) : Inv (nTr A k x y v) := by
  unfold nTr
  split
  · next q => exact ⟨h.F, h.T, h.K, h.J, h.Z, h.B, h.V, h.X, h.R, upd_in h.E (in_0 (n := 99) q.2.2 (by decide))⟩
  · exact h
theorem iv_Rn {A : St} (h : Inv A) (x : Int32) : Inv (nRn A x) := by
  unfold nRn
  split
  · exact Inv.uN ((kp_N Kp_cst A _).2 h) _
  · exact h
/-- how both begin -/
def Z0 : St := mkS 0 0 0 (fun _ => nI 0) (fun _ _ => nI 0) (fun _ _ => false) (fun _ => nI 0) (fun _ => nI 0) (fun _ => 0) 0 (nI 0) 0
def A0 : St := fresh Z0 4 4 2
theorem iv_0 : Inv A0 := iv_fresh ⟨by decide, by decide⟩ (by decide) (fun j => by show -1000 ≤ (nI 0).toInt ∧ (nI 0).toInt ≤ 1000; decide) (by decide) (by decide) (by decide)
