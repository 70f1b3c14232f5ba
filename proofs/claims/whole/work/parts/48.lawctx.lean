/-! the law: what holds all along it -/
section LW
variable {p : Program} {l : Launch} {e : Env} {R : Room} {s : State} {m : MethodId} {args : Array Value} {below : List Frame} {meth : Method} {c : Code} {H H0 : Heap} {locs : List Loc} {cells slots : Nat} {Q : State → Prop}
variable {cc : ByteArray} {pc : Nat} {ls : Array Slot} {rest : List Value} {G : Nat → Prop}
theorem n_sld (hx : p.tables.exec = Jvm.exec) (hb : c.code = cc) {b L : Nat} {xs : Nat → Int32} (hX : va_X b L xs s H0) (hbl : b < H0.size) (hbA : ¬ G b) (hS : va_S G H0 H locs) {i : Nat} (hi : i < L) (hL : L < 2 ^ 31) (hdg : decode cc pc = .ok (.iaload, 1)) (k : W p l e R s m args below meth c H locs cells slots Q (F0 m (pc + 1) ls (.int (xs i) :: rest))) : W p l e R s m args below meth c H locs cells slots Q (F0 m pc ls (.int (nI i) :: .ref b :: rest)) := va_sld hx hb hX hbl hbA hS (vp_in_nI hi hL) hdg (by rw [nI_clamp (Nat.lt_trans hi hL)]; exact k)
/-- script[i + j], as the law reads it -/
theorem n_arg (hx : p.tables.exec = Jvm.exec) (hb : c.code = cc) {b L : Nat} {xs : Nat → Int32} (hX : va_X b L xs s H0) (hbl : b < H0.size) (hbA : ¬ G b) (hS : va_S G H0 H locs) {i : Nat} (j : Nat) {n : Int} (h0 : ls[0]? = some (.val (.ref b))) (h3 : ls[3]? = some (.val (.int (nI i)))) (hi : i + j < L) (hL : L < 2 ^ 31) (d1 : decode cc pc = .ok (.aload_n 0, 1)) (d2 : decode cc (pc + 1) = .ok (.iload_n 3, 1)) (d3 : decode cc (pc + 1 + 1) = .ok (.iconst n, 1)) (hn : Int32.ofInt n = nI j) (d4 : decode cc (pc + 1 + 1 + 1) = .ok (.iadd, 1)) (d5 : decode cc (pc + 1 + 1 + 1 + 1) = .ok (.iaload, 1)) (k : W p l e R s m args below meth c H locs cells slots Q (F0 m (pc + 5) ls (.int (xs (i + j)) :: rest))) : W p l e R s m args below meth c H locs cells slots Q (F0 m pc ls rest) := by
  refine lv_aload_n hx hb d1 rfl h0 ?_
  refine lv_iload_n hx hb d2 rfl h3 ?_
  refine lv_iconst (v := nI j) hx hb d3 hn ?_
  refine n_iadd hx hb d4 ?_
  exact n_sld hx hb hX hbl hbA hS hi hL d5 k
end LW
def LwC (p : Program) (s : State) (m : MethodId) (c : Code) (b L : Nat) (xs : Nat → Int32) (t : Nat → Nat) (D : va_G) (h : Nat → Nat) (cI : ClassId) (g : Nat → Nat) (cJ cZ : ClassId) : Prop :=
  p.tables.exec = Jvm.exec ∧ c.code = cL_law ∧ c.maxLocals = 4 ∧ s.vm.findClass RL = some m.cls ∧ (∀ w ∈ wsL_law, w.before #[Value.ref b] s = true) ∧ va_X b L xs s s.heap ∧ b < s.heap.size ∧ xST t (fun q => s.heap.size ≤ q) s s.heap ∧ va_K D vwCl [(cI, .int)] s ∧ va_K D vwCl [(cJ, .int), (cZ, .boolean)] s ∧ (∀ q, q ∈ [h 0, h 1, h 2, h 3, h 4, h 5] → q ∉ [g 0, g 1, g 2, g 3, g 4, g 5, g 6, g 7]) ∧ L ≤ 2560
/-- what holds at the loop's head, and at its end -/
def LwS (s : State) (D : va_G) (h : Nat → Nat) (cI : ClassId) (g : Nat → Nat) (cJ cZ : ClassId) (A : St) (M : Nat → Int32) (H : Heap) (locs : List Loc) : Prop :=
  Inv A ∧ va_P D vwCl (xw h cI A) H ∧ va_D (fun q => s.heap.size ≤ q) (xw h cI A) ∧ va_P D vwCl (mw g cJ cZ A M) H ∧ va_D (fun q => s.heap.size ≤ q) (mw g cJ cZ A M) ∧ va_S (fun q => s.heap.size ≤ q) s.heap H locs
theorem LwS.st {s : State} {t : Nat → Nat} {H : Heap} {locs : List Loc} (hST : xST t (fun q => s.heap.size ≤ q) s s.heap) (hS : va_S (fun q => s.heap.size ≤ q) s.heap H locs) : xST t (fun _ => False) s H := (hST.kept hS.2.1).narrow (fun _ h => h.elim)
theorem lcmp_self (x : Int64) : lg_cmp x x = 0 := by simp [lg_cmp]
