/-! the reference: rows and words of its own -/
section BT
variable {p : Program} {l : Launch} {e : Env} {R : Room} {s : State} {m : MethodId} {args : Array Value} {below : List Frame} {meth : Method} {c : Code} {H : Heap} {locs : List Loc} {cells slots : Nat} {Q : State → Prop}
variable {cc : ByteArray} {pc : Nat} {ls : Array Slot} {rest : List Value}
theorem n_imulc (hx : p.tables.exec = Jvm.exec) (hb : c.code = cc) {a b : Nat} (hdg : decode cc pc = .ok (.imul, 1)) (k : W p l e R s m args below meth c H locs cells slots Q (F0 m (pc + 1) ls (.int (nI (b * a)) :: rest))) : W p l e R s m args below meth c H locs cells slots Q (F0 m pc ls (.int (nI b) :: .int (nI a) :: rest)) := n_imul hx hb hdg (by rw [Nat.mul_comm]; exact k)
end BT
theorem neg_eq (v : Int32) : -v = 0 - v := by grind
theorem mXat {X : Nat → Nat → Bool} {k i : Nat} (h : i < 16) : (if X ((k * 16 + i) / 16) ((k * 16 + i) % 16) = true then (1 : Int32) else 0) = if X k i = true then 1 else 0 := by rw [(dv16 h).1, (dv16 h).2]
/-- the place of a number -/
def fpo (A : St) (x o y : Int32) : Int32 := if pNu A x o y then nI (cl x * 16 + qi (cl o) (cl y)) else -1
def nRm (A : St) (n : Int32) : St := if pRn n then uN (rN mst A (cl n)) (sN A + n) else A
def aRm (A : St) (n : Int32) : Int32 := if pRn n then fm (uN (rN mst A (cl n)) (sN A + n)) else -1
theorem mst_uN (A : St) (x : Int32) (k o i : Nat) : mst (uN A x) k o i = uN (mst A k o i) x := by
  show (if sX A k (qi o i) = true then uN A x else uN (tryV A k (qi o i) (bst (fun x => fm (tryV A k (qi o i) x)) (cl (sV A k (qi o i))))) x) = uN (mst A k o i) x
  unfold mst
  split <;> rfl
theorem rI_uN (A : St) (x : Int32) (k o : Nat) : ∀ i, rI mst (uN A x) k o i = uN (rI mst A k o i) x
  | 0 => rfl
  | i + 1 => by rw [rI, rI_uN A x k o i, mst_uN]; rfl
theorem rO_uN (A : St) (x : Int32) (k : Nat) : ∀ o, rO mst (uN A x) k o = uN (rO mst A k o) x
  | 0 => rfl
  | o + 1 => by rw [rO, rO_uN A x k o, rI_uN]; rfl
theorem rK_uN (A : St) (x : Int32) : ∀ k, rK mst (uN A x) k = uN (rK mst A k) x
  | 0 => rfl
  | k + 1 => by rw [rK, rK_uN A x k, rO_uN]; rfl
/-- a row filled up to i -/
def fil (x : Int32) (f : Nat → Int32) (i : Nat) : Nat → Int32 := fun j => if j < i then x else f j
theorem fil_0 (x : Int32) (f : Nat → Int32) : fil x f 0 = f := by funext j; exact if_neg (Nat.not_lt_zero j)
theorem fil_s (x : Int32) (f : Nat → Int32) (i : Nat) : upd (fil x f i) i x = fil x f (i + 1) := fw_s
theorem fil_n {cA : ClassId} (n : Nat) (x : Int32) (f : Nat → Int32) : vp_cell cA (n, .inl (fil x f n)) = vp_cell cA (n, .inl (fun _ => x)) := cell_cong (f := fil x f n) (fun j hj => if_pos hj)
def mwR (h : Nat → Nat) (cI cZ : ClassId) (A : St) (b v x e : Nat → Int32) (M : Nat → Int32) : va_W :=
  [(h 0, .inr (1, [.int (nI (sF A)), .int (nI (sT A)), .int (nI (sK A)), .ref (h 1), .ref (h 2), .ref (h 3), .ref (h 4), .int (nI (sJ A)), .int (sN A), .ref (h 5), .ref (h 6), .long (sC A), .ref (h 7)])),
   (h 1, .inl (cI, 48, .inl b)), (h 2, .inl (cI, 48, .inl v)), (h 3, .inl (cZ, 48, .inl x)), (h 4, .inl (cI, 144, .inl e)), (h 5, .inl (cI, 2, .inl (fun j => nI (sZ A j)))), (h 6, .inl (cI, 16, .inl (sR A))), (h 7, .inl (cI, 8, .inl M))]
theorem mwR_fin {D : va_G} {h : Nat → Nat} {cI cZ : ClassId} {A : St} {b v x e M : Nat → Int32} {H : Heap} {f t k : Nat} (hp : va_P D vwCl (mwR h cI cZ (uK (uT (uF A f) t) k) (fil (nI 0) b 48) (fil (nI 1) v 48) (fil (nI 0) x 48) (fil (nI 0) e 144) M) H) : va_P D vwCl (mw h cI cZ (fresh A f t k) M) H := by
  intro i q hi
  match i, hi with
  | 0, hi => cases hi; exact hp 0 _ rfl
  | 1, hi =>
    cases hi
    have h1 : H[h 1]? = some (vp_cell cI (48, .inl (fil (nI 0) b 48))) := hp 1 _ rfl
    show H[h 1]? = some (vp_cell cI (48, .inl (fun _ => nI 0)))
    rw [h1, fil_n]
  | 2, hi =>
    cases hi
    have h1 : H[h 2]? = some (vp_cell cI (48, .inl (fil (nI 1) v 48))) := hp 2 _ rfl
    show H[h 2]? = some (vp_cell cI (48, .inl (fun _ => nI 1)))
    rw [h1, fil_n]
  | 3, hi =>
    cases hi
    have h1 : H[h 3]? = some (vp_cell cZ (48, .inl (fil (nI 0) x 48))) := hp 3 _ rfl
    show H[h 3]? = some (vp_cell cZ (48, .inl (fun _ => nI 0)))
    rw [h1, fil_n]
  | 4, hi =>
    cases hi
    have h1 : H[h 4]? = some (vp_cell cI (144, .inl (fil (nI 0) e 144))) := hp 4 _ rfl
    show H[h 4]? = some (vp_cell cI (144, .inl (fun _ => nI 0)))
    rw [h1, fil_n]
  | 5, hi => cases hi; exact hp 5 _ rfl
  | 6, hi => cases hi; exact hp 6 _ rfl
  | 7, hi => cases hi; exact hp 7 _ rfl
  | i + 8, hi => cases hi
/-! calls behind which the row 'middle' holds anything -/
def xQ (D : va_G) (w0 : va_W) (w1 : (Nat → Int32) → va_W) (r : Int32) : Array Value → State → Outcome → State → Prop := fun _ st oc t => oc = .returned (some (.int r)) ∧ (∃ M : Nat → Int32, va_P D vwCl (w1 M) t.heap) ∧ va_F (fun q => q ∈ adrs w0) st t
def MX (l : Launch) (y : MethodName) (ws : List Cond) (rm : Room) (av : List Value) (D : va_G) (tys : List (ClassId × FieldType)) (w0 : va_W) (w1 : (Nat → Int32) → va_W) (r : Int32) : Prop := Met l y ws rm (va_Pc av (mB D tys w0)) (xQ D w0 w1 r) 0 0 (fun q => q ∈ adrs w0)
theorem mx_ofW {l : Launch} {y : MethodName} {ws ws' : List Cond} {rm : Room} {av : List Value} {D : va_G} {tys : List (ClassId × FieldType)} {w0 : va_W} {w1 : (Nat → Int32) → va_W} {r : Int32} {cc : ByteArray} {maxL : Nat} (hy : plainName y.cls = true) (hw : ws = Cond.code y cc maxL (some .int) :: ws') (hlen : (lg_sl av).length ≤ maxL)
    (body : ∀ (p : Program) (e : Env) (s : State) (m : MethodId) (below : List Frame) (meth : Method) (c : Code) (args : Array Value) (Q : State → Prop) (G : Nat → Prop) (H : Heap) (locs : List Loc), p.tables.exec = Jvm.exec → c.code = cc → c.maxLocals = maxL → s.vm.findClass y.cls = some m.cls → (∀ w ∈ ws, w.before args s = true) → va_P D vwCl w0 H → va_K D vwCl tys s → va_D G w0 → va_S G s.heap H locs →
      (∀ {pc : Nat} {ls : Array Slot} {v : Int32} {H : Heap} {locs : List Loc} {M : Nat → Int32}, decode cc pc = .ok (.ireturn, 1) → v = r → va_P D vwCl (w1 M) H → va_S G s.heap H locs → W p l e rm s m args below meth c H locs 0 0 Q (F0 m pc ls [.int v])) →
      ∀ ls : Array Slot, lv_has ls maxL (lv_args 0 av) → W p l e rm s m args below meth c H locs 0 0 Q (F0 m 0 ls [])) : MX l y ws rm av D tys w0 w1 r := by
  refine Met.ofW (cc := cc) (maxL := maxL) (ret := some .int) hy hw ?_
  intro p e s m args below meth c s₁ Bd hml hv
  obtain ⟨rfl, ⟨hP, hK⟩, hD⟩ := hv
  have hx := Bd.exec
  have hb := Bd.bytes
  have hr := Bd.returns
  have hts := atoms_spec (ws := ws) Bd.pre
  have hown : s.vm.findClass y.cls = some m.cls := findClass_of_methodNamed Bd.named
  have hlocks := Bd.notSynchronized
  have hl := lv_entry av (n := maxL) hlen
  rw [lg_entry_eq]
  exact body p e s m below meth c _ _ (fun q => q ∈ adrs w0) s.heap [] hx hb hml hown hts hP hK hD.self2 va_S.rf (fun {pc ls v H locs M} hd hv hP1 hS => W.iret hx hb hr (fun t ht _ => ⟨by rw [hv], ⟨M, by rw [ht]; exact hP1⟩, hS.F ht⟩) hS.2.2 hd) _ hl
section MC2
variable {p : Program} {l : Launch} {e : Env} {R : Room} {s : State} {m : MethodId} {args : Array Value} {below : List Frame} {meth : Method} {c : Code} {H H0 : Heap} {locs : List Loc} {cells slots : Nat} {Q : State → Prop}
variable {cc bytes : ByteArray} {pc nL maxL n index : Nat} {ls : Array Slot} {rest st0 As : List Value} {Ts wsM : List Cond} {own C : String} {y : MethodName} {ret : Option FieldType} {rm : Room} {b : Addr} {D : va_G} {tys : List (ClassId × FieldType)} {w0 : va_W} {w1 : (Nat → Int32) → va_W} {r : Int32} {G : Nat → Prop}
theorem mx_run {a : Array Value} (hr : va_Run p l e R s m args below meth c H locs cells slots 0 0 (F0 m pc ls st0) rest (xQ D w0 w1 r a) (fun q => q ∈ adrs w0)) (hS : va_S G H0 H locs) (hG : ∀ q, q ∈ adrs w0 → G q)
    (k : ∀ (H1 : Heap) (locs1 : List Loc) (M : Nat → Int32), va_P D vwCl (w1 M) H1 → va_S G H0 H1 locs1 → (∀ q : Nat, q < H.size → q ∉ adrs w0 → H1[q]? = H[q]?) → W p l e R s m args below meth c H1 locs1 cells slots Q (F0 m (pc + 3) ls (.int r :: rest))) : W p l e R s m args below meth c H locs cells slots Q (F0 m pc ls st0) := by
  intro T hT X
  obtain ⟨v', st₀, t, T', L, h0, X', hL, e1, e2, ⟨hv, ⟨M, hp⟩, hz, hk⟩, st⟩ := hr T hT X
  cases hv
  rw [h0] at hz hk
  have hk' : ∀ q : Nat, q < H.size → q ∉ adrs w0 → T'.heap[q]? = H[q]? := fun q h1 h2 => by rw [e1]; exact hk q h1 h2
  obtain ⟨t2, a1, b1⟩ := k T'.heap (locs ++ L) M (by rw [e1]; exact hp)
    ⟨Nat.le_trans hS.1 (by rw [e1]; exact hz), fun q h1 h2 => by rw [hk' q (Nat.lt_of_lt_of_le h1 hS.1) (fun z => h2 (hG q z))]; exact hS.2.1 q h1 h2, fun q hq => by
      rcases List.mem_append.mp hq with h | h
      · exact hS.2.2 q h
      · exact hG _ (hL q h)⟩ hk' T' rfl X'
  exact ⟨t2, st t2 a1, b1⟩
theorem mx_callV (S : CallFix p m c cc nL s args Ts own) (hM : MX l y wsM rm (.ref b :: As) D tys w0 w1 r) (cw : CallW R s args own C index y bytes maxL ret wsM rm 0 0 n) (hP : va_P D vwCl w0 H) (hK : va_K D vwCl tys s) (hD : va_D G w0) (hS : va_S G H0 H locs) (hrc : ∃ cellB : Cell, H[b]? = some cellB ∧ cellB.vm.isStatics = false ∧ s.vm.findClass C = some cellB.cls)
    (hn : As.length = n) (hsize : ls.size = nL) (hst : st0 = As.reverse ++ .ref b :: rest) (hroom : (rest.map fun v => v.category).sum ≤ 8) (hdg : decode cc pc = .ok (.invokevirtual index, 3)) (hf : cells + 0 ≤ R.cells ∧ slots + 0 ≤ R.slots)
    (k : ∀ (H1 : Heap) (locs1 : List Loc) (M : Nat → Int32), va_P D vwCl (w1 M) H1 → va_S G H0 H1 locs1 → (∀ q : Nat, q < H.size → q ∉ adrs w0 → H1[q]? = H[q]?) → W p l e R s m args below meth c H1 locs1 cells slots Q (F0 m (pc + 3) ls (.int r :: rest))) : W p l e R s m args below meth c H locs cells slots Q (F0 m pc ls st0) :=
  mx_run (va_runV S hM cw ⟨fun a U g mk q => ⟨q.1, mB_bl a U g mk q.2⟩, hrc, fun U hU hW => ⟨rfl, vB_at hP hK U hU hW, hD.any⟩⟩ rfl hn hsize hst (lv_room (m := m) (pc := pc) (ls := ls) (rest := st0) hroom) hdg hf) hS hD.mem k
end MC2
