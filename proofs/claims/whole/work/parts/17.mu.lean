/-! contracts of methods that write: the world w0 becomes w1, at the same addresses; nothing else changes -/
def adrs (w : va_W) : List Nat := w.map (fun q => q.1)
theorem adr_at {w : va_W} {k : Nat} {q : Nat × va_E} (h : w[k]? = some q) : q.1 ∈ adrs w := List.mem_map_of_mem (List.mem_of_getElem? h)
theorem va_D.same {G : Nat → Prop} {w0 w1 : va_W} (e : adrs w1 = adrs w0) (h : va_D G w0) : va_D G w1 := by
  have key : ∀ (k : Nat) (q : Nat × va_E), w1[k]? = some q → ∃ q0, w0[k]? = some q0 ∧ q0.1 = q.1 := by
    intro k q hk
    have h1 : (w1.map (fun q => q.1))[k]? = some q.1 := by rw [List.getElem?_map, hk]; rfl
    have e : w1.map (fun q => q.1) = w0.map (fun q => q.1) := e
    rw [e, List.getElem?_map] at h1
    cases h2 : w0[k]? with
    | none => rw [h2] at h1; cases h1
    | some q0 => rw [h2] at h1; exact ⟨q0, rfl, Option.some.inj h1⟩
  refine ⟨fun i j p q hi hj hpq => ?_, fun k q hk => ?_⟩
  · obtain ⟨p0, a1, a2⟩ := key i p hi
    obtain ⟨q0, b1, b2⟩ := key j q hj
    exact h.1 i j p0 q0 a1 b1 (a2.trans (hpq.trans b2.symm))
  · obtain ⟨q0, b1, b2⟩ := key k q hk
    rw [← b2]; exact h.2 k q0 b1
theorem va_D.to {G : Nat → Prop} {w0 w1 : va_W} (h : va_D G w0) (e : adrs w1 = adrs w0) : va_D G w1 := va_D.same e h
theorem va_D.mem {G : Nat → Prop} {w : va_W} (h : va_D G w) : ∀ q, q ∈ adrs w → G q := by
  intro q hq
  obtain ⟨x, hx, rfl⟩ := List.mem_map.mp hq
  obtain ⟨k, hk⟩ := List.getElem?_of_mem hx
  exact h.2 k x hk
theorem va_P.off {D : va_G} {cl : List vw_C} {w : va_W} {H H1 : Heap} {Z : List Nat} (h : va_P D cl w H) (hd : ∀ q, q ∈ adrs w → q ∉ Z) (hk : ∀ q : Nat, q < H.size → q ∉ Z → H1[q]? = H[q]?) : va_P D cl w H1 := fun k q hq => (h k q hq).kept (hk q.1 (h k q hq).lt (hd q.1 (adr_at hq)))
theorem va_P.put1 {D : va_G} {cl : List vw_C} {G : Nat → Prop} {p : Nat} {ws : va_W} {a : Nat} {e0 e : va_E} {H H1 : Heap} (h : va_P D cl ws H) (hD : va_D G ws) (hp : ws[p]? = some (a, e0)) (he : va_at D cl (a, e) H1) (oq : ∀ q : Nat, q < H.size → q ∉ [a] → H1[q]? = H[q]?) : va_P D cl (ws.set p (a, e)) H1 := by
  have hl := (List.getElem?_eq_some_iff.mp hp).1
  intro k q hk
  by_cases hkp : k = p
  · subst hkp
    rw [List.getElem?_set_self hl] at hk
    cases hk
    exact he
  · rw [List.getElem?_set_ne (Ne.symm hkp)] at hk
    exact (h k q hk).kept (oq q.1 (h k q hk).lt (fun z => hkp (hD.1 k p q (a, e0) hk hp (by simpa using z))))
def mQ (D : va_G) (w0 w1 : va_W) (v : Option Value) : Array Value → State → Outcome → State → Prop := fun _ st oc t => oc = .returned v ∧ va_P D vwCl w1 t.heap ∧ va_F (fun q => q ∈ adrs w0) st t
def mB (D : va_G) (tys : List (ClassId × FieldType)) (w0 : va_W) (U : State) : Prop := vB D w0 tys U ∧ va_D (fun _ => True) w0
def MU (l : Launch) (y : MethodName) (ws : List Cond) (rm : Room) (av : List Value) (D : va_G) (tys : List (ClassId × FieldType)) (w0 w1 : va_W) (v : Option Value) : Prop := Met l y ws rm (va_Pc av (mB D tys w0)) (mQ D w0 w1 v) 0 0 (fun q => q ∈ adrs w0)
theorem mB_bl {D : va_G} {tys : List (ClassId × FieldType)} {w0 : va_W} : ∀ (a : Array Value) (U : State) (g : JFrame) (mk : MethodId), mB D tys w0 U → mB D tys w0 (U.calling g mk a) := fun a U g mk q => ⟨vB_bl a U g mk q.1, q.2⟩
theorem va_D.self2 {w : va_W} (h : va_D (fun _ => True) w) : va_D (fun q => q ∈ adrs w) w := ⟨h.1, fun _ _ hk => adr_at hk⟩
theorem va_D.any {G : Nat → Prop} {w : va_W} (h : va_D G w) : va_D (fun _ => True) w := ⟨h.1, fun _ _ _ => trivial⟩
theorem mu_ofW {l : Launch} {y : MethodName} {ws ws' : List Cond} {rm : Room} {av : List Value} {D : va_G} {tys : List (ClassId × FieldType)} {w0 w1 : va_W} {r : Int32} {cc : ByteArray} {maxL : Nat} (hy : plainName y.cls = true) (hw : ws = Cond.code y cc maxL (some .int) :: ws') (hlen : (lg_sl av).length ≤ maxL)
    (body : ∀ (p : Program) (e : Env) (s : State) (m : MethodId) (below : List Frame) (meth : Method) (c : Code) (args : Array Value) (Q : State → Prop) (G : Nat → Prop) (H : Heap) (locs : List Loc), p.tables.exec = Jvm.exec → c.code = cc → c.maxLocals = maxL → s.vm.findClass y.cls = some m.cls → (∀ w ∈ ws, w.before args s = true) → va_P D vwCl w0 H → va_K D vwCl tys s → va_D G w0 → va_S G s.heap H locs →
      (∀ {pc : Nat} {ls : Array Slot} {v : Int32} {H : Heap} {locs : List Loc}, decode cc pc = .ok (.ireturn, 1) → v = r → va_P D vwCl w1 H → va_S G s.heap H locs → W p l e rm s m args below meth c H locs 0 0 Q (F0 m pc ls [.int v])) →
      ∀ ls : Array Slot, lv_has ls maxL (lv_args 0 av) → W p l e rm s m args below meth c H locs 0 0 Q (F0 m 0 ls [])) : MU l y ws rm av D tys w0 w1 (some (.int r)) := by
  refine Met.ofW (cc := cc) (maxL := maxL) (ret := some .int) hy hw ?_
  intro p e s m args below meth c s₁ Bd hml hv
  obtain ⟨rfl, ⟨hP, hK⟩, hD⟩ := hv
  have hx := Bd.exec
  have hb := Bd.bytes
  have hr := Bd.returns
  have hts := atoms_spec (ws := ws) Bd.pre
  have hown : s.vm.findClass y.cls = some m.cls := findClass_of_methodNamed Bd.named
  have hlocks := Bd.notSynchronized
  have hl := lv_entry av (n := maxL) hlen
  rw [lg_entry_eq]
  exact body p e s m below meth c _ _ (fun q => q ∈ adrs w0) s.heap [] hx hb hml hown hts hP hK hD.self2 va_S.rf (fun {pc ls v H locs} hd hv hP1 hS => W.iret hx hb hr (fun t ht _ => ⟨by rw [hv], by rw [ht]; exact hP1, hS.F ht⟩) hS.2.2 hd) _ hl
theorem mu_ofWv {l : Launch} {y : MethodName} {ws ws' : List Cond} {rm : Room} {av : List Value} {D : va_G} {tys : List (ClassId × FieldType)} {w0 w1 : va_W} {cc : ByteArray} {maxL : Nat} (hy : plainName y.cls = true) (hw : ws = Cond.code y cc maxL none :: ws') (hlen : (lg_sl av).length ≤ maxL)
    (body : ∀ (p : Program) (e : Env) (s : State) (m : MethodId) (below : List Frame) (meth : Method) (c : Code) (args : Array Value) (Q : State → Prop) (G : Nat → Prop) (H : Heap) (locs : List Loc), p.tables.exec = Jvm.exec → c.code = cc → c.maxLocals = maxL → s.vm.findClass y.cls = some m.cls → (∀ w ∈ ws, w.before args s = true) → va_P D vwCl w0 H → va_K D vwCl tys s → va_D G w0 → va_S G s.heap H locs →
      (∀ {pc : Nat} {ls : Array Slot} {H : Heap} {locs : List Loc}, decode cc pc = .ok (.return_, 1) → va_P D vwCl w1 H → va_S G s.heap H locs → W p l e rm s m args below meth c H locs 0 0 Q (F0 m pc ls [])) →
      ∀ ls : Array Slot, lv_has ls maxL (lv_args 0 av) → W p l e rm s m args below meth c H locs 0 0 Q (F0 m 0 ls [])) : MU l y ws rm av D tys w0 w1 none := by
  refine Met.ofW (cc := cc) (maxL := maxL) (ret := none) hy hw ?_
  intro p e s m args below meth c s₁ Bd hml hv
  obtain ⟨rfl, ⟨hP, hK⟩, hD⟩ := hv
  have hx := Bd.exec
  have hb := Bd.bytes
  have hr := Bd.returns
  have hts := atoms_spec (ws := ws) Bd.pre
  have hown : s.vm.findClass y.cls = some m.cls := findClass_of_methodNamed Bd.named
  have hlocks := Bd.notSynchronized
  have hl := lv_entry av (n := maxL) hlen
  rw [lg_entry_eq]
  exact body p e s m below meth c _ _ (fun q => q ∈ adrs w0) s.heap [] hx hb hml hown hts hP hK hD.self2 va_S.rf (fun {pc ls H locs} hd hP1 hS => W.vret hx hb hr (fun t ht _ => ⟨rfl, by rw [ht]; exact hP1, hS.F ht⟩) hS.2.2 hd) _ hl
section MC
variable {p : Program} {l : Launch} {e : Env} {R : Room} {s : State} {m : MethodId} {args : Array Value} {below : List Frame} {meth : Method} {c : Code} {H H0 : Heap} {locs : List Loc} {cells slots : Nat} {Q : State → Prop}
variable {cc bytes : ByteArray} {pc nL maxL n index : Nat} {ls : Array Slot} {rest st0 As : List Value} {Ts wsM : List Cond} {own C : String} {y : MethodName} {ret : Option FieldType} {rm : Room} {b : Addr} {D : va_G} {tys : List (ClassId × FieldType)} {w0 w1 : va_W} {v : Option Value} {G : Nat → Prop}
theorem mu_run {a : Array Value} (hr : va_Run p l e R s m args below meth c H locs cells slots 0 0 (F0 m pc ls st0) rest (mQ D w0 w1 v a) (fun q => q ∈ adrs w0)) (hS : va_S G H0 H locs) (hG : ∀ q, q ∈ adrs w0 → G q)
    (k : ∀ (H1 : Heap) (locs1 : List Loc), va_P D vwCl w1 H1 → va_S G H0 H1 locs1 → (∀ q : Nat, q < H.size → q ∉ adrs w0 → H1[q]? = H[q]?) → W p l e R s m args below meth c H1 locs1 cells slots Q (F0 m (pc + 3) ls (v.toList ++ rest))) : W p l e R s m args below meth c H locs cells slots Q (F0 m pc ls st0) := by
  intro T hT X
  obtain ⟨v', st₀, t, T', L, h0, X', hL, e1, e2, ⟨hv, hp, hz, hk⟩, st⟩ := hr T hT X
  cases hv
  rw [h0] at hz hk
  have hk' : ∀ q : Nat, q < H.size → q ∉ adrs w0 → T'.heap[q]? = H[q]? := fun q h1 h2 => by rw [e1]; exact hk q h1 h2
  obtain ⟨t2, a1, b1⟩ := k T'.heap (locs ++ L) (by rw [e1]; exact hp)
    ⟨Nat.le_trans hS.1 (by rw [e1]; exact hz), fun q h1 h2 => by rw [hk' q (Nat.lt_of_lt_of_le h1 hS.1) (fun z => h2 (hG q z))]; exact hS.2.1 q h1 h2, fun q hq => by
      rcases List.mem_append.mp hq with h | h
      · exact hS.2.2 q h
      · exact hG _ (hL q h)⟩ hk' T' rfl X'
  exact ⟨t2, st t2 a1, b1⟩
theorem mu_callV (S : CallFix p m c cc nL s args Ts own) (hM : MU l y wsM rm (.ref b :: As) D tys w0 w1 v) (cw : CallW R s args own C index y bytes maxL ret wsM rm 0 0 n) (hP : va_P D vwCl w0 H) (hK : va_K D vwCl tys s) (hD : va_D G w0) (hS : va_S G H0 H locs) (hrc : ∃ cellB : Cell, H[b]? = some cellB ∧ cellB.vm.isStatics = false ∧ s.vm.findClass C = some cellB.cls)
    (hn : As.length = n) (hsize : ls.size = nL) (hst : st0 = As.reverse ++ .ref b :: rest) (hroom : (rest.map fun v => v.category).sum ≤ 8) (hdg : decode cc pc = .ok (.invokevirtual index, 3)) (hf : cells + 0 ≤ R.cells ∧ slots + 0 ≤ R.slots)
    (k : ∀ (H1 : Heap) (locs1 : List Loc), va_P D vwCl w1 H1 → va_S G H0 H1 locs1 → (∀ q : Nat, q < H.size → q ∉ adrs w0 → H1[q]? = H[q]?) → W p l e R s m args below meth c H1 locs1 cells slots Q (F0 m (pc + 3) ls (v.toList ++ rest))) : W p l e R s m args below meth c H locs cells slots Q (F0 m pc ls st0) :=
  mu_run (va_runV S hM cw ⟨fun a U g mk q => ⟨q.1, mB_bl a U g mk q.2⟩, hrc, fun U hU hW => ⟨rfl, vB_at hP hK U hU hW, hD.any⟩⟩ rfl hn hsize hst (lv_room (m := m) (pc := pc) (ls := ls) (rest := st0) hroom) hdg hf) hS hD.mem k
theorem mu_callS (S : CallFix p m c cc nL s args Ts own) (hM : MU l y wsM rm As D tys w0 w1 v) (cw : CallB R s args own index y bytes maxL ret wsM rm 0 0 n ∧ (Cond.static y).before args s = true) (hP : va_P D vwCl w0 H) (hK : va_K D vwCl tys s) (hD : va_D G w0) (hS : va_S G H0 H locs)
    (hn : As.length = n) (hsize : ls.size = nL) (hst : st0 = As.reverse ++ rest) (hroom : (rest.map fun v => v.category).sum ≤ 8) (hdg : decode cc pc = .ok (.invokestatic index, 3)) (hf : cells + 0 ≤ R.cells ∧ slots + 0 ≤ R.slots)
    (k : ∀ (H1 : Heap) (locs1 : List Loc), va_P D vwCl w1 H1 → va_S G H0 H1 locs1 → (∀ q : Nat, q < H.size → q ∉ adrs w0 → H1[q]? = H[q]?) → W p l e R s m args below meth c H1 locs1 cells slots Q (F0 m (pc + 3) ls (v.toList ++ rest))) : W p l e R s m args below meth c H locs cells slots Q (F0 m pc ls st0) :=
  mu_run (va_runS S hM cw ⟨fun a U g mk q => ⟨q.1, mB_bl a U g mk q.2⟩, fun U hU hW => ⟨rfl, vB_at hP hK U hU hW, hD.any⟩⟩ rfl hn hsize hst (lv_room (m := m) (pc := pc) (ls := ls) (rest := st0) hroom) hdg hf) hS hD.mem k
end MC
/-! the states that the calls lead to -/
def upV (V : Nat → Nat → Int32) (k i : Nat) (x : Int32) : Nat → Nat → Int32 := fun a b => if a = k ∧ b = i then x else V a b
def upN (Z : Nat → Nat) (k : Nat) (x : Nat) : Nat → Nat := fun a => if a = k then x else Z a
theorem xVup {V : Nat → Nat → Int32} {k i : Nat} {x : Int32} (h : i < 14) : upd (fun j => V (j / 14) (j % 14)) (k * 14 + i) x = fun j => upV V k i x (j / 14) (j % 14) := by
  funext j
  unfold upd upV
  by_cases q : j = k * 14 + i
  · subst q
    rw [if_pos rfl, if_pos (dv14 h)]
  · rw [if_neg q, if_neg (fun z => q (by omega))]
theorem mVup {V : Nat → Nat → Int32} {k i : Nat} {x : Int32} (h : i < 16) : upd (fun j => V (j / 16) (j % 16)) (k * 16 + i) x = fun j => upV V k i x (j / 16) (j % 16) := by
  funext j
  unfold upd upV
  by_cases q : j = k * 16 + i
  · subst q
    rw [if_pos rfl, if_pos (dv16 h)]
  · rw [if_neg q, if_neg (fun z => q (by omega))]
theorem mXup {X : Nat → Nat → Bool} {k i : Nat} (h : i < 16) : upd (fun j => if X (j / 16) (j % 16) then 1 else 0) (k * 16 + i) (nI 1) = fun j => if upX X k i (j / 16) (j % 16) then 1 else 0 := by
  funext j
  unfold upd upX
  by_cases q : j = k * 16 + i
  · subst q
    rw [if_pos rfl, if_pos (dv16 h)]
    rfl
  · have z : ¬ (j / 16 = k ∧ j % 16 = i) := fun z => q (by omega)
    rw [if_neg q, if_neg z]
theorem zup {Z : Nat → Nat} {k x : Nat} : upd (fun j => nI (Z j)) k (nI x) = fun j => nI (upN Z k x j) := by
  funext j
  unfold upd upN
  split <;> rfl
theorem upV_upV (V : Nat → Nat → Int32) (k i : Nat) (x y : Int32) : upV (upV V k i x) k i y = upV V k i y := by
  funext a b
  unfold upV
  split <;> rfl
theorem upV_self {V : Nat → Nat → Int32} {k i : Nat} {x : Int32} (h : V k i = x) : upV V k i x = V := by
  funext a b
  unfold upV
  split
  · next q => rw [q.1, q.2, h]
  · rfl
abbrev p99 (v : Int32) : Prop := nI 0 ≤ v ∧ v ≤ nI 99
abbrev p20 (v : Int32) : Prop := nI 0 ≤ v ∧ v ≤ nI 20
abbrev pSet (A : St) (x y v : Int32) : Prop := (iN x (sF A) ∧ iN y (sT A)) ∧ p99 v
def nSet (A : St) (x y v : Int32) : St := if pSet A x y v then uB A (upd (sB A) (cl x * 8 + cl y) v) else A
def aSet (A : St) (x y v : Int32) : Int32 := if pSet A x y v then sB A (cl x * 8 + cl y) else -1
abbrev pBeg (A : St) (x o y v : Int32) : Prop := pNu A x o y ∧ p20 v
def nBeg (A : St) (x o y v : Int32) : St := if pBeg A x o y v ∧ ¬ sX A (cl x) (qi (cl o) (cl y)) = true then uV A (upV (sV A) (cl x) (qi (cl o) (cl y)) v) else A
def aBeg (A : St) (x o y v : Int32) : Int32 := if pBeg A x o y v then (if sX A (cl x) (qi (cl o) (cl y)) = true then -2 else sV A (cl x) (qi (cl o) (cl y))) else -1
def nBar (A : St) (x o y : Int32) : St := if pNu A x o y ∧ ¬ sX A (cl x) (qi (cl o) (cl y)) = true then uX (uV A (upV (sV A) (cl x) (qi (cl o) (cl y)) (nI 0))) (upX (sX A) (cl x) (qi (cl o) (cl y))) else A
def aBar (A : St) (x o y : Int32) : Int32 := if pNu A x o y then (if sX A (cl x) (qi (cl o) (cl y)) = true then -2 else sV A (cl x) (qi (cl o) (cl y))) else -1
abbrev pJ (x : Int32) : Prop := nI 0 ≤ x ∧ x ≤ nI 2
def nJu (A : St) (x : Int32) : St := if pJ x then uJ A (cl x) else A
def aJu (A : St) (x : Int32) : Int32 := if pJ x then nI (sJ A) else -1
def tk (J : Nat) : Int64 := if J = 0 then 1 else if J = 1 then 11 else 111
abbrev pCs (x d : Int32) : Prop := pJ x ∧ (nI 0 ≤ d ∧ d ≤ nI 2000)
def nCs (A : St) (x d : Int32) : St := if pCs x d then uC A (sC A + tk (cl x)) else A
def aCs (x d : Int32) : Int32 := if pCs x d then fco (cl x) d else -1
abbrev pBd (f t k : Int32) : Prop := (nI 1 ≤ f ∧ f ≤ nI 6) ∧ (nI 1 ≤ t ∧ t ≤ nI 8) ∧ (nI 1 ≤ k ∧ k ≤ nI 3)
def fresh (A : St) (f t k : Nat) : St := mkS f t k (fun _ => nI 0) (fun _ _ => nI 1) (fun _ _ => false) (fun _ => nI 0) (sR A) (sZ A) (sJ A) (sN A) (sC A)
def nBd (A : St) (f t k : Int32) : St := if pBd f t k then fresh A (cl f) (cl t) (cl k) else A
def aBd (f t k : Int32) : Int32 := if pBd f t k then nI (cl f * cl t) else -1
abbrev pRow (r : Int32) : Prop := nI 0 ≤ r ∧ r ≤ nI 1
abbrev pHe (r v : Int32) : Prop := pRow r ∧ ((-1000) ≤ v ∧ v ≤ nI 1000)
def nHe (A : St) (r v : Int32) : St := if pHe r v ∧ sZ A (cl r) < 8 then uZ (uR A (upd (sR A) (cl r * 8 + sZ A (cl r)) v)) (upN (sZ A) (cl r) (sZ A (cl r) + 1)) else A
def aHe (A : St) (r v : Int32) : Int32 := if pHe r v then (if sZ A (cl r) < 8 then nI (sZ A (cl r) + 1) else -3) else -1
def nCl (A : St) (r : Int32) : St := if pRow r then uZ A (upN (sZ A) (cl r) 0) else A
def aCl (A : St) (r : Int32) : Int32 := if pRow r then nI (sZ A (cl r)) else -1
abbrev pTr (A : St) (k x y v : Int32) : Prop := iN k (sK A) ∧ (iN x (sF A) ∧ iN y (sT A)) ∧ p99 v
def nTr (A : St) (k x y v : Int32) : St := if pTr A k x y v then uE A (upd (sE A) (cl k * 48 + (cl x * 8 + cl y)) v) else A
def aTr (A : St) (k x y v : Int32) : Int32 := if pTr A k x y v then sE A (cl k * 48 + (cl x * 8 + cl y)) else -1
/-! a ROUND -/
def tryV (A : St) (k q x : Nat) : St := uV A (upV (sV A) k q (nI x))
def bst (ms : Nat → Int32) (a : Nat) : Nat := if a + 1 ≤ 20 ∧ ms (a + 1) < ms (if 1 ≤ a ∧ ms (a - 1) < ms a then a - 1 else a) then a + 1 else if 1 ≤ a ∧ ms (a - 1) < ms a then a - 1 else a
def cst (A : St) (k o i : Nat) : St := if sX A k (qi o i) = true then A else tryV A k (qi o i) (bst (fun x => fal (tryV A k (qi o i) x) o i) (cl (sV A k (qi o i))))
def mst (A : St) (k o i : Nat) : St := if sX A k (qi o i) = true then A else tryV A k (qi o i) (bst (fun x => fm (tryV A k (qi o i) x)) (cl (sV A k (qi o i))))
def rI (st : St → Nat → Nat → Nat → St) (A : St) (k o : Nat) : Nat → St
  | 0 => A
  | i + 1 => st (rI st A k o i) k o i
def rO (st : St → Nat → Nat → Nat → St) (A : St) (k : Nat) : Nat → St
  | 0 => A
  | o + 1 => rI st (rO st A k o) k o (if o = 0 then sF A else sT A)
def rK (st : St → Nat → Nat → Nat → St) (A : St) : Nat → St
  | 0 => A
  | k + 1 => rO st (rK st A k) k 2
def rN (st : St → Nat → Nat → Nat → St) (A : St) : Nat → St
  | 0 => A
  | n + 1 => rK st (rN st A n) (sK A)
abbrev pRn (n : Int32) : Prop := nI 1 ≤ n ∧ n ≤ nI 10
def nRn (A : St) (n : Int32) : St := if pRn n then uN (rN cst A (cl n)) (sN A + n) else A
def aRn (A : St) (n : Int32) : Int32 := if pRn n then fm (uN (rN cst A (cl n)) (sN A + n)) else -1
