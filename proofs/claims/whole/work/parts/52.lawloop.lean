/-! the law's tables, its loop, its start -/
theorem apart_of {G : Nat → Prop} {w1 w2 : va_W} (h : va_D G (w1 ++ w2)) : ∀ q, q ∈ adrs w1 → q ∉ adrs w2 := by
  intro q h1 h2
  obtain ⟨x, hx, e1⟩ := List.mem_map.mp h1
  obtain ⟨y, hy, e2⟩ := List.mem_map.mp h2
  obtain ⟨i, hi⟩ := List.getElem?_of_mem hx
  obtain ⟨j, hj⟩ := List.getElem?_of_mem hy
  have hi' : i < w1.length := (List.getElem?_eq_some_iff.mp hi).1
  have e3 := h.1 i (w1.length + j) x y (by rw [List.getElem?_append_left hi']; exact hi) (by rw [List.getElem?_append_right (Nat.le_add_right _ _), Nat.add_sub_cancel_left]; exact hj) (e1.trans e2.symm)
  omega
theorem law_st {s : State} {b : Nat} (hts : ∀ w ∈ lw_tbl, w.before #[Value.ref b] s = true) (hgv : (Jvm.Cond.and given_1 narrow_1).before #[Value.ref b] s = true) : ∃ t : Nat → Nat, xST t (fun q => s.heap.size ≤ q) s s.heap := by
  have hq := flat_of_before _ hgv
  have hA : ∀ a : Nat, a < s.heap.size → ¬ (fun q : Nat => s.heap.size ≤ q) a := fun a h => Nat.not_le.mpr h
  have hi := hts (.initialized "VoiceParts") (by decide +kernel)
  obtain ⟨t1, e1, y1⟩ := va_Tof (args := #[Value.ref b]) (s := s) (tm := (.static "VoiceParts" "ORDERS_OF_ONE" "[I")) (ty := .int) (N := 1) (f := fun _ => .int (nI 0)) (A := fun q => s.heap.size ≤ q) (by decide) (hq _ (by decide +kernel)) (va_eqt (hq _ (by decide +kernel))) (fun j hj => by
    obtain rfl : j = 0 := by omega
    exact va_eqt (hq _ (by decide +kernel))) hA
  have z1 := va_Zref (A := fun q => s.heap.size ≤ q) (hts (.laysStatic "VoiceParts" "ORDERS_OF_ONE" "[I") (by decide +kernel)) hi e1 hA
  obtain ⟨t2, e2, y2⟩ := va_Tof (args := #[Value.ref b]) (s := s) (tm := (.static "VoiceParts" "ORDERS_OF_TWO" "[I")) (ty := .int) (N := 4) (f := fun j => .int (nI (tb2 j))) (A := fun q => s.heap.size ≤ q) (by decide) (hq _ (by decide +kernel)) (va_eqt (hq _ (by decide +kernel))) (fun j hj => by
    rcases (show j = 0 ∨ j = 1 ∨ j = 2 ∨ j = 3 by omega) with rfl | rfl | rfl | rfl
    · exact va_eqt (hq _ (by decide +kernel))
    · exact va_eqt (hq _ (by decide +kernel))
    · exact va_eqt (hq _ (by decide +kernel))
    · exact va_eqt (hq _ (by decide +kernel))) hA
  have z2 := va_Zref (A := fun q => s.heap.size ≤ q) (hts (.laysStatic "VoiceParts" "ORDERS_OF_TWO" "[I") (by decide +kernel)) hi e2 hA
  obtain ⟨t3, e3, y3⟩ := va_Tof (args := #[Value.ref b]) (s := s) (tm := (.static "VoiceParts" "ORDERS_OF_THREE" "[I")) (ty := .int) (N := 18) (f := fun j => .int (nI (tb3 j))) (A := fun q => s.heap.size ≤ q) (by decide) (hq _ (by decide +kernel)) (va_eqt (hq _ (by decide +kernel))) (fun j hj => by
    rcases (show j = 0 ∨ j = 1 ∨ j = 2 ∨ j = 3 ∨ j = 4 ∨ j = 5 ∨ j = 6 ∨ j = 7 ∨ j = 8 ∨ j = 9 ∨ j = 10 ∨ j = 11 ∨ j = 12 ∨ j = 13 ∨ j = 14 ∨ j = 15 ∨ j = 16 ∨ j = 17 by omega) with rfl | rfl | rfl | rfl | rfl | rfl | rfl | rfl | rfl | rfl | rfl | rfl | rfl | rfl | rfl | rfl | rfl | rfl
    · exact va_eqt (hq _ (by decide +kernel))
    · exact va_eqt (hq _ (by decide +kernel))
    · exact va_eqt (hq _ (by decide +kernel))
    · exact va_eqt (hq _ (by decide +kernel))
    · exact va_eqt (hq _ (by decide +kernel))
    · exact va_eqt (hq _ (by decide +kernel))
    · exact va_eqt (hq _ (by decide +kernel))
    · exact va_eqt (hq _ (by decide +kernel))
    · exact va_eqt (hq _ (by decide +kernel))
    · exact va_eqt (hq _ (by decide +kernel))
    · exact va_eqt (hq _ (by decide +kernel))
    · exact va_eqt (hq _ (by decide +kernel))
    · exact va_eqt (hq _ (by decide +kernel))
    · exact va_eqt (hq _ (by decide +kernel))
    · exact va_eqt (hq _ (by decide +kernel))
    · exact va_eqt (hq _ (by decide +kernel))
    · exact va_eqt (hq _ (by decide +kernel))
    · exact va_eqt (hq _ (by decide +kernel))) hA
  have z3 := va_Zref (A := fun q => s.heap.size ≤ q) (hts (.laysStatic "VoiceParts" "ORDERS_OF_THREE" "[I") (by decide +kernel)) hi e3 hA
  exact ⟨fun n => if n = 1 then t1 else if n = 2 then t2 else t3, ⟨z1, y1⟩, ⟨z2, y2⟩, z3, y3⟩
set_option maxHeartbeats 4000000 in
set_option maxRecDepth 100000 in
/-- THE LOOP: i ints of the script are read, and the same state stands on both sides -/
theorem law_loop {p : Program} {l : Launch} {e : Env} {s : State} {m : MethodId} {below : List Frame} {meth : Method} {c : Code} {b L : Nat} {xs : Nat → Int32} {t : Nat → Nat} {D : va_G} {h : Nat → Nat} {cI : ClassId} {g : Nat → Nat} {cJ cZ : ClassId} (C : LwC p s m c b L xs t D h cI g cJ cZ) (hr : meth.sig.returnType = ret) (hlocks : meth.locks = false) :
    ∀ (n i : Nat), i ≤ L → L + 1 ≤ i + n → ∀ (A : St) (M : Nat → Int32) (H : Heap) (locs : List Loc), LwS s D h cI g cJ cZ A M H locs → ∀ ls : Array Slot, lv_has ls 4 [(0, .ref b), (1, .ref (h 0)), (2, .ref (g 0)), (3, .int (nI i))] → W p l e room_1 s m #[Value.ref b] below meth c H locs 14 591 (lw_Z below #[Value.ref b] s) (F0 m 18 ls []) := by
  obtain ⟨hx, hb, hml, hown, hts, hX, hbl, hST, hK, hK2, hap, hL⟩ := id C
  have hbA : ¬ (fun q : Nat => s.heap.size ≤ q) b := Nat.not_le.mpr hbl
  intro n
  induction n with
  | zero =>
    intro i h1 h2
    exact absurd h2 (by omega)
  | succ n ih =>
    intro i h1 h2 A M H locs S ls hl
    obtain ⟨hI, hP, hD, hP2, hD2, hS⟩ := id S
    refine lv_iload_n hx hb dL_law_18 rfl (lv_at hl 3 rfl) ?_
    refine lv_aload_n hx hb dL_law_19 rfl (lv_at hl 0 rfl) ?_
    refine va_slen hx hb hX hbl hbA hS dL_law_20 ?_
    refine n_top (y := nI L) rfl ?_
    refine lv_iconst (v := nI 5) hx hb dL_law_21 (by decide) ?_
    refine lv_isub hx hb dL_law_22 ?_
    refine lv_icmp_gt (tgt := 829) hx hb dL_law_23 (by decide) (fun c1 => ?_) (fun c1 => ?_)
    · refine lv_iconst (v := 1) hx hb dL_law_829 (by decide) ?_
      refine va_forget (fun q hq => hS.2.2 q hq) ?_
      exact lw_ret hx hb hr hlocks dL_law_830
    · have hlt : i + 5 ≤ L := by
        have e1 : (nI L - nI 5).toInt = (L : Int) - (5 : Nat) := pk_sub_toInt (by omega) (by omega)
        have e2 : (nI i).toInt = (i : Int) := nI_toInt (by omega)
        rcases Nat.lt_or_ge L (i + 5) with q | q
        · exact absurd (Int32.lt_iff_toInt_lt.mpr (by rw [e1, e2]; omega)) c1
        · exact q
      refine lv_aload_n hx hb dL_law_26 rfl (lv_at hl 0 rfl) ?_
      refine lv_iload_n hx hb dL_law_27 rfl (lv_at hl 3 rfl) ?_
      refine n_sld hx hb hX hbl hbA hS (show i < L by omega) (by omega) dL_law_28 ?_
      refine lv_bipush (v := nI 31) hx hb dL_law_29 (by decide) ?_
      refine lv_iand hx hb dL_law_31 ?_
      obtain ⟨w, hw, ew⟩ := pk_andE (xs i) (m := nI 31) 5 (by decide)
      refine n_top (y := nI w) ew ?_
      have K : ∀ (A : St) (M : Nat → Int32) (H : Heap) (locs : List Loc), LwS s D h cI g cJ cZ A M H locs → W p l e room_1 s m #[Value.ref b] below meth c H locs 14 591 (lw_Z below #[Value.ref b] s) (F0 m 823 ls []) := by
        intro A M H locs S
        refine lv_iinc (v := nI (i + 5)) (lv' := [(3, .int (nI (i + 5))), (0, .ref b), (1, .ref (h 0)), (2, .ref (g 0))]) hx hb dL_law_823 hl (k := 3) rfl (nI_add _ 5) (by decide) rfl (fun ls hl => ?_)
        refine lv_goto (tgt := 18) hx hb dL_law_826 (by decide) ?_
        exact ih (i + 5) hlt (by omega) A M H locs S ls (lv_sub hl [1, 2, 3, 0] rfl)
      have hw : w < 32 := hw
      by_cases hw2 : w < 22
      · rcases (show w = 0 ∨ w = 1 ∨ w = 2 ∨ w = 3 ∨ w = 4 ∨ w = 5 ∨ w = 6 ∨ w = 7 ∨ w = 8 ∨ w = 9 ∨ w = 10 ∨ w = 11 ∨ w = 12 ∨ w = 13 ∨ w = 14 ∨ w = 15 ∨ w = 16 ∨ w = 17 ∨ w = 18 ∨ w = 19 ∨ w = 20 ∨ w = 21 by omega) with rfl | rfl | rfl | rfl | rfl | rfl | rfl | rfl | rfl | rfl | rfl | rfl | rfl | rfl | rfl | rfl | rfl | rfl | rfl | rfl | rfl | rfl
        · exact lv_tableIn (off := 104) (tgt := 136) hx hb dL_law_32 (by decide) (by decide) (by decide +kernel) (by decide) (lc_board C S hlt hl K)
        · exact lv_tableIn (off := 147) (tgt := 179) hx hb dL_law_32 (by decide) (by decide) (by decide +kernel) (by decide) (lc_set C S hlt hl K)
        · exact lv_tableIn (off := 190) (tgt := 222) hx hb dL_law_32 (by decide) (by decide) (by decide +kernel) (by decide) (lc_at C S hlt hl K)
        · exact lv_tableIn (off := 233) (tgt := 265) hx hb dL_law_32 (by decide) (by decide) (by decide +kernel) (by decide) (lc_number C S hlt hl K)
        · exact lv_tableIn (off := 276) (tgt := 308) hx hb dL_law_32 (by decide) (by decide) (by decide +kernel) (by decide) (lc_begin C S hlt hl K)
        · exact lv_tableIn (off := 329) (tgt := 361) hx hb dL_law_32 (by decide) (by decide) (by decide +kernel) (by decide) (lc_bar C S hlt hl K)
        · exact lv_tableIn (off := 372) (tgt := 404) hx hb dL_law_32 (by decide) (by decide) (by decide +kernel) (by decide) (lc_judge C S hlt hl K)
        · exact lv_tableIn (off := 395) (tgt := 427) hx hb dL_law_32 (by decide) (by decide) (by decide +kernel) (by decide) (lc_cost C S hlt hl K)
        · exact lv_tableIn (off := 428) (tgt := 460) hx hb dL_law_32 (by decide) (by decide) (by decide +kernel) (by decide) (lc_miss C S hlt hl K)
        · exact lv_tableIn (off := 441) (tgt := 473) hx hb dL_law_32 (by decide) (by decide) (by decide +kernel) (by decide) (lc_rounds C S hlt hl K)
        · exact lv_tableIn (off := 464) (tgt := 496) hx hb dL_law_32 (by decide) (by decide) (by decide +kernel) (by decide) (lc_share C S hlt hl K)
        · exact lv_tableIn (off := 507) (tgt := 539) hx hb dL_law_32 (by decide) (by decide) (by decide +kernel) (by decide) (lc_background C S hlt hl K)
        · exact lv_tableIn (off := 550) (tgt := 582) hx hb dL_law_32 (by decide) (by decide) (by decide +kernel) (by decide) (lc_period C S hlt hl K)
        · exact lv_tableIn (off := 563) (tgt := 595) hx hb dL_law_32 (by decide) (by decide) (by decide +kernel) (by decide) (lc_hear C S hlt hl K)
        · exact lv_tableIn (off := 596) (tgt := 628) hx hb dL_law_32 (by decide) (by decide) (by decide +kernel) (by decide) (lc_clear C S hlt hl K)
        · exact lv_tableIn (off := 619) (tgt := 651) hx hb dL_law_32 (by decide) (by decide) (by decide +kernel) (by decide) (lc_later C S hlt hl K)
        · exact lv_tableIn (off := 632) (tgt := 664) hx hb dL_law_32 (by decide) (by decide) (by decide +kernel) (by decide) (lc_turned C S hlt hl K)
        · exact lv_tableIn (off := 665) (tgt := 697) hx hb dL_law_32 (by decide) (by decide) (by decide +kernel) (by decide) (lc_truth C S hlt hl K)
        · exact lv_tableIn (off := 718) (tgt := 750) hx hb dL_law_32 (by decide) (by decide) (by decide +kernel) (by decide) (lc_apart C S hlt hl K)
        · exact lv_tableIn (off := 741) (tgt := 773) hx hb dL_law_32 (by decide) (by decide) (by decide +kernel) (by decide) (lc_order C S hlt hl K)
        · exact lv_tableIn (off := 754) (tgt := 786) hx hb dL_law_32 (by decide) (by decide) (by decide +kernel) (by decide) (lc_count C S hlt hl K)
        · exact lv_tableIn (off := 777) (tgt := 809) hx hb dL_law_32 (by decide) (by decide) (by decide +kernel) (by decide) (lc_trace C S hlt hl K)
      · exact lv_tableOut (tgt := 823) hx hb dL_law_32 (Or.inr (by rw [nI_toInt (by omega)]; omega)) (by decide) (K A M H locs S)
set_option maxHeartbeats 4000000 in
set_option maxRecDepth 100000 in
/-- THE LAW, from its entry -/
theorem whole_start {p : Program} {e : Env} {s : State} {m : MethodId} {below : List Frame} {meth : Method} {c : Code} (l : Launch) {b L : Nat} {xs : Nat → Int32} (hL : L ≤ 2560) (C0 : lw_At p s m meth c b L xs) : W p l e room_1 s m #[Value.ref b] below meth c s.heap [] 0 0 (lw_Z below #[Value.ref b] s) (entryFrame m ([Value.ref b] : List Value).toArray 4) := by
  obtain ⟨hx, hb, hr, hml, hown0, hts0, hX, hbl, hlocks, hgv⟩ := C0
  have hb : c.code = cL_law := hb
  have hts : ∀ w ∈ wsL_law, w.before #[Value.ref b] s = true := fun w h => hts0 w (wsL_law_in w h)
  have hown : s.vm.findClass RL = some m.cls := hown0
  obtain ⟨t, hST⟩ := law_st hts0 hgv
  have hin0 : ∀ w ∈ u_ws RX0 TX0 12, w ∈ wsL_law := fun w h => List.mem_append_left _ (List.mem_append_left _ (List.mem_append_right _ h))
  have hin1 : ∀ w ∈ u_ws RX1 TX1 13, w ∈ wsL_law := fun w h => List.mem_append_left _ (List.mem_append_right _ h)
  have hr1 : ∀ w ∈ wsL_law_r1, w.before #[Value.ref b] s = true := fun w h => hts w (List.mem_append_left _ (List.mem_append_left _ (List.mem_append_left _ (List.mem_append_left _ h))))
  have hr2 : ∀ w ∈ wsL_law_r2, w.before #[Value.ref b] s = true := fun w h => hts w (List.mem_append_left _ (List.mem_append_left _ (List.mem_append_left _ (List.mem_append_right _ (List.mem_append_left _ h)))))
  have hA : ∀ q : Nat, s.heap.size ≤ q → (fun q : Nat => s.heap.size ≤ q) q := fun _ h => h
  obtain ⟨c0, iS0, hKn0⟩ := u_known (C := RX0) (T := TX0) (N := 12) (n := 12) hts hin0 (hr1 (.instantiable RX0 12) (by decide +kernel))
  obtain ⟨c1, iS1, hKn1⟩ := u_known (C := RX1) (T := TX1) (N := 13) (n := 13) hts hin1 (hr1 (.instantiable RX1 13) (by decide +kernel))
  obtain ⟨D, hKc⟩ : ∃ D : va_G, ∀ (k : Nat) (q : vw_C), vwCl[k]? = some q → u_Kn s q.1 q.2.1 q.2.2 (D.1 k) (D.2 k) := by
    refine ⟨(fun k => if k = 0 then c0 else c1, fun k => if k = 0 then iS0 else iS1), ?_⟩
    intro k q hq
    match k, hq with
    | 0, hq => cases hq; exact hKn0
    | 1, hq => cases hq; exact hKn1
    | k + 2, hq => simp [vwCl] at hq
  have hS : va_S (fun q : Nat => s.heap.size ≤ q) s.heap s.heap [] := va_S.rf
  have hK : va_K D vwCl [] s := ⟨hKc, fun k q h => by simp at h⟩
  have hP : va_P D vwCl [] s.heap := fun k q h => by simp at h
  have hD : va_D (fun q : Nat => s.heap.size ≤ q) [] := ⟨fun i j p q h => by simp at h, fun k q h => by simp at h⟩
  have hl := lv_entry ([.ref b]) (n := 4) (Nat.le_of_ble_eq_true rfl)
  rw [lg_entry_eq]
  generalize (lg_sl ([.ref b]) ++ List.replicate (4 - (lg_sl ([.ref b])).length) Slot.unset).toArray = ls at hl ⊢
  have hl : lv_has ls 4 [(0, .ref b)] := hl
  refine va_new (ci := 0) (fs := [.int 0, .int 0, .int 0, .null, .null, .long 0, .null, .null, .null, .int 0, .int 0, .long 0]) (C := RX0) (T := TX0) (N := 12) hx hb hts hin0 tyX0 tyX0_ok hown (hr1 (.classLink RL 7 RX0) (by decide +kernel)) (hr1 (.instantiable RX0 12) (by decide +kernel)) (hr1 (.initialized RX0) (by decide +kernel)) hK hP hD hS hA rfl (fun j hj => by rcases (show j = 0 ∨ j = 1 ∨ j = 2 ∨ j = 3 ∨ j = 4 ∨ j = 5 ∨ j = 6 ∨ j = 7 ∨ j = 8 ∨ j = 9 ∨ j = 10 ∨ j = 11 by omega) with rfl | rfl | rfl | rfl | rfl | rfl | rfl | rfl | rfl | rfl | rfl | rfl <;> rfl) (Nat.le_of_ble_eq_true rfl) (Nat.le_of_ble_eq_true rfl) dL_law_0 (fun q0 H hP hD hS => ?_)
  have hP : va_P D vwCl [(q0, .inr (0, [.int 0, .int 0, .int 0, .null, .null, .long 0, .null, .null, .null, .int 0, .int 0, .long 0]))] H := hP
  have hD : va_D (fun q : Nat => s.heap.size ≤ q) [(q0, .inr (0, [.int 0, .int 0, .int 0, .null, .null, .long 0, .null, .null, .null, .int 0, .int 0, .long 0]))] := hD
  refine W.widen (k := 1) (n := 12) (by omega) (by omega) ?_
  refine lv_dup hx hb dL_law_3 rfl ?_
  have hFc := va_free (wc := [(q0, .inr (0, [.int 0, .int 0, .int 0, .null, .null, .long 0, .null, .null, .null, .int 0, .int 0, .long 0]))]) hD hS hA [0] rfl
  refine va_callv (va_runI (As := []) (rest := [.ref q0]) ⟨hx, hb, hml, hown, hts⟩ (kX0_init l D q0 H.size) (cwI 0 hts gL_law_X0_init rfl rfl rfl (hr1 (.initialized RX0) (by decide +kernel)) (hr1 (.methodLink RL 9 yX0_init) (by decide +kernel)) (hr1 (.instanceMethod yX0_init) (by decide +kernel)) rfl (by decide +kernel) ⟨Nat.le_of_ble_eq_true rfl, Nat.le_of_ble_eq_true rfl⟩) ⟨fun a U g mk q => by obtain ⟨z0, z1, zP, zK, zD⟩ := q; exact ⟨z0, z1, zP, va_K.moved (u := U) (U := U.calling g mk a) (Vm.Alike.refl U.vm) zK, zD⟩, fun U hU hW => ⟨rfl, by rw [hU], by rw [hU]; exact hP, va_K.moved hW.alike hK, hD.weaken (fun _ _ _ _ => trivial)⟩⟩ rfl rfl hl.1 rfl (lv_room (Nat.le_of_ble_eq_true rfl)) dL_law_4 ⟨Nat.le_of_ble_eq_true rfl, Nat.le_of_ble_eq_true rfl⟩) hS (fun q _ h => hFc q h) hFc (fun u t1 H1 locs ht hvm hw hB hz1 hk1 hS => ?_)
  obtain ⟨h, cI⟩ := u
  obtain ⟨hP1, hK1, hD1⟩ := hB
  rw [ht] at hP1
  have hK1 : va_K D vwCl [(cI, .int)] s := va_K.moved hvm.symm hK1
  have hw : h 0 = q0 := hw
  have hPx : va_P D vwCl (xw h cI A0) H1 := hP1
  have hDx : va_D (fun q : Nat => s.heap.size ≤ q) (xw h cI A0) := hD1.weaken (fun _ q _ hq => hFc q.1 hq)
  clear hP hD hFc hz1 hk1 ht hvm hD1 hP1
  refine W.widen (k := 6) (n := 264) (by omega) (by omega) ?_
  refine lv_astore_n (lv' := [(1, .ref q0), (0, .ref b)]) hx hb dL_law_7 rfl hl (by decide) rfl (fun ls hl => ?_)
  refine va_new (ci := 1) (fs := [.int 0, .int 0, .int 0, .null, .null, .null, .null, .int 0, .int 0, .null, .null, .long 0, .null]) (C := RX1) (T := TX1) (N := 13) hx hb hts hin1 tyX1 tyX1_ok hown (hr1 (.classLink RL 10 RX1) (by decide +kernel)) (hr1 (.instantiable RX1 13) (by decide +kernel)) (hr1 (.initialized RX1) (by decide +kernel)) hK1 hPx hDx hS hA rfl (fun j hj => by rcases (show j = 0 ∨ j = 1 ∨ j = 2 ∨ j = 3 ∨ j = 4 ∨ j = 5 ∨ j = 6 ∨ j = 7 ∨ j = 8 ∨ j = 9 ∨ j = 10 ∨ j = 11 ∨ j = 12 by omega) with rfl | rfl | rfl | rfl | rfl | rfl | rfl | rfl | rfl | rfl | rfl | rfl | rfl <;> rfl) (Nat.le_of_ble_eq_true rfl) (Nat.le_of_ble_eq_true rfl) dL_law_8 (fun q1 H2 hP hD hS => ?_)
  refine W.widen (k := 7) (n := 277) (by omega) (by omega) ?_
  refine lv_dup hx hb dL_law_11 rfl ?_
  have hPc := hP.sub (ws' := [(q1, .inr (1, [.int 0, .int 0, .int 0, .null, .null, .null, .null, .int 0, .int 0, .null, .null, .long 0, .null]))]) [6] rfl
  have hDc := hD.sub (ws' := [(q1, .inr (1, [.int 0, .int 0, .int 0, .null, .null, .null, .null, .int 0, .int 0, .null, .null, .long 0, .null]))]) [6] (by decide) rfl
  have hFc := va_free (wc := [(q1, .inr (1, [.int 0, .int 0, .int 0, .null, .null, .null, .null, .int 0, .int 0, .null, .null, .long 0, .null]))]) hD hS hA [6] rfl
  refine va_callv (va_runI (As := []) (rest := [.ref q1]) ⟨hx, hb, hml, hown, hts⟩ (kX1_init l D q1 H2.size) (cwI 0 hts gL_law_X1_init rfl rfl rfl (hr1 (.initialized RX1) (by decide +kernel)) (hr2 (.methodLink RL 12 yX1_init) (by decide +kernel)) (hr2 (.instanceMethod yX1_init) (by decide +kernel)) rfl (by decide +kernel) ⟨Nat.le_of_ble_eq_true rfl, Nat.le_of_ble_eq_true rfl⟩) ⟨fun a U g mk q => by obtain ⟨z0, z1, zP, zK, zD⟩ := q; exact ⟨z0, z1, zP, va_K.moved (u := U) (U := U.calling g mk a) (Vm.Alike.refl U.vm) zK, zD⟩, fun U hU hW => ⟨rfl, by rw [hU], by rw [hU]; exact hPc, va_K.moved hW.alike hK, hDc.weaken (fun _ _ _ _ => trivial)⟩⟩ rfl rfl hl.1 rfl (lv_room (Nat.le_of_ble_eq_true rfl)) dL_law_12 ⟨Nat.le_of_ble_eq_true rfl, Nat.le_of_ble_eq_true rfl⟩) hS (fun q _ h => hFc q h) hFc (fun u t1 H3 locs ht hvm hw2 hB hz1 hk1 hS => ?_)
  obtain ⟨g, cJ, cZ, M⟩ := u
  obtain ⟨hP1, hK2, hD1⟩ := hB
  rw [ht] at hP1
  have hK2 : va_K D vwCl [(cJ, .int), (cZ, .boolean)] s := va_K.moved hvm.symm hK2
  have hw2 : g 0 = q1 := hw2
  have hPm : va_P D vwCl (mw g cJ cZ A0 M) H3 := hP1
  have hDm : va_D (fun q : Nat => s.heap.size ≤ q) (mw g cJ cZ A0 M) := hD1.weaken (fun _ q _ hq => hFc q.1 hq)
  obtain ⟨hPj, hDj⟩ := va_join (wr := xw h cI A0) (w1 := mw g cJ cZ A0 M) hP hD [6] [0, 1, 2, 3, 4, 5] rfl rfl (by decide) (by decide) hk1 hFc hP1 hD1
  have hPx : va_P D vwCl (xw h cI A0) H3 := hPj.sub [0, 1, 2, 3, 4, 5] rfl
  have hap := apart_of hDj
  refine W.widen (k := 14) (n := 591) (by omega) (by omega) ?_
  refine lv_astore_n (lv' := [(2, .ref q1), (1, .ref q0), (0, .ref b)]) hx hb dL_law_15 rfl hl (by decide) rfl (fun ls hl => ?_)
  refine lv_iconst (v := nI 0) hx hb dL_law_16 (by decide) ?_
  refine lv_istore_n (lv' := [(3, .int (nI 0)), (2, .ref q1), (1, .ref q0), (0, .ref b)]) hx hb dL_law_17 rfl hl (by decide) rfl (fun ls hl => ?_)
  subst hw
  subst hw2
  exact law_loop ⟨hx, hb, hml, hown, hts, hX, hbl, hST, hK1, hK2, hap, hL⟩ hr hlocks (L + 1) 0 (Nat.zero_le _) (by omega) A0 M H3 _ ⟨iv_0, hPx, hDx, hPm, hDm, hS⟩ ls (lv_sub hl [3, 2, 1, 0] rfl)
