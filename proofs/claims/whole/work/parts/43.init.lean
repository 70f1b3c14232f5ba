theorem hby_int (n : Nat) (h : n ≤ 1000) : n * componentBytes .int ≤ 536870912 := by have e : componentBytes .int = 4 := rfl; rw [e]; omega
theorem hby_boolean (n : Nat) (h : n ≤ 1000) : n * componentBytes .boolean ≤ 536870912 := by have e : componentBytes .boolean = 1 := rfl; rw [e]; omega
theorem na_int (n : Nat) : ∀ cA : ClassId, vp_cell cA (n, .inl (fun _ => nI 0)) = arrV cA n (fun _ => defaultValue .int) := fun _ => rfl
theorem na_boolean (n : Nat) : ∀ cA : ClassId, vp_cell cA (n, .inl (fun _ => nI 0)) = arrV cA n (fun _ => defaultValue .boolean) := fun _ => rfl
def rmX0_init : Room := { frames := 2, cells := 5, slots := 252, locals := 46 }
set_option maxHeartbeats 1000000 in
set_option maxRecDepth 100000 in
theorem kX0_init (l : Launch) (D : va_G) (h0 sz : Nat) : Met l yX0_init wsX0_init rmX0_init (va_Pc [.ref h0] (fun U => U.heap.size = sz ∧ va_P D vwCl [(h0, .inr (0, [.int 0, .int 0, .int 0, .null, .null, .long 0, .null, .null, .null, .int 0, .int 0, .long 0]))] U.heap ∧ va_K D vwCl [] U ∧ va_D (fun _ => True) [(h0, .inr (0, [.int 0, .int 0, .int 0, .null, .null, .long 0, .null, .null, .null, .int 0, .int 0, .long 0]))])) (va_Qv (fun u : (Nat → Nat) × ClassId => u.1 0 = h0) (fun (u : (Nat → Nat) × ClassId) (t : State) => va_P D vwCl (xw u.1 u.2 A0) t.heap ∧ va_K D vwCl [(u.2, .int)] t ∧ va_D (va_A [(h0, .inr (0, [.int 0, .int 0, .int 0, .null, .null, .long 0, .null, .null, .null, .int 0, .int 0, .long 0]))] sz) (xw u.1 u.2 A0)) (va_A [(h0, .inr (0, [.int 0, .int 0, .int 0, .null, .null, .long 0, .null, .null, .null, .int 0, .int 0, .long 0]))] sz)) 5 252 (va_A [(h0, .inr (0, [.int 0, .int 0, .int 0, .null, .null, .long 0, .null, .null, .null, .int 0, .int 0, .long 0]))] sz) := by
  refine Met.ofW (cc := cX0_init) (maxL := 1) (ret := none) (by decide) rfl ?_
  intro p e s m args below meth c s₁ Bd hml hv
  obtain ⟨rfl, hsz, hP, hK, hD0⟩ := hv
  have hx := Bd.exec
  have hb := Bd.bytes
  have hr := Bd.returns
  have hts := atoms_spec (ws := wsX0_init) Bd.pre
  have hown : s.vm.findClass RX0 = some m.cls := findClass_of_methodNamed Bd.named
  have hlocks := Bd.notSynchronized
  have hin : meth.name = "<init>" := (name_of_methodNamed Bd.named Bd.method).1
  subst hsz
  have hD := hD0.self (sz := s.heap.size)
  generalize hAe : va_A [(h0, .inr (0, [.int 0, .int 0, .int 0, .null, .null, .long 0, .null, .null, .null, .int 0, .int 0, .long 0]))] s.heap.size = G at hD ⊢
  have hA : ∀ q : Nat, s.heap.size ≤ q → G q := fun q h => by rw [← hAe]; exact Or.inr h
  have hS : va_S G s.heap s.heap [] := va_S.rf
  have hin0 : ∀ w ∈ u_ws RX0 TX0 12, w ∈ wsX0_init := fun _ h => List.mem_cons_of_mem _ (List.mem_append_right _ h)
  have hl := lv_entry ([.ref h0]) (n := 1) (Nat.le_of_ble_eq_true rfl)
  rw [lg_entry_eq]
  generalize (lg_sl ([.ref h0]) ++ List.replicate (1 - (lg_sl ([.ref h0])).length) Slot.unset).toArray = ls at hl ⊢
  have hl : lv_has ls 1 [(0, .ref h0)] := hl
  refine lv_aload_n hx hb dX0_init_0 rfl (lv_at hl 0 rfl) ?_
  refine W.objInit hx hb hown (hts (.methodLink RX0 3 objectInit) (by decide +kernel)) (hts (.instanceMethod objectInit) (by decide +kernel)) (hts (.code objectInit ⟨#[0xb1]⟩ 1 none) (List.mem_cons_of_mem _ (List.mem_append_left _ (List.mem_of_getElem? (i := 2) rfl)))) rfl (by rw [hml]; exact hl.1) rfl dX0_init_1 (Nat.le_of_ble_eq_true rfl) (Nat.le_of_ble_eq_true rfl) ?_
  refine W.eq (g2 := F0 m 4 ls []) rfl ?_
  refine lv_aload_n hx hb dX0_init_4 rfl (lv_at hl 0 rfl) ?_
  refine lv_bipush (v := nI 48) hx hb dX0_init_5 (by decide) ?_
  refine va_newa (atype := .int) hx hb (hts (.arrayClass .int) (by decide +kernel)) (ty := .int) rfl hK hP hD hS hA (a0 := (48, .inl (fun _ => nI 0))) (na_int 48) (nI_pos (n := 48) (by decide)) (nI_clamp (n := 48) (by decide)) (hby_int 48 (by decide)) (Nat.le_of_ble_eq_true rfl) (Nat.le_of_ble_eq_true rfl) dX0_init_7 (fun q1 c1 H hK hP hD hS => ?_)
  have hK : va_K D vwCl [(c1, .int)] s := hK
  have hP : va_P D vwCl [(h0, .inr (0, [.int 0, .int 0, .int 0, .null, .null, .long 0, .null, .null, .null, .int 0, .int 0, .long 0])), (q1, .inl (c1, 48, .inl (fun _ => nI 0)))] H := hP
  have hD : va_D G [(h0, .inr (0, [.int 0, .int 0, .int 0, .null, .null, .long 0, .null, .null, .null, .int 0, .int 0, .long 0])), (q1, .inl (c1, 48, .inl (fun _ => nI 0)))] := hD
  refine W.widen (k := 1) (n := 48) (Nat.le_of_ble_eq_true rfl) (Nat.le_of_ble_eq_true rfl) ?_
  refine va_putF (D := D) (ci := 0) (v := .ref q1) (ty := .array .int) (C := RX0) (T := TX0) (N := 12) hx hb hts hin0 tyX0 tyX0_ok nmX0 hown hK hP hD hS 0 rfl rfl 3 (by decide) (hts (.fieldLink RX0 9 "VoiceParts" "boardNumbers" "[I") (by decide +kernel)) (fun _ h9 => h9) rfl hin rfl (by decide +kernel) rfl rfl (Nat.le_of_ble_eq_true rfl) dX0_init_9 (fun H locs hP hD hS => ?_)
  have hP : va_P D vwCl [(h0, .inr (0, [.int 0, .int 0, .int 0, .ref q1, .null, .long 0, .null, .null, .null, .int 0, .int 0, .long 0])), (q1, .inl (c1, 48, .inl (fun _ => nI 0)))] H := hP
  have hD : va_D G [(h0, .inr (0, [.int 0, .int 0, .int 0, .ref q1, .null, .long 0, .null, .null, .null, .int 0, .int 0, .long 0])), (q1, .inl (c1, 48, .inl (fun _ => nI 0)))] := hD
  refine lv_aload_n hx hb dX0_init_12 rfl (lv_at hl 0 rfl) ?_
  refine lv_bipush (v := nI 42) hx hb dX0_init_13 (by decide) ?_
  refine va_newa (atype := .int) hx hb (hts (.arrayClass .int) (by decide +kernel)) (ty := .int) rfl hK hP hD hS hA (a0 := (42, .inl (fun _ => nI 0))) (na_int 42) (nI_pos (n := 42) (by decide)) (nI_clamp (n := 42) (by decide)) (hby_int 42 (by decide)) (Nat.le_of_ble_eq_true rfl) (Nat.le_of_ble_eq_true rfl) dX0_init_15 (fun q2 c2 H hK hP hD hS => ?_)
  obtain rfl : c1 = c2 := Option.some.inj ((hK.2 0 _ rfl).2.symm.trans (hK.2 1 _ rfl).2)
  have hK : va_K D vwCl [(c1, .int)] s := hK.sub [0] rfl
  have hP : va_P D vwCl [(h0, .inr (0, [.int 0, .int 0, .int 0, .ref q1, .null, .long 0, .null, .null, .null, .int 0, .int 0, .long 0])), (q1, .inl (c1, 48, .inl (fun _ => nI 0))), (q2, .inl (c1, 42, .inl (fun _ => nI 0)))] H := hP
  have hD : va_D G [(h0, .inr (0, [.int 0, .int 0, .int 0, .ref q1, .null, .long 0, .null, .null, .null, .int 0, .int 0, .long 0])), (q1, .inl (c1, 48, .inl (fun _ => nI 0))), (q2, .inl (c1, 42, .inl (fun _ => nI 0)))] := hD
  refine W.widen (k := 2) (n := 90) (Nat.le_of_ble_eq_true rfl) (Nat.le_of_ble_eq_true rfl) ?_
  refine va_putF (D := D) (ci := 0) (v := .ref q2) (ty := .array .int) (C := RX0) (T := TX0) (N := 12) hx hb hts hin0 tyX0 tyX0_ok nmX0 hown hK hP hD hS 0 rfl rfl 4 (by decide) (hts (.fieldLink RX0 13 "VoiceParts" "voiceNumbers" "[I") (by decide +kernel)) (fun _ h9 => h9) rfl hin rfl (by decide +kernel) rfl rfl (Nat.le_of_ble_eq_true rfl) dX0_init_17 (fun H locs hP hD hS => ?_)
  have hP : va_P D vwCl [(h0, .inr (0, [.int 0, .int 0, .int 0, .ref q1, .ref q2, .long 0, .null, .null, .null, .int 0, .int 0, .long 0])), (q1, .inl (c1, 48, .inl (fun _ => nI 0))), (q2, .inl (c1, 42, .inl (fun _ => nI 0)))] H := hP
  have hD : va_D G [(h0, .inr (0, [.int 0, .int 0, .int 0, .ref q1, .ref q2, .long 0, .null, .null, .null, .int 0, .int 0, .long 0])), (q1, .inl (c1, 48, .inl (fun _ => nI 0))), (q2, .inl (c1, 42, .inl (fun _ => nI 0)))] := hD
  refine lv_aload_n hx hb dX0_init_20 rfl (lv_at hl 0 rfl) ?_
  refine lv_sipush (v := nI 144) hx hb dX0_init_21 (by decide) ?_
  refine va_newa (atype := .int) hx hb (hts (.arrayClass .int) (by decide +kernel)) (ty := .int) rfl hK hP hD hS hA (a0 := (144, .inl (fun _ => nI 0))) (na_int 144) (nI_pos (n := 144) (by decide)) (nI_clamp (n := 144) (by decide)) (hby_int 144 (by decide)) (Nat.le_of_ble_eq_true rfl) (Nat.le_of_ble_eq_true rfl) dX0_init_24 (fun q3 c3 H hK hP hD hS => ?_)
  obtain rfl : c1 = c3 := Option.some.inj ((hK.2 0 _ rfl).2.symm.trans (hK.2 1 _ rfl).2)
  have hK : va_K D vwCl [(c1, .int)] s := hK.sub [0] rfl
  have hP : va_P D vwCl [(h0, .inr (0, [.int 0, .int 0, .int 0, .ref q1, .ref q2, .long 0, .null, .null, .null, .int 0, .int 0, .long 0])), (q1, .inl (c1, 48, .inl (fun _ => nI 0))), (q2, .inl (c1, 42, .inl (fun _ => nI 0))), (q3, .inl (c1, 144, .inl (fun _ => nI 0)))] H := hP
  have hD : va_D G [(h0, .inr (0, [.int 0, .int 0, .int 0, .ref q1, .ref q2, .long 0, .null, .null, .null, .int 0, .int 0, .long 0])), (q1, .inl (c1, 48, .inl (fun _ => nI 0))), (q2, .inl (c1, 42, .inl (fun _ => nI 0))), (q3, .inl (c1, 144, .inl (fun _ => nI 0)))] := hD
  refine W.widen (k := 3) (n := 234) (Nat.le_of_ble_eq_true rfl) (Nat.le_of_ble_eq_true rfl) ?_
  refine va_putF (D := D) (ci := 0) (v := .ref q3) (ty := .array .int) (C := RX0) (T := TX0) (N := 12) hx hb hts hin0 tyX0 tyX0_ok nmX0 hown hK hP hD hS 0 rfl rfl 6 (by decide) (hts (.fieldLink RX0 16 "VoiceParts" "truthNumbers" "[I") (by decide +kernel)) (fun _ h9 => h9) rfl hin rfl (by decide +kernel) rfl rfl (Nat.le_of_ble_eq_true rfl) dX0_init_26 (fun H locs hP hD hS => ?_)
  have hP : va_P D vwCl [(h0, .inr (0, [.int 0, .int 0, .int 0, .ref q1, .ref q2, .long 0, .ref q3, .null, .null, .int 0, .int 0, .long 0])), (q1, .inl (c1, 48, .inl (fun _ => nI 0))), (q2, .inl (c1, 42, .inl (fun _ => nI 0))), (q3, .inl (c1, 144, .inl (fun _ => nI 0)))] H := hP
  have hD : va_D G [(h0, .inr (0, [.int 0, .int 0, .int 0, .ref q1, .ref q2, .long 0, .ref q3, .null, .null, .int 0, .int 0, .long 0])), (q1, .inl (c1, 48, .inl (fun _ => nI 0))), (q2, .inl (c1, 42, .inl (fun _ => nI 0))), (q3, .inl (c1, 144, .inl (fun _ => nI 0)))] := hD
  refine lv_aload_n hx hb dX0_init_29 rfl (lv_at hl 0 rfl) ?_
  refine lv_bipush (v := nI 16) hx hb dX0_init_30 (by decide) ?_
  refine va_newa (atype := .int) hx hb (hts (.arrayClass .int) (by decide +kernel)) (ty := .int) rfl hK hP hD hS hA (a0 := (16, .inl (fun _ => nI 0))) (na_int 16) (nI_pos (n := 16) (by decide)) (nI_clamp (n := 16) (by decide)) (hby_int 16 (by decide)) (Nat.le_of_ble_eq_true rfl) (Nat.le_of_ble_eq_true rfl) dX0_init_32 (fun q4 c4 H hK hP hD hS => ?_)
  obtain rfl : c1 = c4 := Option.some.inj ((hK.2 0 _ rfl).2.symm.trans (hK.2 1 _ rfl).2)
  have hK : va_K D vwCl [(c1, .int)] s := hK.sub [0] rfl
  have hP : va_P D vwCl [(h0, .inr (0, [.int 0, .int 0, .int 0, .ref q1, .ref q2, .long 0, .ref q3, .null, .null, .int 0, .int 0, .long 0])), (q1, .inl (c1, 48, .inl (fun _ => nI 0))), (q2, .inl (c1, 42, .inl (fun _ => nI 0))), (q3, .inl (c1, 144, .inl (fun _ => nI 0))), (q4, .inl (c1, 16, .inl (fun _ => nI 0)))] H := hP
  have hD : va_D G [(h0, .inr (0, [.int 0, .int 0, .int 0, .ref q1, .ref q2, .long 0, .ref q3, .null, .null, .int 0, .int 0, .long 0])), (q1, .inl (c1, 48, .inl (fun _ => nI 0))), (q2, .inl (c1, 42, .inl (fun _ => nI 0))), (q3, .inl (c1, 144, .inl (fun _ => nI 0))), (q4, .inl (c1, 16, .inl (fun _ => nI 0)))] := hD
  refine W.widen (k := 4) (n := 250) (Nat.le_of_ble_eq_true rfl) (Nat.le_of_ble_eq_true rfl) ?_
  refine va_putF (D := D) (ci := 0) (v := .ref q4) (ty := .array .int) (C := RX0) (T := TX0) (N := 12) hx hb hts hin0 tyX0 tyX0_ok nmX0 hown hK hP hD hS 0 rfl rfl 7 (by decide) (hts (.fieldLink RX0 19 "VoiceParts" "rowNumbers" "[I") (by decide +kernel)) (fun _ h9 => h9) rfl hin rfl (by decide +kernel) rfl rfl (Nat.le_of_ble_eq_true rfl) dX0_init_34 (fun H locs hP hD hS => ?_)
  have hP : va_P D vwCl [(h0, .inr (0, [.int 0, .int 0, .int 0, .ref q1, .ref q2, .long 0, .ref q3, .ref q4, .null, .int 0, .int 0, .long 0])), (q1, .inl (c1, 48, .inl (fun _ => nI 0))), (q2, .inl (c1, 42, .inl (fun _ => nI 0))), (q3, .inl (c1, 144, .inl (fun _ => nI 0))), (q4, .inl (c1, 16, .inl (fun _ => nI 0)))] H := hP
  have hD : va_D G [(h0, .inr (0, [.int 0, .int 0, .int 0, .ref q1, .ref q2, .long 0, .ref q3, .ref q4, .null, .int 0, .int 0, .long 0])), (q1, .inl (c1, 48, .inl (fun _ => nI 0))), (q2, .inl (c1, 42, .inl (fun _ => nI 0))), (q3, .inl (c1, 144, .inl (fun _ => nI 0))), (q4, .inl (c1, 16, .inl (fun _ => nI 0)))] := hD
  refine lv_aload_n hx hb dX0_init_37 rfl (lv_at hl 0 rfl) ?_
  refine lv_iconst (v := nI 2) hx hb dX0_init_38 (by decide) ?_
  refine va_newa (atype := .int) hx hb (hts (.arrayClass .int) (by decide +kernel)) (ty := .int) rfl hK hP hD hS hA (a0 := (2, .inl (fun _ => nI 0))) (na_int 2) (nI_pos (n := 2) (by decide)) (nI_clamp (n := 2) (by decide)) (hby_int 2 (by decide)) (Nat.le_of_ble_eq_true rfl) (Nat.le_of_ble_eq_true rfl) dX0_init_39 (fun q5 c5 H hK hP hD hS => ?_)
  obtain rfl : c1 = c5 := Option.some.inj ((hK.2 0 _ rfl).2.symm.trans (hK.2 1 _ rfl).2)
  have hK : va_K D vwCl [(c1, .int)] s := hK.sub [0] rfl
  have hP : va_P D vwCl [(h0, .inr (0, [.int 0, .int 0, .int 0, .ref q1, .ref q2, .long 0, .ref q3, .ref q4, .null, .int 0, .int 0, .long 0])), (q1, .inl (c1, 48, .inl (fun _ => nI 0))), (q2, .inl (c1, 42, .inl (fun _ => nI 0))), (q3, .inl (c1, 144, .inl (fun _ => nI 0))), (q4, .inl (c1, 16, .inl (fun _ => nI 0))), (q5, .inl (c1, 2, .inl (fun _ => nI 0)))] H := hP
  have hD : va_D G [(h0, .inr (0, [.int 0, .int 0, .int 0, .ref q1, .ref q2, .long 0, .ref q3, .ref q4, .null, .int 0, .int 0, .long 0])), (q1, .inl (c1, 48, .inl (fun _ => nI 0))), (q2, .inl (c1, 42, .inl (fun _ => nI 0))), (q3, .inl (c1, 144, .inl (fun _ => nI 0))), (q4, .inl (c1, 16, .inl (fun _ => nI 0))), (q5, .inl (c1, 2, .inl (fun _ => nI 0)))] := hD
  refine W.widen (k := 5) (n := 252) (Nat.le_of_ble_eq_true rfl) (Nat.le_of_ble_eq_true rfl) ?_
  refine va_putF (D := D) (ci := 0) (v := .ref q5) (ty := .array .int) (C := RX0) (T := TX0) (N := 12) hx hb hts hin0 tyX0 tyX0_ok nmX0 hown hK hP hD hS 0 rfl rfl 8 (by decide) (hts (.fieldLink RX0 22 "VoiceParts" "rowSizes" "[I") (by decide +kernel)) (fun _ h9 => h9) rfl hin rfl (by decide +kernel) rfl rfl (Nat.le_of_ble_eq_true rfl) dX0_init_41 (fun H locs hP hD hS => ?_)
  have hP : va_P D vwCl [(h0, .inr (0, [.int 0, .int 0, .int 0, .ref q1, .ref q2, .long 0, .ref q3, .ref q4, .ref q5, .int 0, .int 0, .long 0])), (q1, .inl (c1, 48, .inl (fun _ => nI 0))), (q2, .inl (c1, 42, .inl (fun _ => nI 0))), (q3, .inl (c1, 144, .inl (fun _ => nI 0))), (q4, .inl (c1, 16, .inl (fun _ => nI 0))), (q5, .inl (c1, 2, .inl (fun _ => nI 0)))] H := hP
  have hD : va_D G [(h0, .inr (0, [.int 0, .int 0, .int 0, .ref q1, .ref q2, .long 0, .ref q3, .ref q4, .ref q5, .int 0, .int 0, .long 0])), (q1, .inl (c1, 48, .inl (fun _ => nI 0))), (q2, .inl (c1, 42, .inl (fun _ => nI 0))), (q3, .inl (c1, 144, .inl (fun _ => nI 0))), (q4, .inl (c1, 16, .inl (fun _ => nI 0))), (q5, .inl (c1, 2, .inl (fun _ => nI 0)))] := hD
  obtain ⟨h, rfl, rfl, rfl, rfl, rfl, rfl⟩ : ∃ h : Nat → Nat, h 0 = h0 ∧ h 1 = q1 ∧ h 2 = q2 ∧ h 3 = q3 ∧ h 4 = q4 ∧ h 5 = q5 := ⟨fun i => if i = 0 then h0 else if i = 1 then q1 else if i = 2 then q2 else if i = 3 then q3 else if i = 4 then q4 else q5, rfl, rfl, rfl, rfl, rfl, rfl⟩
  have hP : va_P D vwCl (xw h c1 Z0) H := by unfold xw; rw [show bbOf (sX Z0) = 0 from (show bbOf (fun _ _ => false) = 0 by decide)]; exact hP
  have hD : va_D G (xw h c1 Z0) := va_D.to hD rfl
  refine lv_aload_n hx hb dX0_init_44 rfl (lv_at hl 0 rfl) ?_
  refine lv_iconst (v := nI 4) hx hb dX0_init_45 (by decide) ?_
  refine lv_iconst (v := nI 4) hx hb dX0_init_46 (by decide) ?_
  refine lv_iconst (v := nI 2) hx hb dX0_init_47 (by decide) ?_
  refine mu_callV (As := [.int (nI 4), .int (nI 4), .int (nI 2)]) (rest := []) ⟨hx, hb, hml, hown, hts⟩ (kX0_layBoard l D h c1 Z0 4 4 2) (cwV 3 hts gX0_init_X0_layBoard rfl rfl rfl (by decide +kernel) ⟨Nat.le_of_ble_eq_true rfl, Nat.le_of_ble_eq_true rfl⟩) hP hK hD hS (va_recv hK hP (ci := 0) (q0 := 0) rfl rfl) rfl hl.1 rfl (Nat.le_of_ble_eq_true rfl) dX0_init_48 ⟨Nat.le_of_ble_eq_true rfl, Nat.le_of_ble_eq_true rfl⟩ (fun H locs hP hS _ => ?_)
  have hP : va_P D vwCl (xw h c1 A0) H := hP
  have hD : va_D G (xw h c1 A0) := va_D.to hD rfl
  refine W.eq (g2 := F0 m 51 ls []) rfl ?_
  refine lv_aload_n hx hb dX0_init_51 rfl (lv_at hl 0 rfl) ?_
  refine lv_iconst (v := nI 0) hx hb dX0_init_52 (by decide) ?_
  refine va_put (D := D) (ci := 0) (v := .int (nI 0)) (ty := .int) (C := RX0) (T := TX0) (N := 12) hx hb hts hin0 tyX0 tyX0_ok nmX0 hown hK hP hD hS 0 rfl rfl 9 (by decide) (hts (.fieldLink RX0 29 "VoiceParts" "judgeKind" "I") (by decide +kernel)) (fun _ h9 => h9) rfl (by decide +kernel) rfl rfl (Nat.le_of_ble_eq_true rfl) dX0_init_53 (fun H locs hP hD hS => ?_)
  have hP : va_P D vwCl (xw h c1 A0) H := hP
  have hD : va_D G (xw h c1 A0) := hD
  exact W.vret hx hb hr (fun t ht hW => ⟨⟨(h, c1), rfl, rfl, by rw [ht]; exact hP, va_K.moved hW.alike hK, hD⟩, hS.F ht⟩) hS.2.2 dX0_init_56
def rmX1_init : Room := { frames := 1, cells := 7, slots := 314, locals := 24 }
set_option maxHeartbeats 1000000 in
set_option maxRecDepth 100000 in
theorem kX1_init (l : Launch) (D : va_G) (h0 sz : Nat) : Met l yX1_init wsX1_init rmX1_init (va_Pc [.ref h0] (fun U => U.heap.size = sz ∧ va_P D vwCl [(h0, .inr (1, [.int 0, .int 0, .int 0, .null, .null, .null, .null, .int 0, .int 0, .null, .null, .long 0, .null]))] U.heap ∧ va_K D vwCl [] U ∧ va_D (fun _ => True) [(h0, .inr (1, [.int 0, .int 0, .int 0, .null, .null, .null, .null, .int 0, .int 0, .null, .null, .long 0, .null]))])) (va_Qv (fun u : (Nat → Nat) × ClassId × ClassId × (Nat → Int32) => u.1 0 = h0) (fun (u : (Nat → Nat) × ClassId × ClassId × (Nat → Int32)) (t : State) => va_P D vwCl (mw u.1 u.2.1 u.2.2.1 A0 u.2.2.2) t.heap ∧ va_K D vwCl [(u.2.1, .int), (u.2.2.1, .boolean)] t ∧ va_D (va_A [(h0, .inr (1, [.int 0, .int 0, .int 0, .null, .null, .null, .null, .int 0, .int 0, .null, .null, .long 0, .null]))] sz) (mw u.1 u.2.1 u.2.2.1 A0 u.2.2.2)) (va_A [(h0, .inr (1, [.int 0, .int 0, .int 0, .null, .null, .null, .null, .int 0, .int 0, .null, .null, .long 0, .null]))] sz)) 7 314 (va_A [(h0, .inr (1, [.int 0, .int 0, .int 0, .null, .null, .null, .null, .int 0, .int 0, .null, .null, .long 0, .null]))] sz) := by
  refine Met.ofW (cc := cX1_init) (maxL := 1) (ret := none) (by decide) rfl ?_
  intro p e s m args below meth c s₁ Bd hml hv
  obtain ⟨rfl, hsz, hP, hK, hD0⟩ := hv
  have hx := Bd.exec
  have hb := Bd.bytes
  have hr := Bd.returns
  have hts := atoms_spec (ws := wsX1_init) Bd.pre
  have hown : s.vm.findClass RX1 = some m.cls := findClass_of_methodNamed Bd.named
  have hlocks := Bd.notSynchronized
  have hin : meth.name = "<init>" := (name_of_methodNamed Bd.named Bd.method).1
  subst hsz
  have hD := hD0.self (sz := s.heap.size)
  generalize hAe : va_A [(h0, .inr (1, [.int 0, .int 0, .int 0, .null, .null, .null, .null, .int 0, .int 0, .null, .null, .long 0, .null]))] s.heap.size = G at hD ⊢
  have hA : ∀ q : Nat, s.heap.size ≤ q → G q := fun q h => by rw [← hAe]; exact Or.inr h
  have hS : va_S G s.heap s.heap [] := va_S.rf
  have hin0 : ∀ w ∈ u_ws RX1 TX1 13, w ∈ wsX1_init := fun _ h => List.mem_cons_of_mem _ (List.mem_append_right _ h)
  have hl := lv_entry ([.ref h0]) (n := 1) (Nat.le_of_ble_eq_true rfl)
  rw [lg_entry_eq]
  generalize (lg_sl ([.ref h0]) ++ List.replicate (1 - (lg_sl ([.ref h0])).length) Slot.unset).toArray = ls at hl ⊢
  have hl : lv_has ls 1 [(0, .ref h0)] := hl
  refine lv_aload_n hx hb dX1_init_0 rfl (lv_at hl 0 rfl) ?_
  refine W.objInit hx hb hown (hts (.methodLink RX1 1 objectInit) (by decide +kernel)) (hts (.instanceMethod objectInit) (by decide +kernel)) (hts (.code objectInit ⟨#[0xb1]⟩ 1 none) (List.mem_cons_of_mem _ (List.mem_append_left _ (List.mem_of_getElem? (i := 2) rfl)))) rfl (by rw [hml]; exact hl.1) rfl dX1_init_1 (Nat.le_of_ble_eq_true rfl) (Nat.le_of_ble_eq_true rfl) ?_
  refine W.eq (g2 := F0 m 4 ls []) rfl ?_
  refine lv_aload_n hx hb dX1_init_4 rfl (lv_at hl 0 rfl) ?_
  refine lv_bipush (v := nI 48) hx hb dX1_init_5 (by decide) ?_
  refine va_newa (atype := .int) hx hb (hts (.arrayClass .int) (by decide +kernel)) (ty := .int) rfl hK hP hD hS hA (a0 := (48, .inl (fun _ => nI 0))) (na_int 48) (nI_pos (n := 48) (by decide)) (nI_clamp (n := 48) (by decide)) (hby_int 48 (by decide)) (Nat.le_of_ble_eq_true rfl) (Nat.le_of_ble_eq_true rfl) dX1_init_7 (fun q1 c1 H hK hP hD hS => ?_)
  have hK : va_K D vwCl [(c1, .int)] s := hK
  have hP : va_P D vwCl [(h0, .inr (1, [.int 0, .int 0, .int 0, .null, .null, .null, .null, .int 0, .int 0, .null, .null, .long 0, .null])), (q1, .inl (c1, 48, .inl (fun _ => nI 0)))] H := hP
  have hD : va_D G [(h0, .inr (1, [.int 0, .int 0, .int 0, .null, .null, .null, .null, .int 0, .int 0, .null, .null, .long 0, .null])), (q1, .inl (c1, 48, .inl (fun _ => nI 0)))] := hD
  refine W.widen (k := 1) (n := 48) (Nat.le_of_ble_eq_true rfl) (Nat.le_of_ble_eq_true rfl) ?_
  refine va_putF (D := D) (ci := 1) (v := .ref q1) (ty := .array .int) (C := RX1) (T := TX1) (N := 13) hx hb hts hin0 tyX1 tyX1_ok nmX1 hown hK hP hD hS 0 rfl rfl 3 (by decide) (hts (.fieldLink RX1 7 "VoicePartsModel" "board" "[I") (by decide +kernel)) (fun _ h9 => h9) rfl hin rfl (by decide +kernel) rfl rfl (Nat.le_of_ble_eq_true rfl) dX1_init_9 (fun H locs hP hD hS => ?_)
  have hP : va_P D vwCl [(h0, .inr (1, [.int 0, .int 0, .int 0, .ref q1, .null, .null, .null, .int 0, .int 0, .null, .null, .long 0, .null])), (q1, .inl (c1, 48, .inl (fun _ => nI 0)))] H := hP
  have hD : va_D G [(h0, .inr (1, [.int 0, .int 0, .int 0, .ref q1, .null, .null, .null, .int 0, .int 0, .null, .null, .long 0, .null])), (q1, .inl (c1, 48, .inl (fun _ => nI 0)))] := hD
  refine lv_aload_n hx hb dX1_init_12 rfl (lv_at hl 0 rfl) ?_
  refine lv_bipush (v := nI 48) hx hb dX1_init_13 (by decide) ?_
  refine va_newa (atype := .int) hx hb (hts (.arrayClass .int) (by decide +kernel)) (ty := .int) rfl hK hP hD hS hA (a0 := (48, .inl (fun _ => nI 0))) (na_int 48) (nI_pos (n := 48) (by decide)) (nI_clamp (n := 48) (by decide)) (hby_int 48 (by decide)) (Nat.le_of_ble_eq_true rfl) (Nat.le_of_ble_eq_true rfl) dX1_init_15 (fun q2 c2 H hK hP hD hS => ?_)
  obtain rfl : c1 = c2 := Option.some.inj ((hK.2 0 _ rfl).2.symm.trans (hK.2 1 _ rfl).2)
  have hK : va_K D vwCl [(c1, .int)] s := hK.sub [0] rfl
  have hP : va_P D vwCl [(h0, .inr (1, [.int 0, .int 0, .int 0, .ref q1, .null, .null, .null, .int 0, .int 0, .null, .null, .long 0, .null])), (q1, .inl (c1, 48, .inl (fun _ => nI 0))), (q2, .inl (c1, 48, .inl (fun _ => nI 0)))] H := hP
  have hD : va_D G [(h0, .inr (1, [.int 0, .int 0, .int 0, .ref q1, .null, .null, .null, .int 0, .int 0, .null, .null, .long 0, .null])), (q1, .inl (c1, 48, .inl (fun _ => nI 0))), (q2, .inl (c1, 48, .inl (fun _ => nI 0)))] := hD
  refine W.widen (k := 2) (n := 96) (Nat.le_of_ble_eq_true rfl) (Nat.le_of_ble_eq_true rfl) ?_
  refine va_putF (D := D) (ci := 1) (v := .ref q2) (ty := .array .int) (C := RX1) (T := TX1) (N := 13) hx hb hts hin0 tyX1 tyX1_ok nmX1 hown hK hP hD hS 0 rfl rfl 4 (by decide) (hts (.fieldLink RX1 13 "VoicePartsModel" "number" "[I") (by decide +kernel)) (fun _ h9 => h9) rfl hin rfl (by decide +kernel) rfl rfl (Nat.le_of_ble_eq_true rfl) dX1_init_17 (fun H locs hP hD hS => ?_)
  have hP : va_P D vwCl [(h0, .inr (1, [.int 0, .int 0, .int 0, .ref q1, .ref q2, .null, .null, .int 0, .int 0, .null, .null, .long 0, .null])), (q1, .inl (c1, 48, .inl (fun _ => nI 0))), (q2, .inl (c1, 48, .inl (fun _ => nI 0)))] H := hP
  have hD : va_D G [(h0, .inr (1, [.int 0, .int 0, .int 0, .ref q1, .ref q2, .null, .null, .int 0, .int 0, .null, .null, .long 0, .null])), (q1, .inl (c1, 48, .inl (fun _ => nI 0))), (q2, .inl (c1, 48, .inl (fun _ => nI 0)))] := hD
  refine lv_aload_n hx hb dX1_init_20 rfl (lv_at hl 0 rfl) ?_
  refine lv_bipush (v := nI 48) hx hb dX1_init_21 (by decide) ?_
  refine va_newa (atype := .boolean) hx hb (hts (.arrayClass .boolean) (by decide +kernel)) (ty := .boolean) rfl hK hP hD hS hA (a0 := (48, .inl (fun _ => nI 0))) (na_boolean 48) (nI_pos (n := 48) (by decide)) (nI_clamp (n := 48) (by decide)) (hby_boolean 48 (by decide)) (Nat.le_of_ble_eq_true rfl) (Nat.le_of_ble_eq_true rfl) dX1_init_23 (fun q3 c3 H hK hP hD hS => ?_)
  have hK : va_K D vwCl [(c1, .int), (c3, .boolean)] s := hK
  have hP : va_P D vwCl [(h0, .inr (1, [.int 0, .int 0, .int 0, .ref q1, .ref q2, .null, .null, .int 0, .int 0, .null, .null, .long 0, .null])), (q1, .inl (c1, 48, .inl (fun _ => nI 0))), (q2, .inl (c1, 48, .inl (fun _ => nI 0))), (q3, .inl (c3, 48, .inl (fun _ => nI 0)))] H := hP
  have hD : va_D G [(h0, .inr (1, [.int 0, .int 0, .int 0, .ref q1, .ref q2, .null, .null, .int 0, .int 0, .null, .null, .long 0, .null])), (q1, .inl (c1, 48, .inl (fun _ => nI 0))), (q2, .inl (c1, 48, .inl (fun _ => nI 0))), (q3, .inl (c3, 48, .inl (fun _ => nI 0)))] := hD
  refine W.widen (k := 3) (n := 144) (Nat.le_of_ble_eq_true rfl) (Nat.le_of_ble_eq_true rfl) ?_
  refine va_putF (D := D) (ci := 1) (v := .ref q3) (ty := .array .boolean) (C := RX1) (T := TX1) (N := 13) hx hb hts hin0 tyX1 tyX1_ok nmX1 hown hK hP hD hS 0 rfl rfl 5 (by decide) (hts (.fieldLink RX1 16 "VoicePartsModel" "isBarred" "[Z") (by decide +kernel)) (fun _ h9 => h9) rfl hin rfl (by decide +kernel) rfl rfl (Nat.le_of_ble_eq_true rfl) dX1_init_25 (fun H locs hP hD hS => ?_)
  have hP : va_P D vwCl [(h0, .inr (1, [.int 0, .int 0, .int 0, .ref q1, .ref q2, .ref q3, .null, .int 0, .int 0, .null, .null, .long 0, .null])), (q1, .inl (c1, 48, .inl (fun _ => nI 0))), (q2, .inl (c1, 48, .inl (fun _ => nI 0))), (q3, .inl (c3, 48, .inl (fun _ => nI 0)))] H := hP
  have hD : va_D G [(h0, .inr (1, [.int 0, .int 0, .int 0, .ref q1, .ref q2, .ref q3, .null, .int 0, .int 0, .null, .null, .long 0, .null])), (q1, .inl (c1, 48, .inl (fun _ => nI 0))), (q2, .inl (c1, 48, .inl (fun _ => nI 0))), (q3, .inl (c3, 48, .inl (fun _ => nI 0)))] := hD
  refine lv_aload_n hx hb dX1_init_28 rfl (lv_at hl 0 rfl) ?_
  refine lv_sipush (v := nI 144) hx hb dX1_init_29 (by decide) ?_
  refine va_newa (atype := .int) hx hb (hts (.arrayClass .int) (by decide +kernel)) (ty := .int) rfl hK hP hD hS hA (a0 := (144, .inl (fun _ => nI 0))) (na_int 144) (nI_pos (n := 144) (by decide)) (nI_clamp (n := 144) (by decide)) (hby_int 144 (by decide)) (Nat.le_of_ble_eq_true rfl) (Nat.le_of_ble_eq_true rfl) dX1_init_32 (fun q4 c4 H hK hP hD hS => ?_)
  obtain rfl : c1 = c4 := Option.some.inj ((hK.2 0 _ rfl).2.symm.trans (hK.2 2 _ rfl).2)
  have hK : va_K D vwCl [(c1, .int), (c3, .boolean)] s := hK.sub [0, 1] rfl
  have hP : va_P D vwCl [(h0, .inr (1, [.int 0, .int 0, .int 0, .ref q1, .ref q2, .ref q3, .null, .int 0, .int 0, .null, .null, .long 0, .null])), (q1, .inl (c1, 48, .inl (fun _ => nI 0))), (q2, .inl (c1, 48, .inl (fun _ => nI 0))), (q3, .inl (c3, 48, .inl (fun _ => nI 0))), (q4, .inl (c1, 144, .inl (fun _ => nI 0)))] H := hP
  have hD : va_D G [(h0, .inr (1, [.int 0, .int 0, .int 0, .ref q1, .ref q2, .ref q3, .null, .int 0, .int 0, .null, .null, .long 0, .null])), (q1, .inl (c1, 48, .inl (fun _ => nI 0))), (q2, .inl (c1, 48, .inl (fun _ => nI 0))), (q3, .inl (c3, 48, .inl (fun _ => nI 0))), (q4, .inl (c1, 144, .inl (fun _ => nI 0)))] := hD
  refine W.widen (k := 4) (n := 288) (Nat.le_of_ble_eq_true rfl) (Nat.le_of_ble_eq_true rfl) ?_
  refine va_putF (D := D) (ci := 1) (v := .ref q4) (ty := .array .int) (C := RX1) (T := TX1) (N := 13) hx hb hts hin0 tyX1 tyX1_ok nmX1 hown hK hP hD hS 0 rfl rfl 6 (by decide) (hts (.fieldLink RX1 20 "VoicePartsModel" "truth" "[I") (by decide +kernel)) (fun _ h9 => h9) rfl hin rfl (by decide +kernel) rfl rfl (Nat.le_of_ble_eq_true rfl) dX1_init_34 (fun H locs hP hD hS => ?_)
  have hP : va_P D vwCl [(h0, .inr (1, [.int 0, .int 0, .int 0, .ref q1, .ref q2, .ref q3, .ref q4, .int 0, .int 0, .null, .null, .long 0, .null])), (q1, .inl (c1, 48, .inl (fun _ => nI 0))), (q2, .inl (c1, 48, .inl (fun _ => nI 0))), (q3, .inl (c3, 48, .inl (fun _ => nI 0))), (q4, .inl (c1, 144, .inl (fun _ => nI 0)))] H := hP
  have hD : va_D G [(h0, .inr (1, [.int 0, .int 0, .int 0, .ref q1, .ref q2, .ref q3, .ref q4, .int 0, .int 0, .null, .null, .long 0, .null])), (q1, .inl (c1, 48, .inl (fun _ => nI 0))), (q2, .inl (c1, 48, .inl (fun _ => nI 0))), (q3, .inl (c3, 48, .inl (fun _ => nI 0))), (q4, .inl (c1, 144, .inl (fun _ => nI 0)))] := hD
  refine lv_aload_n hx hb dX1_init_37 rfl (lv_at hl 0 rfl) ?_
  refine lv_iconst (v := nI 2) hx hb dX1_init_38 (by decide) ?_
  refine va_newa (atype := .int) hx hb (hts (.arrayClass .int) (by decide +kernel)) (ty := .int) rfl hK hP hD hS hA (a0 := (2, .inl (fun _ => nI 0))) (na_int 2) (nI_pos (n := 2) (by decide)) (nI_clamp (n := 2) (by decide)) (hby_int 2 (by decide)) (Nat.le_of_ble_eq_true rfl) (Nat.le_of_ble_eq_true rfl) dX1_init_39 (fun q5 c5 H hK hP hD hS => ?_)
  obtain rfl : c1 = c5 := Option.some.inj ((hK.2 0 _ rfl).2.symm.trans (hK.2 2 _ rfl).2)
  have hK : va_K D vwCl [(c1, .int), (c3, .boolean)] s := hK.sub [0, 1] rfl
  have hP : va_P D vwCl [(h0, .inr (1, [.int 0, .int 0, .int 0, .ref q1, .ref q2, .ref q3, .ref q4, .int 0, .int 0, .null, .null, .long 0, .null])), (q1, .inl (c1, 48, .inl (fun _ => nI 0))), (q2, .inl (c1, 48, .inl (fun _ => nI 0))), (q3, .inl (c3, 48, .inl (fun _ => nI 0))), (q4, .inl (c1, 144, .inl (fun _ => nI 0))), (q5, .inl (c1, 2, .inl (fun _ => nI 0)))] H := hP
  have hD : va_D G [(h0, .inr (1, [.int 0, .int 0, .int 0, .ref q1, .ref q2, .ref q3, .ref q4, .int 0, .int 0, .null, .null, .long 0, .null])), (q1, .inl (c1, 48, .inl (fun _ => nI 0))), (q2, .inl (c1, 48, .inl (fun _ => nI 0))), (q3, .inl (c3, 48, .inl (fun _ => nI 0))), (q4, .inl (c1, 144, .inl (fun _ => nI 0))), (q5, .inl (c1, 2, .inl (fun _ => nI 0)))] := hD
  refine W.widen (k := 5) (n := 290) (Nat.le_of_ble_eq_true rfl) (Nat.le_of_ble_eq_true rfl) ?_
  refine va_putF (D := D) (ci := 1) (v := .ref q5) (ty := .array .int) (C := RX1) (T := TX1) (N := 13) hx hb hts hin0 tyX1 tyX1_ok nmX1 hown hK hP hD hS 0 rfl rfl 9 (by decide) (hts (.fieldLink RX1 23 "VoicePartsModel" "heard" "[I") (by decide +kernel)) (fun _ h9 => h9) rfl hin rfl (by decide +kernel) rfl rfl (Nat.le_of_ble_eq_true rfl) dX1_init_41 (fun H locs hP hD hS => ?_)
  have hP : va_P D vwCl [(h0, .inr (1, [.int 0, .int 0, .int 0, .ref q1, .ref q2, .ref q3, .ref q4, .int 0, .int 0, .ref q5, .null, .long 0, .null])), (q1, .inl (c1, 48, .inl (fun _ => nI 0))), (q2, .inl (c1, 48, .inl (fun _ => nI 0))), (q3, .inl (c3, 48, .inl (fun _ => nI 0))), (q4, .inl (c1, 144, .inl (fun _ => nI 0))), (q5, .inl (c1, 2, .inl (fun _ => nI 0)))] H := hP
  have hD : va_D G [(h0, .inr (1, [.int 0, .int 0, .int 0, .ref q1, .ref q2, .ref q3, .ref q4, .int 0, .int 0, .ref q5, .null, .long 0, .null])), (q1, .inl (c1, 48, .inl (fun _ => nI 0))), (q2, .inl (c1, 48, .inl (fun _ => nI 0))), (q3, .inl (c3, 48, .inl (fun _ => nI 0))), (q4, .inl (c1, 144, .inl (fun _ => nI 0))), (q5, .inl (c1, 2, .inl (fun _ => nI 0)))] := hD
  refine lv_aload_n hx hb dX1_init_44 rfl (lv_at hl 0 rfl) ?_
  refine lv_bipush (v := nI 16) hx hb dX1_init_45 (by decide) ?_
  refine va_newa (atype := .int) hx hb (hts (.arrayClass .int) (by decide +kernel)) (ty := .int) rfl hK hP hD hS hA (a0 := (16, .inl (fun _ => nI 0))) (na_int 16) (nI_pos (n := 16) (by decide)) (nI_clamp (n := 16) (by decide)) (hby_int 16 (by decide)) (Nat.le_of_ble_eq_true rfl) (Nat.le_of_ble_eq_true rfl) dX1_init_47 (fun q6 c6 H hK hP hD hS => ?_)
  obtain rfl : c1 = c6 := Option.some.inj ((hK.2 0 _ rfl).2.symm.trans (hK.2 2 _ rfl).2)
  have hK : va_K D vwCl [(c1, .int), (c3, .boolean)] s := hK.sub [0, 1] rfl
  have hP : va_P D vwCl [(h0, .inr (1, [.int 0, .int 0, .int 0, .ref q1, .ref q2, .ref q3, .ref q4, .int 0, .int 0, .ref q5, .null, .long 0, .null])), (q1, .inl (c1, 48, .inl (fun _ => nI 0))), (q2, .inl (c1, 48, .inl (fun _ => nI 0))), (q3, .inl (c3, 48, .inl (fun _ => nI 0))), (q4, .inl (c1, 144, .inl (fun _ => nI 0))), (q5, .inl (c1, 2, .inl (fun _ => nI 0))), (q6, .inl (c1, 16, .inl (fun _ => nI 0)))] H := hP
  have hD : va_D G [(h0, .inr (1, [.int 0, .int 0, .int 0, .ref q1, .ref q2, .ref q3, .ref q4, .int 0, .int 0, .ref q5, .null, .long 0, .null])), (q1, .inl (c1, 48, .inl (fun _ => nI 0))), (q2, .inl (c1, 48, .inl (fun _ => nI 0))), (q3, .inl (c3, 48, .inl (fun _ => nI 0))), (q4, .inl (c1, 144, .inl (fun _ => nI 0))), (q5, .inl (c1, 2, .inl (fun _ => nI 0))), (q6, .inl (c1, 16, .inl (fun _ => nI 0)))] := hD
  refine W.widen (k := 6) (n := 306) (Nat.le_of_ble_eq_true rfl) (Nat.le_of_ble_eq_true rfl) ?_
  refine va_putF (D := D) (ci := 1) (v := .ref q6) (ty := .array .int) (C := RX1) (T := TX1) (N := 13) hx hb hts hin0 tyX1 tyX1_ok nmX1 hown hK hP hD hS 0 rfl rfl 10 (by decide) (hts (.fieldLink RX1 26 "VoicePartsModel" "row" "[I") (by decide +kernel)) (fun _ h9 => h9) rfl hin rfl (by decide +kernel) rfl rfl (Nat.le_of_ble_eq_true rfl) dX1_init_49 (fun H locs hP hD hS => ?_)
  have hP : va_P D vwCl [(h0, .inr (1, [.int 0, .int 0, .int 0, .ref q1, .ref q2, .ref q3, .ref q4, .int 0, .int 0, .ref q5, .ref q6, .long 0, .null])), (q1, .inl (c1, 48, .inl (fun _ => nI 0))), (q2, .inl (c1, 48, .inl (fun _ => nI 0))), (q3, .inl (c3, 48, .inl (fun _ => nI 0))), (q4, .inl (c1, 144, .inl (fun _ => nI 0))), (q5, .inl (c1, 2, .inl (fun _ => nI 0))), (q6, .inl (c1, 16, .inl (fun _ => nI 0)))] H := hP
  have hD : va_D G [(h0, .inr (1, [.int 0, .int 0, .int 0, .ref q1, .ref q2, .ref q3, .ref q4, .int 0, .int 0, .ref q5, .ref q6, .long 0, .null])), (q1, .inl (c1, 48, .inl (fun _ => nI 0))), (q2, .inl (c1, 48, .inl (fun _ => nI 0))), (q3, .inl (c3, 48, .inl (fun _ => nI 0))), (q4, .inl (c1, 144, .inl (fun _ => nI 0))), (q5, .inl (c1, 2, .inl (fun _ => nI 0))), (q6, .inl (c1, 16, .inl (fun _ => nI 0)))] := hD
  refine lv_aload_n hx hb dX1_init_52 rfl (lv_at hl 0 rfl) ?_
  refine lv_bipush (v := nI 8) hx hb dX1_init_53 (by decide) ?_
  refine va_newa (atype := .int) hx hb (hts (.arrayClass .int) (by decide +kernel)) (ty := .int) rfl hK hP hD hS hA (a0 := (8, .inl (fun _ => nI 0))) (na_int 8) (nI_pos (n := 8) (by decide)) (nI_clamp (n := 8) (by decide)) (hby_int 8 (by decide)) (Nat.le_of_ble_eq_true rfl) (Nat.le_of_ble_eq_true rfl) dX1_init_55 (fun q7 c7 H hK hP hD hS => ?_)
  obtain rfl : c1 = c7 := Option.some.inj ((hK.2 0 _ rfl).2.symm.trans (hK.2 2 _ rfl).2)
  have hK : va_K D vwCl [(c1, .int), (c3, .boolean)] s := hK.sub [0, 1] rfl
  have hP : va_P D vwCl [(h0, .inr (1, [.int 0, .int 0, .int 0, .ref q1, .ref q2, .ref q3, .ref q4, .int 0, .int 0, .ref q5, .ref q6, .long 0, .null])), (q1, .inl (c1, 48, .inl (fun _ => nI 0))), (q2, .inl (c1, 48, .inl (fun _ => nI 0))), (q3, .inl (c3, 48, .inl (fun _ => nI 0))), (q4, .inl (c1, 144, .inl (fun _ => nI 0))), (q5, .inl (c1, 2, .inl (fun _ => nI 0))), (q6, .inl (c1, 16, .inl (fun _ => nI 0))), (q7, .inl (c1, 8, .inl (fun _ => nI 0)))] H := hP
  have hD : va_D G [(h0, .inr (1, [.int 0, .int 0, .int 0, .ref q1, .ref q2, .ref q3, .ref q4, .int 0, .int 0, .ref q5, .ref q6, .long 0, .null])), (q1, .inl (c1, 48, .inl (fun _ => nI 0))), (q2, .inl (c1, 48, .inl (fun _ => nI 0))), (q3, .inl (c3, 48, .inl (fun _ => nI 0))), (q4, .inl (c1, 144, .inl (fun _ => nI 0))), (q5, .inl (c1, 2, .inl (fun _ => nI 0))), (q6, .inl (c1, 16, .inl (fun _ => nI 0))), (q7, .inl (c1, 8, .inl (fun _ => nI 0)))] := hD
  refine W.widen (k := 7) (n := 314) (Nat.le_of_ble_eq_true rfl) (Nat.le_of_ble_eq_true rfl) ?_
  refine va_putF (D := D) (ci := 1) (v := .ref q7) (ty := .array .int) (C := RX1) (T := TX1) (N := 13) hx hb hts hin0 tyX1 tyX1_ok nmX1 hown hK hP hD hS 0 rfl rfl 12 (by decide) (hts (.fieldLink RX1 29 "VoicePartsModel" "middle" "[I") (by decide +kernel)) (fun _ h9 => h9) rfl hin rfl (by decide +kernel) rfl rfl (Nat.le_of_ble_eq_true rfl) dX1_init_57 (fun H locs hP hD hS => ?_)
  have hP : va_P D vwCl [(h0, .inr (1, [.int 0, .int 0, .int 0, .ref q1, .ref q2, .ref q3, .ref q4, .int 0, .int 0, .ref q5, .ref q6, .long 0, .ref q7])), (q1, .inl (c1, 48, .inl (fun _ => nI 0))), (q2, .inl (c1, 48, .inl (fun _ => nI 0))), (q3, .inl (c3, 48, .inl (fun _ => nI 0))), (q4, .inl (c1, 144, .inl (fun _ => nI 0))), (q5, .inl (c1, 2, .inl (fun _ => nI 0))), (q6, .inl (c1, 16, .inl (fun _ => nI 0))), (q7, .inl (c1, 8, .inl (fun _ => nI 0)))] H := hP
  have hD : va_D G [(h0, .inr (1, [.int 0, .int 0, .int 0, .ref q1, .ref q2, .ref q3, .ref q4, .int 0, .int 0, .ref q5, .ref q6, .long 0, .ref q7])), (q1, .inl (c1, 48, .inl (fun _ => nI 0))), (q2, .inl (c1, 48, .inl (fun _ => nI 0))), (q3, .inl (c3, 48, .inl (fun _ => nI 0))), (q4, .inl (c1, 144, .inl (fun _ => nI 0))), (q5, .inl (c1, 2, .inl (fun _ => nI 0))), (q6, .inl (c1, 16, .inl (fun _ => nI 0))), (q7, .inl (c1, 8, .inl (fun _ => nI 0)))] := hD
  obtain ⟨h, rfl, rfl, rfl, rfl, rfl, rfl, rfl, rfl⟩ : ∃ h : Nat → Nat, h 0 = h0 ∧ h 1 = q1 ∧ h 2 = q2 ∧ h 3 = q3 ∧ h 4 = q4 ∧ h 5 = q5 ∧ h 6 = q6 ∧ h 7 = q7 := ⟨fun i => if i = 0 then h0 else if i = 1 then q1 else if i = 2 then q2 else if i = 3 then q3 else if i = 4 then q4 else if i = 5 then q5 else if i = 6 then q6 else q7, rfl, rfl, rfl, rfl, rfl, rfl, rfl, rfl⟩
  have hP : va_P D vwCl (mw h c1 c3 Z0 (fun _ => nI 0)) H := hP
  have hD : va_D G (mw h c1 c3 Z0 (fun _ => nI 0)) := va_D.to hD rfl
  refine lv_aload_n hx hb dX1_init_60 rfl (lv_at hl 0 rfl) ?_
  refine lv_iconst (v := nI 4) hx hb dX1_init_61 (by decide) ?_
  refine lv_iconst (v := nI 4) hx hb dX1_init_62 (by decide) ?_
  refine lv_iconst (v := nI 2) hx hb dX1_init_63 (by decide) ?_
  refine mu_callV (As := [.int (nI 4), .int (nI 4), .int (nI 2)]) (rest := []) ⟨hx, hb, hml, hown, hts⟩ (kX1_begins l D h c1 c3 Z0 (fun _ => nI 0) 4 4 2) (cwV 3 hts gX1_init_X1_begins rfl rfl rfl (by decide +kernel) ⟨Nat.le_of_ble_eq_true rfl, Nat.le_of_ble_eq_true rfl⟩) hP hK hD hS (va_recv hK hP (ci := 1) (q0 := 0) rfl rfl) rfl hl.1 rfl (Nat.le_of_ble_eq_true rfl) dX1_init_64 ⟨Nat.le_of_ble_eq_true rfl, Nat.le_of_ble_eq_true rfl⟩ (fun H locs hP hS _ => ?_)
  have hP : va_P D vwCl (mw h c1 c3 A0 (fun _ => nI 0)) H := hP
  have hD : va_D G (mw h c1 c3 A0 (fun _ => nI 0)) := va_D.to hD rfl
  refine W.eq (g2 := F0 m 67 ls []) rfl ?_
  exact W.vret hx hb hr (fun t ht hW => ⟨⟨(h, c1, c3, fun _ => nI 0), rfl, rfl, by rw [ht]; exact hP, va_K.moved hW.alike hK, hD⟩, hS.F ht⟩) hS.2.2 dX1_init_67
