theorem na_int (n : Nat) : ∀ cA : ClassId, vp_cell cA (n, .inl (fun _ => nI 0)) = arrV cA n (fun _ => defaultValue .int) := fun _ => rfl
theorem na_boolean (n : Nat) : ∀ cA : ClassId, vp_cell cA (n, .inl (fun _ => nI 0)) = arrV cA n (fun _ => defaultValue .boolean) := fun _ => rfl
def rmX0_init : Room := { frames := 2, cells := 5, slots := 252, locals := 46 }
set_option maxHeartbeats 300000 in
set_option maxRecDepth 100000 in
theorem kX0_init31 (l : Launch) (D : va_G) (h0 sz : Nat) : Met l yX0_init wsX0_init rmX0_init (va_Pc [.ref h0] (fun U => U.heap.size = sz ∧ va_P D vwCl [(h0, .inr (0, [.int 0, .int 0, .int 0, .null, .null, .long 0, .null, .null, .null, .int 0, .int 0, .long 0]))] U.heap ∧ va_K D vwCl [] U ∧ va_D (fun _ => True) [(h0, .inr (0, [.int 0, .int 0, .int 0, .null, .null, .long 0, .null, .null, .null, .int 0, .int 0, .long 0]))])) (va_Qv (fun u : (Nat → Nat) × ClassId => u.1 0 = h0) (fun (u : (Nat → Nat) × ClassId) (t : State) => va_P D vwCl (xw u.1 u.2 A0) t.heap ∧ va_K D vwCl [(u.2, .int)] t ∧ va_D (va_A [(h0, .inr (0, [.int 0, .int 0, .int 0, .null, .null, .long 0, .null, .null, .null, .int 0, .int 0, .long 0]))] sz) (xw u.1 u.2 A0)) (va_A [(h0, .inr (0, [.int 0, .int 0, .int 0, .null, .null, .long 0, .null, .null, .null, .int 0, .int 0, .long 0]))] sz)) 5 252 (va_A [(h0, .inr (0, [.int 0, .int 0, .int 0, .null, .null, .long 0, .null, .null, .null, .int 0, .int 0, .long 0]))] sz) := by
  refine Met.ofW (cc := cX0_init) (maxL := 1) (ret := none) (by decide) rfl ?_
  intro p e s m args below meth c s₁ Bd hml hv
  obtain ⟨rfl, hsz, hP, hK, hD0⟩ := hv
  have hx := Bd.exec
  have hb := Bd.bytes
  have hr := Bd.returns
  have hts := atoms_spec (ws := wsX0_init) Bd.pre
  have hown : s.vm.findClass RX0 = some m.cls := findClass_of_methodNamed Bd.named
  have hlocks := Bd.notSynchronized
  have hin : meth.name = "<init>" := (name_of_methodNamed Bd.named Bd.method).1
  subst hsz
  have hD := hD0.self (sz := s.heap.size)
  generalize hAe : va_A [(h0, .inr (0, [.int 0, .int 0, .int 0, .null, .null, .long 0, .null, .null, .null, .int 0, .int 0, .long 0]))] s.heap.size = G at hD ⊢
  have hA : ∀ q : Nat, s.heap.size ≤ q → G q := fun q h => by rw [← hAe]; exact Or.inr h
  have hS : va_S G s.heap s.heap [] := va_S.rf
  have hin0 : ∀ w ∈ u_ws RX0 TX0 12, w ∈ wsX0_init := fun _ h => List.mem_cons_of_mem _ (List.mem_append_right _ h)
  have hl := lv_entry ([.ref h0]) (n := 1) (Nat.le_of_ble_eq_true rfl)
  rw [lg_entry_eq]
  generalize (lg_sl ([.ref h0]) ++ List.replicate (1 - (lg_sl ([.ref h0])).length) Slot.unset).toArray = ls at hl ⊢
  have hl : lv_has ls 1 [(0, .ref h0)] := hl
  refine lv_aload_n hx hb dX0_init_0 rfl (lv_at hl 0 rfl) ?_
  refine W.objInit hx hb hown (hts (.methodLink RX0 3 objectInit) (by decide +kernel)) (hts (.instanceMethod objectInit) (by decide +kernel)) (hts (.code objectInit ⟨#[0xb1]⟩ 1 none) (List.mem_cons_of_mem _ (List.mem_append_left _ (List.mem_of_getElem? (i := 2) rfl)))) rfl (by rw [hml]; exact hl.1) rfl dX0_init_1 (Nat.le_of_ble_eq_true rfl) (Nat.le_of_ble_eq_true rfl) ?_
  refine W.eq (g2 := F0 m 4 ls []) rfl ?_
  refine lv_aload_n hx hb dX0_init_4 rfl (lv_at hl 0 rfl) ?_
  refine lv_bipush (v := nI 48) hx hb dX0_init_5 (by decide) ?_
  refine va_newa hx hb (hts (.arrayClass .int) (by decide +kernel)) (ty := .int) rfl hK hP hD hS hA (a0 := (48, .inl (fun _ => nI 0))) (na_int 48) (nI_pos (by decide)) (nI_clamp (by decide)) (Nat.le_of_ble_eq_true rfl) (Nat.le_of_ble_eq_true rfl) (Nat.le_of_ble_eq_true rfl) dX0_init_7 (fun q1 c1 H hK hP hD hS => ?_)
  sorry
set_option maxHeartbeats 300000 in
set_option maxRecDepth 100000 in
theorem kX0_init36 (l : Launch) (D : va_G) (h0 sz : Nat) : Met l yX0_init wsX0_init rmX0_init (va_Pc [.ref h0] (fun U => U.heap.size = sz ∧ va_P D vwCl [(h0, .inr (0, [.int 0, .int 0, .int 0, .null, .null, .long 0, .null, .null, .null, .int 0, .int 0, .long 0]))] U.heap ∧ va_K D vwCl [] U ∧ va_D (fun _ => True) [(h0, .inr (0, [.int 0, .int 0, .int 0, .null, .null, .long 0, .null, .null, .null, .int 0, .int 0, .long 0]))])) (va_Qv (fun u : (Nat → Nat) × ClassId => u.1 0 = h0) (fun (u : (Nat → Nat) × ClassId) (t : State) => va_P D vwCl (xw u.1 u.2 A0) t.heap ∧ va_K D vwCl [(u.2, .int)] t ∧ va_D (va_A [(h0, .inr (0, [.int 0, .int 0, .int 0, .null, .null, .long 0, .null, .null, .null, .int 0, .int 0, .long 0]))] sz) (xw u.1 u.2 A0)) (va_A [(h0, .inr (0, [.int 0, .int 0, .int 0, .null, .null, .long 0, .null, .null, .null, .int 0, .int 0, .long 0]))] sz)) 5 252 (va_A [(h0, .inr (0, [.int 0, .int 0, .int 0, .null, .null, .long 0, .null, .null, .null, .int 0, .int 0, .long 0]))] sz) := by
  refine Met.ofW (cc := cX0_init) (maxL := 1) (ret := none) (by decide) rfl ?_
  intro p e s m args below meth c s₁ Bd hml hv
  obtain ⟨rfl, hsz, hP, hK, hD0⟩ := hv
  have hx := Bd.exec
  have hb := Bd.bytes
  have hr := Bd.returns
  have hts := atoms_spec (ws := wsX0_init) Bd.pre
  have hown : s.vm.findClass RX0 = some m.cls := findClass_of_methodNamed Bd.named
  have hlocks := Bd.notSynchronized
  have hin : meth.name = "<init>" := (name_of_methodNamed Bd.named Bd.method).1
  subst hsz
  have hD := hD0.self (sz := s.heap.size)
  generalize hAe : va_A [(h0, .inr (0, [.int 0, .int 0, .int 0, .null, .null, .long 0, .null, .null, .null, .int 0, .int 0, .long 0]))] s.heap.size = G at hD ⊢
  have hA : ∀ q : Nat, s.heap.size ≤ q → G q := fun q h => by rw [← hAe]; exact Or.inr h
  have hS : va_S G s.heap s.heap [] := va_S.rf
  have hin0 : ∀ w ∈ u_ws RX0 TX0 12, w ∈ wsX0_init := fun _ h => List.mem_cons_of_mem _ (List.mem_append_right _ h)
  have hl := lv_entry ([.ref h0]) (n := 1) (Nat.le_of_ble_eq_true rfl)
  rw [lg_entry_eq]
  generalize (lg_sl ([.ref h0]) ++ List.replicate (1 - (lg_sl ([.ref h0])).length) Slot.unset).toArray = ls at hl ⊢
  have hl : lv_has ls 1 [(0, .ref h0)] := hl
  refine lv_aload_n hx hb dX0_init_0 rfl (lv_at hl 0 rfl) ?_
  refine W.objInit hx hb hown (hts (.methodLink RX0 3 objectInit) (by decide +kernel)) (hts (.instanceMethod objectInit) (by decide +kernel)) (hts (.code objectInit ⟨#[0xb1]⟩ 1 none) (List.mem_cons_of_mem _ (List.mem_append_left _ (List.mem_of_getElem? (i := 2) rfl)))) rfl (by rw [hml]; exact hl.1) rfl dX0_init_1 (Nat.le_of_ble_eq_true rfl) (Nat.le_of_ble_eq_true rfl) ?_
  refine W.eq (g2 := F0 m 4 ls []) rfl ?_
  refine lv_aload_n hx hb dX0_init_4 rfl (lv_at hl 0 rfl) ?_
  refine lv_bipush (v := nI 48) hx hb dX0_init_5 (by decide) ?_
  refine va_newa hx hb (hts (.arrayClass .int) (by decide +kernel)) (ty := .int) rfl hK hP hD hS hA (a0 := (48, .inl (fun _ => nI 0))) (na_int 48) (nI_pos (by decide)) (nI_clamp (by decide)) (Nat.le_of_ble_eq_true rfl) (Nat.le_of_ble_eq_true rfl) (Nat.le_of_ble_eq_true rfl) dX0_init_7 (fun q1 c1 H hK hP hD hS => ?_)
  have hK : va_K D vwCl [(c1, .int)] s := hK
  have hP : va_P D vwCl [(h0, .inr (0, [.int 0, .int 0, .int 0, .null, .null, .long 0, .null, .null, .null, .int 0, .int 0, .long 0])), (q1, .inl (c1, 48, .inl (fun _ => nI 0)))] H := hP
  have hD : va_D G [(h0, .inr (0, [.int 0, .int 0, .int 0, .null, .null, .long 0, .null, .null, .null, .int 0, .int 0, .long 0])), (q1, .inl (c1, 48, .inl (fun _ => nI 0)))] := hD
  refine W.widen (k := 1) (n := 48) (Nat.le_of_ble_eq_true rfl) (Nat.le_of_ble_eq_true rfl) ?_
  refine va_putF (D := D) (ci := 0) (v := .ref q1) (ty := .array .int) (C := RX0) (T := TX0) (N := 12) hx hb hts hin0 tyX0 tyX0_ok nmX0 hown hK hP hD hS 0 rfl rfl 3 (by decide) (hts (.fieldLink RX0 9 "VoiceParts" "boardNumbers" "[I") (by decide +kernel)) (fun _ h9 => h9) rfl hin rfl (by decide +kernel) rfl rfl (Nat.le_of_ble_eq_true rfl) dX0_init_9 (fun H locs hP hD hS => ?_)
  sorry
set_option maxHeartbeats 300000 in
set_option maxRecDepth 100000 in
theorem kX0_init47 (l : Launch) (D : va_G) (h0 sz : Nat) : Met l yX0_init wsX0_init rmX0_init (va_Pc [.ref h0] (fun U => U.heap.size = sz ∧ va_P D vwCl [(h0, .inr (0, [.int 0, .int 0, .int 0, .null, .null, .long 0, .null, .null, .null, .int 0, .int 0, .long 0]))] U.heap ∧ va_K D vwCl [] U ∧ va_D (fun _ => True) [(h0, .inr (0, [.int 0, .int 0, .int 0, .null, .null, .long 0, .null, .null, .null, .int 0, .int 0, .long 0]))])) (va_Qv (fun u : (Nat → Nat) × ClassId => u.1 0 = h0) (fun (u : (Nat → Nat) × ClassId) (t : State) => va_P D vwCl (xw u.1 u.2 A0) t.heap ∧ va_K D vwCl [(u.2, .int)] t ∧ va_D (va_A [(h0, .inr (0, [.int 0, .int 0, .int 0, .null, .null, .long 0, .null, .null, .null, .int 0, .int 0, .long 0]))] sz) (xw u.1 u.2 A0)) (va_A [(h0, .inr (0, [.int 0, .int 0, .int 0, .null, .null, .long 0, .null, .null, .null, .int 0, .int 0, .long 0]))] sz)) 5 252 (va_A [(h0, .inr (0, [.int 0, .int 0, .int 0, .null, .null, .long 0, .null, .null, .null, .int 0, .int 0, .long 0]))] sz) := by
  refine Met.ofW (cc := cX0_init) (maxL := 1) (ret := none) (by decide) rfl ?_
  intro p e s m args below meth c s₁ Bd hml hv
  obtain ⟨rfl, hsz, hP, hK, hD0⟩ := hv
  have hx := Bd.exec
  have hb := Bd.bytes
  have hr := Bd.returns
  have hts := atoms_spec (ws := wsX0_init) Bd.pre
  have hown : s.vm.findClass RX0 = some m.cls := findClass_of_methodNamed Bd.named
  have hlocks := Bd.notSynchronized
  have hin : meth.name = "<init>" := (name_of_methodNamed Bd.named Bd.method).1
  subst hsz
  have hD := hD0.self (sz := s.heap.size)
  generalize hAe : va_A [(h0, .inr (0, [.int 0, .int 0, .int 0, .null, .null, .long 0, .null, .null, .null, .int 0, .int 0, .long 0]))] s.heap.size = G at hD ⊢
  have hA : ∀ q : Nat, s.heap.size ≤ q → G q := fun q h => by rw [← hAe]; exact Or.inr h
  have hS : va_S G s.heap s.heap [] := va_S.rf
  have hin0 : ∀ w ∈ u_ws RX0 TX0 12, w ∈ wsX0_init := fun _ h => List.mem_cons_of_mem _ (List.mem_append_right _ h)
  have hl := lv_entry ([.ref h0]) (n := 1) (Nat.le_of_ble_eq_true rfl)
  rw [lg_entry_eq]
  generalize (lg_sl ([.ref h0]) ++ List.replicate (1 - (lg_sl ([.ref h0])).length) Slot.unset).toArray = ls at hl ⊢
  have hl : lv_has ls 1 [(0, .ref h0)] := hl
  refine lv_aload_n hx hb dX0_init_0 rfl (lv_at hl 0 rfl) ?_
  refine W.objInit hx hb hown (hts (.methodLink RX0 3 objectInit) (by decide +kernel)) (hts (.instanceMethod objectInit) (by decide +kernel)) (hts (.code objectInit ⟨#[0xb1]⟩ 1 none) (List.mem_cons_of_mem _ (List.mem_append_left _ (List.mem_of_getElem? (i := 2) rfl)))) rfl (by rw [hml]; exact hl.1) rfl dX0_init_1 (Nat.le_of_ble_eq_true rfl) (Nat.le_of_ble_eq_true rfl) ?_
  refine W.eq (g2 := F0 m 4 ls []) rfl ?_
  refine lv_aload_n hx hb dX0_init_4 rfl (lv_at hl 0 rfl) ?_
  refine lv_bipush (v := nI 48) hx hb dX0_init_5 (by decide) ?_
  refine va_newa hx hb (hts (.arrayClass .int) (by decide +kernel)) (ty := .int) rfl hK hP hD hS hA (a0 := (48, .inl (fun _ => nI 0))) (na_int 48) (nI_pos (by decide)) (nI_clamp (by decide)) (Nat.le_of_ble_eq_true rfl) (Nat.le_of_ble_eq_true rfl) (Nat.le_of_ble_eq_true rfl) dX0_init_7 (fun q1 c1 H hK hP hD hS => ?_)
  have hK : va_K D vwCl [(c1, .int)] s := hK
  have hP : va_P D vwCl [(h0, .inr (0, [.int 0, .int 0, .int 0, .null, .null, .long 0, .null, .null, .null, .int 0, .int 0, .long 0])), (q1, .inl (c1, 48, .inl (fun _ => nI 0)))] H := hP
  have hD : va_D G [(h0, .inr (0, [.int 0, .int 0, .int 0, .null, .null, .long 0, .null, .null, .null, .int 0, .int 0, .long 0])), (q1, .inl (c1, 48, .inl (fun _ => nI 0)))] := hD
  refine W.widen (k := 1) (n := 48) (Nat.le_of_ble_eq_true rfl) (Nat.le_of_ble_eq_true rfl) ?_
  refine va_putF (D := D) (ci := 0) (v := .ref q1) (ty := .array .int) (C := RX0) (T := TX0) (N := 12) hx hb hts hin0 tyX0 tyX0_ok nmX0 hown hK hP hD hS 0 rfl rfl 3 (by decide) (hts (.fieldLink RX0 9 "VoiceParts" "boardNumbers" "[I") (by decide +kernel)) (fun _ h9 => h9) rfl hin rfl (by decide +kernel) rfl rfl (Nat.le_of_ble_eq_true rfl) dX0_init_9 (fun H locs hP hD hS => ?_)
  have hP : va_P D vwCl [(h0, .inr (0, [.int 0, .int 0, .int 0, .ref q1, .null, .long 0, .null, .null, .null, .int 0, .int 0, .long 0])), (q1, .inl (c1, 48, .inl (fun _ => nI 0)))] H := hP
  have hD : va_D G [(h0, .inr (0, [.int 0, .int 0, .int 0, .ref q1, .null, .long 0, .null, .null, .null, .int 0, .int 0, .long 0])), (q1, .inl (c1, 48, .inl (fun _ => nI 0)))] := hD
  refine lv_aload_n hx hb dX0_init_12 rfl (lv_at hl 0 rfl) ?_
  refine lv_bipush (v := nI 42) hx hb dX0_init_13 (by decide) ?_
  refine va_newa hx hb (hts (.arrayClass .int) (by decide +kernel)) (ty := .int) rfl hK hP hD hS hA (a0 := (42, .inl (fun _ => nI 0))) (na_int 42) (nI_pos (by decide)) (nI_clamp (by decide)) (Nat.le_of_ble_eq_true rfl) (Nat.le_of_ble_eq_true rfl) (Nat.le_of_ble_eq_true rfl) dX0_init_15 (fun q2 c2 H hK hP hD hS => ?_)
  obtain rfl : c2 = c1 := Option.some.inj ((hK.2 1 _ rfl).2.symm.trans (hK.2 0 _ rfl).2)
  have hK : va_K D vwCl [(c1, .int)] s := hK.sub [0] rfl
  have hP : va_P D vwCl [(h0, .inr (0, [.int 0, .int 0, .int 0, .ref q1, .null, .long 0, .null, .null, .null, .int 0, .int 0, .long 0])), (q1, .inl (c1, 48, .inl (fun _ => nI 0))), (q2, .inl (c1, 42, .inl (fun _ => nI 0)))] H := hP
  have hD : va_D G [(h0, .inr (0, [.int 0, .int 0, .int 0, .ref q1, .null, .long 0, .null, .null, .null, .int 0, .int 0, .long 0])), (q1, .inl (c1, 48, .inl (fun _ => nI 0))), (q2, .inl (c1, 42, .inl (fun _ => nI 0)))] := hD
  refine W.widen (k := 2) (n := 90) (Nat.le_of_ble_eq_true rfl) (Nat.le_of_ble_eq_true rfl) ?_
  refine va_putF (D := D) (ci := 0) (v := .ref q2) (ty := .array .int) (C := RX0) (T := TX0) (N := 12) hx hb hts hin0 tyX0 tyX0_ok nmX0 hown hK hP hD hS 0 rfl rfl 4 (by decide) (hts (.fieldLink RX0 13 "VoiceParts" "voiceNumbers" "[I") (by decide +kernel)) (fun _ h9 => h9) rfl hin rfl (by decide +kernel) rfl rfl (Nat.le_of_ble_eq_true rfl) dX0_init_17 (fun H locs hP hD hS => ?_)
  sorry
set_option maxHeartbeats 300000 in
set_option maxRecDepth 100000 in
theorem kX0_init82 (l : Launch) (D : va_G) (h0 sz : Nat) : Met l yX0_init wsX0_init rmX0_init (va_Pc [.ref h0] (fun U => U.heap.size = sz ∧ va_P D vwCl [(h0, .inr (0, [.int 0, .int 0, .int 0, .null, .null, .long 0, .null, .null, .null, .int 0, .int 0, .long 0]))] U.heap ∧ va_K D vwCl [] U ∧ va_D (fun _ => True) [(h0, .inr (0, [.int 0, .int 0, .int 0, .null, .null, .long 0, .null, .null, .null, .int 0, .int 0, .long 0]))])) (va_Qv (fun u : (Nat → Nat) × ClassId => u.1 0 = h0) (fun (u : (Nat → Nat) × ClassId) (t : State) => va_P D vwCl (xw u.1 u.2 A0) t.heap ∧ va_K D vwCl [(u.2, .int)] t ∧ va_D (va_A [(h0, .inr (0, [.int 0, .int 0, .int 0, .null, .null, .long 0, .null, .null, .null, .int 0, .int 0, .long 0]))] sz) (xw u.1 u.2 A0)) (va_A [(h0, .inr (0, [.int 0, .int 0, .int 0, .null, .null, .long 0, .null, .null, .null, .int 0, .int 0, .long 0]))] sz)) 5 252 (va_A [(h0, .inr (0, [.int 0, .int 0, .int 0, .null, .null, .long 0, .null, .null, .null, .int 0, .int 0, .long 0]))] sz) := by
  refine Met.ofW (cc := cX0_init) (maxL := 1) (ret := none) (by decide) rfl ?_
  intro p e s m args below meth c s₁ Bd hml hv
  obtain ⟨rfl, hsz, hP, hK, hD0⟩ := hv
  have hx := Bd.exec
  have hb := Bd.bytes
  have hr := Bd.returns
  have hts := atoms_spec (ws := wsX0_init) Bd.pre
  have hown : s.vm.findClass RX0 = some m.cls := findClass_of_methodNamed Bd.named
  have hlocks := Bd.notSynchronized
  have hin : meth.name = "<init>" := (name_of_methodNamed Bd.named Bd.method).1
  subst hsz
  have hD := hD0.self (sz := s.heap.size)
  generalize hAe : va_A [(h0, .inr (0, [.int 0, .int 0, .int 0, .null, .null, .long 0, .null, .null, .null, .int 0, .int 0, .long 0]))] s.heap.size = G at hD ⊢
  have hA : ∀ q : Nat, s.heap.size ≤ q → G q := fun q h => by rw [← hAe]; exact Or.inr h
  have hS : va_S G s.heap s.heap [] := va_S.rf
  have hin0 : ∀ w ∈ u_ws RX0 TX0 12, w ∈ wsX0_init := fun _ h => List.mem_cons_of_mem _ (List.mem_append_right _ h)
  have hl := lv_entry ([.ref h0]) (n := 1) (Nat.le_of_ble_eq_true rfl)
  rw [lg_entry_eq]
  generalize (lg_sl ([.ref h0]) ++ List.replicate (1 - (lg_sl ([.ref h0])).length) Slot.unset).toArray = ls at hl ⊢
  have hl : lv_has ls 1 [(0, .ref h0)] := hl
  refine lv_aload_n hx hb dX0_init_0 rfl (lv_at hl 0 rfl) ?_
  refine W.objInit hx hb hown (hts (.methodLink RX0 3 objectInit) (by decide +kernel)) (hts (.instanceMethod objectInit) (by decide +kernel)) (hts (.code objectInit ⟨#[0xb1]⟩ 1 none) (List.mem_cons_of_mem _ (List.mem_append_left _ (List.mem_of_getElem? (i := 2) rfl)))) rfl (by rw [hml]; exact hl.1) rfl dX0_init_1 (Nat.le_of_ble_eq_true rfl) (Nat.le_of_ble_eq_true rfl) ?_
  refine W.eq (g2 := F0 m 4 ls []) rfl ?_
  refine lv_aload_n hx hb dX0_init_4 rfl (lv_at hl 0 rfl) ?_
  refine lv_bipush (v := nI 48) hx hb dX0_init_5 (by decide) ?_
  refine va_newa hx hb (hts (.arrayClass .int) (by decide +kernel)) (ty := .int) rfl hK hP hD hS hA (a0 := (48, .inl (fun _ => nI 0))) (na_int 48) (nI_pos (by decide)) (nI_clamp (by decide)) (Nat.le_of_ble_eq_true rfl) (Nat.le_of_ble_eq_true rfl) (Nat.le_of_ble_eq_true rfl) dX0_init_7 (fun q1 c1 H hK hP hD hS => ?_)
  have hK : va_K D vwCl [(c1, .int)] s := hK
  have hP : va_P D vwCl [(h0, .inr (0, [.int 0, .int 0, .int 0, .null, .null, .long 0, .null, .null, .null, .int 0, .int 0, .long 0])), (q1, .inl (c1, 48, .inl (fun _ => nI 0)))] H := hP
  have hD : va_D G [(h0, .inr (0, [.int 0, .int 0, .int 0, .null, .null, .long 0, .null, .null, .null, .int 0, .int 0, .long 0])), (q1, .inl (c1, 48, .inl (fun _ => nI 0)))] := hD
  refine W.widen (k := 1) (n := 48) (Nat.le_of_ble_eq_true rfl) (Nat.le_of_ble_eq_true rfl) ?_
  refine va_putF (D := D) (ci := 0) (v := .ref q1) (ty := .array .int) (C := RX0) (T := TX0) (N := 12) hx hb hts hin0 tyX0 tyX0_ok nmX0 hown hK hP hD hS 0 rfl rfl 3 (by decide) (hts (.fieldLink RX0 9 "VoiceParts" "boardNumbers" "[I") (by decide +kernel)) (fun _ h9 => h9) rfl hin rfl (by decide +kernel) rfl rfl (Nat.le_of_ble_eq_true rfl) dX0_init_9 (fun H locs hP hD hS => ?_)
  have hP : va_P D vwCl [(h0, .inr (0, [.int 0, .int 0, .int 0, .ref q1, .null, .long 0, .null, .null, .null, .int 0, .int 0, .long 0])), (q1, .inl (c1, 48, .inl (fun _ => nI 0)))] H := hP
  have hD : va_D G [(h0, .inr (0, [.int 0, .int 0, .int 0, .ref q1, .null, .long 0, .null, .null, .null, .int 0, .int 0, .long 0])), (q1, .inl (c1, 48, .inl (fun _ => nI 0)))] := hD
  refine lv_aload_n hx hb dX0_init_12 rfl (lv_at hl 0 rfl) ?_
  refine lv_bipush (v := nI 42) hx hb dX0_init_13 (by decide) ?_
  refine va_newa hx hb (hts (.arrayClass .int) (by decide +kernel)) (ty := .int) rfl hK hP hD hS hA (a0 := (42, .inl (fun _ => nI 0))) (na_int 42) (nI_pos (by decide)) (nI_clamp (by decide)) (Nat.le_of_ble_eq_true rfl) (Nat.le_of_ble_eq_true rfl) (Nat.le_of_ble_eq_true rfl) dX0_init_15 (fun q2 c2 H hK hP hD hS => ?_)
  obtain rfl : c2 = c1 := Option.some.inj ((hK.2 1 _ rfl).2.symm.trans (hK.2 0 _ rfl).2)
  have hK : va_K D vwCl [(c1, .int)] s := hK.sub [0] rfl
  have hP : va_P D vwCl [(h0, .inr (0, [.int 0, .int 0, .int 0, .ref q1, .null, .long 0, .null, .null, .null, .int 0, .int 0, .long 0])), (q1, .inl (c1, 48, .inl (fun _ => nI 0))), (q2, .inl (c1, 42, .inl (fun _ => nI 0)))] H := hP
  have hD : va_D G [(h0, .inr (0, [.int 0, .int 0, .int 0, .ref q1, .null, .long 0, .null, .null, .null, .int 0, .int 0, .long 0])), (q1, .inl (c1, 48, .inl (fun _ => nI 0))), (q2, .inl (c1, 42, .inl (fun _ => nI 0)))] := hD
  refine W.widen (k := 2) (n := 90) (Nat.le_of_ble_eq_true rfl) (Nat.le_of_ble_eq_true rfl) ?_
  refine va_putF (D := D) (ci := 0) (v := .ref q2) (ty := .array .int) (C := RX0) (T := TX0) (N := 12) hx hb hts hin0 tyX0 tyX0_ok nmX0 hown hK hP hD hS 0 rfl rfl 4 (by decide) (hts (.fieldLink RX0 13 "VoiceParts" "voiceNumbers" "[I") (by decide +kernel)) (fun _ h9 => h9) rfl hin rfl (by decide +kernel) rfl rfl (Nat.le_of_ble_eq_true rfl) dX0_init_17 (fun H locs hP hD hS => ?_)
  have hP : va_P D vwCl [(h0, .inr (0, [.int 0, .int 0, .int 0, .ref q1, .ref q2, .long 0, .null, .null, .null, .int 0, .int 0, .long 0])), (q1, .inl (c1, 48, .inl (fun _ => nI 0))), (q2, .inl (c1, 42, .inl (fun _ => nI 0)))] H := hP
  have hD : va_D G [(h0, .inr (0, [.int 0, .int 0, .int 0, .ref q1, .ref q2, .long 0, .null, .null, .null, .int 0, .int 0, .long 0])), (q1, .inl (c1, 48, .inl (fun _ => nI 0))), (q2, .inl (c1, 42, .inl (fun _ => nI 0)))] := hD
  refine lv_aload_n hx hb dX0_init_20 rfl (lv_at hl 0 rfl) ?_
  refine lv_sipush (v := nI 144) hx hb dX0_init_21 (by decide) ?_
  refine va_newa hx hb (hts (.arrayClass .int) (by decide +kernel)) (ty := .int) rfl hK hP hD hS hA (a0 := (144, .inl (fun _ => nI 0))) (na_int 144) (nI_pos (by decide)) (nI_clamp (by decide)) (Nat.le_of_ble_eq_true rfl) (Nat.le_of_ble_eq_true rfl) (Nat.le_of_ble_eq_true rfl) dX0_init_24 (fun q3 c3 H hK hP hD hS => ?_)
  obtain rfl : c3 = c1 := Option.some.inj ((hK.2 1 _ rfl).2.symm.trans (hK.2 0 _ rfl).2)
  have hK : va_K D vwCl [(c1, .int)] s := hK.sub [0] rfl
  have hP : va_P D vwCl [(h0, .inr (0, [.int 0, .int 0, .int 0, .ref q1, .ref q2, .long 0, .null, .null, .null, .int 0, .int 0, .long 0])), (q1, .inl (c1, 48, .inl (fun _ => nI 0))), (q2, .inl (c1, 42, .inl (fun _ => nI 0))), (q3, .inl (c1, 144, .inl (fun _ => nI 0)))] H := hP
  have hD : va_D G [(h0, .inr (0, [.int 0, .int 0, .int 0, .ref q1, .ref q2, .long 0, .null, .null, .null, .int 0, .int 0, .long 0])), (q1, .inl (c1, 48, .inl (fun _ => nI 0))), (q2, .inl (c1, 42, .inl (fun _ => nI 0))), (q3, .inl (c1, 144, .inl (fun _ => nI 0)))] := hD
  refine W.widen (k := 3) (n := 234) (Nat.le_of_ble_eq_true rfl) (Nat.le_of_ble_eq_true rfl) ?_
  refine va_putF (D := D) (ci := 0) (v := .ref q3) (ty := .array .int) (C := RX0) (T := TX0) (N := 12) hx hb hts hin0 tyX0 tyX0_ok nmX0 hown hK hP hD hS 0 rfl rfl 6 (by decide) (hts (.fieldLink RX0 16 "VoiceParts" "truthNumbers" "[I") (by decide +kernel)) (fun _ h9 => h9) rfl hin rfl (by decide +kernel) rfl rfl (Nat.le_of_ble_eq_true rfl) dX0_init_26 (fun H locs hP hD hS => ?_)
  have hP : va_P D vwCl [(h0, .inr (0, [.int 0, .int 0, .int 0, .ref q1, .ref q2, .long 0, .ref q3, .null, .null, .int 0, .int 0, .long 0])), (q1, .inl (c1, 48, .inl (fun _ => nI 0))), (q2, .inl (c1, 42, .inl (fun _ => nI 0))), (q3, .inl (c1, 144, .inl (fun _ => nI 0)))] H := hP
  have hD : va_D G [(h0, .inr (0, [.int 0, .int 0, .int 0, .ref q1, .ref q2, .long 0, .ref q3, .null, .null, .int 0, .int 0, .long 0])), (q1, .inl (c1, 48, .inl (fun _ => nI 0))), (q2, .inl (c1, 42, .inl (fun _ => nI 0))), (q3, .inl (c1, 144, .inl (fun _ => nI 0)))] := hD
  refine lv_aload_n hx hb dX0_init_29 rfl (lv_at hl 0 rfl) ?_
  refine lv_bipush (v := nI 16) hx hb dX0_init_30 (by decide) ?_
  refine va_newa hx hb (hts (.arrayClass .int) (by decide +kernel)) (ty := .int) rfl hK hP hD hS hA (a0 := (16, .inl (fun _ => nI 0))) (na_int 16) (nI_pos (by decide)) (nI_clamp (by decide)) (Nat.le_of_ble_eq_true rfl) (Nat.le_of_ble_eq_true rfl) (Nat.le_of_ble_eq_true rfl) dX0_init_32 (fun q4 c4 H hK hP hD hS => ?_)
  obtain rfl : c4 = c1 := Option.some.inj ((hK.2 1 _ rfl).2.symm.trans (hK.2 0 _ rfl).2)
  have hK : va_K D vwCl [(c1, .int)] s := hK.sub [0] rfl
  have hP : va_P D vwCl [(h0, .inr (0, [.int 0, .int 0, .int 0, .ref q1, .ref q2, .long 0, .ref q3, .null, .null, .int 0, .int 0, .long 0])), (q1, .inl (c1, 48, .inl (fun _ => nI 0))), (q2, .inl (c1, 42, .inl (fun _ => nI 0))), (q3, .inl (c1, 144, .inl (fun _ => nI 0))), (q4, .inl (c1, 16, .inl (fun _ => nI 0)))] H := hP
  have hD : va_D G [(h0, .inr (0, [.int 0, .int 0, .int 0, .ref q1, .ref q2, .long 0, .ref q3, .null, .null, .int 0, .int 0, .long 0])), (q1, .inl (c1, 48, .inl (fun _ => nI 0))), (q2, .inl (c1, 42, .inl (fun _ => nI 0))), (q3, .inl (c1, 144, .inl (fun _ => nI 0))), (q4, .inl (c1, 16, .inl (fun _ => nI 0)))] := hD
  refine W.widen (k := 4) (n := 250) (Nat.le_of_ble_eq_true rfl) (Nat.le_of_ble_eq_true rfl) ?_
  refine va_putF (D := D) (ci := 0) (v := .ref q4) (ty := .array .int) (C := RX0) (T := TX0) (N := 12) hx hb hts hin0 tyX0 tyX0_ok nmX0 hown hK hP hD hS 0 rfl rfl 7 (by decide) (hts (.fieldLink RX0 19 "VoiceParts" "rowNumbers" "[I") (by decide +kernel)) (fun _ h9 => h9) rfl hin rfl (by decide +kernel) rfl rfl (Nat.le_of_ble_eq_true rfl) dX0_init_34 (fun H locs hP hD hS => ?_)
  have hP : va_P D vwCl [(h0, .inr (0, [.int 0, .int 0, .int 0, .ref q1, .ref q2, .long 0, .ref q3, .ref q4, .null, .int 0, .int 0, .long 0])), (q1, .inl (c1, 48, .inl (fun _ => nI 0))), (q2, .inl (c1, 42, .inl (fun _ => nI 0))), (q3, .inl (c1, 144, .inl (fun _ => nI 0))), (q4, .inl (c1, 16, .inl (fun _ => nI 0)))] H := hP
  have hD : va_D G [(h0, .inr (0, [.int 0, .int 0, .int 0, .ref q1, .ref q2, .long 0, .ref q3, .ref q4, .null, .int 0, .int 0, .long 0])), (q1, .inl (c1, 48, .inl (fun _ => nI 0))), (q2, .inl (c1, 42, .inl (fun _ => nI 0))), (q3, .inl (c1, 144, .inl (fun _ => nI 0))), (q4, .inl (c1, 16, .inl (fun _ => nI 0)))] := hD
  refine lv_aload_n hx hb dX0_init_37 rfl (lv_at hl 0 rfl) ?_
  refine lv_iconst (v := nI 2) hx hb dX0_init_38 (by decide) ?_
  refine va_newa hx hb (hts (.arrayClass .int) (by decide +kernel)) (ty := .int) rfl hK hP hD hS hA (a0 := (2, .inl (fun _ => nI 0))) (na_int 2) (nI_pos (by decide)) (nI_clamp (by decide)) (Nat.le_of_ble_eq_true rfl) (Nat.le_of_ble_eq_true rfl) (Nat.le_of_ble_eq_true rfl) dX0_init_39 (fun q5 c5 H hK hP hD hS => ?_)
  obtain rfl : c5 = c1 := Option.some.inj ((hK.2 1 _ rfl).2.symm.trans (hK.2 0 _ rfl).2)
  have hK : va_K D vwCl [(c1, .int)] s := hK.sub [0] rfl
  have hP : va_P D vwCl [(h0, .inr (0, [.int 0, .int 0, .int 0, .ref q1, .ref q2, .long 0, .ref q3, .ref q4, .null, .int 0, .int 0, .long 0])), (q1, .inl (c1, 48, .inl (fun _ => nI 0))), (q2, .inl (c1, 42, .inl (fun _ => nI 0))), (q3, .inl (c1, 144, .inl (fun _ => nI 0))), (q4, .inl (c1, 16, .inl (fun _ => nI 0))), (q5, .inl (c1, 2, .inl (fun _ => nI 0)))] H := hP
  have hD : va_D G [(h0, .inr (0, [.int 0, .int 0, .int 0, .ref q1, .ref q2, .long 0, .ref q3, .ref q4, .null, .int 0, .int 0, .long 0])), (q1, .inl (c1, 48, .inl (fun _ => nI 0))), (q2, .inl (c1, 42, .inl (fun _ => nI 0))), (q3, .inl (c1, 144, .inl (fun _ => nI 0))), (q4, .inl (c1, 16, .inl (fun _ => nI 0))), (q5, .inl (c1, 2, .inl (fun _ => nI 0)))] := hD
  refine W.widen (k := 5) (n := 252) (Nat.le_of_ble_eq_true rfl) (Nat.le_of_ble_eq_true rfl) ?_
  refine va_putF (D := D) (ci := 0) (v := .ref q5) (ty := .array .int) (C := RX0) (T := TX0) (N := 12) hx hb hts hin0 tyX0 tyX0_ok nmX0 hown hK hP hD hS 0 rfl rfl 8 (by decide) (hts (.fieldLink RX0 22 "VoiceParts" "rowSizes" "[I") (by decide +kernel)) (fun _ h9 => h9) rfl hin rfl (by decide +kernel) rfl rfl (Nat.le_of_ble_eq_true rfl) dX0_init_41 (fun H locs hP hD hS => ?_)
  have hP : va_P D vwCl [(h0, .inr (0, [.int 0, .int 0, .int 0, .ref q1, .ref q2, .long 0, .ref q3, .ref q4, .ref q5, .int 0, .int 0, .long 0])), (q1, .inl (c1, 48, .inl (fun _ => nI 0))), (q2, .inl (c1, 42, .inl (fun _ => nI 0))), (q3, .inl (c1, 144, .inl (fun _ => nI 0))), (q4, .inl (c1, 16, .inl (fun _ => nI 0))), (q5, .inl (c1, 2, .inl (fun _ => nI 0)))] H := hP
  have hD : va_D G [(h0, .inr (0, [.int 0, .int 0, .int 0, .ref q1, .ref q2, .long 0, .ref q3, .ref q4, .ref q5, .int 0, .int 0, .long 0])), (q1, .inl (c1, 48, .inl (fun _ => nI 0))), (q2, .inl (c1, 42, .inl (fun _ => nI 0))), (q3, .inl (c1, 144, .inl (fun _ => nI 0))), (q4, .inl (c1, 16, .inl (fun _ => nI 0))), (q5, .inl (c1, 2, .inl (fun _ => nI 0)))] := hD
  sorry
