def rmX0_within : Room := { frames := 0, cells := 0, slots := 0, locals := 0 }
set_option maxHeartbeats 4000000 in
set_option maxRecDepth 100000 in
/-- within(x, lo, hi) -/
theorem kX0_within (l : Launch)  (x lo hi : Int32) : RO l yX0_within wsX0_within rmX0_within [.int x, .int lo, .int hi] (vT) (if lo ≤ x ∧ x ≤ hi then 1 else 0) := by
  refine ro_ofWz (cc := cX0_within) (maxL := 3) (by decide) rfl (Nat.le_of_ble_eq_true rfl) ?_
  intro p e s m below meth c args Q hx hb hml hown hts hB hQ ls hl
  have hown : s.vm.findClass RX0 = some m.cls := hown
  have hl : lv_has ls 3 [(0, .int x), (1, .int lo), (2, .int hi)] := hl
  refine lv_iload_n hx hb dX0_within_0 rfl (lv_at hl 0 rfl) ?_
  refine lv_iload_n hx hb dX0_within_1 rfl (lv_at hl 1 rfl) ?_
  refine lv_icmp_lt (tgt := 14) hx hb dX0_within_2 (by decide) (fun c_2 => ?_) (fun c_2 => ?_)
  · refine lv_iconst (v := nI 0) hx hb dX0_within_14 (by decide) ?_
    exact hQ dX0_within_15 ((if_neg (fun q => Int32.not_lt.mpr q.1 c_2)).symm)
  · refine lv_iload_n hx hb dX0_within_5 rfl (lv_at hl 0 rfl) ?_
    refine lv_iload_n hx hb dX0_within_6 rfl (lv_at hl 2 rfl) ?_
    refine lv_icmp_gt (tgt := 14) hx hb dX0_within_7 (by decide) (fun c_7 => ?_) (fun c_7 => ?_)
    · refine lv_iconst (v := nI 0) hx hb dX0_within_14 (by decide) ?_
      exact hQ dX0_within_15 ((if_neg (fun q => Int32.not_lt.mpr q.2 c_7)).symm)
    · refine lv_iconst (v := nI 1) hx hb dX0_within_10 (by decide) ?_
      refine lv_goto (tgt := 15) hx hb dX0_within_11 (by decide) ?_
      exact hQ dX0_within_15 ((if_pos ⟨Int32.not_lt.mp c_2, Int32.not_lt.mp c_7⟩).symm)
def rmX0_isKind : Room := { frames := 1, cells := 0, slots := 0, locals := 22 }
set_option maxHeartbeats 4000000 in
set_option maxRecDepth 100000 in
/-- isKind -/
theorem kX0_isKind (l : Launch)  (x : Int32) : RO l yX0_isKind wsX0_isKind rmX0_isKind [.int x] (vT) (if nI 0 ≤ x ∧ x ≤ nI 2 then 1 else 0) := by
  refine ro_ofWz (cc := cX0_isKind) (maxL := 1) (by decide) rfl (Nat.le_of_ble_eq_true rfl) ?_
  intro p e s m below meth c args Q hx hb hml hown hts hB hQ ls hl
  have hown : s.vm.findClass RX0 = some m.cls := hown
  have hl : lv_has ls 1 [(0, .int x)] := hl
  refine lv_iload_n hx hb dX0_isKind_0 rfl (lv_at hl 0 rfl) ?_
  refine lv_iconst (v := nI 0) hx hb dX0_isKind_1 (by decide) ?_
  refine lv_iconst (v := nI 2) hx hb dX0_isKind_2 (by decide) ?_
  refine ro_callS (As := [.int x, .int (nI 0), .int (nI 2)]) (rest := []) ⟨hx, hb, hml, hown, hts⟩ (kX0_within l (x) (nI 0) (nI 2)) (va_cwS 3 hts gX0_isKind_X0_within rfl rfl rfl (by decide +kernel) ⟨Nat.le_of_ble_eq_true rfl, Nat.le_of_ble_eq_true rfl⟩) vT_bl vT_at rfl hl.1 rfl (Nat.le_of_ble_eq_true rfl) dX0_isKind_3 ⟨Nat.zero_le _, Nat.zero_le _⟩ ?_
  exact hQ dX0_isKind_6 (rfl)
def rmX0_isRow : Room := { frames := 1, cells := 0, slots := 0, locals := 22 }
set_option maxHeartbeats 4000000 in
set_option maxRecDepth 100000 in
/-- isRow -/
theorem kX0_isRow (l : Launch)  (x : Int32) : RO l yX0_isRow wsX0_isRow rmX0_isRow [.int x] (vT) (if nI 0 ≤ x ∧ x ≤ nI 1 then 1 else 0) := by
  refine ro_ofWz (cc := cX0_isRow) (maxL := 1) (by decide) rfl (Nat.le_of_ble_eq_true rfl) ?_
  intro p e s m below meth c args Q hx hb hml hown hts hB hQ ls hl
  have hown : s.vm.findClass RX0 = some m.cls := hown
  have hl : lv_has ls 1 [(0, .int x)] := hl
  refine lv_iload_n hx hb dX0_isRow_0 rfl (lv_at hl 0 rfl) ?_
  refine lv_iconst (v := nI 0) hx hb dX0_isRow_1 (by decide) ?_
  refine lv_iconst (v := nI 1) hx hb dX0_isRow_2 (by decide) ?_
  refine ro_callS (As := [.int x, .int (nI 0), .int (nI 1)]) (rest := []) ⟨hx, hb, hml, hown, hts⟩ (kX0_within l (x) (nI 0) (nI 1)) (va_cwS 3 hts gX0_isRow_X0_within rfl rfl rfl (by decide +kernel) ⟨Nat.le_of_ble_eq_true rfl, Nat.le_of_ble_eq_true rfl⟩) vT_bl vT_at rfl hl.1 rfl (Nat.le_of_ble_eq_true rfl) dX0_isRow_3 ⟨Nat.zero_le _, Nat.zero_le _⟩ ?_
  exact hQ dX0_isRow_6 (rfl)
def rmX0_isVoice : Room := { frames := 1, cells := 0, slots := 0, locals := 22 }
set_option maxHeartbeats 4000000 in
set_option maxRecDepth 100000 in
/-- isVoice -/
theorem kX0_isVoice (l : Launch) (D : va_G) (h : Nat → Nat) (cI : ClassId) (A : St) (hI : Inv A) (x : Int32) : RO l yX0_isVoice wsX0_isVoice rmX0_isVoice [.ref (h 0), .int x] (vB D (xw h cI A) [(cI, .int)]) (if iN x (sK A) then 1 else 0) := by
  refine ro_ofWz (cc := cX0_isVoice) (maxL := 2) (by decide) rfl (Nat.le_of_ble_eq_true rfl) ?_
  intro p e s m below meth c args Q hx hb hml hown hts hB hQ ls hl
  have hown : s.vm.findClass RX0 = some m.cls := hown
  obtain ⟨hP, hK⟩ := hB
  have hin0 : ∀ w ∈ u_ws RX0 TX0 12, w ∈ wsX0_isVoice := fun _ h => List.mem_cons_of_mem _ (List.mem_append_right _ h)
  have hl : lv_has ls 2 [(0, .ref (h 0)), (1, .int x)] := hl
  have hF := hI.F
  have hT := hI.T
  have hK3 := hI.K
  have hJ := hI.J
  have hZ := hI.Z
  refine lv_iload_n hx hb dX0_isVoice_0 rfl (lv_at hl 1 rfl) ?_
  refine lv_iconst (v := nI 0) hx hb dX0_isVoice_1 (by decide) ?_
  refine lv_aload_n hx hb dX0_isVoice_2 rfl (lv_at hl 0 rfl) ?_
  refine va_get (D := D) (ci := 0) (v := .int (nI (sK A))) (C := RX0) (T := TX0) (N := 12) hx hb hts hin0 hown hK hP 0 rfl rfl 2 (by decide) (hts (.fieldLink RX0 137 "VoiceParts" "voices" "I") (by decide +kernel)) (fun _ h9 => h9) rfl dX0_isVoice_3 ?_
  refine lv_iconst (v := nI 1) hx hb dX0_isVoice_6 (by decide) ?_
  refine n_isub hx hb (by omega) dX0_isVoice_7 ?_
  refine ro_callS (As := [.int x, .int (nI 0), .int (nI ((sK A) - 1))]) (rest := []) ⟨hx, hb, hml, hown, hts⟩ (kX0_within l (x) (nI 0) (nI ((sK A) - 1))) (va_cwS 3 hts gX0_isVoice_X0_within rfl rfl rfl (by decide +kernel) ⟨Nat.le_of_ble_eq_true rfl, Nat.le_of_ble_eq_true rfl⟩) vT_bl vT_at rfl hl.1 rfl (Nat.le_of_ble_eq_true rfl) dX0_isVoice_8 ⟨Nat.zero_le _, Nat.zero_le _⟩ ?_
  exact hQ dX0_isVoice_11 (rfl)
def rmX0_isCell : Room := { frames := 1, cells := 0, slots := 0, locals := 22 }
set_option maxHeartbeats 4000000 in
set_option maxRecDepth 100000 in
/-- isCell -/
theorem kX0_isCell (l : Launch) (D : va_G) (h : Nat → Nat) (cI : ClassId) (A : St) (hI : Inv A) (x y : Int32) : RO l yX0_isCell wsX0_isCell rmX0_isCell [.ref (h 0), .int x, .int y] (vB D (xw h cI A) [(cI, .int)]) (if iN x (sF A) ∧ iN y (sT A) then 1 else 0) := by
  refine ro_ofWz (cc := cX0_isCell) (maxL := 3) (by decide) rfl (Nat.le_of_ble_eq_true rfl) ?_
  intro p e s m below meth c args Q hx hb hml hown hts hB hQ ls hl
  have hown : s.vm.findClass RX0 = some m.cls := hown
  obtain ⟨hP, hK⟩ := hB
  have hin0 : ∀ w ∈ u_ws RX0 TX0 12, w ∈ wsX0_isCell := fun _ h => List.mem_cons_of_mem _ (List.mem_append_right _ h)
  have hl : lv_has ls 3 [(0, .ref (h 0)), (1, .int x), (2, .int y)] := hl
  have hF := hI.F
  have hT := hI.T
  have hK3 := hI.K
  have hJ := hI.J
  have hZ := hI.Z
  refine lv_iload_n hx hb dX0_isCell_0 rfl (lv_at hl 1 rfl) ?_
  refine lv_iconst (v := nI 0) hx hb dX0_isCell_1 (by decide) ?_
  refine lv_aload_n hx hb dX0_isCell_2 rfl (lv_at hl 0 rfl) ?_
  refine va_get (D := D) (ci := 0) (v := .int (nI (sF A))) (C := RX0) (T := TX0) (N := 12) hx hb hts hin0 hown hK hP 0 rfl rfl 0 (by decide) (hts (.fieldLink RX0 86 "VoiceParts" "tones" "I") (by decide +kernel)) (fun _ h9 => h9) rfl dX0_isCell_3 ?_
  refine lv_iconst (v := nI 1) hx hb dX0_isCell_6 (by decide) ?_
  refine n_isub hx hb (by omega) dX0_isCell_7 ?_
  refine ro_callS (As := [.int x, .int (nI 0), .int (nI ((sF A) - 1))]) (rest := []) ⟨hx, hb, hml, hown, hts⟩ (kX0_within l (x) (nI 0) (nI ((sF A) - 1))) (va_cwS 3 hts gX0_isCell_X0_within rfl rfl rfl (by decide +kernel) ⟨Nat.le_of_ble_eq_true rfl, Nat.le_of_ble_eq_true rfl⟩) vT_bl vT_at rfl hl.1 rfl (Nat.le_of_ble_eq_true rfl) dX0_isCell_8 ⟨Nat.zero_le _, Nat.zero_le _⟩ ?_
  refine b_if_eq (tgt := 32) hx hb dX0_isCell_11 (by decide) (fun c_11 => ?_) (fun c_11 => ?_)
  · refine lv_iconst (v := nI 0) hx hb dX0_isCell_32 (by decide) ?_
    exact hQ dX0_isCell_33 ((if_neg (fun q => c_11 q.1)).symm)
  · refine lv_iload_n hx hb dX0_isCell_14 rfl (lv_at hl 2 rfl) ?_
    refine lv_iconst (v := nI 0) hx hb dX0_isCell_15 (by decide) ?_
    refine lv_aload_n hx hb dX0_isCell_16 rfl (lv_at hl 0 rfl) ?_
    refine va_get (D := D) (ci := 0) (v := .int (nI (sT A))) (C := RX0) (T := TX0) (N := 12) hx hb hts hin0 hown hK hP 0 rfl rfl 1 (by decide) (hts (.fieldLink RX0 107 "VoiceParts" "times" "I") (by decide +kernel)) (fun _ h9 => h9) rfl dX0_isCell_17 ?_
    refine lv_iconst (v := nI 1) hx hb dX0_isCell_20 (by decide) ?_
    refine n_isub hx hb (by omega) dX0_isCell_21 ?_
    refine ro_callS (As := [.int y, .int (nI 0), .int (nI ((sT A) - 1))]) (rest := []) ⟨hx, hb, hml, hown, hts⟩ (kX0_within l (y) (nI 0) (nI ((sT A) - 1))) (va_cwS 3 hts gX0_isCell_X0_within rfl rfl rfl (by decide +kernel) ⟨Nat.le_of_ble_eq_true rfl, Nat.le_of_ble_eq_true rfl⟩) vT_bl vT_at rfl hl.1 rfl (Nat.le_of_ble_eq_true rfl) dX0_isCell_22 ⟨Nat.zero_le _, Nat.zero_le _⟩ ?_
    refine b_if_eq (tgt := 32) hx hb dX0_isCell_25 (by decide) (fun c_25 => ?_) (fun c_25 => ?_)
    · refine lv_iconst (v := nI 0) hx hb dX0_isCell_32 (by decide) ?_
      exact hQ dX0_isCell_33 ((if_neg (fun q => c_25 q.2)).symm)
    · refine lv_iconst (v := nI 1) hx hb dX0_isCell_28 (by decide) ?_
      refine lv_goto (tgt := 33) hx hb dX0_isCell_29 (by decide) ?_
      exact hQ dX0_isCell_33 ((if_pos ⟨c_11, c_25⟩).symm)
def rmX0_howManyOf : Room := { frames := 0, cells := 0, slots := 0, locals := 0 }
set_option maxHeartbeats 4000000 in
set_option maxRecDepth 100000 in
/-- howManyOf -/
theorem kX0_howManyOf (l : Launch) (D : va_G) (h : Nat → Nat) (cI : ClassId) (A : St) (o : Int32) : RO l yX0_howManyOf wsX0_howManyOf rmX0_howManyOf [.ref (h 0), .int o] (vB D (xw h cI A) [(cI, .int)]) (nI (if o = 0 then sF A else sT A)) := by
  refine ro_ofW (cc := cX0_howManyOf) (maxL := 2) (by decide) rfl (Nat.le_of_ble_eq_true rfl) ?_
  intro p e s m below meth c args Q hx hb hml hown hts hB hQ ls hl
  have hown : s.vm.findClass RX0 = some m.cls := hown
  obtain ⟨hP, hK⟩ := hB
  have hin0 : ∀ w ∈ u_ws RX0 TX0 12, w ∈ wsX0_howManyOf := fun _ h => List.mem_cons_of_mem _ (List.mem_append_right _ h)
  have hl : lv_has ls 2 [(0, .ref (h 0)), (1, .int o)] := hl
  refine lv_iload_n hx hb dX0_howManyOf_0 rfl (lv_at hl 1 rfl) ?_
  refine lv_if_ne (tgt := 11) hx hb dX0_howManyOf_1 (by decide) (fun c_1 => ?_) (fun c_1 => ?_)
  · refine lv_aload_n hx hb dX0_howManyOf_11 rfl (lv_at hl 0 rfl) ?_
    refine va_get (D := D) (ci := 0) (v := .int (nI (sT A))) (C := RX0) (T := TX0) (N := 12) hx hb hts hin0 hown hK hP 0 rfl rfl 1 (by decide) (hts (.fieldLink RX0 107 "VoiceParts" "times" "I") (by decide +kernel)) (fun _ h9 => h9) rfl dX0_howManyOf_12 ?_
    exact hQ dX0_howManyOf_15 (by rw [if_neg c_1])
  · refine lv_aload_n hx hb dX0_howManyOf_4 rfl (lv_at hl 0 rfl) ?_
    refine va_get (D := D) (ci := 0) (v := .int (nI (sF A))) (C := RX0) (T := TX0) (N := 12) hx hb hts hin0 hown hK hP 0 rfl rfl 0 (by decide) (hts (.fieldLink RX0 86 "VoiceParts" "tones" "I") (by decide +kernel)) (fun _ h9 => h9) rfl dX0_howManyOf_5 ?_
    refine lv_goto (tgt := 15) hx hb dX0_howManyOf_8 (by decide) ?_
    exact hQ dX0_howManyOf_15 (by rw [if_pos c_1])
theorem kX0_howManyOfN (l : Launch) (D : va_G) (h : Nat → Nat) (cI : ClassId) (A : St) (o : Nat) (ho : o < 2 ^ 31) : RO l yX0_howManyOf wsX0_howManyOf rmX0_howManyOf [.ref (h 0), .int (nI o)] (vB D (xw h cI A) [(cI, .int)]) (nI (if o = 0 then sF A else sT A)) := by
  have h1 := kX0_howManyOf l D h cI A (nI o)
  by_cases q : o = 0
  · subst q; exact h1
  · rw [if_neg q]
    rwa [if_neg (show ¬ nI o = 0 from fun z => q ((nI_eq ho (b := 0) (by decide)).mp z))] at h1
def rmX0_isNumber : Room := { frames := 2, cells := 0, slots := 0, locals := 43 }
set_option maxHeartbeats 4000000 in
set_option maxRecDepth 100000 in
/-- isNumber -/
theorem kX0_isNumber (l : Launch) (D : va_G) (h : Nat → Nat) (cI : ClassId) (A : St) (hI : Inv A) (x o y : Int32) : RO l yX0_isNumber wsX0_isNumber rmX0_isNumber [.ref (h 0), .int x, .int o, .int y] (vB D (xw h cI A) [(cI, .int)]) (if iN x (sK A) ∧ (nI 0 ≤ o ∧ o ≤ nI 1) ∧ iN y (if o = 0 then sF A else sT A) then 1 else 0) := by
  refine ro_ofWz (cc := cX0_isNumber) (maxL := 4) (by decide) rfl (Nat.le_of_ble_eq_true rfl) ?_
  intro p e s m below meth c args Q hx hb hml hown hts hB hQ ls hl
  have hown : s.vm.findClass RX0 = some m.cls := hown
  obtain ⟨hP, hK⟩ := hB
  have hin0 : ∀ w ∈ u_ws RX0 TX0 12, w ∈ wsX0_isNumber := fun _ h => List.mem_cons_of_mem _ (List.mem_append_right _ h)
  have hl : lv_has ls 4 [(0, .ref (h 0)), (1, .int x), (2, .int o), (3, .int y)] := hl
  have hF := hI.F
  have hT := hI.T
  have hK3 := hI.K
  have hJ := hI.J
  have hZ := hI.Z
  refine lv_aload_n hx hb dX0_isNumber_0 rfl (lv_at hl 0 rfl) ?_
  refine lv_iload_n hx hb dX0_isNumber_1 rfl (lv_at hl 1 rfl) ?_
  refine ro_callV (As := [.int x]) (rest := []) ⟨hx, hb, hml, hown, hts⟩ (kX0_isVoice l D h cI A hI (x)) (cwV 1 hts gX0_isNumber_X0_isVoice rfl rfl rfl (by decide +kernel) ⟨Nat.le_of_ble_eq_true rfl, Nat.le_of_ble_eq_true rfl⟩) vB_bl (vB_at hP hK) (va_recv hK hP (ci := 0) (q0 := 0) rfl rfl) rfl hl.1 rfl (Nat.le_of_ble_eq_true rfl) dX0_isNumber_2 ⟨Nat.zero_le _, Nat.zero_le _⟩ ?_
  refine b_if_eq (tgt := 36) hx hb dX0_isNumber_5 (by decide) (fun c_5 => ?_) (fun c_5 => ?_)
  · refine lv_iconst (v := nI 0) hx hb dX0_isNumber_36 (by decide) ?_
    exact hQ dX0_isNumber_37 ((if_neg (fun q => c_5 q.1)).symm)
  · refine lv_iload_n hx hb dX0_isNumber_8 rfl (lv_at hl 2 rfl) ?_
    refine lv_iconst (v := nI 0) hx hb dX0_isNumber_9 (by decide) ?_
    refine lv_iconst (v := nI 1) hx hb dX0_isNumber_10 (by decide) ?_
    refine ro_callS (As := [.int o, .int (nI 0), .int (nI 1)]) (rest := []) ⟨hx, hb, hml, hown, hts⟩ (kX0_within l (o) (nI 0) (nI 1)) (va_cwS 3 hts gX0_isNumber_X0_within rfl rfl rfl (by decide +kernel) ⟨Nat.le_of_ble_eq_true rfl, Nat.le_of_ble_eq_true rfl⟩) vT_bl vT_at rfl hl.1 rfl (Nat.le_of_ble_eq_true rfl) dX0_isNumber_11 ⟨Nat.zero_le _, Nat.zero_le _⟩ ?_
    refine b_if_eq (tgt := 36) hx hb dX0_isNumber_14 (by decide) (fun c_14 => ?_) (fun c_14 => ?_)
    · refine lv_iconst (v := nI 0) hx hb dX0_isNumber_36 (by decide) ?_
      exact hQ dX0_isNumber_37 ((if_neg (fun q => c_14 q.2.1)).symm)
    · refine lv_iload_n hx hb dX0_isNumber_17 rfl (lv_at hl 3 rfl) ?_
      refine lv_iconst (v := nI 0) hx hb dX0_isNumber_18 (by decide) ?_
      refine lv_aload_n hx hb dX0_isNumber_19 rfl (lv_at hl 0 rfl) ?_
      refine lv_iload_n hx hb dX0_isNumber_20 rfl (lv_at hl 2 rfl) ?_
      refine ro_callV (As := [.int o]) (rest := [.int (nI 0), .int y]) ⟨hx, hb, hml, hown, hts⟩ (kX0_howManyOf l D h cI A (o)) (cwV 1 hts gX0_isNumber_X0_howManyOf rfl rfl rfl (by decide +kernel) ⟨Nat.le_of_ble_eq_true rfl, Nat.le_of_ble_eq_true rfl⟩) vB_bl (vB_at hP hK) (va_recv hK hP (ci := 0) (q0 := 0) rfl rfl) rfl hl.1 rfl (Nat.le_of_ble_eq_true rfl) dX0_isNumber_21 ⟨Nat.zero_le _, Nat.zero_le _⟩ ?_
      refine lv_iconst (v := nI 1) hx hb dX0_isNumber_24 (by decide) ?_
      refine n_isub hx hb (by split <;> omega) dX0_isNumber_25 ?_
      refine ro_callS (As := [.int y, .int (nI 0), .int (nI ((if o = 0 then sF A else sT A) - 1))]) (rest := []) ⟨hx, hb, hml, hown, hts⟩ (kX0_within l (y) (nI 0) (nI ((if o = 0 then sF A else sT A) - 1))) (va_cwS 3 hts gX0_isNumber_X0_within rfl rfl rfl (by decide +kernel) ⟨Nat.le_of_ble_eq_true rfl, Nat.le_of_ble_eq_true rfl⟩) vT_bl vT_at rfl hl.1 rfl (Nat.le_of_ble_eq_true rfl) dX0_isNumber_26 ⟨Nat.zero_le _, Nat.zero_le _⟩ ?_
      refine b_if_eq (tgt := 36) hx hb dX0_isNumber_29 (by decide) (fun c_29 => ?_) (fun c_29 => ?_)
      · refine lv_iconst (v := nI 0) hx hb dX0_isNumber_36 (by decide) ?_
        exact hQ dX0_isNumber_37 ((if_neg (fun q => c_29 q.2.2)).symm)
      · refine lv_iconst (v := nI 1) hx hb dX0_isNumber_32 (by decide) ?_
        refine lv_goto (tgt := 37) hx hb dX0_isNumber_33 (by decide) ?_
        exact hQ dX0_isNumber_37 ((if_pos ⟨c_5, c_14, c_29⟩).symm)
def rmX0_cell : Room := { frames := 0, cells := 0, slots := 0, locals := 0 }
set_option maxHeartbeats 4000000 in
set_option maxRecDepth 100000 in
/-- cell -/
theorem kX0_cell (l : Launch)  (f t : Nat) : RO l yX0_cell wsX0_cell rmX0_cell [.int (nI f), .int (nI t)] (vT) (nI (f * 8 + t)) := by
  refine ro_ofW (cc := cX0_cell) (maxL := 2) (by decide) rfl (Nat.le_of_ble_eq_true rfl) ?_
  intro p e s m below meth c args Q hx hb hml hown hts hB hQ ls hl
  have hown : s.vm.findClass RX0 = some m.cls := hown
  have hl : lv_has ls 2 [(0, .int (nI f)), (1, .int (nI t))] := hl
  refine lv_iload_n hx hb dX0_cell_0 rfl (lv_at hl 0 rfl) ?_
  refine lv_bipush (v := nI 8) hx hb dX0_cell_1 (by decide) ?_
  refine n_imul hx hb dX0_cell_3 ?_
  refine lv_iload_n hx hb dX0_cell_4 rfl (lv_at hl 1 rfl) ?_
  refine n_iadd hx hb dX0_cell_5 ?_
  exact hQ dX0_cell_6 (rfl)
def rmX0_place : Room := { frames := 0, cells := 0, slots := 0, locals := 0 }
set_option maxHeartbeats 4000000 in
set_option maxRecDepth 100000 in
/-- place -/
theorem kX0_place (l : Launch)  (k o i : Nat) (ho : o < 2) : RO l yX0_place wsX0_place rmX0_place [.int (nI k), .int (nI o), .int (nI i)] (vT) (nI (k * 14 + qi o i)) := by
  refine ro_ofW (cc := cX0_place) (maxL := 3) (by decide) rfl (Nat.le_of_ble_eq_true rfl) ?_
  intro p e s m below meth c args Q hx hb hml hown hts hB hQ ls hl
  have hown : s.vm.findClass RX0 = some m.cls := hown
  have hl : lv_has ls 3 [(0, .int (nI k)), (1, .int (nI o)), (2, .int (nI i))] := hl
  refine lv_iload_n hx hb dX0_place_0 rfl (lv_at hl 0 rfl) ?_
  refine lv_bipush (v := nI 14) hx hb dX0_place_1 (by decide) ?_
  refine n_imul hx hb dX0_place_3 ?_
  refine lv_iload_n hx hb dX0_place_4 rfl (lv_at hl 1 rfl) ?_
  refine n_if_ne (tgt := 12) hx hb (by omega) dX0_place_5 (by decide) (fun c_5 => ?_) (fun c_5 => ?_)
  · refine lv_bipush (v := nI 6) hx hb dX0_place_12 (by decide) ?_
    refine lv_iload_n hx hb dX0_place_14 rfl (lv_at hl 2 rfl) ?_
    refine n_iadd hx hb dX0_place_15 ?_
    refine n_iadd hx hb dX0_place_16 ?_
    exact hQ dX0_place_17 (by unfold qi; rw [if_neg c_5])
  · refine lv_iload_n hx hb dX0_place_8 rfl (lv_at hl 2 rfl) ?_
    refine lv_goto (tgt := 16) hx hb dX0_place_9 (by decide) ?_
    refine n_iadd hx hb dX0_place_16 ?_
    exact hQ dX0_place_17 (by unfold qi; rw [if_pos c_5])
def rmX0_truthPlace : Room := { frames := 1, cells := 0, slots := 0, locals := 21 }
set_option maxHeartbeats 4000000 in
set_option maxRecDepth 100000 in
/-- truthPlace -/
theorem kX0_truthPlace (l : Launch)  (k f t : Nat) : RO l yX0_truthPlace wsX0_truthPlace rmX0_truthPlace [.int (nI k), .int (nI f), .int (nI t)] (vT) (nI (k * 48 + (f * 8 + t))) := by
  refine ro_ofW (cc := cX0_truthPlace) (maxL := 3) (by decide) rfl (Nat.le_of_ble_eq_true rfl) ?_
  intro p e s m below meth c args Q hx hb hml hown hts hB hQ ls hl
  have hown : s.vm.findClass RX0 = some m.cls := hown
  have hl : lv_has ls 3 [(0, .int (nI k)), (1, .int (nI f)), (2, .int (nI t))] := hl
  refine lv_iload_n hx hb dX0_truthPlace_0 rfl (lv_at hl 0 rfl) ?_
  refine lv_bipush (v := nI 48) hx hb dX0_truthPlace_1 (by decide) ?_
  refine n_imul hx hb dX0_truthPlace_3 ?_
  refine lv_iload_n hx hb dX0_truthPlace_4 rfl (lv_at hl 1 rfl) ?_
  refine lv_iload_n hx hb dX0_truthPlace_5 rfl (lv_at hl 2 rfl) ?_
  refine ro_callS (As := [.int (nI f), .int (nI t)]) (rest := [.int (nI (k * 48))]) ⟨hx, hb, hml, hown, hts⟩ (kX0_cell l (f) (t)) (va_cwS 2 hts gX0_truthPlace_X0_cell rfl rfl rfl (by decide +kernel) ⟨Nat.le_of_ble_eq_true rfl, Nat.le_of_ble_eq_true rfl⟩) vT_bl vT_at rfl hl.1 rfl (Nat.le_of_ble_eq_true rfl) dX0_truthPlace_6 ⟨Nat.zero_le _, Nat.zero_le _⟩ ?_
  refine n_iadd hx hb dX0_truthPlace_9 ?_
  exact hQ dX0_truthPlace_10 (rfl)
def rmX0_boardAt : Room := { frames := 1, cells := 0, slots := 0, locals := 21 }
set_option maxHeartbeats 4000000 in
set_option maxRecDepth 100000 in
/-- boardAt -/
theorem kX0_boardAt (l : Launch) (D : va_G) (h : Nat → Nat) (cI : ClassId) (A : St) (f t : Nat) (hf : f < 6) (ht : t < 8) : RO l yX0_boardAt wsX0_boardAt rmX0_boardAt [.ref (h 0), .int (nI f), .int (nI t)] (vB D (xw h cI A) [(cI, .int)]) (sB A (f * 8 + t)) := by
  refine ro_ofW (cc := cX0_boardAt) (maxL := 3) (by decide) rfl (Nat.le_of_ble_eq_true rfl) ?_
  intro p e s m below meth c args Q hx hb hml hown hts hB hQ ls hl
  have hown : s.vm.findClass RX0 = some m.cls := hown
  obtain ⟨hP, hK⟩ := hB
  have hin0 : ∀ w ∈ u_ws RX0 TX0 12, w ∈ wsX0_boardAt := fun _ h => List.mem_cons_of_mem _ (List.mem_append_right _ h)
  have hl : lv_has ls 3 [(0, .ref (h 0)), (1, .int (nI f)), (2, .int (nI t))] := hl
  refine lv_aload_n hx hb dX0_boardAt_0 rfl (lv_at hl 0 rfl) ?_
  refine va_get (D := D) (ci := 0) (v := .ref (h 1)) (C := RX0) (T := TX0) (N := 12) hx hb hts hin0 hown hK hP 0 rfl rfl 3 (by decide) (hts (.fieldLink RX0 9 "VoiceParts" "boardNumbers" "[I") (by decide +kernel)) (fun _ h9 => h9) rfl dX0_boardAt_1 ?_
  refine lv_iload_n hx hb dX0_boardAt_4 rfl (lv_at hl 1 rfl) ?_
  refine lv_iload_n hx hb dX0_boardAt_5 rfl (lv_at hl 2 rfl) ?_
  refine ro_callS (As := [.int (nI f), .int (nI t)]) (rest := [.ref (h 1)]) ⟨hx, hb, hml, hown, hts⟩ (kX0_cell l (f) (t)) (va_cwS 2 hts gX0_boardAt_X0_cell rfl rfl rfl (by decide +kernel) ⟨Nat.le_of_ble_eq_true rfl, Nat.le_of_ble_eq_true rfl⟩) vT_bl vT_at rfl hl.1 rfl (Nat.le_of_ble_eq_true rfl) dX0_boardAt_6 ⟨Nat.zero_le _, Nat.zero_le _⟩ ?_
  refine n_iald hx hb hK hP 1 0 rfl rfl (by omega) (by decide) dX0_boardAt_9 ?_
  exact hQ dX0_boardAt_10 (rfl)
def rmX0_productAt : Room := { frames := 0, cells := 0, slots := 0, locals := 0 }
set_option maxHeartbeats 4000000 in
set_option maxRecDepth 100000 in
/-- productAt -/
theorem kX0_productAt (l : Launch) (D : va_G) (h : Nat → Nat) (cI : ClassId) (A : St) (k f t : Nat) (hk : k < 3) (hf : f < 6) (ht : t < 8) : RO l yX0_productAt wsX0_productAt rmX0_productAt [.ref (h 0), .int (nI k), .int (nI f), .int (nI t)] (vB D (xw h cI A) [(cI, .int)]) (sV A k f * sV A k (6 + t)) := by
  refine ro_ofW (cc := cX0_productAt) (maxL := 5) (by decide) rfl (Nat.le_of_ble_eq_true rfl) ?_
  intro p e s m below meth c args Q hx hb hml hown hts hB hQ ls hl
  have hown : s.vm.findClass RX0 = some m.cls := hown
  obtain ⟨hP, hK⟩ := hB
  have hin0 : ∀ w ∈ u_ws RX0 TX0 12, w ∈ wsX0_productAt := fun _ h => List.mem_cons_of_mem _ (List.mem_append_right _ h)
  have hl : lv_has ls 5 [(0, .ref (h 0)), (1, .int (nI k)), (2, .int (nI f)), (3, .int (nI t))] := hl
  refine lv_iload_n hx hb dX0_productAt_0 rfl (lv_at hl 1 rfl) ?_
  refine lv_bipush (v := nI 14) hx hb dX0_productAt_1 (by decide) ?_
  refine n_imul hx hb dX0_productAt_3 ?_
  refine lv_istore (lv' := [(4, .int (nI (k * 14))), (0, .ref (h 0)), (1, .int (nI k)), (2, .int (nI f)), (3, .int (nI t))]) hx hb dX0_productAt_4 hl (by decide) rfl (fun ls hl => ?_)
  refine lv_aload_n hx hb dX0_productAt_6 rfl (lv_at hl 1 rfl) ?_
  refine va_get (D := D) (ci := 0) (v := .ref (h 2)) (C := RX0) (T := TX0) (N := 12) hx hb hts hin0 hown hK hP 0 rfl rfl 4 (by decide) (hts (.fieldLink RX0 13 "VoiceParts" "voiceNumbers" "[I") (by decide +kernel)) (fun _ h9 => h9) rfl dX0_productAt_7 ?_
  refine lv_iload hx hb dX0_productAt_10 (lv_at hl 0 rfl) ?_
  refine lv_iload_n hx hb dX0_productAt_12 rfl (lv_at hl 3 rfl) ?_
  refine n_iadd hx hb dX0_productAt_13 ?_
  refine n_iald hx hb hK hP 2 0 rfl rfl (by omega) (by decide) dX0_productAt_14 ?_
  refine n_top (y := sV A k f) (xVat (f := sV A) (by omega) (by omega)) ?_
  refine lv_aload_n hx hb dX0_productAt_15 rfl (lv_at hl 1 rfl) ?_
  refine va_get (D := D) (ci := 0) (v := .ref (h 2)) (C := RX0) (T := TX0) (N := 12) hx hb hts hin0 hown hK hP 0 rfl rfl 4 (by decide) (hts (.fieldLink RX0 13 "VoiceParts" "voiceNumbers" "[I") (by decide +kernel)) (fun _ h9 => h9) rfl dX0_productAt_16 ?_
  refine lv_iload hx hb dX0_productAt_19 (lv_at hl 0 rfl) ?_
  refine lv_bipush (v := nI 6) hx hb dX0_productAt_21 (by decide) ?_
  refine n_iadd hx hb dX0_productAt_23 ?_
  refine lv_iload_n hx hb dX0_productAt_24 rfl (lv_at hl 4 rfl) ?_
  refine n_iadd hx hb dX0_productAt_25 ?_
  refine n_iald hx hb hK hP 2 0 rfl rfl (by omega) (by decide) dX0_productAt_26 ?_
  refine n_top (y := sV A k (6 + t)) (xVat (f := sV A) (by omega) (by omega)) ?_
  refine lv_imul hx hb dX0_productAt_27 ?_
  exact hQ dX0_productAt_28 (rfl)
def rmX0_sumAt : Room := { frames := 1, cells := 0, slots := 0, locals := 24 }
set_option maxHeartbeats 4000000 in
set_option maxRecDepth 100000 in
/-- sumAt -/
theorem kX0_sumAt (l : Launch) (D : va_G) (h : Nat → Nat) (cI : ClassId) (A : St) (hI : Inv A) (f t : Nat) (hf : f < 6) (ht : t < 8) : RO l yX0_sumAt wsX0_sumAt rmX0_sumAt [.ref (h 0), .int (nI f), .int (nI t)] (vB D (xw h cI A) [(cI, .int)]) (fS A f t) := by
  refine ro_ofW (cc := cX0_sumAt) (maxL := 5) (by decide) rfl (Nat.le_of_ble_eq_true rfl) ?_
  intro p e s m below meth c args Q hx hb hml hown hts hB hQ ls hl
  have hown : s.vm.findClass RX0 = some m.cls := hown
  obtain ⟨hP, hK⟩ := hB
  have hin0 : ∀ w ∈ u_ws RX0 TX0 12, w ∈ wsX0_sumAt := fun _ h => List.mem_cons_of_mem _ (List.mem_append_right _ h)
  have hl : lv_has ls 5 [(0, .ref (h 0)), (1, .int (nI f)), (2, .int (nI t))] := hl
  have hF := hI.F
  have hT := hI.T
  have hK3 := hI.K
  have hJ := hI.J
  have hZ := hI.Z
  refine lv_iconst (v := nI 0) hx hb dX0_sumAt_0 (by decide) ?_
  refine lv_istore_n (lv' := [(3, .int (nI 0)), (0, .ref (h 0)), (1, .int (nI f)), (2, .int (nI t))]) hx hb dX0_sumAt_1 rfl hl (by decide) rfl (fun ls hl => ?_)
  refine lv_iconst (v := nI 0) hx hb dX0_sumAt_2 (by decide) ?_
  refine lv_istore (lv' := [(4, .int (nI 0)), (3, .int (nI 0)), (0, .ref (h 0)), (1, .int (nI f)), (2, .int (nI t))]) hx hb dX0_sumAt_3 hl (by decide) rfl (fun ls hl => ?_)
  have lp5 : ∀ (n5 k : Nat), k + n5 = sK A → ∀ (ls : Array Slot), lv_has ls 5 [(0, .ref (h 0)), (1, .int (nI f)), (2, .int (nI t)), (3, .int (l_sum (fun k => sV A k f * sV A k (6 + t)) k)), (4, .int (nI k))] → W p l e rmX0_sumAt s m args below meth c s.heap [] 0 0 Q (F0 m 5 ls []) := by
    intro n5
    induction n5 with
    | zero =>
      intro k hi5 ls hl
      obtain rfl : sK A = k := by omega
      refine lv_iload hx hb dX0_sumAt_5 (lv_at hl 4 rfl) ?_
      refine lv_aload_n hx hb dX0_sumAt_7 rfl (lv_at hl 0 rfl) ?_
      refine va_get (D := D) (ci := 0) (v := .int (nI (sK A))) (C := RX0) (T := TX0) (N := 12) hx hb hts hin0 hown hK hP 0 rfl rfl 2 (by decide) (hts (.fieldLink RX0 137 "VoiceParts" "voices" "I") (by decide +kernel)) (fun _ h9 => h9) rfl dX0_sumAt_8 ?_
      refine n_icmp_ge (tgt := 31) hx hb (by omega) (by omega) dX0_sumAt_11 (by decide) (fun c_11 => ?_) (fun c_11 => by exfalso; omega)
      refine lv_iload_n hx hb dX0_sumAt_31 rfl (lv_at hl 3 rfl) ?_
      exact hQ dX0_sumAt_32 (rfl)
    | succ n5 ih5 =>
      intro k hi5 ls hl
      refine lv_iload hx hb dX0_sumAt_5 (lv_at hl 4 rfl) ?_
      refine lv_aload_n hx hb dX0_sumAt_7 rfl (lv_at hl 0 rfl) ?_
      refine va_get (D := D) (ci := 0) (v := .int (nI (sK A))) (C := RX0) (T := TX0) (N := 12) hx hb hts hin0 hown hK hP 0 rfl rfl 2 (by decide) (hts (.fieldLink RX0 137 "VoiceParts" "voices" "I") (by decide +kernel)) (fun _ h9 => h9) rfl dX0_sumAt_8 ?_
      refine n_icmp_ge (tgt := 31) hx hb (by omega) (by omega) dX0_sumAt_11 (by decide) (fun c_11 => by exfalso; omega) (fun c_11 => ?_)
      refine lv_iload_n hx hb dX0_sumAt_14 rfl (lv_at hl 3 rfl) ?_
      refine lv_aload_n hx hb dX0_sumAt_15 rfl (lv_at hl 0 rfl) ?_
      refine lv_iload hx hb dX0_sumAt_16 (lv_at hl 4 rfl) ?_
      refine lv_iload_n hx hb dX0_sumAt_18 rfl (lv_at hl 1 rfl) ?_
      refine lv_iload_n hx hb dX0_sumAt_19 rfl (lv_at hl 2 rfl) ?_
      refine ro_callV (As := [.int (nI k), .int (nI f), .int (nI t)]) (rest := [.int (l_sum (fun k => sV A k f * sV A k (6 + t)) k)]) ⟨hx, hb, hml, hown, hts⟩ (kX0_productAt l D h cI A (k) (f) (t) (by omega) (by omega) (by omega)) (cwV 3 hts gX0_sumAt_X0_productAt rfl rfl rfl (by decide +kernel) ⟨Nat.le_of_ble_eq_true rfl, Nat.le_of_ble_eq_true rfl⟩) vB_bl (vB_at hP hK) (va_recv hK hP (ci := 0) (q0 := 0) rfl rfl) rfl hl.1 rfl (Nat.le_of_ble_eq_true rfl) dX0_sumAt_20 ⟨Nat.zero_le _, Nat.zero_le _⟩ ?_
      refine lv_iadd hx hb dX0_sumAt_23 ?_
      refine lv_istore_n (lv' := [(3, .int ((l_sum (fun k => sV A k f * sV A k (6 + t)) k) + (sV A k f * sV A k (6 + t)))), (0, .ref (h 0)), (1, .int (nI f)), (2, .int (nI t)), (4, .int (nI k))]) hx hb dX0_sumAt_24 rfl hl (by decide) rfl (fun ls hl => ?_)
      refine lv_iinc (v := nI (k + 1)) (lv' := [(4, .int (nI (k + 1))), (3, .int ((l_sum (fun k => sV A k f * sV A k (6 + t)) k) + (sV A k f * sV A k (6 + t)))), (0, .ref (h 0)), (1, .int (nI f)), (2, .int (nI t))]) hx hb dX0_sumAt_25 hl (k := 4) rfl (nI_inc _) (by decide) rfl (fun ls hl => ?_)
      refine lv_goto (tgt := 5) hx hb dX0_sumAt_28 (by decide) ?_
      exact ih5 (k + 1) (by omega) ls (lv_sub hl [2, 3, 4, 1, 0] rfl)
  exact lp5 (sK A) (0) (by omega) ls (lv_sub hl [2, 3, 4, 1, 0] rfl)
def rmX0_costBy : Room := { frames := 0, cells := 0, slots := 0, locals := 0 }
set_option maxHeartbeats 4000000 in
set_option maxRecDepth 100000 in
/-- costBy -/
theorem kX0_costBy (l : Launch)  (J : Nat) (d : Int32) (hJ : J ≤ 2) : RO l yX0_costBy wsX0_costBy rmX0_costBy [.int (nI J), .int d] (vT) (fco J d) := by
  refine ro_ofW (cc := cX0_costBy) (maxL := 3) (by decide) rfl (Nat.le_of_ble_eq_true rfl) ?_
  intro p e s m below meth c args Q hx hb hml hown hts hB hQ ls hl
  have hown : s.vm.findClass RX0 = some m.cls := hown
  have hl : lv_has ls 3 [(0, .int (nI J)), (1, .int d)] := hl
  refine lv_iload_n hx hb dX0_costBy_0 rfl (lv_at hl 1 rfl) ?_
  refine lv_istore_n (lv' := [(2, .int d), (0, .int (nI J)), (1, .int d)]) hx hb dX0_costBy_1 rfl hl (by decide) rfl (fun ls hl => ?_)
  refine lv_iload_n hx hb dX0_costBy_2 rfl (lv_at hl 1 rfl) ?_
  refine lv_iconst (v := nI 1) hx hb dX0_costBy_3 (by decide) ?_
  refine n_icmp_lt (tgt := 11) hx hb (by omega) (by omega) dX0_costBy_4 (by decide) (fun c_4 => ?_) (fun c_4 => ?_)
  · refine lv_iload_n hx hb dX0_costBy_11 rfl (lv_at hl 1 rfl) ?_
    refine lv_iconst (v := nI 2) hx hb dX0_costBy_12 (by decide) ?_
    refine n_icmp_lt (tgt := 30) hx hb (by omega) (by omega) dX0_costBy_13 (by decide) (fun c_13 => ?_) (fun c_13 => by exfalso; omega)
    refine lv_iload_n hx hb dX0_costBy_30 rfl (lv_at hl 0 rfl) ?_
    exact hQ dX0_costBy_31 (by unfold fco; rw [if_pos (by omega)])
  · refine lv_iload_n hx hb dX0_costBy_7 rfl (lv_at hl 0 rfl) ?_
    refine lv_iload_n hx hb dX0_costBy_8 rfl (lv_at hl 0 rfl) ?_
    refine lv_imul hx hb dX0_costBy_9 ?_
    refine lv_istore_n (lv' := [(2, .int (d * d)), (0, .int (nI J)), (1, .int d)]) hx hb dX0_costBy_10 rfl hl (by decide) rfl (fun ls hl => ?_)
    refine lv_iload_n hx hb dX0_costBy_11 rfl (lv_at hl 1 rfl) ?_
    refine lv_iconst (v := nI 2) hx hb dX0_costBy_12 (by decide) ?_
    refine n_icmp_lt (tgt := 30) hx hb (by omega) (by omega) dX0_costBy_13 (by decide) (fun c_13 => ?_) (fun c_13 => ?_)
    · refine lv_iload_n hx hb dX0_costBy_30 rfl (lv_at hl 0 rfl) ?_
      exact hQ dX0_costBy_31 (by unfold fco; rw [if_neg (by omega), if_pos (Or.inl (by omega))])
    · refine lv_iload_n hx hb dX0_costBy_16 rfl (lv_at hl 0 rfl) ?_
      refine lv_bipush (v := nI 100) hx hb dX0_costBy_17 (by decide) ?_
      refine lv_icmp_le (tgt := 30) hx hb dX0_costBy_19 (by decide) (fun c_19 => ?_) (fun c_19 => ?_)
      · refine lv_iload_n hx hb dX0_costBy_30 rfl (lv_at hl 0 rfl) ?_
        exact hQ dX0_costBy_31 (by unfold fco; rw [if_neg (by omega), if_pos (Or.inr (show d * d ≤ 100 from c_19))])
      · refine lv_bipush (v := nI 90) hx hb dX0_costBy_22 (by decide) ?_
        refine lv_iload_n hx hb dX0_costBy_24 rfl (lv_at hl 0 rfl) ?_
        refine lv_bipush (v := nI 10) hx hb dX0_costBy_25 (by decide) ?_
        refine lv_idiv hx hb dX0_costBy_27 (by decide) ?_
        refine lv_iadd hx hb dX0_costBy_28 ?_
        refine lv_istore_n (lv' := [(2, .int ((nI 90) + ((d * d) / (nI 10)))), (0, .int (nI J)), (1, .int d)]) hx hb dX0_costBy_29 rfl hl (by decide) rfl (fun ls hl => ?_)
        refine lv_iload_n hx hb dX0_costBy_30 rfl (lv_at hl 0 rfl) ?_
        exact hQ dX0_costBy_31 (by unfold fco; rw [if_neg (by omega), if_neg (fun q => q.elim (fun z => by omega) c_19)]; rfl)
def rmX0_costAt : Room := { frames := 2, cells := 0, slots := 0, locals := 48 }
set_option maxHeartbeats 4000000 in
set_option maxRecDepth 100000 in
/-- costAt -/
theorem kX0_costAt (l : Launch) (D : va_G) (h : Nat → Nat) (cI : ClassId) (A : St) (hI : Inv A) (f t : Nat) (hf : f < 6) (ht : t < 8) : RO l yX0_costAt wsX0_costAt rmX0_costAt [.ref (h 0), .int (nI f), .int (nI t)] (vB D (xw h cI A) [(cI, .int)]) (fc A f t) := by
  refine ro_ofW (cc := cX0_costAt) (maxL := 3) (by decide) rfl (Nat.le_of_ble_eq_true rfl) ?_
  intro p e s m below meth c args Q hx hb hml hown hts hB hQ ls hl
  have hown : s.vm.findClass RX0 = some m.cls := hown
  obtain ⟨hP, hK⟩ := hB
  have hin0 : ∀ w ∈ u_ws RX0 TX0 12, w ∈ wsX0_costAt := fun _ h => List.mem_cons_of_mem _ (List.mem_append_right _ h)
  have hl : lv_has ls 3 [(0, .ref (h 0)), (1, .int (nI f)), (2, .int (nI t))] := hl
  have hF := hI.F
  have hT := hI.T
  have hK3 := hI.K
  have hJ := hI.J
  have hZ := hI.Z
  refine lv_aload_n hx hb dX0_costAt_0 rfl (lv_at hl 0 rfl) ?_
  refine va_get (D := D) (ci := 0) (v := .int (nI (sJ A))) (C := RX0) (T := TX0) (N := 12) hx hb hts hin0 hown hK hP 0 rfl rfl 9 (by decide) (hts (.fieldLink RX0 29 "VoiceParts" "judgeKind" "I") (by decide +kernel)) (fun _ h9 => h9) rfl dX0_costAt_1 ?_
  refine lv_aload_n hx hb dX0_costAt_4 rfl (lv_at hl 0 rfl) ?_
  refine lv_iload_n hx hb dX0_costAt_5 rfl (lv_at hl 1 rfl) ?_
  refine lv_iload_n hx hb dX0_costAt_6 rfl (lv_at hl 2 rfl) ?_
  refine ro_callV (As := [.int (nI f), .int (nI t)]) (rest := [.int (nI (sJ A))]) ⟨hx, hb, hml, hown, hts⟩ (kX0_boardAt l D h cI A (f) (t) (by omega) (by omega)) (cwV 2 hts gX0_costAt_X0_boardAt rfl rfl rfl (by decide +kernel) ⟨Nat.le_of_ble_eq_true rfl, Nat.le_of_ble_eq_true rfl⟩) vB_bl (vB_at hP hK) (va_recv hK hP (ci := 0) (q0 := 0) rfl rfl) rfl hl.1 rfl (Nat.le_of_ble_eq_true rfl) dX0_costAt_7 ⟨Nat.zero_le _, Nat.zero_le _⟩ ?_
  refine lv_aload_n hx hb dX0_costAt_10 rfl (lv_at hl 0 rfl) ?_
  refine lv_iload_n hx hb dX0_costAt_11 rfl (lv_at hl 1 rfl) ?_
  refine lv_iload_n hx hb dX0_costAt_12 rfl (lv_at hl 2 rfl) ?_
  refine ro_callV (As := [.int (nI f), .int (nI t)]) (rest := [.int (sB A (f * 8 + t)), .int (nI (sJ A))]) ⟨hx, hb, hml, hown, hts⟩ (kX0_sumAt l D h cI A hI (f) (t) (by omega) (by omega)) (cwV 2 hts gX0_costAt_X0_sumAt rfl rfl rfl (by decide +kernel) ⟨Nat.le_of_ble_eq_true rfl, Nat.le_of_ble_eq_true rfl⟩) vB_bl (vB_at hP hK) (va_recv hK hP (ci := 0) (q0 := 0) rfl rfl) rfl hl.1 rfl (Nat.le_of_ble_eq_true rfl) dX0_costAt_13 ⟨Nat.zero_le _, Nat.zero_le _⟩ ?_
  refine lv_isub hx hb dX0_costAt_16 ?_
  refine va_mabs hx hb (hml.trans hl.1.symm) hown (hts (.methodLink RX0 116 Lib.Math.abs.name) (by decide +kernel)) (hts (.static Lib.Math.abs.name) (by decide +kernel)) (hts (.initialized "java/lang/Math") (by decide +kernel)) (hts (.code Lib.Math.abs.name Lib.Math.abs.code 1 (some .int)) (by decide +kernel)) (Nat.le_of_ble_eq_true rfl) (Nat.le_of_ble_eq_true rfl) (Nat.zero_le _) (Nat.zero_le _) dX0_costAt_17 ?_
  refine ro_callS (As := [.int (nI (sJ A)), .int (fab ((sB A (f * 8 + t)) - (fS A f t)))]) (rest := []) ⟨hx, hb, hml, hown, hts⟩ (kX0_costBy l (sJ A) (fab ((sB A (f * 8 + t)) - (fS A f t))) (by omega)) (va_cwS 2 hts gX0_costAt_X0_costBy rfl rfl rfl (by decide +kernel) ⟨Nat.le_of_ble_eq_true rfl, Nat.le_of_ble_eq_true rfl⟩) vT_bl vT_at rfl hl.1 rfl (Nat.le_of_ble_eq_true rfl) dX0_costAt_20 ⟨Nat.zero_le _, Nat.zero_le _⟩ ?_
  exact hQ dX0_costAt_23 (rfl)
def rmX0_missAlong : Room := { frames := 3, cells := 0, slots := 0, locals := 70 }
set_option maxHeartbeats 4000000 in
set_option maxRecDepth 100000 in
/-- missAlong -/
theorem kX0_missAlong0 (l : Launch) (D : va_G) (h : Nat → Nat) (cI : ClassId) (A : St) (hI : Inv A) (i : Nat) (hi : i < 6) : RO l yX0_missAlong wsX0_missAlong rmX0_missAlong [.ref (h 0), .int (nI 0), .int (nI i)] (vB D (xw h cI A) [(cI, .int)]) (fal A 0 i) := by
  refine ro_ofW (cc := cX0_missAlong) (maxL := 6) (by decide) rfl (Nat.le_of_ble_eq_true rfl) ?_
  intro p e s m below meth c args Q hx hb hml hown hts hB hQ ls hl
  have hown : s.vm.findClass RX0 = some m.cls := hown
  obtain ⟨hP, hK⟩ := hB
  have hin0 : ∀ w ∈ u_ws RX0 TX0 12, w ∈ wsX0_missAlong := fun _ h => List.mem_cons_of_mem _ (List.mem_append_right _ h)
  have hl : lv_has ls 6 [(0, .ref (h 0)), (1, .int (nI 0)), (2, .int (nI i))] := hl
  have hF := hI.F
  have hT := hI.T
  have hK3 := hI.K
  have hJ := hI.J
  have hZ := hI.Z
  refine lv_aload_n hx hb dX0_missAlong_0 rfl (lv_at hl 0 rfl) ?_
  refine lv_iload_n hx hb dX0_missAlong_1 rfl (lv_at hl 1 rfl) ?_
  refine n_if_ne (tgt := 9) hx hb (by omega) dX0_missAlong_2 (by decide) (fun c_2 => by exfalso; omega) (fun c_2 => ?_)
  refine lv_iconst (v := nI 1) hx hb dX0_missAlong_5 (by decide) ?_
  refine lv_goto (tgt := 10) hx hb dX0_missAlong_6 (by decide) ?_
  refine ro_callV (As := [.int (nI 1)]) (rest := []) ⟨hx, hb, hml, hown, hts⟩ (kX0_howManyOfN l D h cI A (1) (by omega)) (cwV 1 hts gX0_missAlong_X0_howManyOf rfl rfl rfl (by decide +kernel) ⟨Nat.le_of_ble_eq_true rfl, Nat.le_of_ble_eq_true rfl⟩) vB_bl (vB_at hP hK) (va_recv hK hP (ci := 0) (q0 := 0) rfl rfl) rfl hl.1 rfl (Nat.le_of_ble_eq_true rfl) dX0_missAlong_10 ⟨Nat.zero_le _, Nat.zero_le _⟩ ?_
  refine n_top (y := nI (sT A)) (rfl) ?_
  refine lv_istore_n (lv' := [(3, .int (nI (sT A))), (0, .ref (h 0)), (1, .int (nI 0)), (2, .int (nI i))]) hx hb dX0_missAlong_13 rfl hl (by decide) rfl (fun ls hl => ?_)
  refine lv_iconst (v := nI 0) hx hb dX0_missAlong_14 (by decide) ?_
  refine lv_istore (lv' := [(4, .int (nI 0)), (3, .int (nI (sT A))), (0, .ref (h 0)), (1, .int (nI 0)), (2, .int (nI i))]) hx hb dX0_missAlong_15 hl (by decide) rfl (fun ls hl => ?_)
  refine lv_iconst (v := nI 0) hx hb dX0_missAlong_17 (by decide) ?_
  refine lv_istore (lv' := [(5, .int (nI 0)), (4, .int (nI 0)), (3, .int (nI (sT A))), (0, .ref (h 0)), (1, .int (nI 0)), (2, .int (nI i))]) hx hb dX0_missAlong_18 hl (by decide) rfl (fun ls hl => ?_)
  have lp20 : ∀ (n20 j : Nat), j + n20 = sT A → ∀ (ls : Array Slot), lv_has ls 6 [(0, .ref (h 0)), (1, .int (nI 0)), (2, .int (nI i)), (3, .int (nI (sT A))), (4, .int (l_sum (fun t => fc A i t) j)), (5, .int (nI j))] → W p l e rmX0_missAlong s m args below meth c s.heap [] 0 0 Q (F0 m 20 ls []) := by
    intro n20
    induction n20 with
    | zero =>
      intro j hi20 ls hl
      obtain rfl : sT A = j := by omega
      refine lv_iload hx hb dX0_missAlong_20 (lv_at hl 5 rfl) ?_
      refine lv_iload_n hx hb dX0_missAlong_22 rfl (lv_at hl 3 rfl) ?_
      refine n_icmp_ge (tgt := 58) hx hb (by omega) (by omega) dX0_missAlong_23 (by decide) (fun c_23 => ?_) (fun c_23 => by exfalso; omega)
      refine lv_iload hx hb dX0_missAlong_58 (lv_at hl 4 rfl) ?_
      exact hQ dX0_missAlong_60 (rfl)
    | succ n20 ih20 =>
      intro j hi20 ls hl
      refine lv_iload hx hb dX0_missAlong_20 (lv_at hl 5 rfl) ?_
      refine lv_iload_n hx hb dX0_missAlong_22 rfl (lv_at hl 3 rfl) ?_
      refine n_icmp_ge (tgt := 58) hx hb (by omega) (by omega) dX0_missAlong_23 (by decide) (fun c_23 => by exfalso; omega) (fun c_23 => ?_)
      refine lv_iload hx hb dX0_missAlong_26 (lv_at hl 4 rfl) ?_
      refine lv_iload_n hx hb dX0_missAlong_28 rfl (lv_at hl 1 rfl) ?_
      refine n_if_ne (tgt := 42) hx hb (by omega) dX0_missAlong_29 (by decide) (fun c_29 => by exfalso; omega) (fun c_29 => ?_)
      refine lv_aload_n hx hb dX0_missAlong_32 rfl (lv_at hl 0 rfl) ?_
      refine lv_iload_n hx hb dX0_missAlong_33 rfl (lv_at hl 2 rfl) ?_
      refine lv_iload hx hb dX0_missAlong_34 (lv_at hl 5 rfl) ?_
      refine ro_callV (As := [.int (nI i), .int (nI j)]) (rest := [.int (l_sum (fun t => fc A i t) j)]) ⟨hx, hb, hml, hown, hts⟩ (kX0_costAt l D h cI A hI (i) (j) (by omega) (by omega)) (cwV 2 hts gX0_missAlong_X0_costAt rfl rfl rfl (by decide +kernel) ⟨Nat.le_of_ble_eq_true rfl, Nat.le_of_ble_eq_true rfl⟩) vB_bl (vB_at hP hK) (va_recv hK hP (ci := 0) (q0 := 0) rfl rfl) rfl hl.1 rfl (Nat.le_of_ble_eq_true rfl) dX0_missAlong_36 ⟨Nat.zero_le _, Nat.zero_le _⟩ ?_
      refine lv_goto (tgt := 49) hx hb dX0_missAlong_39 (by decide) ?_
      refine lv_iadd hx hb dX0_missAlong_49 ?_
      refine lv_istore (lv' := [(4, .int ((l_sum (fun t => fc A i t) j) + (fc A i j))), (0, .ref (h 0)), (1, .int (nI 0)), (2, .int (nI i)), (3, .int (nI (sT A))), (5, .int (nI j))]) hx hb dX0_missAlong_50 hl (by decide) rfl (fun ls hl => ?_)
      refine lv_iinc (v := nI (j + 1)) (lv' := [(5, .int (nI (j + 1))), (4, .int ((l_sum (fun t => fc A i t) j) + (fc A i j))), (0, .ref (h 0)), (1, .int (nI 0)), (2, .int (nI i)), (3, .int (nI (sT A)))]) hx hb dX0_missAlong_52 hl (k := 5) rfl (nI_inc _) (by decide) rfl (fun ls hl => ?_)
      refine lv_goto (tgt := 20) hx hb dX0_missAlong_55 (by decide) ?_
      exact ih20 (j + 1) (by omega) ls (lv_sub hl [2, 3, 4, 5, 1, 0] rfl)
  exact lp20 (sT A) (0) (by omega) ls (lv_sub hl [3, 4, 5, 2, 1, 0] rfl)
set_option maxHeartbeats 4000000 in
set_option maxRecDepth 100000 in
/-- missAlong -/
theorem kX0_missAlong1 (l : Launch) (D : va_G) (h : Nat → Nat) (cI : ClassId) (A : St) (hI : Inv A) (i : Nat) (hi : i < 8) : RO l yX0_missAlong wsX0_missAlong rmX0_missAlong [.ref (h 0), .int (nI 1), .int (nI i)] (vB D (xw h cI A) [(cI, .int)]) (fal A 1 i) := by
  refine ro_ofW (cc := cX0_missAlong) (maxL := 6) (by decide) rfl (Nat.le_of_ble_eq_true rfl) ?_
  intro p e s m below meth c args Q hx hb hml hown hts hB hQ ls hl
  have hown : s.vm.findClass RX0 = some m.cls := hown
  obtain ⟨hP, hK⟩ := hB
  have hin0 : ∀ w ∈ u_ws RX0 TX0 12, w ∈ wsX0_missAlong := fun _ h => List.mem_cons_of_mem _ (List.mem_append_right _ h)
  have hl : lv_has ls 6 [(0, .ref (h 0)), (1, .int (nI 1)), (2, .int (nI i))] := hl
  have hF := hI.F
  have hT := hI.T
  have hK3 := hI.K
  have hJ := hI.J
  have hZ := hI.Z
  refine lv_aload_n hx hb dX0_missAlong_0 rfl (lv_at hl 0 rfl) ?_
  refine lv_iload_n hx hb dX0_missAlong_1 rfl (lv_at hl 1 rfl) ?_
  refine n_if_ne (tgt := 9) hx hb (by omega) dX0_missAlong_2 (by decide) (fun c_2 => ?_) (fun c_2 => by exfalso; omega)
  refine lv_iconst (v := nI 0) hx hb dX0_missAlong_9 (by decide) ?_
  refine ro_callV (As := [.int (nI 0)]) (rest := []) ⟨hx, hb, hml, hown, hts⟩ (kX0_howManyOfN l D h cI A (0) (by omega)) (cwV 1 hts gX0_missAlong_X0_howManyOf rfl rfl rfl (by decide +kernel) ⟨Nat.le_of_ble_eq_true rfl, Nat.le_of_ble_eq_true rfl⟩) vB_bl (vB_at hP hK) (va_recv hK hP (ci := 0) (q0 := 0) rfl rfl) rfl hl.1 rfl (Nat.le_of_ble_eq_true rfl) dX0_missAlong_10 ⟨Nat.zero_le _, Nat.zero_le _⟩ ?_
  refine n_top (y := nI (sF A)) (rfl) ?_
  refine lv_istore_n (lv' := [(3, .int (nI (sF A))), (0, .ref (h 0)), (1, .int (nI 1)), (2, .int (nI i))]) hx hb dX0_missAlong_13 rfl hl (by decide) rfl (fun ls hl => ?_)
  refine lv_iconst (v := nI 0) hx hb dX0_missAlong_14 (by decide) ?_
  refine lv_istore (lv' := [(4, .int (nI 0)), (3, .int (nI (sF A))), (0, .ref (h 0)), (1, .int (nI 1)), (2, .int (nI i))]) hx hb dX0_missAlong_15 hl (by decide) rfl (fun ls hl => ?_)
  refine lv_iconst (v := nI 0) hx hb dX0_missAlong_17 (by decide) ?_
  refine lv_istore (lv' := [(5, .int (nI 0)), (4, .int (nI 0)), (3, .int (nI (sF A))), (0, .ref (h 0)), (1, .int (nI 1)), (2, .int (nI i))]) hx hb dX0_missAlong_18 hl (by decide) rfl (fun ls hl => ?_)
  have lp20 : ∀ (n20 j : Nat), j + n20 = sF A → ∀ (ls : Array Slot), lv_has ls 6 [(0, .ref (h 0)), (1, .int (nI 1)), (2, .int (nI i)), (3, .int (nI (sF A))), (4, .int (l_sum (fun f => fc A f i) j)), (5, .int (nI j))] → W p l e rmX0_missAlong s m args below meth c s.heap [] 0 0 Q (F0 m 20 ls []) := by
    intro n20
    induction n20 with
    | zero =>
      intro j hi20 ls hl
      obtain rfl : sF A = j := by omega
      refine lv_iload hx hb dX0_missAlong_20 (lv_at hl 5 rfl) ?_
      refine lv_iload_n hx hb dX0_missAlong_22 rfl (lv_at hl 3 rfl) ?_
      refine n_icmp_ge (tgt := 58) hx hb (by omega) (by omega) dX0_missAlong_23 (by decide) (fun c_23 => ?_) (fun c_23 => by exfalso; omega)
      refine lv_iload hx hb dX0_missAlong_58 (lv_at hl 4 rfl) ?_
      exact hQ dX0_missAlong_60 (rfl)
    | succ n20 ih20 =>
      intro j hi20 ls hl
      refine lv_iload hx hb dX0_missAlong_20 (lv_at hl 5 rfl) ?_
      refine lv_iload_n hx hb dX0_missAlong_22 rfl (lv_at hl 3 rfl) ?_
      refine n_icmp_ge (tgt := 58) hx hb (by omega) (by omega) dX0_missAlong_23 (by decide) (fun c_23 => by exfalso; omega) (fun c_23 => ?_)
      refine lv_iload hx hb dX0_missAlong_26 (lv_at hl 4 rfl) ?_
      refine lv_iload_n hx hb dX0_missAlong_28 rfl (lv_at hl 1 rfl) ?_
      refine n_if_ne (tgt := 42) hx hb (by omega) dX0_missAlong_29 (by decide) (fun c_29 => ?_) (fun c_29 => by exfalso; omega)
      refine lv_aload_n hx hb dX0_missAlong_42 rfl (lv_at hl 0 rfl) ?_
      refine lv_iload hx hb dX0_missAlong_43 (lv_at hl 5 rfl) ?_
      refine lv_iload_n hx hb dX0_missAlong_45 rfl (lv_at hl 2 rfl) ?_
      refine ro_callV (As := [.int (nI j), .int (nI i)]) (rest := [.int (l_sum (fun f => fc A f i) j)]) ⟨hx, hb, hml, hown, hts⟩ (kX0_costAt l D h cI A hI (j) (i) (by omega) (by omega)) (cwV 2 hts gX0_missAlong_X0_costAt rfl rfl rfl (by decide +kernel) ⟨Nat.le_of_ble_eq_true rfl, Nat.le_of_ble_eq_true rfl⟩) vB_bl (vB_at hP hK) (va_recv hK hP (ci := 0) (q0 := 0) rfl rfl) rfl hl.1 rfl (Nat.le_of_ble_eq_true rfl) dX0_missAlong_46 ⟨Nat.zero_le _, Nat.zero_le _⟩ ?_
      refine lv_iadd hx hb dX0_missAlong_49 ?_
      refine lv_istore (lv' := [(4, .int ((l_sum (fun f => fc A f i) j) + (fc A j i))), (0, .ref (h 0)), (1, .int (nI 1)), (2, .int (nI i)), (3, .int (nI (sF A))), (5, .int (nI j))]) hx hb dX0_missAlong_50 hl (by decide) rfl (fun ls hl => ?_)
      refine lv_iinc (v := nI (j + 1)) (lv' := [(5, .int (nI (j + 1))), (4, .int ((l_sum (fun f => fc A f i) j) + (fc A j i))), (0, .ref (h 0)), (1, .int (nI 1)), (2, .int (nI i)), (3, .int (nI (sF A)))]) hx hb dX0_missAlong_52 hl (k := 5) rfl (nI_inc _) (by decide) rfl (fun ls hl => ?_)
      refine lv_goto (tgt := 20) hx hb dX0_missAlong_55 (by decide) ?_
      exact ih20 (j + 1) (by omega) ls (lv_sub hl [2, 3, 4, 5, 1, 0] rfl)
  exact lp20 (sF A) (0) (by omega) ls (lv_sub hl [3, 4, 5, 2, 1, 0] rfl)
theorem kX0_missAlong (l : Launch) (D : va_G) (h : Nat → Nat) (cI : ClassId) (A : St) (hI : Inv A) (o i : Nat) (ho : o < 2) (hi : i < if o = 0 then 6 else 8) : RO l yX0_missAlong wsX0_missAlong rmX0_missAlong [.ref (h 0), .int (nI o), .int (nI i)] (vB D (xw h cI A) [(cI, .int)]) (fal A o i) := by
  rcases (show o = 0 ∨ o = 1 by omega) with rfl | rfl
  · exact kX0_missAlong0 l D h cI A hI i hi
  · exact kX0_missAlong1 l D h cI A hI i hi
def rmX0_miss : Room := { frames := 4, cells := 0, slots := 0, locals := 95 }
set_option maxHeartbeats 4000000 in
set_option maxRecDepth 100000 in
/-- miss -/
theorem kX0_miss (l : Launch) (D : va_G) (h : Nat → Nat) (cI : ClassId) (A : St) (hI : Inv A) : RO l yX0_miss wsX0_miss rmX0_miss [.ref (h 0)] (vB D (xw h cI A) [(cI, .int)]) (fm A) := by
  refine ro_ofW (cc := cX0_miss) (maxL := 3) (by decide) rfl (Nat.le_of_ble_eq_true rfl) ?_
  intro p e s m below meth c args Q hx hb hml hown hts hB hQ ls hl
  have hown : s.vm.findClass RX0 = some m.cls := hown
  obtain ⟨hP, hK⟩ := hB
  have hin0 : ∀ w ∈ u_ws RX0 TX0 12, w ∈ wsX0_miss := fun _ h => List.mem_cons_of_mem _ (List.mem_append_right _ h)
  have hl : lv_has ls 3 [(0, .ref (h 0))] := hl
  have hF := hI.F
  have hT := hI.T
  have hK3 := hI.K
  have hJ := hI.J
  have hZ := hI.Z
  refine lv_iconst (v := nI 0) hx hb dX0_miss_0 (by decide) ?_
  refine lv_istore_n (lv' := [(1, .int (nI 0)), (0, .ref (h 0))]) hx hb dX0_miss_1 rfl hl (by decide) rfl (fun ls hl => ?_)
  refine lv_iconst (v := nI 0) hx hb dX0_miss_2 (by decide) ?_
  refine lv_istore_n (lv' := [(2, .int (nI 0)), (1, .int (nI 0)), (0, .ref (h 0))]) hx hb dX0_miss_3 rfl hl (by decide) rfl (fun ls hl => ?_)
  have lp4 : ∀ (n4 i : Nat), i + n4 = sF A → ∀ (ls : Array Slot), lv_has ls 3 [(0, .ref (h 0)), (1, .int (l_sum (fun f => l_sum (fun t => fc A f t) (sT A)) i)), (2, .int (nI i))] → W p l e rmX0_miss s m args below meth c s.heap [] 0 0 Q (F0 m 4 ls []) := by
    intro n4
    induction n4 with
    | zero =>
      intro i hi4 ls hl
      obtain rfl : sF A = i := by omega
      refine lv_iload_n hx hb dX0_miss_4 rfl (lv_at hl 2 rfl) ?_
      refine lv_aload_n hx hb dX0_miss_5 rfl (lv_at hl 0 rfl) ?_
      refine va_get (D := D) (ci := 0) (v := .int (nI (sF A))) (C := RX0) (T := TX0) (N := 12) hx hb hts hin0 hown hK hP 0 rfl rfl 0 (by decide) (hts (.fieldLink RX0 86 "VoiceParts" "tones" "I") (by decide +kernel)) (fun _ h9 => h9) rfl dX0_miss_6 ?_
      refine n_icmp_ge (tgt := 27) hx hb (by omega) (by omega) dX0_miss_9 (by decide) (fun c_9 => ?_) (fun c_9 => by exfalso; omega)
      refine lv_iload_n hx hb dX0_miss_27 rfl (lv_at hl 1 rfl) ?_
      exact hQ dX0_miss_28 (rfl)
    | succ n4 ih4 =>
      intro i hi4 ls hl
      refine lv_iload_n hx hb dX0_miss_4 rfl (lv_at hl 2 rfl) ?_
      refine lv_aload_n hx hb dX0_miss_5 rfl (lv_at hl 0 rfl) ?_
      refine va_get (D := D) (ci := 0) (v := .int (nI (sF A))) (C := RX0) (T := TX0) (N := 12) hx hb hts hin0 hown hK hP 0 rfl rfl 0 (by decide) (hts (.fieldLink RX0 86 "VoiceParts" "tones" "I") (by decide +kernel)) (fun _ h9 => h9) rfl dX0_miss_6 ?_
      refine n_icmp_ge (tgt := 27) hx hb (by omega) (by omega) dX0_miss_9 (by decide) (fun c_9 => by exfalso; omega) (fun c_9 => ?_)
      refine lv_iload_n hx hb dX0_miss_12 rfl (lv_at hl 1 rfl) ?_
      refine lv_aload_n hx hb dX0_miss_13 rfl (lv_at hl 0 rfl) ?_
      refine lv_iconst (v := nI 0) hx hb dX0_miss_14 (by decide) ?_
      refine lv_iload_n hx hb dX0_miss_15 rfl (lv_at hl 2 rfl) ?_
      refine ro_callV (As := [.int (nI 0), .int (nI i)]) (rest := [.int (l_sum (fun f => l_sum (fun t => fc A f t) (sT A)) i)]) ⟨hx, hb, hml, hown, hts⟩ (kX0_missAlong l D h cI A hI (0) (i) (by omega) (show _ < 6 by omega)) (cwV 2 hts gX0_miss_X0_missAlong rfl rfl rfl (by decide +kernel) ⟨Nat.le_of_ble_eq_true rfl, Nat.le_of_ble_eq_true rfl⟩) vB_bl (vB_at hP hK) (va_recv hK hP (ci := 0) (q0 := 0) rfl rfl) rfl hl.1 rfl (Nat.le_of_ble_eq_true rfl) dX0_miss_16 ⟨Nat.zero_le _, Nat.zero_le _⟩ ?_
      refine n_top (y := l_sum (fun t => fc A i t) (sT A)) (rfl) ?_
      refine lv_iadd hx hb dX0_miss_19 ?_
      refine lv_istore_n (lv' := [(1, .int ((l_sum (fun f => l_sum (fun t => fc A f t) (sT A)) i) + (l_sum (fun t => fc A i t) (sT A)))), (0, .ref (h 0)), (2, .int (nI i))]) hx hb dX0_miss_20 rfl hl (by decide) rfl (fun ls hl => ?_)
      refine lv_iinc (v := nI (i + 1)) (lv' := [(2, .int (nI (i + 1))), (1, .int ((l_sum (fun f => l_sum (fun t => fc A f t) (sT A)) i) + (l_sum (fun t => fc A i t) (sT A)))), (0, .ref (h 0))]) hx hb dX0_miss_21 hl (k := 2) rfl (nI_inc _) (by decide) rfl (fun ls hl => ?_)
      refine lv_goto (tgt := 4) hx hb dX0_miss_24 (by decide) ?_
      exact ih4 (i + 1) (by omega) ls (lv_sub hl [2, 1, 0] rfl)
  exact lp4 (sF A) (0) (by omega) ls (lv_sub hl [2, 1, 0] rfl)
