def rmX0_at : Room := { frames := 6, cells := 0, slots := 0, locals := 144 }
set_option maxHeartbeats 4000000 in
set_option maxRecDepth 100000 in
/-- at -/
theorem kX0_at (l : Launch) (D : va_G) (h : Nat → Nat) (cI : ClassId) (A : St) (hI : Inv A) (x y u : Int32) : RO l yX0_at wsX0_at rmX0_at [.ref (h 0), .int x, .int y, .int u] (vB D (xw h cI A) [(cI, .int)]) (aAt A x y u) := by
  refine ro_ofW (cc := cX0_at) (maxL := 4) (by decide) rfl (Nat.le_of_ble_eq_true rfl) ?_
  intro p e s m below meth c args Q hx hb hml hown hts hB hQ ls hl
  have hown : s.vm.findClass RX0 = some m.cls := hown
  obtain ⟨hP, hK⟩ := hB
  have hin0 : ∀ w ∈ u_ws RX0 TX0 12, w ∈ wsX0_at := fun _ h => List.mem_cons_of_mem _ (List.mem_append_right _ h)
  have hl : lv_has ls 4 [(0, .ref (h 0)), (1, .int x), (2, .int y), (3, .int u)] := hl
  have hF := hI.F
  have hT := hI.T
  have hK3 := hI.K
  have hJ := hI.J
  have hZ := hI.Z
  refine lv_aload_n hx hb dX0_at_0 rfl (lv_at hl 0 rfl) ?_
  refine lv_iload_n hx hb dX0_at_1 rfl (lv_at hl 1 rfl) ?_
  refine lv_iload_n hx hb dX0_at_2 rfl (lv_at hl 2 rfl) ?_
  refine ro_callV (As := [.int x, .int y]) (rest := []) ⟨hx, hb, hml, hown, hts⟩ (kX0_isCell l D h cI A hI (x) (y)) (cwV 2 hts gX0_at_X0_isCell rfl rfl rfl (by decide +kernel) ⟨Nat.le_of_ble_eq_true rfl, Nat.le_of_ble_eq_true rfl⟩) vB_bl (vB_at hP hK) (va_recv hK hP (ci := 0) (q0 := 0) rfl rfl) rfl hl.1 rfl (Nat.le_of_ble_eq_true rfl) dX0_at_3 ⟨Nat.zero_le _, Nat.zero_le _⟩ ?_
  refine b_if_ne (tgt := 11) hx hb dX0_at_6 (by decide) (fun c_6 => ?_) (fun c_6 => ?_)
  · obtain ⟨f, hf, rfl⟩ := iN_of (n := sF A) c_6.1 (by omega) (by omega)
    obtain ⟨t, ht, rfl⟩ := iN_of (n := sT A) c_6.2 (by omega) (by omega)
    refine lv_iload_n hx hb dX0_at_11 rfl (lv_at hl 3 rfl) ?_
    by_cases hw : iN u 3
    · obtain ⟨jw, hjw, rfl⟩ := iN_of hw (by decide) (by decide)
      rcases (show jw = 0 ∨ jw = 1 ∨ jw = 2 by omega) with rfl | rfl | rfl
      · refine lv_tableIn (off := 28) (tgt := 40) hx hb dX0_at_12 (by decide) (by decide) (by decide) (by decide) ?_
        refine lv_aload_n hx hb dX0_at_40 rfl (lv_at hl 0 rfl) ?_
        refine lv_iload_n hx hb dX0_at_41 rfl (lv_at hl 1 rfl) ?_
        refine lv_iload_n hx hb dX0_at_42 rfl (lv_at hl 2 rfl) ?_
        refine ro_callV (As := [.int (nI f), .int (nI t)]) (rest := []) ⟨hx, hb, hml, hown, hts⟩ (kX0_boardAt l D h cI A (f) (t) (by omega) (by omega)) (cwV 2 hts gX0_at_X0_boardAt rfl rfl rfl (by decide +kernel) ⟨Nat.le_of_ble_eq_true rfl, Nat.le_of_ble_eq_true rfl⟩) vB_bl (vB_at hP hK) (va_recv hK hP (ci := 0) (q0 := 0) rfl rfl) rfl hl.1 rfl (Nat.le_of_ble_eq_true rfl) dX0_at_43 ⟨Nat.zero_le _, Nat.zero_le _⟩ ?_
        exact hQ dX0_at_46 (by unfold aAt; rw [if_pos ⟨c_6, hw⟩, cl_nI (n := f) (by omega), cl_nI (n := t) (by omega)]; rfl)
      · refine lv_tableIn (off := 35) (tgt := 47) hx hb dX0_at_12 (by decide) (by decide) (by decide) (by decide) ?_
        refine lv_aload_n hx hb dX0_at_47 rfl (lv_at hl 0 rfl) ?_
        refine lv_iload_n hx hb dX0_at_48 rfl (lv_at hl 1 rfl) ?_
        refine lv_iload_n hx hb dX0_at_49 rfl (lv_at hl 2 rfl) ?_
        refine ro_callV (As := [.int (nI f), .int (nI t)]) (rest := []) ⟨hx, hb, hml, hown, hts⟩ (kX0_sumAt l D h cI A hI (f) (t) (by omega) (by omega)) (cwV 2 hts gX0_at_X0_sumAt rfl rfl rfl (by decide +kernel) ⟨Nat.le_of_ble_eq_true rfl, Nat.le_of_ble_eq_true rfl⟩) vB_bl (vB_at hP hK) (va_recv hK hP (ci := 0) (q0 := 0) rfl rfl) rfl hl.1 rfl (Nat.le_of_ble_eq_true rfl) dX0_at_50 ⟨Nat.zero_le _, Nat.zero_le _⟩ ?_
        exact hQ dX0_at_53 (by unfold aAt; rw [if_pos ⟨c_6, hw⟩, cl_nI (n := f) (by omega), cl_nI (n := t) (by omega)]; rfl)
      · refine lv_tableIn (off := 42) (tgt := 54) hx hb dX0_at_12 (by decide) (by decide) (by decide) (by decide) ?_
        refine lv_aload_n hx hb dX0_at_54 rfl (lv_at hl 0 rfl) ?_
        refine lv_aload_n hx hb dX0_at_55 rfl (lv_at hl 0 rfl) ?_
        refine ro_callV (As := []) (rest := [.ref (h 0)]) ⟨hx, hb, hml, hown, hts⟩ (kX0_bestPeriod l D h cI A  hI ) (cwV 0 hts gX0_at_X0_bestPeriod rfl rfl rfl (by decide +kernel) ⟨Nat.le_of_ble_eq_true rfl, Nat.le_of_ble_eq_true rfl⟩) vB_bl (vB_at hP hK) (va_recv hK hP (ci := 0) (q0 := 0) rfl rfl) rfl hl.1 rfl (Nat.le_of_ble_eq_true rfl) dX0_at_56 ⟨Nat.zero_le _, Nat.zero_le _⟩ ?_
        refine lv_iload_n hx hb dX0_at_59 rfl (lv_at hl 1 rfl) ?_
        refine lv_iload_n hx hb dX0_at_60 rfl (lv_at hl 2 rfl) ?_
        have hpe : 1 ≤ fpe A ∧ fpe A ≤ sT A - 1 + 1 := fbp_in (fpr A) (sT A - 1)
        refine ro_callV (As := [.int (nI (fpe A)), .int (nI f), .int (nI t)]) (rest := []) ⟨hx, hb, hml, hown, hts⟩ (kX0_backgroundAt l D h cI A  hI (fpe A) (f) (t) (by omega) (by omega) (by omega) (by omega)) (cwV 3 hts gX0_at_X0_backgroundAt rfl rfl rfl (by decide +kernel) ⟨Nat.le_of_ble_eq_true rfl, Nat.le_of_ble_eq_true rfl⟩) vB_bl (vB_at hP hK) (va_recv hK hP (ci := 0) (q0 := 0) rfl rfl) rfl hl.1 rfl (Nat.le_of_ble_eq_true rfl) dX0_at_61 ⟨Nat.zero_le _, Nat.zero_le _⟩ ?_
        exact hQ dX0_at_64 (by unfold aAt; rw [if_pos ⟨c_6, hw⟩, cl_nI (n := f) (by omega), cl_nI (n := t) (by omega)]; rfl)
    · refine lv_tableOut (tgt := 65) hx hb dX0_at_12 (by have z := iN_out hw (by decide) (by decide); omega) (by decide) ?_
      refine lv_iconst (v := (-1)) hx hb dX0_at_65 (by decide) ?_
      exact hQ dX0_at_66 (by unfold aAt; rw [if_neg (fun q => hw q.2)])
  · refine lv_iconst (v := (-1)) hx hb dX0_at_9 (by decide) ?_
    exact hQ dX0_at_10 (by unfold aAt; rw [if_neg (fun q => c_6 q.1)])
def rmX0_number : Room := { frames := 3, cells := 0, slots := 0, locals := 66 }
set_option maxHeartbeats 4000000 in
set_option maxRecDepth 100000 in
/-- number -/
theorem kX0_number (l : Launch) (D : va_G) (h : Nat → Nat) (cI : ClassId) (A : St) (hI : Inv A) (x o y : Int32) : RO l yX0_number wsX0_number rmX0_number [.ref (h 0), .int x, .int o, .int y] (vB D (xw h cI A) [(cI, .int)]) (aNu A x o y) := by
  refine ro_ofW (cc := cX0_number) (maxL := 4) (by decide) rfl (Nat.le_of_ble_eq_true rfl) ?_
  intro p e s m below meth c args Q hx hb hml hown hts hB hQ ls hl
  have hown : s.vm.findClass RX0 = some m.cls := hown
  obtain ⟨hP, hK⟩ := hB
  have hin0 : ∀ w ∈ u_ws RX0 TX0 12, w ∈ wsX0_number := fun _ h => List.mem_cons_of_mem _ (List.mem_append_right _ h)
  have hl : lv_has ls 4 [(0, .ref (h 0)), (1, .int x), (2, .int o), (3, .int y)] := hl
  have hF := hI.F
  have hT := hI.T
  have hK3 := hI.K
  have hJ := hI.J
  have hZ := hI.Z
  refine lv_aload_n hx hb dX0_number_0 rfl (lv_at hl 0 rfl) ?_
  refine lv_iload_n hx hb dX0_number_1 rfl (lv_at hl 1 rfl) ?_
  refine lv_iload_n hx hb dX0_number_2 rfl (lv_at hl 2 rfl) ?_
  refine lv_iload_n hx hb dX0_number_3 rfl (lv_at hl 3 rfl) ?_
  refine ro_callV (As := [.int x, .int o, .int y]) (rest := []) ⟨hx, hb, hml, hown, hts⟩ (kX0_isNumber l D h cI A hI (x) (o) (y)) (cwV 3 hts gX0_number_X0_isNumber rfl rfl rfl (by decide +kernel) ⟨Nat.le_of_ble_eq_true rfl, Nat.le_of_ble_eq_true rfl⟩) vB_bl (vB_at hP hK) (va_recv hK hP (ci := 0) (q0 := 0) rfl rfl) rfl hl.1 rfl (Nat.le_of_ble_eq_true rfl) dX0_number_4 ⟨Nat.zero_le _, Nat.zero_le _⟩ ?_
  refine b_if_ne (tgt := 12) hx hb dX0_number_7 (by decide) (fun c_7 => ?_) (fun c_7 => ?_)
  · obtain ⟨k, hk, rfl⟩ := iN_of (n := sK A) c_7.1 (by omega) (by omega)
    obtain ⟨p0, ho, rfl⟩ := iN_of (n := 2) c_7.2.1 (by decide) (by decide)
    obtain ⟨i, hi, rfl⟩ := iN_of c_7.2.2 (by split <;> omega) (by split <;> omega)
    have hi8 : i < 2 ^ 31 := by split at hi <;> omega
    have hq := qi_lt hI ho hi
    refine lv_aload_n hx hb dX0_number_12 rfl (lv_at hl 0 rfl) ?_
    refine va_get (D := D) (ci := 0) (v := .ref (h 2)) (C := RX0) (T := TX0) (N := 12) hx hb hts hin0 hown hK hP 0 rfl rfl 4 (by decide) (hts (.fieldLink RX0 13 "VoiceParts" "voiceNumbers" "[I") (by decide +kernel)) (fun _ h9 => h9) rfl dX0_number_13 ?_
    refine lv_iload_n hx hb dX0_number_16 rfl (lv_at hl 1 rfl) ?_
    refine lv_iload_n hx hb dX0_number_17 rfl (lv_at hl 2 rfl) ?_
    refine lv_iload_n hx hb dX0_number_18 rfl (lv_at hl 3 rfl) ?_
    refine ro_callS (As := [.int (nI k), .int (nI p0), .int (nI i)]) (rest := [.ref (h 2)]) ⟨hx, hb, hml, hown, hts⟩ (kX0_place l (k) (p0) (i) (by omega)) (va_cwS 3 hts gX0_number_X0_place rfl rfl rfl (by decide +kernel) ⟨Nat.le_of_ble_eq_true rfl, Nat.le_of_ble_eq_true rfl⟩) vT_bl vT_at rfl hl.1 rfl (Nat.le_of_ble_eq_true rfl) dX0_number_19 ⟨Nat.zero_le _, Nat.zero_le _⟩ ?_
    refine n_iald hx hb hK hP 2 0 rfl rfl (by omega) (by decide) dX0_number_22 ?_
    refine n_top (y := sV A k (qi p0 i)) (xVat (f := sV A) hq rfl) ?_
    exact hQ dX0_number_23 (by unfold aNu; rw [if_pos c_7, cl_nI (n := k) (by omega), cl_nI (n := p0) (by omega), cl_nI (n := i) hi8])
  · refine lv_iconst (v := (-1)) hx hb dX0_number_10 (by decide) ?_
    exact hQ dX0_number_11 (by unfold aNu; rw [if_neg c_7])
def rmX0_share : Room := { frames := 3, cells := 0, slots := 0, locals := 78 }
set_option maxHeartbeats 4000000 in
set_option maxRecDepth 100000 in
/-- share -/
theorem kX0_share (l : Launch) (D : va_G) (h : Nat → Nat) (cI : ClassId) (A : St) (hI : Inv A) (x y z : Int32) : RO l yX0_share wsX0_share rmX0_share [.ref (h 0), .int x, .int y, .int z] (vB D (xw h cI A) [(cI, .int)]) (aSh A x y z) := by
  refine ro_ofW (cc := cX0_share) (maxL := 4) (by decide) rfl (Nat.le_of_ble_eq_true rfl) ?_
  intro p e s m below meth c args Q hx hb hml hown hts hB hQ ls hl
  have hown : s.vm.findClass RX0 = some m.cls := hown
  obtain ⟨hP, hK⟩ := hB
  have hin0 : ∀ w ∈ u_ws RX0 TX0 12, w ∈ wsX0_share := fun _ h => List.mem_cons_of_mem _ (List.mem_append_right _ h)
  have hl : lv_has ls 4 [(0, .ref (h 0)), (1, .int x), (2, .int y), (3, .int z)] := hl
  have hF := hI.F
  have hT := hI.T
  have hK3 := hI.K
  have hJ := hI.J
  have hZ := hI.Z
  refine lv_aload_n hx hb dX0_share_0 rfl (lv_at hl 0 rfl) ?_
  refine lv_iload_n hx hb dX0_share_1 rfl (lv_at hl 1 rfl) ?_
  refine ro_callV (As := [.int x]) (rest := []) ⟨hx, hb, hml, hown, hts⟩ (kX0_isVoice l D h cI A hI (x)) (cwV 1 hts gX0_share_X0_isVoice rfl rfl rfl (by decide +kernel) ⟨Nat.le_of_ble_eq_true rfl, Nat.le_of_ble_eq_true rfl⟩) vB_bl (vB_at hP hK) (va_recv hK hP (ci := 0) (q0 := 0) rfl rfl) rfl hl.1 rfl (Nat.le_of_ble_eq_true rfl) dX0_share_2 ⟨Nat.zero_le _, Nat.zero_le _⟩ ?_
  refine b_if_eq (tgt := 17) hx hb dX0_share_5 (by decide) (fun c_5 => ?_) (fun c_5 => ?_)
  · refine lv_iconst (v := (-1)) hx hb dX0_share_17 (by decide) ?_
    exact hQ dX0_share_18 (by unfold aSh; rw [if_neg (fun q => c_5 q.1)])
  · refine lv_aload_n hx hb dX0_share_8 rfl (lv_at hl 0 rfl) ?_
    refine lv_iload_n hx hb dX0_share_9 rfl (lv_at hl 2 rfl) ?_
    refine lv_iload_n hx hb dX0_share_10 rfl (lv_at hl 3 rfl) ?_
    refine ro_callV (As := [.int y, .int z]) (rest := []) ⟨hx, hb, hml, hown, hts⟩ (kX0_isCell l D h cI A hI (y) (z)) (cwV 2 hts gX0_share_X0_isCell rfl rfl rfl (by decide +kernel) ⟨Nat.le_of_ble_eq_true rfl, Nat.le_of_ble_eq_true rfl⟩) vB_bl (vB_at hP hK) (va_recv hK hP (ci := 0) (q0 := 0) rfl rfl) rfl hl.1 rfl (Nat.le_of_ble_eq_true rfl) dX0_share_11 ⟨Nat.zero_le _, Nat.zero_le _⟩ ?_
    refine b_if_ne (tgt := 19) hx hb dX0_share_14 (by decide) (fun c_14 => ?_) (fun c_14 => ?_)
    · obtain ⟨k, hk, rfl⟩ := iN_of (n := sK A) c_5 (by omega) (by omega)
      obtain ⟨f, hf, rfl⟩ := iN_of (n := sF A) c_14.1 (by omega) (by omega)
      obtain ⟨t, ht, rfl⟩ := iN_of (n := sT A) c_14.2 (by omega) (by omega)
      refine lv_aload_n hx hb dX0_share_19 rfl (lv_at hl 0 rfl) ?_
      refine lv_iload_n hx hb dX0_share_20 rfl (lv_at hl 1 rfl) ?_
      refine lv_iload_n hx hb dX0_share_21 rfl (lv_at hl 2 rfl) ?_
      refine lv_iload_n hx hb dX0_share_22 rfl (lv_at hl 3 rfl) ?_
      refine ro_callV (As := [.int (nI k), .int (nI f), .int (nI t)]) (rest := []) ⟨hx, hb, hml, hown, hts⟩ (kX0_shareAt l D h cI A  hI (k) (f) (t) (by omega) (by omega) (by omega)) (cwV 3 hts gX0_share_X0_shareAt rfl rfl rfl (by decide +kernel) ⟨Nat.le_of_ble_eq_true rfl, Nat.le_of_ble_eq_true rfl⟩) vB_bl (vB_at hP hK) (va_recv hK hP (ci := 0) (q0 := 0) rfl rfl) rfl hl.1 rfl (Nat.le_of_ble_eq_true rfl) dX0_share_23 ⟨Nat.zero_le _, Nat.zero_le _⟩ ?_
      exact hQ dX0_share_26 (by unfold aSh; rw [if_pos ⟨c_5, c_14⟩, cl_nI (n := k) (by omega), cl_nI (n := f) (by omega), cl_nI (n := t) (by omega)])
    · refine lv_iconst (v := (-1)) hx hb dX0_share_17 (by decide) ?_
      exact hQ dX0_share_18 (by unfold aSh; rw [if_neg (fun q => c_14 q.2)])
def rmX0_background : Room := { frames := 4, cells := 0, slots := 0, locals := 96 }
set_option maxHeartbeats 4000000 in
set_option maxRecDepth 100000 in
/-- background -/
theorem kX0_background (l : Launch) (D : va_G) (h : Nat → Nat) (cI : ClassId) (A : St) (hI : Inv A) (q x y : Int32) : RO l yX0_background wsX0_background rmX0_background [.ref (h 0), .int q, .int x, .int y] (vB D (xw h cI A) [(cI, .int)]) (aBg A q x y) := by
  refine ro_ofW (cc := cX0_background) (maxL := 4) (by decide) rfl (Nat.le_of_ble_eq_true rfl) ?_
  intro p e s m below meth c args Q hx hb hml hown hts hB hQ ls hl
  have hown : s.vm.findClass RX0 = some m.cls := hown
  obtain ⟨hP, hK⟩ := hB
  have hin0 : ∀ w ∈ u_ws RX0 TX0 12, w ∈ wsX0_background := fun _ h => List.mem_cons_of_mem _ (List.mem_append_right _ h)
  have hl : lv_has ls 4 [(0, .ref (h 0)), (1, .int q), (2, .int x), (3, .int y)] := hl
  have hF := hI.F
  have hT := hI.T
  have hK3 := hI.K
  have hJ := hI.J
  have hZ := hI.Z
  refine lv_iload_n hx hb dX0_background_0 rfl (lv_at hl 1 rfl) ?_
  refine lv_iconst (v := nI 1) hx hb dX0_background_1 (by decide) ?_
  refine lv_aload_n hx hb dX0_background_2 rfl (lv_at hl 0 rfl) ?_
  refine va_get (D := D) (ci := 0) (v := .int (nI (sT A))) (C := RX0) (T := TX0) (N := 12) hx hb hts hin0 hown hK hP 0 rfl rfl 1 (by decide) (hts (.fieldLink RX0 107 "VoiceParts" "times" "I") (by decide +kernel)) (fun _ h9 => h9) rfl dX0_background_3 ?_
  refine ro_callS (As := [.int q, .int (nI 1), .int (nI (sT A))]) (rest := []) ⟨hx, hb, hml, hown, hts⟩ (kX0_within l (q) (nI 1) (nI (sT A))) (va_cwS 3 hts gX0_background_X0_within rfl rfl rfl (by decide +kernel) ⟨Nat.le_of_ble_eq_true rfl, Nat.le_of_ble_eq_true rfl⟩) vT_bl vT_at rfl hl.1 rfl (Nat.le_of_ble_eq_true rfl) dX0_background_6 ⟨Nat.zero_le _, Nat.zero_le _⟩ ?_
  refine b_if_eq (tgt := 21) hx hb dX0_background_9 (by decide) (fun c_9 => ?_) (fun c_9 => ?_)
  · refine lv_iconst (v := (-1)) hx hb dX0_background_21 (by decide) ?_
    exact hQ dX0_background_22 (by unfold aBg; rw [if_neg (fun z => c_9 z.1)])
  · refine lv_aload_n hx hb dX0_background_12 rfl (lv_at hl 0 rfl) ?_
    refine lv_iload_n hx hb dX0_background_13 rfl (lv_at hl 2 rfl) ?_
    refine lv_iload_n hx hb dX0_background_14 rfl (lv_at hl 3 rfl) ?_
    refine ro_callV (As := [.int x, .int y]) (rest := []) ⟨hx, hb, hml, hown, hts⟩ (kX0_isCell l D h cI A hI (x) (y)) (cwV 2 hts gX0_background_X0_isCell rfl rfl rfl (by decide +kernel) ⟨Nat.le_of_ble_eq_true rfl, Nat.le_of_ble_eq_true rfl⟩) vB_bl (vB_at hP hK) (va_recv hK hP (ci := 0) (q0 := 0) rfl rfl) rfl hl.1 rfl (Nat.le_of_ble_eq_true rfl) dX0_background_15 ⟨Nat.zero_le _, Nat.zero_le _⟩ ?_
    refine b_if_ne (tgt := 23) hx hb dX0_background_18 (by decide) (fun c_18 => ?_) (fun c_18 => ?_)
    · obtain ⟨g, hg, rfl⟩ := q1_of c_9 (by omega)
      obtain ⟨f, hf, rfl⟩ := iN_of (n := sF A) c_18.1 (by omega) (by omega)
      obtain ⟨t, ht, rfl⟩ := iN_of (n := sT A) c_18.2 (by omega) (by omega)
      refine lv_aload_n hx hb dX0_background_23 rfl (lv_at hl 0 rfl) ?_
      refine lv_iload_n hx hb dX0_background_24 rfl (lv_at hl 1 rfl) ?_
      refine lv_iload_n hx hb dX0_background_25 rfl (lv_at hl 2 rfl) ?_
      refine lv_iload_n hx hb dX0_background_26 rfl (lv_at hl 3 rfl) ?_
      refine ro_callV (As := [.int (nI g), .int (nI f), .int (nI t)]) (rest := []) ⟨hx, hb, hml, hown, hts⟩ (kX0_backgroundAt l D h cI A  hI (g) (f) (t) (by omega) (by omega) (by omega) (by omega)) (cwV 3 hts gX0_background_X0_backgroundAt rfl rfl rfl (by decide +kernel) ⟨Nat.le_of_ble_eq_true rfl, Nat.le_of_ble_eq_true rfl⟩) vB_bl (vB_at hP hK) (va_recv hK hP (ci := 0) (q0 := 0) rfl rfl) rfl hl.1 rfl (Nat.le_of_ble_eq_true rfl) dX0_background_27 ⟨Nat.zero_le _, Nat.zero_le _⟩ ?_
      exact hQ dX0_background_30 (by unfold aBg; rw [if_pos ⟨c_9, c_18⟩, cl_nI (n := g) (by omega), cl_nI (n := f) (by omega), cl_nI (n := t) (by omega)])
    · refine lv_iconst (v := (-1)) hx hb dX0_background_21 (by decide) ?_
      exact hQ dX0_background_22 (by unfold aBg; rw [if_neg (fun z => c_18 z.2)])
def rmX0_period : Room := { frames := 6, cells := 0, slots := 0, locals := 144 }
set_option maxHeartbeats 4000000 in
set_option maxRecDepth 100000 in
/-- period -/
theorem kX0_period (l : Launch) (D : va_G) (h : Nat → Nat) (cI : ClassId) (A : St) (hI : Inv A) : RO l yX0_period wsX0_period rmX0_period [.ref (h 0)] (vB D (xw h cI A) [(cI, .int)]) (nI (fpe A)) := by
  refine ro_ofW (cc := cX0_period) (maxL := 1) (by decide) rfl (Nat.le_of_ble_eq_true rfl) ?_
  intro p e s m below meth c args Q hx hb hml hown hts hB hQ ls hl
  have hown : s.vm.findClass RX0 = some m.cls := hown
  obtain ⟨hP, hK⟩ := hB
  have hin0 : ∀ w ∈ u_ws RX0 TX0 12, w ∈ wsX0_period := fun _ h => List.mem_cons_of_mem _ (List.mem_append_right _ h)
  have hl : lv_has ls 1 [(0, .ref (h 0))] := hl
  have hF := hI.F
  have hT := hI.T
  have hK3 := hI.K
  have hJ := hI.J
  have hZ := hI.Z
  refine lv_aload_n hx hb dX0_period_0 rfl (lv_at hl 0 rfl) ?_
  refine ro_callV (As := []) (rest := []) ⟨hx, hb, hml, hown, hts⟩ (kX0_bestPeriod l D h cI A  hI ) (cwV 0 hts gX0_period_X0_bestPeriod rfl rfl rfl (by decide +kernel) ⟨Nat.le_of_ble_eq_true rfl, Nat.le_of_ble_eq_true rfl⟩) vB_bl (vB_at hP hK) (va_recv hK hP (ci := 0) (q0 := 0) rfl rfl) rfl hl.1 rfl (Nat.le_of_ble_eq_true rfl) dX0_period_1 ⟨Nat.zero_le _, Nat.zero_le _⟩ ?_
  exact hQ dX0_period_4 (rfl)
def rmX0_later : Room := { frames := 2, cells := 0, slots := 0, locals := 46 }
set_option maxHeartbeats 4000000 in
set_option maxRecDepth 100000 in
/-- later -/
theorem kX0_later (l : Launch) (D : va_G) (h : Nat → Nat) (cI : ClassId) (A : St) (hI : Inv A) : RO l yX0_later wsX0_later rmX0_later [.ref (h 0)] (vB D (xw h cI A) [(cI, .int)]) (aLa A) := by
  refine ro_ofW (cc := cX0_later) (maxL := 6) (by decide) rfl (Nat.le_of_ble_eq_true rfl) ?_
  intro p e s m below meth c args Q hx hb hml hown hts hB hQ ls hl
  have hown : s.vm.findClass RX0 = some m.cls := hown
  obtain ⟨hP, hK⟩ := hB
  have hin0 : ∀ w ∈ u_ws RX0 TX0 12, w ∈ wsX0_later := fun _ h => List.mem_cons_of_mem _ (List.mem_append_right _ h)
  have hl : lv_has ls 6 [(0, .ref (h 0))] := hl
  have hF := hI.F
  have hT := hI.T
  have hK3 := hI.K
  have hJ := hI.J
  have hZ := hI.Z
  refine lv_aload_n hx hb dX0_later_0 rfl (lv_at hl 0 rfl) ?_
  refine va_get (D := D) (ci := 0) (v := .ref (h 5)) (C := RX0) (T := TX0) (N := 12) hx hb hts hin0 hown hK hP 0 rfl rfl 8 (by decide) (hts (.fieldLink RX0 22 "VoiceParts" "rowSizes" "[I") (by decide +kernel)) (fun _ h9 => h9) rfl dX0_later_1 ?_
  refine lv_iconst (v := nI 0) hx hb dX0_later_4 (by decide) ?_
  refine n_iald hx hb hK hP 5 0 rfl rfl (by omega) (by decide) dX0_later_5 ?_
  refine n_if_eq (tgt := 18) hx hb (by omega) dX0_later_6 (by decide) (fun c_6 => ?_) (fun c_6 => ?_)
  · refine lv_bipush (v := (-9)) hx hb dX0_later_18 (by decide) ?_
    exact hQ dX0_later_20 (by unfold aLa; rw [if_pos (Or.inl c_6)])
  · refine lv_aload_n hx hb dX0_later_9 rfl (lv_at hl 0 rfl) ?_
    refine va_get (D := D) (ci := 0) (v := .ref (h 5)) (C := RX0) (T := TX0) (N := 12) hx hb hts hin0 hown hK hP 0 rfl rfl 8 (by decide) (hts (.fieldLink RX0 22 "VoiceParts" "rowSizes" "[I") (by decide +kernel)) (fun _ h9 => h9) rfl dX0_later_10 ?_
    refine lv_iconst (v := nI 1) hx hb dX0_later_13 (by decide) ?_
    refine n_iald hx hb hK hP 5 0 rfl rfl (by omega) (by decide) dX0_later_14 ?_
    refine n_if_ne (tgt := 21) hx hb (by omega) dX0_later_15 (by decide) (fun c_15 => ?_) (fun c_15 => ?_)
    · refine lv_bipush (v := (-7)) hx hb dX0_later_21 (by decide) ?_
      refine n_top (y := dI 0) (by decide) ?_
      refine lv_istore_n (lv' := [(1, .int (dI 0)), (0, .ref (h 0))]) hx hb dX0_later_23 rfl hl (by decide) rfl (fun ls hl => ?_)
      refine lv_aload_n hx hb dX0_later_24 rfl (lv_at hl 1 rfl) ?_
      refine lv_iload_n hx hb dX0_later_25 rfl (lv_at hl 0 rfl) ?_
      refine ro_callV (As := [.int (dI 0)]) (rest := []) ⟨hx, hb, hml, hown, hts⟩ (kX0_productsAt l D h cI A  hI (dI 0) (by omega)) (cwV 1 hts gX0_later_X0_productsAt rfl rfl rfl (by decide +kernel) ⟨Nat.le_of_ble_eq_true rfl, Nat.le_of_ble_eq_true rfl⟩) vB_bl (vB_at hP hK) (va_recv hK hP (ci := 0) (q0 := 0) rfl rfl) rfl hl.1 rfl (Nat.le_of_ble_eq_true rfl) dX0_later_26 ⟨Nat.zero_le _, Nat.zero_le _⟩ ?_
      refine lv_istore_n (lv' := [(2, .int (fpd A (dI 0))), (1, .int (dI 0)), (0, .ref (h 0))]) hx hb dX0_later_29 rfl hl (by decide) rfl (fun ls hl => ?_)
      refine lv_iload_n hx hb dX0_later_30 rfl (lv_at hl 1 rfl) ?_
      refine lv_iconst (v := nI 1) hx hb dX0_later_31 (by decide) ?_
      refine lv_iadd hx hb dX0_later_32 ?_
      refine n_top (y := dI 1) (by decide) ?_
      refine lv_istore_n (lv' := [(3, .int (dI 1)), (2, .int (fpd A (dI 0))), (1, .int (dI 0)), (0, .ref (h 0))]) hx hb dX0_later_33 rfl hl (by decide) rfl (fun ls hl => ?_)
      have lp34 : ∀ (n34 i : Nat), i + n34 = 14 → ∀ (ls : Array Slot), lv_has ls 6 [(0, .ref (h 0)), (1, .int (dI (flb A i))), (2, .int (fpd A (dI (flb A i)))), (3, .int (dI (i + 1)))] → W p l e rmX0_later s m args below meth c s.heap [] 0 0 Q (F0 m 34 ls []) := by
        intro n34
        induction n34 with
        | zero =>
          intro i hi34 ls hl
          obtain rfl : 14 = i := by omega
          refine lv_iload_n hx hb dX0_later_34 rfl (lv_at hl 3 rfl) ?_
          refine lv_bipush (v := nI 7) hx hb dX0_later_35 (by decide) ?_
          refine lv_icmp_gt (tgt := 93) hx hb dX0_later_37 (by decide) (fun c_37 => ?_) (fun c_37 => absurd (by decide) c_37)
          refine lv_iload_n hx hb dX0_later_93 rfl (lv_at hl 1 rfl) ?_
          exact hQ dX0_later_94 (by unfold aLa; rw [if_neg (fun q => q.elim c_6 c_15)])
        | succ n34 ih34 =>
          intro i hi34 ls hl
          refine lv_iload_n hx hb dX0_later_34 rfl (lv_at hl 3 rfl) ?_
          refine lv_bipush (v := nI 7) hx hb dX0_later_35 (by decide) ?_
          refine lv_icmp_gt (tgt := 93) hx hb dX0_later_37 (by decide) (fun c_37 => absurd c_37 (dI_le (by omega))) (fun c_37 => ?_)
          refine lv_aload_n hx hb dX0_later_40 rfl (lv_at hl 0 rfl) ?_
          refine lv_iload_n hx hb dX0_later_41 rfl (lv_at hl 3 rfl) ?_
          refine ro_callV (As := [.int (dI (i + 1))]) (rest := []) ⟨hx, hb, hml, hown, hts⟩ (kX0_productsAt l D h cI A  hI (dI (i + 1)) (by omega)) (cwV 1 hts gX0_later_X0_productsAt rfl rfl rfl (by decide +kernel) ⟨Nat.le_of_ble_eq_true rfl, Nat.le_of_ble_eq_true rfl⟩) vB_bl (vB_at hP hK) (va_recv hK hP (ci := 0) (q0 := 0) rfl rfl) rfl hl.1 rfl (Nat.le_of_ble_eq_true rfl) dX0_later_42 ⟨Nat.zero_le _, Nat.zero_le _⟩ ?_
          refine lv_istore (lv' := [(4, .int (fpd A (dI (i + 1)))), (0, .ref (h 0)), (1, .int (dI (flb A i))), (2, .int (fpd A (dI (flb A i)))), (3, .int (dI (i + 1)))]) hx hb dX0_later_45 hl (by decide) rfl (fun ls hl => ?_)
          refine lv_iload_n hx hb dX0_later_47 rfl (lv_at hl 4 rfl) ?_
          refine va_mabs hx hb (hml.trans hl.1.symm) hown (hts (.methodLink RX0 116 Lib.Math.abs.name) (by decide +kernel)) (hts (.static Lib.Math.abs.name) (by decide +kernel)) (hts (.initialized "java/lang/Math") (by decide +kernel)) (hts (.code Lib.Math.abs.name Lib.Math.abs.code 1 (some .int)) (by decide +kernel)) (Nat.le_of_ble_eq_true rfl) (Nat.le_of_ble_eq_true rfl) (Nat.zero_le _) (Nat.zero_le _) dX0_later_48 ?_
          refine lv_iload_n hx hb dX0_later_51 rfl (lv_at hl 2 rfl) ?_
          refine va_mabs hx hb (hml.trans hl.1.symm) hown (hts (.methodLink RX0 116 Lib.Math.abs.name) (by decide +kernel)) (hts (.static Lib.Math.abs.name) (by decide +kernel)) (hts (.initialized "java/lang/Math") (by decide +kernel)) (hts (.code Lib.Math.abs.name Lib.Math.abs.code 1 (some .int)) (by decide +kernel)) (Nat.le_of_ble_eq_true rfl) (Nat.le_of_ble_eq_true rfl) (Nat.zero_le _) (Nat.zero_le _) dX0_later_52 ?_
          refine lv_icmp_ge (tgt := 62) hx hb dX0_later_55 (by decide) (fun c_55 => ?_) (fun c_55 => ?_)
          · refine lv_iconst (v := nI 0) hx hb dX0_later_62 (by decide) ?_
            refine lv_istore (lv' := [(5, .int (nI 0)), (4, .int (fpd A (dI (i + 1)))), (0, .ref (h 0)), (1, .int (dI (flb A i))), (2, .int (fpd A (dI (flb A i)))), (3, .int (dI (i + 1)))]) hx hb dX0_later_63 hl (by decide) rfl (fun ls hl => ?_)
            refine lv_iload hx hb dX0_later_65 (lv_at hl 1 rfl) ?_
            refine lv_iload_n hx hb dX0_later_67 rfl (lv_at hl 4 rfl) ?_
            refine lv_icmp_gt (tgt := 82) hx hb dX0_later_68 (by decide) (fun c_68 => ?_) (fun c_68 => ?_)
            · refine lv_iload hx hb dX0_later_82 (lv_at hl 1 rfl) ?_
              refine lv_istore_n (lv' := [(2, .int (fpd A (dI (i + 1)))), (5, .int (nI 0)), (4, .int (fpd A (dI (i + 1)))), (0, .ref (h 0)), (1, .int (dI (flb A i))), (3, .int (dI (i + 1)))]) hx hb dX0_later_84 rfl hl (by decide) rfl (fun ls hl => ?_)
              refine lv_iload_n hx hb dX0_later_85 rfl (lv_at hl 5 rfl) ?_
              refine lv_istore_n (lv' := [(1, .int (dI (i + 1))), (2, .int (fpd A (dI (i + 1)))), (5, .int (nI 0)), (4, .int (fpd A (dI (i + 1)))), (0, .ref (h 0)), (3, .int (dI (i + 1)))]) hx hb dX0_later_86 rfl hl (by decide) rfl (fun ls hl => ?_)
              have hl : lv_has ls 6 [(1, .int (dI (flb A (i + 1)))), (2, .int (fpd A (dI (flb A (i + 1))))), (5, .int (nI 0)), (4, .int (fpd A (dI (i + 1)))), (0, .ref (h 0)), (3, .int (dI (i + 1)))] := by rw [show flb A (i + 1) = i + 1 from if_pos (Or.inl c_68)]; exact hl
              refine lv_iinc (v := dI (i + 1 + 1)) (lv' := [(3, .int (dI (i + 1 + 1))), (1, .int (dI (flb A (i + 1)))), (2, .int (fpd A (dI (flb A (i + 1))))), (5, .int (nI 0)), (4, .int (fpd A (dI (i + 1)))), (0, .ref (h 0))]) hx hb dX0_later_87 hl (k := 5) rfl (dI_s _) (by decide) rfl (fun ls hl => ?_)
              refine lv_goto (tgt := 34) hx hb dX0_later_90 (by decide) ?_
              exact ih34 (i + 1) (by omega) ls (lv_sub hl [5, 1, 2, 0] rfl)
            · refine lv_iload hx hb dX0_later_71 (lv_at hl 1 rfl) ?_
              refine lv_iload_n hx hb dX0_later_73 rfl (lv_at hl 4 rfl) ?_
              refine lv_icmp_ne (tgt := 87) hx hb dX0_later_74 (by decide) (fun c_74 => ?_) (fun c_74 => ?_)
              · have hl : lv_has ls 6 [(5, .int (nI 0)), (4, .int (fpd A (dI (i + 1)))), (0, .ref (h 0)), (1, .int (dI (flb A (i + 1)))), (2, .int (fpd A (dI (flb A (i + 1))))), (3, .int (dI (i + 1)))] := by rw [show flb A (i + 1) = flb A i from if_neg (fun q => q.elim c_68 (fun z => c_74 z.1))]; exact hl
                refine lv_iinc (v := dI (i + 1 + 1)) (lv' := [(3, .int (dI (i + 1 + 1))), (5, .int (nI 0)), (4, .int (fpd A (dI (i + 1)))), (0, .ref (h 0)), (1, .int (dI (flb A (i + 1)))), (2, .int (fpd A (dI (flb A (i + 1)))))]) hx hb dX0_later_87 hl (k := 5) rfl (dI_s _) (by decide) rfl (fun ls hl => ?_)
                refine lv_goto (tgt := 34) hx hb dX0_later_90 (by decide) ?_
                exact ih34 (i + 1) (by omega) ls (lv_sub hl [3, 4, 5, 0] rfl)
              · refine lv_iload hx hb dX0_later_77 (lv_at hl 0 rfl) ?_
                refine n_if_eq (tgt := 87) hx hb (by omega) dX0_later_79 (by decide) (fun c_79 => ?_) (fun c_79 => by exfalso; omega)
                have hl : lv_has ls 6 [(5, .int (nI 0)), (4, .int (fpd A (dI (i + 1)))), (0, .ref (h 0)), (1, .int (dI (flb A (i + 1)))), (2, .int (fpd A (dI (flb A (i + 1))))), (3, .int (dI (i + 1)))] := by rw [show flb A (i + 1) = flb A i from if_neg (fun q => q.elim c_68 (fun z => Int32.not_lt.mpr c_55 z.2))]; exact hl
                refine lv_iinc (v := dI (i + 1 + 1)) (lv' := [(3, .int (dI (i + 1 + 1))), (5, .int (nI 0)), (4, .int (fpd A (dI (i + 1)))), (0, .ref (h 0)), (1, .int (dI (flb A (i + 1)))), (2, .int (fpd A (dI (flb A (i + 1)))))]) hx hb dX0_later_87 hl (k := 5) rfl (dI_s _) (by decide) rfl (fun ls hl => ?_)
                refine lv_goto (tgt := 34) hx hb dX0_later_90 (by decide) ?_
                exact ih34 (i + 1) (by omega) ls (lv_sub hl [3, 4, 5, 0] rfl)
          · refine lv_iconst (v := nI 1) hx hb dX0_later_58 (by decide) ?_
            refine lv_goto (tgt := 63) hx hb dX0_later_59 (by decide) ?_
            refine lv_istore (lv' := [(5, .int (nI 1)), (4, .int (fpd A (dI (i + 1)))), (0, .ref (h 0)), (1, .int (dI (flb A i))), (2, .int (fpd A (dI (flb A i)))), (3, .int (dI (i + 1)))]) hx hb dX0_later_63 hl (by decide) rfl (fun ls hl => ?_)
            refine lv_iload hx hb dX0_later_65 (lv_at hl 1 rfl) ?_
            refine lv_iload_n hx hb dX0_later_67 rfl (lv_at hl 4 rfl) ?_
            refine lv_icmp_gt (tgt := 82) hx hb dX0_later_68 (by decide) (fun c_68 => ?_) (fun c_68 => ?_)
            · refine lv_iload hx hb dX0_later_82 (lv_at hl 1 rfl) ?_
              refine lv_istore_n (lv' := [(2, .int (fpd A (dI (i + 1)))), (5, .int (nI 1)), (4, .int (fpd A (dI (i + 1)))), (0, .ref (h 0)), (1, .int (dI (flb A i))), (3, .int (dI (i + 1)))]) hx hb dX0_later_84 rfl hl (by decide) rfl (fun ls hl => ?_)
              refine lv_iload_n hx hb dX0_later_85 rfl (lv_at hl 5 rfl) ?_
              refine lv_istore_n (lv' := [(1, .int (dI (i + 1))), (2, .int (fpd A (dI (i + 1)))), (5, .int (nI 1)), (4, .int (fpd A (dI (i + 1)))), (0, .ref (h 0)), (3, .int (dI (i + 1)))]) hx hb dX0_later_86 rfl hl (by decide) rfl (fun ls hl => ?_)
              have hl : lv_has ls 6 [(1, .int (dI (flb A (i + 1)))), (2, .int (fpd A (dI (flb A (i + 1))))), (5, .int (nI 1)), (4, .int (fpd A (dI (i + 1)))), (0, .ref (h 0)), (3, .int (dI (i + 1)))] := by rw [show flb A (i + 1) = i + 1 from if_pos (Or.inl c_68)]; exact hl
              refine lv_iinc (v := dI (i + 1 + 1)) (lv' := [(3, .int (dI (i + 1 + 1))), (1, .int (dI (flb A (i + 1)))), (2, .int (fpd A (dI (flb A (i + 1))))), (5, .int (nI 1)), (4, .int (fpd A (dI (i + 1)))), (0, .ref (h 0))]) hx hb dX0_later_87 hl (k := 5) rfl (dI_s _) (by decide) rfl (fun ls hl => ?_)
              refine lv_goto (tgt := 34) hx hb dX0_later_90 (by decide) ?_
              exact ih34 (i + 1) (by omega) ls (lv_sub hl [5, 1, 2, 0] rfl)
            · refine lv_iload hx hb dX0_later_71 (lv_at hl 1 rfl) ?_
              refine lv_iload_n hx hb dX0_later_73 rfl (lv_at hl 4 rfl) ?_
              refine lv_icmp_ne (tgt := 87) hx hb dX0_later_74 (by decide) (fun c_74 => ?_) (fun c_74 => ?_)
              · have hl : lv_has ls 6 [(5, .int (nI 1)), (4, .int (fpd A (dI (i + 1)))), (0, .ref (h 0)), (1, .int (dI (flb A (i + 1)))), (2, .int (fpd A (dI (flb A (i + 1))))), (3, .int (dI (i + 1)))] := by rw [show flb A (i + 1) = flb A i from if_neg (fun q => q.elim c_68 (fun z => c_74 z.1))]; exact hl
                refine lv_iinc (v := dI (i + 1 + 1)) (lv' := [(3, .int (dI (i + 1 + 1))), (5, .int (nI 1)), (4, .int (fpd A (dI (i + 1)))), (0, .ref (h 0)), (1, .int (dI (flb A (i + 1)))), (2, .int (fpd A (dI (flb A (i + 1)))))]) hx hb dX0_later_87 hl (k := 5) rfl (dI_s _) (by decide) rfl (fun ls hl => ?_)
                refine lv_goto (tgt := 34) hx hb dX0_later_90 (by decide) ?_
                exact ih34 (i + 1) (by omega) ls (lv_sub hl [3, 4, 5, 0] rfl)
              · refine lv_iload hx hb dX0_later_77 (lv_at hl 0 rfl) ?_
                refine n_if_eq (tgt := 87) hx hb (by omega) dX0_later_79 (by decide) (fun c_79 => by exfalso; omega) (fun c_79 => ?_)
                refine lv_iload hx hb dX0_later_82 (lv_at hl 1 rfl) ?_
                refine lv_istore_n (lv' := [(2, .int (fpd A (dI (i + 1)))), (5, .int (nI 1)), (4, .int (fpd A (dI (i + 1)))), (0, .ref (h 0)), (1, .int (dI (flb A i))), (3, .int (dI (i + 1)))]) hx hb dX0_later_84 rfl hl (by decide) rfl (fun ls hl => ?_)
                refine lv_iload_n hx hb dX0_later_85 rfl (lv_at hl 5 rfl) ?_
                refine lv_istore_n (lv' := [(1, .int (dI (i + 1))), (2, .int (fpd A (dI (i + 1)))), (5, .int (nI 1)), (4, .int (fpd A (dI (i + 1)))), (0, .ref (h 0)), (3, .int (dI (i + 1)))]) hx hb dX0_later_86 rfl hl (by decide) rfl (fun ls hl => ?_)
                have hl : lv_has ls 6 [(1, .int (dI (flb A (i + 1)))), (2, .int (fpd A (dI (flb A (i + 1))))), (5, .int (nI 1)), (4, .int (fpd A (dI (i + 1)))), (0, .ref (h 0)), (3, .int (dI (i + 1)))] := by rw [show flb A (i + 1) = i + 1 from if_pos (Or.inr ⟨c_74, Int32.not_le.mp c_55⟩)]; exact hl
                refine lv_iinc (v := dI (i + 1 + 1)) (lv' := [(3, .int (dI (i + 1 + 1))), (1, .int (dI (flb A (i + 1)))), (2, .int (fpd A (dI (flb A (i + 1))))), (5, .int (nI 1)), (4, .int (fpd A (dI (i + 1)))), (0, .ref (h 0))]) hx hb dX0_later_87 hl (k := 5) rfl (dI_s _) (by decide) rfl (fun ls hl => ?_)
                refine lv_goto (tgt := 34) hx hb dX0_later_90 (by decide) ?_
                exact ih34 (i + 1) (by omega) ls (lv_sub hl [5, 1, 2, 0] rfl)
      exact lp34 (14) (0) (by omega) ls (lv_sub hl [3, 2, 1, 0] rfl)
    · refine lv_bipush (v := (-9)) hx hb dX0_later_18 (by decide) ?_
      exact hQ dX0_later_20 (by unfold aLa; rw [if_pos (Or.inr c_15)])
def rmX0_turned : Room := { frames := 4, cells := 0, slots := 0, locals := 87 }
set_option maxHeartbeats 4000000 in
set_option maxRecDepth 100000 in
/-- turned -/
theorem kX0_turned (l : Launch) (D : va_G) (h : Nat → Nat) (cI : ClassId) (A : St) (hI : Inv A) (x u : Int32) : RO l yX0_turned wsX0_turned rmX0_turned [.ref (h 0), .int x, .int u] (vB D (xw h cI A) [(cI, .int)]) (aTu A x u) := by
  refine ro_ofW (cc := cX0_turned) (maxL := 3) (by decide) rfl (Nat.le_of_ble_eq_true rfl) ?_
  intro p e s m below meth c args Q hx hb hml hown hts hB hQ ls hl
  have hown : s.vm.findClass RX0 = some m.cls := hown
  obtain ⟨hP, hK⟩ := hB
  have hin0 : ∀ w ∈ u_ws RX0 TX0 12, w ∈ wsX0_turned := fun _ h => List.mem_cons_of_mem _ (List.mem_append_right _ h)
  have hl : lv_has ls 3 [(0, .ref (h 0)), (1, .int x), (2, .int u)] := hl
  have hF := hI.F
  have hT := hI.T
  have hK3 := hI.K
  have hJ := hI.J
  have hZ := hI.Z
  refine lv_iload_n hx hb dX0_turned_0 rfl (lv_at hl 1 rfl) ?_
  refine lv_iconst (v := nI 0) hx hb dX0_turned_1 (by decide) ?_
  refine lv_bipush (v := nI 7) hx hb dX0_turned_2 (by decide) ?_
  refine ro_callS (As := [.int x, .int (nI 0), .int (nI 7)]) (rest := []) ⟨hx, hb, hml, hown, hts⟩ (kX0_within l (x) (nI 0) (nI 7)) (va_cwS 3 hts gX0_turned_X0_within rfl rfl rfl (by decide +kernel) ⟨Nat.le_of_ble_eq_true rfl, Nat.le_of_ble_eq_true rfl⟩) vT_bl vT_at rfl hl.1 rfl (Nat.le_of_ble_eq_true rfl) dX0_turned_4 ⟨Nat.zero_le _, Nat.zero_le _⟩ ?_
  refine b_if_ne (tgt := 13) hx hb dX0_turned_7 (by decide) (fun c_7 => ?_) (fun c_7 => ?_)
  · obtain ⟨k, hk, rfl⟩ := iN_of (n := 8) c_7 (by decide) (by decide)
    refine lv_iload_n hx hb dX0_turned_13 rfl (lv_at hl 2 rfl) ?_
    by_cases hw : iN u 2
    · obtain ⟨jw, hjw, rfl⟩ := iN_of hw (by decide) (by decide)
      rcases (show jw = 0 ∨ jw = 1 by omega) with rfl | rfl
      · refine lv_lookup (off := 26) (tgt := 40) hx hb dX0_turned_14 (by decide) (by decide) (by decide) ?_
        refine lv_aload_n hx hb dX0_turned_40 rfl (lv_at hl 0 rfl) ?_
        refine lv_iload_n hx hb dX0_turned_41 rfl (lv_at hl 1 rfl) ?_
        refine ro_callV (As := [.int (nI k)]) (rest := []) ⟨hx, hb, hml, hown, hts⟩ (kX0_turnedAt l D h cI A  hI (k) (by omega)) (cwV 1 hts gX0_turned_X0_turnedAt rfl rfl rfl (by decide +kernel) ⟨Nat.le_of_ble_eq_true rfl, Nat.le_of_ble_eq_true rfl⟩) vB_bl (vB_at hP hK) (va_recv hK hP (ci := 0) (q0 := 0) rfl rfl) rfl hl.1 rfl (Nat.le_of_ble_eq_true rfl) dX0_turned_42 ⟨Nat.zero_le _, Nat.zero_le _⟩ ?_
        exact hQ dX0_turned_45 (by unfold aTu; rw [if_pos ⟨c_7, hw⟩, cl_nI (n := k) (by omega)]; rfl)
      · refine lv_lookup (off := 32) (tgt := 46) hx hb dX0_turned_14 (by decide) (by decide) (by decide) ?_
        refine lv_aload_n hx hb dX0_turned_46 rfl (lv_at hl 0 rfl) ?_
        refine lv_iload_n hx hb dX0_turned_47 rfl (lv_at hl 1 rfl) ?_
        refine ro_callV (As := [.int (nI k)]) (rest := []) ⟨hx, hb, hml, hown, hts⟩ (kX0_backAt l D h cI A  hI (k) (by omega)) (cwV 1 hts gX0_turned_X0_backAt rfl rfl rfl (by decide +kernel) ⟨Nat.le_of_ble_eq_true rfl, Nat.le_of_ble_eq_true rfl⟩) vB_bl (vB_at hP hK) (va_recv hK hP (ci := 0) (q0 := 0) rfl rfl) rfl hl.1 rfl (Nat.le_of_ble_eq_true rfl) dX0_turned_48 ⟨Nat.zero_le _, Nat.zero_le _⟩ ?_
        exact hQ dX0_turned_51 (by unfold aTu; rw [if_pos ⟨c_7, hw⟩, cl_nI (n := k) (by omega)]; rfl)
    · refine lv_lookup (off := 38) (tgt := 52) hx hb dX0_turned_14 (by decide) ((lv_osw (k := nI 0) (fun z => hw (by rw [z]; decide)) (by decide)).trans ((lv_osw (k := nI 1) (fun z => hw (by rw [z]; decide)) (by decide)).trans rfl)) (by decide) ?_
      refine lv_ldc (v := (-1000000)) hx hb hown (hts (.constant RX0 121 (-1000000)) (by decide +kernel)) dX0_turned_52 ?_
      exact hQ dX0_turned_54 (by unfold aTu; rw [if_neg (fun q => hw q.2)])
  · refine lv_ldc (v := (-1000000)) hx hb hown (hts (.constant RX0 121 (-1000000)) (by decide +kernel)) dX0_turned_10 ?_
    exact hQ dX0_turned_12 (by unfold aTu; rw [if_neg (fun q => c_7 q.1)])
def rmJ13_bitCount_95d88 : Room := { frames := 0, cells := 0, slots := 0, locals := 0 }
set_option maxHeartbeats 4000000 in
set_option maxRecDepth 100000 in
/-- bitCount_95d88 -/
theorem kJ13_bitCount_95d88 (l : Launch)  (X : Nat → Nat → Bool) : RO l yJ13_bitCount_95d88 wsJ13_bitCount_95d88 rmJ13_bitCount_95d88 [.long (bbOf X)] (vT) (nI (cnt (cb X) 42)) := by
  refine ro_ofW (cc := cJ13_bitCount_95d88) (maxL := 2) (by decide) rfl (Nat.le_of_ble_eq_true rfl) ?_
  intro p e s m below meth c args Q hx hb hml hown hts hB hQ ls hl
  have hown : s.vm.findClass RJ13 = some m.cls := hown
  have hl : lv_has ls 2 [(0, .long (bbOf X))] := hl
  have q1 : bsum X 42 < 2 ^ 42 := bsum_lt X 42
  have q2 : S1 8 (bsum X 42) < 2 ^ 42 := S1_lt q1
  have q3 : S2 8 (S1 8 (bsum X 42)) < 2 ^ 43 := S2_lt q2
  have q4 : S3 8 (S2 8 (S1 8 (bsum X 42))) < 2 ^ 44 := S3_lt q3
  refine lv_lload_n hx hb dJ13_bitCount_95d88_0 rfl (lv_at hl 0 rfl) ?_
  refine lv_lload_n hx hb dJ13_bitCount_95d88_1 rfl (lv_at hl 0 rfl) ?_
  refine lv_iconst (v := nI 1) hx hb dJ13_bitCount_95d88_2 (by decide) ?_
  refine lv_lushr hx hb dJ13_bitCount_95d88_3 rfl ?_
  refine n_topl (y := lN (bsum X 42 / 2)) (wb_shr (k := 1) (by omega) (by decide)) ?_
  refine lv_ldc2 (v := (6148914691236517205)) hx hb hown (hts (.constantLong RJ13 314 (6148914691236517205)) (by decide +kernel)) dJ13_bitCount_95d88_4 ?_
  refine n_topl (y := lN 6148914691236517205) (rfl) ?_
  refine lv_land hx hb dJ13_bitCount_95d88_7 ?_
  refine n_topl (y := lN (bsum X 42 / 2 &&& 6148914691236517205)) (wb_and (by omega) (by decide)) ?_
  refine lv_lsub hx hb dJ13_bitCount_95d88_8 ?_
  refine n_topl (y := lN (S1 8 (bsum X 42))) (bt1) ?_
  refine lv_lstore_n (lv' := [(0, .long (lN (S1 8 (bsum X 42))))]) hx hb dJ13_bitCount_95d88_9 rfl hl (by decide) rfl (fun ls hl => ?_)
  refine lv_lload_n hx hb dJ13_bitCount_95d88_10 rfl (lv_at hl 0 rfl) ?_
  refine lv_ldc2 (v := (3689348814741910323)) hx hb hown (hts (.constantLong RJ13 316 (3689348814741910323)) (by decide +kernel)) dJ13_bitCount_95d88_11 ?_
  refine n_topl (y := lN 3689348814741910323) (rfl) ?_
  refine lv_land hx hb dJ13_bitCount_95d88_14 ?_
  refine n_topl (y := lN (S1 8 (bsum X 42) &&& 3689348814741910323)) (wb_and (by omega) (by decide)) ?_
  refine lv_lload_n hx hb dJ13_bitCount_95d88_15 rfl (lv_at hl 0 rfl) ?_
  refine lv_iconst (v := nI 2) hx hb dJ13_bitCount_95d88_16 (by decide) ?_
  refine lv_lushr hx hb dJ13_bitCount_95d88_17 rfl ?_
  refine n_topl (y := lN (S1 8 (bsum X 42) / 4)) (wb_shr (k := 2) (by omega) (by decide)) ?_
  refine lv_ldc2 (v := (3689348814741910323)) hx hb hown (hts (.constantLong RJ13 316 (3689348814741910323)) (by decide +kernel)) dJ13_bitCount_95d88_18 ?_
  refine n_topl (y := lN 3689348814741910323) (rfl) ?_
  refine lv_land hx hb dJ13_bitCount_95d88_21 ?_
  refine n_topl (y := lN (S1 8 (bsum X 42) / 4 &&& 3689348814741910323)) (wb_and (by omega) (by decide)) ?_
  refine lv_ladd hx hb dJ13_bitCount_95d88_22 ?_
  refine n_topl (y := lN (S2 8 (S1 8 (bsum X 42)))) (bt2) ?_
  refine lv_lstore_n (lv' := [(0, .long (lN (S2 8 (S1 8 (bsum X 42)))))]) hx hb dJ13_bitCount_95d88_23 rfl hl (by decide) rfl (fun ls hl => ?_)
  refine lv_lload_n hx hb dJ13_bitCount_95d88_24 rfl (lv_at hl 0 rfl) ?_
  refine lv_lload_n hx hb dJ13_bitCount_95d88_25 rfl (lv_at hl 0 rfl) ?_
  refine lv_iconst (v := nI 4) hx hb dJ13_bitCount_95d88_26 (by decide) ?_
  refine lv_lushr hx hb dJ13_bitCount_95d88_27 rfl ?_
  refine n_topl (y := lN (S2 8 (S1 8 (bsum X 42)) / 16)) (wb_shr (k := 4) (by omega) (by decide)) ?_
  refine lv_ladd hx hb dJ13_bitCount_95d88_28 ?_
  refine n_topl (y := lN (S2 8 (S1 8 (bsum X 42)) + S2 8 (S1 8 (bsum X 42)) / 16)) (lN_add _ _) ?_
  refine lv_ldc2 (v := (1085102592571150095)) hx hb hown (hts (.constantLong RJ13 318 (1085102592571150095)) (by decide +kernel)) dJ13_bitCount_95d88_29 ?_
  refine n_topl (y := lN 1085102592571150095) (rfl) ?_
  refine lv_land hx hb dJ13_bitCount_95d88_32 ?_
  refine n_topl (y := lN (S3 8 (S2 8 (S1 8 (bsum X 42))))) (bt3 (by omega)) ?_
  refine lv_lstore_n (lv' := [(0, .long (lN (S3 8 (S2 8 (S1 8 (bsum X 42))))))]) hx hb dJ13_bitCount_95d88_33 rfl hl (by decide) rfl (fun ls hl => ?_)
  refine lv_lload_n hx hb dJ13_bitCount_95d88_34 rfl (lv_at hl 0 rfl) ?_
  refine lv_lload_n hx hb dJ13_bitCount_95d88_35 rfl (lv_at hl 0 rfl) ?_
  refine lv_bipush (v := nI 8) hx hb dJ13_bitCount_95d88_36 (by decide) ?_
  refine lv_lushr hx hb dJ13_bitCount_95d88_38 rfl ?_
  refine n_topl (y := lN (S3 8 (S2 8 (S1 8 (bsum X 42))) / 256)) (wb_shr (k := 8) (by omega) (by decide)) ?_
  refine lv_ladd hx hb dJ13_bitCount_95d88_39 ?_
  refine n_topl (y := lN (S3 8 (S2 8 (S1 8 (bsum X 42))) + S3 8 (S2 8 (S1 8 (bsum X 42))) / 256)) (lN_add _ _) ?_
  refine lv_lstore_n (lv' := [(0, .long (lN (S3 8 (S2 8 (S1 8 (bsum X 42))) + S3 8 (S2 8 (S1 8 (bsum X 42))) / 256)))]) hx hb dJ13_bitCount_95d88_40 rfl hl (by decide) rfl (fun ls hl => ?_)
  refine lv_lload_n hx hb dJ13_bitCount_95d88_41 rfl (lv_at hl 0 rfl) ?_
  refine lv_lload_n hx hb dJ13_bitCount_95d88_42 rfl (lv_at hl 0 rfl) ?_
  refine lv_bipush (v := nI 16) hx hb dJ13_bitCount_95d88_43 (by decide) ?_
  refine lv_lushr hx hb dJ13_bitCount_95d88_45 rfl ?_
  refine n_topl (y := lN ((S3 8 (S2 8 (S1 8 (bsum X 42))) + S3 8 (S2 8 (S1 8 (bsum X 42))) / 256) / 65536)) (wb_shr (k := 16) (by omega) (by decide)) ?_
  refine lv_ladd hx hb dJ13_bitCount_95d88_46 ?_
  refine n_topl (y := lN ((S3 8 (S2 8 (S1 8 (bsum X 42))) + S3 8 (S2 8 (S1 8 (bsum X 42))) / 256) + (S3 8 (S2 8 (S1 8 (bsum X 42))) + S3 8 (S2 8 (S1 8 (bsum X 42))) / 256) / 65536)) (lN_add _ _) ?_
  refine lv_lstore_n (lv' := [(0, .long (lN ((S3 8 (S2 8 (S1 8 (bsum X 42))) + S3 8 (S2 8 (S1 8 (bsum X 42))) / 256) + (S3 8 (S2 8 (S1 8 (bsum X 42))) + S3 8 (S2 8 (S1 8 (bsum X 42))) / 256) / 65536)))]) hx hb dJ13_bitCount_95d88_47 rfl hl (by decide) rfl (fun ls hl => ?_)
  refine lv_lload_n hx hb dJ13_bitCount_95d88_48 rfl (lv_at hl 0 rfl) ?_
  refine lv_lload_n hx hb dJ13_bitCount_95d88_49 rfl (lv_at hl 0 rfl) ?_
  refine lv_bipush (v := nI 32) hx hb dJ13_bitCount_95d88_50 (by decide) ?_
  refine lv_lushr hx hb dJ13_bitCount_95d88_52 rfl ?_
  refine n_topl (y := lN (((S3 8 (S2 8 (S1 8 (bsum X 42))) + S3 8 (S2 8 (S1 8 (bsum X 42))) / 256) + (S3 8 (S2 8 (S1 8 (bsum X 42))) + S3 8 (S2 8 (S1 8 (bsum X 42))) / 256) / 65536) / 4294967296)) (wb_shr (k := 32) (by omega) (by decide)) ?_
  refine lv_ladd hx hb dJ13_bitCount_95d88_53 ?_
  refine n_topl (y := lN (((S3 8 (S2 8 (S1 8 (bsum X 42))) + S3 8 (S2 8 (S1 8 (bsum X 42))) / 256) + (S3 8 (S2 8 (S1 8 (bsum X 42))) + S3 8 (S2 8 (S1 8 (bsum X 42))) / 256) / 65536) + ((S3 8 (S2 8 (S1 8 (bsum X 42))) + S3 8 (S2 8 (S1 8 (bsum X 42))) / 256) + (S3 8 (S2 8 (S1 8 (bsum X 42))) + S3 8 (S2 8 (S1 8 (bsum X 42))) / 256) / 65536) / 4294967296)) (lN_add _ _) ?_
  refine lv_lstore_n (lv' := [(0, .long (lN (((S3 8 (S2 8 (S1 8 (bsum X 42))) + S3 8 (S2 8 (S1 8 (bsum X 42))) / 256) + (S3 8 (S2 8 (S1 8 (bsum X 42))) + S3 8 (S2 8 (S1 8 (bsum X 42))) / 256) / 65536) + ((S3 8 (S2 8 (S1 8 (bsum X 42))) + S3 8 (S2 8 (S1 8 (bsum X 42))) / 256) + (S3 8 (S2 8 (S1 8 (bsum X 42))) + S3 8 (S2 8 (S1 8 (bsum X 42))) / 256) / 65536) / 4294967296)))]) hx hb dJ13_bitCount_95d88_54 rfl hl (by decide) rfl (fun ls hl => ?_)
  refine lv_lload_n hx hb dJ13_bitCount_95d88_55 rfl (lv_at hl 0 rfl) ?_
  refine lv_l2i hx hb dJ13_bitCount_95d88_56 rfl ?_
  refine n_top (y := nI (((S3 8 (S2 8 (S1 8 (bsum X 42))) + S3 8 (S2 8 (S1 8 (bsum X 42))) / 256) + (S3 8 (S2 8 (S1 8 (bsum X 42))) + S3 8 (S2 8 (S1 8 (bsum X 42))) / 256) / 65536) + ((S3 8 (S2 8 (S1 8 (bsum X 42))) + S3 8 (S2 8 (S1 8 (bsum X 42))) / 256) + (S3 8 (S2 8 (S1 8 (bsum X 42))) + S3 8 (S2 8 (S1 8 (bsum X 42))) / 256) / 65536) / 4294967296)) (lN_i _) ?_
  refine lv_bipush (v := nI 127) hx hb dJ13_bitCount_95d88_57 (by decide) ?_
  refine lv_iand hx hb dJ13_bitCount_95d88_59 ?_
  refine n_top (y := nI (cnt (cb X) 42)) (by rw [ni_and, bcount X _ _ _ rfl rfl rfl]) ?_
  exact hQ dJ13_bitCount_95d88_60 (rfl)
def rmX0_count : Room := { frames := 1, cells := 0, slots := 0, locals := 21 }
set_option maxHeartbeats 4000000 in
set_option maxRecDepth 100000 in
/-- count -/
theorem kX0_count (l : Launch) (D : va_G) (h : Nat → Nat) (cI : ClassId) (A : St) (hI : Inv A) (u : Int32) : RO l yX0_count wsX0_count rmX0_count [.ref (h 0), .int u] (vB D (xw h cI A) [(cI, .int)]) (aCo A u) := by
  refine ro_ofW (cc := cX0_count) (maxL := 2) (by decide) rfl (Nat.le_of_ble_eq_true rfl) ?_
  intro p e s m below meth c args Q hx hb hml hown hts hB hQ ls hl
  have hown : s.vm.findClass RX0 = some m.cls := hown
  obtain ⟨hP, hK⟩ := hB
  have hin0 : ∀ w ∈ u_ws RX0 TX0 12, w ∈ wsX0_count := fun _ h => List.mem_cons_of_mem _ (List.mem_append_right _ h)
  have hl : lv_has ls 2 [(0, .ref (h 0)), (1, .int u)] := hl
  have hF := hI.F
  have hT := hI.T
  have hK3 := hI.K
  have hJ := hI.J
  have hZ := hI.Z
  refine lv_iload_n hx hb dX0_count_0 rfl (lv_at hl 1 rfl) ?_
  by_cases hw : iN u 8
  · obtain ⟨jw, hjw, rfl⟩ := iN_of hw (by decide) (by decide)
    rcases (show jw = 0 ∨ jw = 1 ∨ jw = 2 ∨ jw = 3 ∨ jw = 4 ∨ jw = 5 ∨ jw = 6 ∨ jw = 7 by omega) with rfl | rfl | rfl | rfl | rfl | rfl | rfl | rfl
    · refine lv_tableIn (off := 47) (tgt := 48) hx hb dX0_count_1 (by decide) (by decide) (by decide) (by decide) ?_
      refine lv_aload_n hx hb dX0_count_48 rfl (lv_at hl 0 rfl) ?_
      refine va_get (D := D) (ci := 0) (v := .int (nI (sF A))) (C := RX0) (T := TX0) (N := 12) hx hb hts hin0 hown hK hP 0 rfl rfl 0 (by decide) (hts (.fieldLink RX0 86 "VoiceParts" "tones" "I") (by decide +kernel)) (fun _ h9 => h9) rfl dX0_count_49 ?_
      exact hQ dX0_count_52 (by unfold aCo; rw [if_pos hw]; rfl)
    · refine lv_tableIn (off := 52) (tgt := 53) hx hb dX0_count_1 (by decide) (by decide) (by decide) (by decide) ?_
      refine lv_aload_n hx hb dX0_count_53 rfl (lv_at hl 0 rfl) ?_
      refine va_get (D := D) (ci := 0) (v := .int (nI (sT A))) (C := RX0) (T := TX0) (N := 12) hx hb hts hin0 hown hK hP 0 rfl rfl 1 (by decide) (hts (.fieldLink RX0 107 "VoiceParts" "times" "I") (by decide +kernel)) (fun _ h9 => h9) rfl dX0_count_54 ?_
      exact hQ dX0_count_57 (by unfold aCo; rw [if_pos hw]; rfl)
    · refine lv_tableIn (off := 57) (tgt := 58) hx hb dX0_count_1 (by decide) (by decide) (by decide) (by decide) ?_
      refine lv_aload_n hx hb dX0_count_58 rfl (lv_at hl 0 rfl) ?_
      refine va_get (D := D) (ci := 0) (v := .int (nI (sK A))) (C := RX0) (T := TX0) (N := 12) hx hb hts hin0 hown hK hP 0 rfl rfl 2 (by decide) (hts (.fieldLink RX0 137 "VoiceParts" "voices" "I") (by decide +kernel)) (fun _ h9 => h9) rfl dX0_count_59 ?_
      exact hQ dX0_count_62 (by unfold aCo; rw [if_pos hw]; rfl)
    · refine lv_tableIn (off := 62) (tgt := 63) hx hb dX0_count_1 (by decide) (by decide) (by decide) (by decide) ?_
      refine lv_aload_n hx hb dX0_count_63 rfl (lv_at hl 0 rfl) ?_
      refine va_get (D := D) (ci := 0) (v := .int (nI (sJ A))) (C := RX0) (T := TX0) (N := 12) hx hb hts hin0 hown hK hP 0 rfl rfl 9 (by decide) (hts (.fieldLink RX0 29 "VoiceParts" "judgeKind" "I") (by decide +kernel)) (fun _ h9 => h9) rfl dX0_count_64 ?_
      exact hQ dX0_count_67 (by unfold aCo; rw [if_pos hw]; rfl)
    · refine lv_tableIn (off := 67) (tgt := 68) hx hb dX0_count_1 (by decide) (by decide) (by decide) (by decide) ?_
      refine lv_aload_n hx hb dX0_count_68 rfl (lv_at hl 0 rfl) ?_
      refine va_get (D := D) (ci := 0) (v := .long (bbOf (sX A))) (C := RX0) (T := TX0) (N := 12) hx hb hts hin0 hown hK hP 0 rfl rfl 5 (by decide) (hts (.fieldLink RX0 69 "VoiceParts" "barred" "J") (by decide +kernel)) (fun _ h9 => h9) rfl dX0_count_69 ?_
      refine ro_callS (As := [.long (bbOf (sX A))]) (rest := []) ⟨hx, hb, hml, hown, hts⟩ (kJ13_bitCount_95d88 l (sX A)) (va_cwS 1 hts gX0_count_J13_bitCount_95d88 rfl rfl rfl (by decide +kernel) ⟨Nat.le_of_ble_eq_true rfl, Nat.le_of_ble_eq_true rfl⟩) vT_bl vT_at rfl hl.1 rfl (Nat.le_of_ble_eq_true rfl) dX0_count_72 ⟨Nat.zero_le _, Nat.zero_le _⟩ ?_
      exact hQ dX0_count_75 (by unfold aCo; rw [if_pos hw]; rfl)
    · refine lv_tableIn (off := 75) (tgt := 76) hx hb dX0_count_1 (by decide) (by decide) (by decide) (by decide) ?_
      refine lv_aload_n hx hb dX0_count_76 rfl (lv_at hl 0 rfl) ?_
      refine va_get (D := D) (ci := 0) (v := .ref (h 5)) (C := RX0) (T := TX0) (N := 12) hx hb hts hin0 hown hK hP 0 rfl rfl 8 (by decide) (hts (.fieldLink RX0 22 "VoiceParts" "rowSizes" "[I") (by decide +kernel)) (fun _ h9 => h9) rfl dX0_count_77 ?_
      refine lv_iconst (v := nI 0) hx hb dX0_count_80 (by decide) ?_
      refine n_iald hx hb hK hP 5 0 rfl rfl (by omega) (by decide) dX0_count_81 ?_
      exact hQ dX0_count_82 (by unfold aCo; rw [if_pos hw]; rfl)
    · refine lv_tableIn (off := 82) (tgt := 83) hx hb dX0_count_1 (by decide) (by decide) (by decide) (by decide) ?_
      refine lv_aload_n hx hb dX0_count_83 rfl (lv_at hl 0 rfl) ?_
      refine va_get (D := D) (ci := 0) (v := .ref (h 5)) (C := RX0) (T := TX0) (N := 12) hx hb hts hin0 hown hK hP 0 rfl rfl 8 (by decide) (hts (.fieldLink RX0 22 "VoiceParts" "rowSizes" "[I") (by decide +kernel)) (fun _ h9 => h9) rfl dX0_count_84 ?_
      refine lv_iconst (v := nI 1) hx hb dX0_count_87 (by decide) ?_
      refine n_iald hx hb hK hP 5 0 rfl rfl (by omega) (by decide) dX0_count_88 ?_
      exact hQ dX0_count_89 (by unfold aCo; rw [if_pos hw]; rfl)
    · refine lv_tableIn (off := 89) (tgt := 90) hx hb dX0_count_1 (by decide) (by decide) (by decide) (by decide) ?_
      refine lv_aload_n hx hb dX0_count_90 rfl (lv_at hl 0 rfl) ?_
      refine va_get (D := D) (ci := 0) (v := .int (sN A)) (C := RX0) (T := TX0) (N := 12) hx hb hts hin0 hown hK hP 0 rfl rfl 10 (by decide) (hts (.fieldLink RX0 95 "VoiceParts" "roundsEver" "I") (by decide +kernel)) (fun _ h9 => h9) rfl dX0_count_91 ?_
      exact hQ dX0_count_94 (by unfold aCo; rw [if_pos hw]; rfl)
  · refine lv_tableOut (tgt := 95) hx hb dX0_count_1 (by have z := iN_out hw (by decide) (by decide); omega) (by decide) ?_
    refine lv_iconst (v := (-1)) hx hb dX0_count_95 (by decide) ?_
    exact hQ dX0_count_96 (by unfold aCo; rw [if_neg hw])
def rmX0_trace : Room := { frames := 0, cells := 0, slots := 0, locals := 0 }
set_option maxHeartbeats 4000000 in
set_option maxRecDepth 100000 in
/-- trace -/
theorem kX0_trace (l : Launch) (D : va_G) (h : Nat → Nat) (cI : ClassId) (A : St)  : ROL l yX0_trace wsX0_trace rmX0_trace [.ref (h 0)] (vB D (xw h cI A) [(cI, .int)]) (sC A) := by
  refine ro_ofWl (cc := cX0_trace) (maxL := 1) (by decide) rfl (Nat.le_of_ble_eq_true rfl) ?_
  intro p e s m below meth c args Q hx hb hml hown hts hB hQ ls hl
  have hown : s.vm.findClass RX0 = some m.cls := hown
  obtain ⟨hP, hK⟩ := hB
  have hin0 : ∀ w ∈ u_ws RX0 TX0 12, w ∈ wsX0_trace := fun _ h => List.mem_cons_of_mem _ (List.mem_append_right _ h)
  have hl : lv_has ls 1 [(0, .ref (h 0))] := hl
  refine lv_aload_n hx hb dX0_trace_0 rfl (lv_at hl 0 rfl) ?_
  refine va_get (D := D) (ci := 0) (v := .long (sC A)) (C := RX0) (T := TX0) (N := 12) hx hb hts hin0 hown hK hP 0 rfl rfl 11 (by decide) (hts (.fieldLink RX0 76 "VoiceParts" "traceSum" "J") (by decide +kernel)) (fun _ h9 => h9) rfl dX0_trace_1 ?_
  exact hQ dX0_trace_4 (rfl)
def rmX0_apart : Room := { frames := 5, cells := 0, slots := 0, locals := 127 }
set_option maxHeartbeats 4000000 in
set_option maxRecDepth 100000 in
/-- apart -/
theorem kX0_apart (l : Launch) (D : va_G) (h : Nat → Nat) (cI : ClassId) (A : St) (t : Nat → Nat) (hI : Inv A) (x : Int32) : RO l yX0_apart wsX0_apart rmX0_apart [.ref (h 0), .int x] (vB2 D (xw h cI A) [(cI, .int)] t) (aAp A x) := by
  refine ro_ofW (cc := cX0_apart) (maxL := 2) (by decide) rfl (Nat.le_of_ble_eq_true rfl) ?_
  intro p e s m below meth c args Q hx hb hml hown hts hB hQ ls hl
  have hown : s.vm.findClass RX0 = some m.cls := hown
  obtain ⟨⟨hP, hK⟩, hST⟩ := hB
  have hin0 : ∀ w ∈ u_ws RX0 TX0 12, w ∈ wsX0_apart := fun _ h => List.mem_cons_of_mem _ (List.mem_append_right _ h)
  have hl : lv_has ls 2 [(0, .ref (h 0)), (1, .int x)] := hl
  have hF := hI.F
  have hT := hI.T
  have hK3 := hI.K
  have hJ := hI.J
  have hZ := hI.Z
  have hno := fno_in (sK A)
  refine lv_iload_n hx hb dX0_apart_0 rfl (lv_at hl 1 rfl) ?_
  refine lv_iconst (v := nI 0) hx hb dX0_apart_1 (by decide) ?_
  refine lv_aload_n hx hb dX0_apart_2 rfl (lv_at hl 0 rfl) ?_
  refine ro_callV (As := []) (rest := [.int (nI 0), .int x]) ⟨hx, hb, hml, hown, hts⟩ (kX0_howManyOrders l D h cI A hI) (cwV 0 hts gX0_apart_X0_howManyOrders rfl rfl rfl (by decide +kernel) ⟨Nat.le_of_ble_eq_true rfl, Nat.le_of_ble_eq_true rfl⟩) vB_bl (vB_at hP hK) (va_recv hK hP (ci := 0) (q0 := 0) rfl rfl) rfl hl.1 rfl (Nat.le_of_ble_eq_true rfl) dX0_apart_3 ⟨Nat.zero_le _, Nat.zero_le _⟩ ?_
  refine lv_iconst (v := nI 1) hx hb dX0_apart_6 (by decide) ?_
  refine n_isub hx hb (by omega) dX0_apart_7 ?_
  refine ro_callS (As := [.int x, .int (nI 0), .int (nI ((fno (sK A)) - 1))]) (rest := []) ⟨hx, hb, hml, hown, hts⟩ (kX0_within l (x) (nI 0) (nI ((fno (sK A)) - 1))) (va_cwS 3 hts gX0_apart_X0_within rfl rfl rfl (by decide +kernel) ⟨Nat.le_of_ble_eq_true rfl, Nat.le_of_ble_eq_true rfl⟩) vT_bl vT_at rfl hl.1 rfl (Nat.le_of_ble_eq_true rfl) dX0_apart_8 ⟨Nat.zero_le _, Nat.zero_le _⟩ ?_
  refine b_if_ne (tgt := 16) hx hb dX0_apart_11 (by decide) (fun c_11 => ?_) (fun c_11 => ?_)
  · obtain ⟨o, ho, rfl⟩ := iN_of (n := fno (sK A)) c_11 (by omega) (by omega)
    refine lv_aload_n hx hb dX0_apart_16 rfl (lv_at hl 0 rfl) ?_
    refine lv_iload_n hx hb dX0_apart_17 rfl (lv_at hl 1 rfl) ?_
    refine ro_callV (As := [.int (nI o)]) (rest := []) ⟨hx, hb, hml, hown, hts⟩ (kX0_apartBy l D h cI A t hI (o) (ho)) (cwV 1 hts gX0_apart_X0_apartBy rfl rfl rfl (by decide +kernel) ⟨Nat.le_of_ble_eq_true rfl, Nat.le_of_ble_eq_true rfl⟩) vB2_bl (vB2_at hP hK hST) (va_recv hK hP (ci := 0) (q0 := 0) rfl rfl) rfl hl.1 rfl (Nat.le_of_ble_eq_true rfl) dX0_apart_18 ⟨Nat.zero_le _, Nat.zero_le _⟩ ?_
    exact hQ dX0_apart_21 (by unfold aAp; rw [if_pos c_11, cl_nI (n := o) (by omega)])
  · refine lv_iconst (v := (-1)) hx hb dX0_apart_14 (by decide) ?_
    exact hQ dX0_apart_15 (by unfold aAp; rw [if_neg c_11])
def rmX0_order : Room := { frames := 5, cells := 0, slots := 0, locals := 127 }
set_option maxHeartbeats 4000000 in
set_option maxRecDepth 100000 in
/-- order -/
theorem kX0_order (l : Launch) (D : va_G) (h : Nat → Nat) (cI : ClassId) (A : St) (t : Nat → Nat) (hI : Inv A) : RO l yX0_order wsX0_order rmX0_order [.ref (h 0)] (vB2 D (xw h cI A) [(cI, .int)] t) (aOr A) := by
  refine ro_ofW (cc := cX0_order) (maxL := 6) (by decide) rfl (Nat.le_of_ble_eq_true rfl) ?_
  intro p e s m below meth c args Q hx hb hml hown hts hB hQ ls hl
  have hown : s.vm.findClass RX0 = some m.cls := hown
  obtain ⟨⟨hP, hK⟩, hST⟩ := hB
  have hin0 : ∀ w ∈ u_ws RX0 TX0 12, w ∈ wsX0_order := fun _ h => List.mem_cons_of_mem _ (List.mem_append_right _ h)
  have hl : lv_has ls 6 [(0, .ref (h 0))] := hl
  have hF := hI.F
  have hT := hI.T
  have hK3 := hI.K
  have hJ := hI.J
  have hZ := hI.Z
  have hno := fno_in (sK A)
  refine lv_iconst (v := nI 0) hx hb dX0_order_0 (by decide) ?_
  refine lv_istore_n (lv' := [(1, .int (nI 0)), (0, .ref (h 0))]) hx hb dX0_order_1 rfl hl (by decide) rfl (fun ls hl => ?_)
  refine lv_aload_n hx hb dX0_order_2 rfl (lv_at hl 1 rfl) ?_
  refine lv_iconst (v := nI 0) hx hb dX0_order_3 (by decide) ?_
  refine ro_callV (As := [.int (nI 0)]) (rest := []) ⟨hx, hb, hml, hown, hts⟩ (kX0_apartBy l D h cI A t hI (0) (by omega)) (cwV 1 hts gX0_order_X0_apartBy rfl rfl rfl (by decide +kernel) ⟨Nat.le_of_ble_eq_true rfl, Nat.le_of_ble_eq_true rfl⟩) vB2_bl (vB2_at hP hK hST) (va_recv hK hP (ci := 0) (q0 := 0) rfl rfl) rfl hl.1 rfl (Nat.le_of_ble_eq_true rfl) dX0_order_4 ⟨Nat.zero_le _, Nat.zero_le _⟩ ?_
  refine lv_istore_n (lv' := [(2, .int (fap A 0)), (1, .int (nI 0)), (0, .ref (h 0))]) hx hb dX0_order_7 rfl hl (by decide) rfl (fun ls hl => ?_)
  refine lv_aload_n hx hb dX0_order_8 rfl (lv_at hl 2 rfl) ?_
  refine ro_callV (As := []) (rest := []) ⟨hx, hb, hml, hown, hts⟩ (kX0_howManyOrders l D h cI A hI) (cwV 0 hts gX0_order_X0_howManyOrders rfl rfl rfl (by decide +kernel) ⟨Nat.le_of_ble_eq_true rfl, Nat.le_of_ble_eq_true rfl⟩) vB_bl (vB_at hP hK) (va_recv hK hP (ci := 0) (q0 := 0) rfl rfl) rfl hl.1 rfl (Nat.le_of_ble_eq_true rfl) dX0_order_9 ⟨Nat.zero_le _, Nat.zero_le _⟩ ?_
  refine lv_istore_n (lv' := [(3, .int (nI (fno (sK A)))), (2, .int (fap A 0)), (1, .int (nI 0)), (0, .ref (h 0))]) hx hb dX0_order_12 rfl hl (by decide) rfl (fun ls hl => ?_)
  refine lv_iconst (v := nI 1) hx hb dX0_order_13 (by decide) ?_
  refine lv_istore (lv' := [(4, .int (nI 1)), (3, .int (nI (fno (sK A)))), (2, .int (fap A 0)), (1, .int (nI 0)), (0, .ref (h 0))]) hx hb dX0_order_14 hl (by decide) rfl (fun ls hl => ?_)
  have lp16 : ∀ (n16 i : Nat), i + n16 = fno (sK A) - 1 → ∀ (ls : Array Slot), lv_has ls 6 [(0, .ref (h 0)), (1, .int (nI (fle (fap A) i))), (2, .int (fap A (fle (fap A) i))), (3, .int (nI (fno (sK A)))), (4, .int (nI (i + 1)))] → W p l e rmX0_order s m args below meth c s.heap [] 0 0 Q (F0 m 16 ls []) := by
    intro n16
    induction n16 with
    | zero =>
      intro i hi16 ls hl
      obtain rfl : fno (sK A) - 1 = i := by omega
      refine lv_iload hx hb dX0_order_16 (lv_at hl 4 rfl) ?_
      refine lv_iload_n hx hb dX0_order_18 rfl (lv_at hl 3 rfl) ?_
      refine n_icmp_ge (tgt := 48) hx hb (by omega) (by omega) dX0_order_19 (by decide) (fun c_19 => ?_) (fun c_19 => by exfalso; omega)
      refine lv_iload_n hx hb dX0_order_48 rfl (lv_at hl 1 rfl) ?_
      exact hQ dX0_order_49 (rfl)
    | succ n16 ih16 =>
      intro i hi16 ls hl
      refine lv_iload hx hb dX0_order_16 (lv_at hl 4 rfl) ?_
      refine lv_iload_n hx hb dX0_order_18 rfl (lv_at hl 3 rfl) ?_
      refine n_icmp_ge (tgt := 48) hx hb (by omega) (by omega) dX0_order_19 (by decide) (fun c_19 => by exfalso; omega) (fun c_19 => ?_)
      refine lv_aload_n hx hb dX0_order_22 rfl (lv_at hl 0 rfl) ?_
      refine lv_iload hx hb dX0_order_23 (lv_at hl 4 rfl) ?_
      refine ro_callV (As := [.int (nI (i + 1))]) (rest := []) ⟨hx, hb, hml, hown, hts⟩ (kX0_apartBy l D h cI A t hI (i + 1) (by omega)) (cwV 1 hts gX0_order_X0_apartBy rfl rfl rfl (by decide +kernel) ⟨Nat.le_of_ble_eq_true rfl, Nat.le_of_ble_eq_true rfl⟩) vB2_bl (vB2_at hP hK hST) (va_recv hK hP (ci := 0) (q0 := 0) rfl rfl) rfl hl.1 rfl (Nat.le_of_ble_eq_true rfl) dX0_order_25 ⟨Nat.zero_le _, Nat.zero_le _⟩ ?_
      refine lv_istore (lv' := [(5, .int (fap A (i + 1))), (0, .ref (h 0)), (1, .int (nI (fle (fap A) i))), (2, .int (fap A (fle (fap A) i))), (3, .int (nI (fno (sK A)))), (4, .int (nI (i + 1)))]) hx hb dX0_order_28 hl (by decide) rfl (fun ls hl => ?_)
      refine lv_iload hx hb dX0_order_30 (lv_at hl 0 rfl) ?_
      refine lv_iload_n hx hb dX0_order_32 rfl (lv_at hl 3 rfl) ?_
      refine lv_icmp_ge (tgt := 42) hx hb dX0_order_33 (by decide) (fun c_33 => ?_) (fun c_33 => ?_)
      · have hl : lv_has ls 6 [(5, .int (fap A (i + 1))), (0, .ref (h 0)), (1, .int (nI (fle (fap A) (i + 1)))), (2, .int (fap A (fle (fap A) (i + 1)))), (3, .int (nI (fno (sK A)))), (4, .int (nI (i + 1)))] := by rw [show fle (fap A) (i + 1) = fle (fap A) i from if_neg (Int32.not_lt.mpr c_33)]; exact hl
        refine lv_iinc (v := nI (i + 1 + 1)) (lv' := [(4, .int (nI (i + 1 + 1))), (5, .int (fap A (i + 1))), (0, .ref (h 0)), (1, .int (nI (fle (fap A) (i + 1)))), (2, .int (fap A (fle (fap A) (i + 1)))), (3, .int (nI (fno (sK A))))]) hx hb dX0_order_42 hl (k := 5) rfl (nI_inc _) (by decide) rfl (fun ls hl => ?_)
        refine lv_goto (tgt := 16) hx hb dX0_order_45 (by decide) ?_
        exact ih16 (i + 1) (by omega) ls (lv_sub hl [2, 3, 4, 5, 0] rfl)
      · refine lv_iload hx hb dX0_order_36 (lv_at hl 0 rfl) ?_
        refine lv_istore_n (lv' := [(2, .int (fap A (i + 1))), (5, .int (fap A (i + 1))), (0, .ref (h 0)), (1, .int (nI (fle (fap A) i))), (3, .int (nI (fno (sK A)))), (4, .int (nI (i + 1)))]) hx hb dX0_order_38 rfl hl (by decide) rfl (fun ls hl => ?_)
        refine lv_iload hx hb dX0_order_39 (lv_at hl 5 rfl) ?_
        refine lv_istore_n (lv' := [(1, .int (nI (i + 1))), (2, .int (fap A (i + 1))), (5, .int (fap A (i + 1))), (0, .ref (h 0)), (3, .int (nI (fno (sK A)))), (4, .int (nI (i + 1)))]) hx hb dX0_order_41 rfl hl (by decide) rfl (fun ls hl => ?_)
        have hl : lv_has ls 6 [(1, .int (nI (fle (fap A) (i + 1)))), (2, .int (fap A (fle (fap A) (i + 1)))), (5, .int (fap A (i + 1))), (0, .ref (h 0)), (3, .int (nI (fno (sK A)))), (4, .int (nI (i + 1)))] := by rw [show fle (fap A) (i + 1) = i + 1 from if_pos (Int32.not_le.mp c_33)]; exact hl
        refine lv_iinc (v := nI (i + 1 + 1)) (lv' := [(4, .int (nI (i + 1 + 1))), (1, .int (nI (fle (fap A) (i + 1)))), (2, .int (fap A (fle (fap A) (i + 1)))), (5, .int (fap A (i + 1))), (0, .ref (h 0)), (3, .int (nI (fno (sK A))))]) hx hb dX0_order_42 hl (k := 5) rfl (nI_inc _) (by decide) rfl (fun ls hl => ?_)
        refine lv_goto (tgt := 16) hx hb dX0_order_45 (by decide) ?_
        exact ih16 (i + 1) (by omega) ls (lv_sub hl [4, 1, 2, 5, 0] rfl)
  exact lp16 (fno (sK A) - 1) (0) (by omega) ls (lv_sub hl [4, 3, 2, 1, 0] rfl)
