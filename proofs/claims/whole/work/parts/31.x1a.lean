def rmX1_in : Room := { frames := 0, cells := 0, slots := 0, locals := 0 }
set_option maxHeartbeats 4000000 in
set_option maxRecDepth 100000 in
/-- in -/
theorem kX1_in (l : Launch)  (x lo hi : Int32) : RO l yX1_in wsX1_in rmX1_in [.int x, .int lo, .int hi] (vT) (if lo ≤ x ∧ x ≤ hi then 1 else 0) := by
  refine ro_ofWz (cc := cX1_in) (maxL := 3) (by decide) rfl (Nat.le_of_ble_eq_true rfl) ?_
  intro p e s m below meth c args Q hx hb hml hown hts hB hQ ls hl
  have hown : s.vm.findClass RX1 = some m.cls := hown
  have hl : lv_has ls 3 [(0, .int x), (1, .int lo), (2, .int hi)] := hl
  refine lv_iload_n hx hb dX1_in_0 rfl (lv_at hl 0 rfl) ?_
  refine lv_iload_n hx hb dX1_in_1 rfl (lv_at hl 1 rfl) ?_
  refine lv_icmp_lt (tgt := 14) hx hb dX1_in_2 (by decide) (fun c_2 => ?_) (fun c_2 => ?_)
  · refine lv_iconst (v := nI 0) hx hb dX1_in_14 (by decide) ?_
    exact hQ dX1_in_15 ((if_neg (fun q => Int32.not_lt.mpr q.1 c_2)).symm)
  · refine lv_iload_n hx hb dX1_in_5 rfl (lv_at hl 0 rfl) ?_
    refine lv_iload_n hx hb dX1_in_6 rfl (lv_at hl 2 rfl) ?_
    refine lv_icmp_gt (tgt := 14) hx hb dX1_in_7 (by decide) (fun c_7 => ?_) (fun c_7 => ?_)
    · refine lv_iconst (v := nI 0) hx hb dX1_in_14 (by decide) ?_
      exact hQ dX1_in_15 ((if_neg (fun q => Int32.not_lt.mpr q.2 c_7)).symm)
    · refine lv_iconst (v := nI 1) hx hb dX1_in_10 (by decide) ?_
      refine lv_goto (tgt := 15) hx hb dX1_in_11 (by decide) ?_
      exact hQ dX1_in_15 ((if_pos ⟨Int32.not_lt.mp c_2, Int32.not_lt.mp c_7⟩).symm)
def rmX1_isVoice : Room := { frames := 1, cells := 0, slots := 0, locals := 22 }
set_option maxHeartbeats 4000000 in
set_option maxRecDepth 100000 in
/-- isVoice -/
theorem kX1_isVoice (l : Launch) (D : va_G) (h : Nat → Nat) (cI cZ : ClassId) (A : St) (M : Nat → Int32) (hI : Inv A) (x : Int32) : RO l yX1_isVoice wsX1_isVoice rmX1_isVoice [.ref (h 0), .int x] (vB D (mw h cI cZ A M) [(cI, .int), (cZ, .boolean)]) (if iN x (sK A) then 1 else 0) := by
  refine ro_ofWz (cc := cX1_isVoice) (maxL := 2) (by decide) rfl (Nat.le_of_ble_eq_true rfl) ?_
  intro p e s m below meth c args Q hx hb hml hown hts hB hQ ls hl
  have hown : s.vm.findClass RX1 = some m.cls := hown
  obtain ⟨hP, hK⟩ := hB
  have hin0 : ∀ w ∈ u_ws RX1 TX1 13, w ∈ wsX1_isVoice := fun _ h => List.mem_cons_of_mem _ (List.mem_append_right _ h)
  have hl : lv_has ls 2 [(0, .ref (h 0)), (1, .int x)] := hl
  have hF := hI.F
  have hT := hI.T
  have hK3 := hI.K
  have hJ := hI.J
  have hZ := hI.Z
  refine lv_iload_n hx hb dX1_isVoice_0 rfl (lv_at hl 1 rfl) ?_
  refine lv_iconst (v := nI 0) hx hb dX1_isVoice_1 (by decide) ?_
  refine lv_aload_n hx hb dX1_isVoice_2 rfl (lv_at hl 0 rfl) ?_
  refine va_get (D := D) (ci := 1) (v := .int (nI (sK A))) (C := RX1) (T := TX1) (N := 13) hx hb hts hin0 hown hK hP 0 rfl rfl 2 (by decide) (hts (.fieldLink RX1 43 "VoicePartsModel" "voices" "I") (by decide +kernel)) (fun _ h9 => h9) rfl dX1_isVoice_3 ?_
  refine lv_iconst (v := nI 1) hx hb dX1_isVoice_6 (by decide) ?_
  refine n_isub hx hb (by omega) dX1_isVoice_7 ?_
  refine ro_callS (As := [.int x, .int (nI 0), .int (nI ((sK A) - 1))]) (rest := []) ⟨hx, hb, hml, hown, hts⟩ (kX1_in l (x) (nI 0) (nI ((sK A) - 1))) (va_cwS 3 hts gX1_isVoice_X1_in rfl rfl rfl (by decide +kernel) ⟨Nat.le_of_ble_eq_true rfl, Nat.le_of_ble_eq_true rfl⟩) vT_bl vT_at rfl hl.1 rfl (Nat.le_of_ble_eq_true rfl) dX1_isVoice_8 ⟨Nat.zero_le _, Nat.zero_le _⟩ ?_
  exact hQ dX1_isVoice_11 (rfl)
def rmX1_isPlace : Room := { frames := 1, cells := 0, slots := 0, locals := 22 }
set_option maxHeartbeats 4000000 in
set_option maxRecDepth 100000 in
/-- isPlace -/
theorem kX1_isPlace (l : Launch) (D : va_G) (h : Nat → Nat) (cI cZ : ClassId) (A : St) (M : Nat → Int32) (hI : Inv A) (x y : Int32) : RO l yX1_isPlace wsX1_isPlace rmX1_isPlace [.ref (h 0), .int x, .int y] (vB D (mw h cI cZ A M) [(cI, .int), (cZ, .boolean)]) (if iN x (sF A) ∧ iN y (sT A) then 1 else 0) := by
  refine ro_ofWz (cc := cX1_isPlace) (maxL := 3) (by decide) rfl (Nat.le_of_ble_eq_true rfl) ?_
  intro p e s m below meth c args Q hx hb hml hown hts hB hQ ls hl
  have hown : s.vm.findClass RX1 = some m.cls := hown
  obtain ⟨hP, hK⟩ := hB
  have hin0 : ∀ w ∈ u_ws RX1 TX1 13, w ∈ wsX1_isPlace := fun _ h => List.mem_cons_of_mem _ (List.mem_append_right _ h)
  have hl : lv_has ls 3 [(0, .ref (h 0)), (1, .int x), (2, .int y)] := hl
  have hF := hI.F
  have hT := hI.T
  have hK3 := hI.K
  have hJ := hI.J
  have hZ := hI.Z
  refine lv_iload_n hx hb dX1_isPlace_0 rfl (lv_at hl 1 rfl) ?_
  refine lv_iconst (v := nI 0) hx hb dX1_isPlace_1 (by decide) ?_
  refine lv_aload_n hx hb dX1_isPlace_2 rfl (lv_at hl 0 rfl) ?_
  refine va_get (D := D) (ci := 1) (v := .int (nI (sF A))) (C := RX1) (T := TX1) (N := 13) hx hb hts hin0 hown hK hP 0 rfl rfl 0 (by decide) (hts (.fieldLink RX1 36 "VoicePartsModel" "tones" "I") (by decide +kernel)) (fun _ h9 => h9) rfl dX1_isPlace_3 ?_
  refine lv_iconst (v := nI 1) hx hb dX1_isPlace_6 (by decide) ?_
  refine n_isub hx hb (by omega) dX1_isPlace_7 ?_
  refine ro_callS (As := [.int x, .int (nI 0), .int (nI ((sF A) - 1))]) (rest := []) ⟨hx, hb, hml, hown, hts⟩ (kX1_in l (x) (nI 0) (nI ((sF A) - 1))) (va_cwS 3 hts gX1_isPlace_X1_in rfl rfl rfl (by decide +kernel) ⟨Nat.le_of_ble_eq_true rfl, Nat.le_of_ble_eq_true rfl⟩) vT_bl vT_at rfl hl.1 rfl (Nat.le_of_ble_eq_true rfl) dX1_isPlace_8 ⟨Nat.zero_le _, Nat.zero_le _⟩ ?_
  refine b_if_eq (tgt := 32) hx hb dX1_isPlace_11 (by decide) (fun c_11 => ?_) (fun c_11 => ?_)
  · refine lv_iconst (v := nI 0) hx hb dX1_isPlace_32 (by decide) ?_
    exact hQ dX1_isPlace_33 ((if_neg (fun q => c_11 q.1)).symm)
  · refine lv_iload_n hx hb dX1_isPlace_14 rfl (lv_at hl 2 rfl) ?_
    refine lv_iconst (v := nI 0) hx hb dX1_isPlace_15 (by decide) ?_
    refine lv_aload_n hx hb dX1_isPlace_16 rfl (lv_at hl 0 rfl) ?_
    refine va_get (D := D) (ci := 1) (v := .int (nI (sT A))) (C := RX1) (T := TX1) (N := 13) hx hb hts hin0 hown hK hP 0 rfl rfl 1 (by decide) (hts (.fieldLink RX1 40 "VoicePartsModel" "times" "I") (by decide +kernel)) (fun _ h9 => h9) rfl dX1_isPlace_17 ?_
    refine lv_iconst (v := nI 1) hx hb dX1_isPlace_20 (by decide) ?_
    refine n_isub hx hb (by omega) dX1_isPlace_21 ?_
    refine ro_callS (As := [.int y, .int (nI 0), .int (nI ((sT A) - 1))]) (rest := []) ⟨hx, hb, hml, hown, hts⟩ (kX1_in l (y) (nI 0) (nI ((sT A) - 1))) (va_cwS 3 hts gX1_isPlace_X1_in rfl rfl rfl (by decide +kernel) ⟨Nat.le_of_ble_eq_true rfl, Nat.le_of_ble_eq_true rfl⟩) vT_bl vT_at rfl hl.1 rfl (Nat.le_of_ble_eq_true rfl) dX1_isPlace_22 ⟨Nat.zero_le _, Nat.zero_le _⟩ ?_
    refine b_if_eq (tgt := 32) hx hb dX1_isPlace_25 (by decide) (fun c_25 => ?_) (fun c_25 => ?_)
    · refine lv_iconst (v := nI 0) hx hb dX1_isPlace_32 (by decide) ?_
      exact hQ dX1_isPlace_33 ((if_neg (fun q => c_25 q.2)).symm)
    · refine lv_iconst (v := nI 1) hx hb dX1_isPlace_28 (by decide) ?_
      refine lv_goto (tgt := 33) hx hb dX1_isPlace_29 (by decide) ?_
      exact hQ dX1_isPlace_33 ((if_pos ⟨c_11, c_25⟩).symm)
def rmX1_part : Room := { frames := 0, cells := 0, slots := 0, locals := 0 }
set_option maxHeartbeats 4000000 in
set_option maxRecDepth 100000 in
/-- part -/
theorem kX1_part (l : Launch) (D : va_G) (h : Nat → Nat) (cI cZ : ClassId) (A : St) (M : Nat → Int32) (k f t : Nat) (hk : k < 3) (hf : f < 6) (ht : t < 8) : RO l yX1_part wsX1_part rmX1_part [.ref (h 0), .int (nI k), .int (nI f), .int (nI t)] (vB D (mw h cI cZ A M) [(cI, .int), (cZ, .boolean)]) (sV A k f * sV A k (6 + t)) := by
  refine ro_ofW (cc := cX1_part) (maxL := 4) (by decide) rfl (Nat.le_of_ble_eq_true rfl) ?_
  intro p e s m below meth c args Q hx hb hml hown hts hB hQ ls hl
  have hown : s.vm.findClass RX1 = some m.cls := hown
  obtain ⟨hP, hK⟩ := hB
  have hin0 : ∀ w ∈ u_ws RX1 TX1 13, w ∈ wsX1_part := fun _ h => List.mem_cons_of_mem _ (List.mem_append_right _ h)
  have hl : lv_has ls 4 [(0, .ref (h 0)), (1, .int (nI k)), (2, .int (nI f)), (3, .int (nI t))] := hl
  refine lv_aload_n hx hb dX1_part_0 rfl (lv_at hl 0 rfl) ?_
  refine va_get (D := D) (ci := 1) (v := .ref (h 2)) (C := RX1) (T := TX1) (N := 13) hx hb hts hin0 hown hK hP 0 rfl rfl 4 (by decide) (hts (.fieldLink RX1 13 "VoicePartsModel" "number" "[I") (by decide +kernel)) (fun _ h9 => h9) rfl dX1_part_1 ?_
  refine lv_bipush (v := nI 16) hx hb dX1_part_4 (by decide) ?_
  refine lv_iload_n hx hb dX1_part_6 rfl (lv_at hl 1 rfl) ?_
  refine n_imulc hx hb dX1_part_7 ?_
  refine lv_iload_n hx hb dX1_part_8 rfl (lv_at hl 2 rfl) ?_
  refine n_iadd hx hb dX1_part_9 ?_
  refine n_iald hx hb hK hP 2 0 rfl rfl (by omega) (by decide) dX1_part_10 ?_
  refine n_top (y := sV A k f) (mVat (f := sV A) (by omega) (by omega)) ?_
  refine lv_aload_n hx hb dX1_part_11 rfl (lv_at hl 0 rfl) ?_
  refine va_get (D := D) (ci := 1) (v := .ref (h 2)) (C := RX1) (T := TX1) (N := 13) hx hb hts hin0 hown hK hP 0 rfl rfl 4 (by decide) (hts (.fieldLink RX1 13 "VoicePartsModel" "number" "[I") (by decide +kernel)) (fun _ h9 => h9) rfl dX1_part_12 ?_
  refine lv_bipush (v := nI 16) hx hb dX1_part_15 (by decide) ?_
  refine lv_iload_n hx hb dX1_part_17 rfl (lv_at hl 1 rfl) ?_
  refine n_imulc hx hb dX1_part_18 ?_
  refine lv_bipush (v := nI 6) hx hb dX1_part_19 (by decide) ?_
  refine n_iadd hx hb dX1_part_21 ?_
  refine lv_iload_n hx hb dX1_part_22 rfl (lv_at hl 3 rfl) ?_
  refine n_iadd hx hb dX1_part_23 ?_
  refine n_iald hx hb hK hP 2 0 rfl rfl (by omega) (by decide) dX1_part_24 ?_
  refine n_top (y := sV A k (6 + t)) (mVat (f := sV A) (by omega) (by omega)) ?_
  refine lv_imul hx hb dX1_part_25 ?_
  exact hQ dX1_part_26 (rfl)
def rmX1_sumAt : Room := { frames := 1, cells := 0, slots := 0, locals := 23 }
set_option maxHeartbeats 4000000 in
set_option maxRecDepth 100000 in
/-- sumAt -/
theorem kX1_sumAt (l : Launch) (D : va_G) (h : Nat → Nat) (cI cZ : ClassId) (A : St) (M : Nat → Int32) (hI : Inv A) (f t : Nat) (hf : f < 6) (ht : t < 8) : RO l yX1_sumAt wsX1_sumAt rmX1_sumAt [.ref (h 0), .int (nI f), .int (nI t)] (vB D (mw h cI cZ A M) [(cI, .int), (cZ, .boolean)]) (fS A f t) := by
  refine ro_ofW (cc := cX1_sumAt) (maxL := 5) (by decide) rfl (Nat.le_of_ble_eq_true rfl) ?_
  intro p e s m below meth c args Q hx hb hml hown hts hB hQ ls hl
  have hown : s.vm.findClass RX1 = some m.cls := hown
  obtain ⟨hP, hK⟩ := hB
  have hin0 : ∀ w ∈ u_ws RX1 TX1 13, w ∈ wsX1_sumAt := fun _ h => List.mem_cons_of_mem _ (List.mem_append_right _ h)
  have hl : lv_has ls 5 [(0, .ref (h 0)), (1, .int (nI f)), (2, .int (nI t))] := hl
  have hF := hI.F
  have hT := hI.T
  have hK3 := hI.K
  have hJ := hI.J
  have hZ := hI.Z
  refine lv_iconst (v := nI 0) hx hb dX1_sumAt_0 (by decide) ?_
  refine lv_istore_n (lv' := [(3, .int (nI 0)), (0, .ref (h 0)), (1, .int (nI f)), (2, .int (nI t))]) hx hb dX1_sumAt_1 rfl hl (by decide) rfl (fun ls hl => ?_)
  refine lv_iconst (v := nI 0) hx hb dX1_sumAt_2 (by decide) ?_
  refine lv_istore (lv' := [(4, .int (nI 0)), (3, .int (nI 0)), (0, .ref (h 0)), (1, .int (nI f)), (2, .int (nI t))]) hx hb dX1_sumAt_3 hl (by decide) rfl (fun ls hl => ?_)
  have lp5 : ∀ (n5 k : Nat), k + n5 = sK A → ∀ (ls : Array Slot), lv_has ls 5 [(0, .ref (h 0)), (1, .int (nI f)), (2, .int (nI t)), (3, .int (l_sum (fun k => sV A k f * sV A k (6 + t)) k)), (4, .int (nI k))] → W p l e rmX1_sumAt s m args below meth c s.heap [] 0 0 Q (F0 m 5 ls []) := by
    intro n5
    induction n5 with
    | zero =>
      intro k hi5 ls hl
      obtain rfl : sK A = k := by omega
      refine lv_iload hx hb dX1_sumAt_5 (lv_at hl 4 rfl) ?_
      refine lv_aload_n hx hb dX1_sumAt_7 rfl (lv_at hl 0 rfl) ?_
      refine va_get (D := D) (ci := 1) (v := .int (nI (sK A))) (C := RX1) (T := TX1) (N := 13) hx hb hts hin0 hown hK hP 0 rfl rfl 2 (by decide) (hts (.fieldLink RX1 43 "VoicePartsModel" "voices" "I") (by decide +kernel)) (fun _ h9 => h9) rfl dX1_sumAt_8 ?_
      refine n_icmp_ge (tgt := 31) hx hb (by omega) (by omega) dX1_sumAt_11 (by decide) (fun c_11 => ?_) (fun c_11 => by exfalso; omega)
      refine lv_iload_n hx hb dX1_sumAt_31 rfl (lv_at hl 3 rfl) ?_
      exact hQ dX1_sumAt_32 (rfl)
    | succ n5 ih5 =>
      intro k hi5 ls hl
      refine lv_iload hx hb dX1_sumAt_5 (lv_at hl 4 rfl) ?_
      refine lv_aload_n hx hb dX1_sumAt_7 rfl (lv_at hl 0 rfl) ?_
      refine va_get (D := D) (ci := 1) (v := .int (nI (sK A))) (C := RX1) (T := TX1) (N := 13) hx hb hts hin0 hown hK hP 0 rfl rfl 2 (by decide) (hts (.fieldLink RX1 43 "VoicePartsModel" "voices" "I") (by decide +kernel)) (fun _ h9 => h9) rfl dX1_sumAt_8 ?_
      refine n_icmp_ge (tgt := 31) hx hb (by omega) (by omega) dX1_sumAt_11 (by decide) (fun c_11 => by exfalso; omega) (fun c_11 => ?_)
      refine lv_iload_n hx hb dX1_sumAt_14 rfl (lv_at hl 3 rfl) ?_
      refine lv_aload_n hx hb dX1_sumAt_15 rfl (lv_at hl 0 rfl) ?_
      refine lv_iload hx hb dX1_sumAt_16 (lv_at hl 4 rfl) ?_
      refine lv_iload_n hx hb dX1_sumAt_18 rfl (lv_at hl 1 rfl) ?_
      refine lv_iload_n hx hb dX1_sumAt_19 rfl (lv_at hl 2 rfl) ?_
      refine ro_callV (As := [.int (nI k), .int (nI f), .int (nI t)]) (rest := [.int (l_sum (fun k => sV A k f * sV A k (6 + t)) k)]) ⟨hx, hb, hml, hown, hts⟩ (kX1_part l D h cI cZ A M  (k) (f) (t) (by omega) (by omega) (by omega)) (cwV 3 hts gX1_sumAt_X1_part rfl rfl rfl (by decide +kernel) ⟨Nat.le_of_ble_eq_true rfl, Nat.le_of_ble_eq_true rfl⟩) vB_bl (vB_at hP hK) (va_recv hK hP (ci := 1) (q0 := 0) rfl rfl) rfl hl.1 rfl (Nat.le_of_ble_eq_true rfl) dX1_sumAt_20 ⟨Nat.zero_le _, Nat.zero_le _⟩ ?_
      refine lv_iadd hx hb dX1_sumAt_23 ?_
      refine lv_istore_n (lv' := [(3, .int ((l_sum (fun k => sV A k f * sV A k (6 + t)) k) + (sV A k f * sV A k (6 + t)))), (0, .ref (h 0)), (1, .int (nI f)), (2, .int (nI t)), (4, .int (nI k))]) hx hb dX1_sumAt_24 rfl hl (by decide) rfl (fun ls hl => ?_)
      refine lv_iinc (v := nI (k + 1)) (lv' := [(4, .int (nI (k + 1))), (3, .int ((l_sum (fun k => sV A k f * sV A k (6 + t)) k) + (sV A k f * sV A k (6 + t)))), (0, .ref (h 0)), (1, .int (nI f)), (2, .int (nI t))]) hx hb dX1_sumAt_25 hl (k := 4) rfl (nI_inc _) (by decide) rfl (fun ls hl => ?_)
      refine lv_goto (tgt := 5) hx hb dX1_sumAt_28 (by decide) ?_
      exact ih5 (k + 1) (by omega) ls (lv_sub hl [2, 3, 4, 1, 0] rfl)
  exact lp5 (sK A) (0) (by omega) ls (lv_sub hl [2, 3, 4, 1, 0] rfl)
def rmX1_costOf : Room := { frames := 0, cells := 0, slots := 0, locals := 0 }
set_option maxHeartbeats 4000000 in
set_option maxRecDepth 100000 in
/-- costOf -/
theorem kX1_costOf (l : Launch)  (J : Nat) (d : Int32) (hJ : J ≤ 2) : RO l yX1_costOf wsX1_costOf rmX1_costOf [.int (nI J), .int d] (vT) (fco J d) := by
  refine ro_ofW (cc := cX1_costOf) (maxL := 3) (by decide) rfl (Nat.le_of_ble_eq_true rfl) ?_
  intro p e s m below meth c args Q hx hb hml hown hts hB hQ ls hl
  have hown : s.vm.findClass RX1 = some m.cls := hown
  have hl : lv_has ls 3 [(0, .int (nI J)), (1, .int d)] := hl
  refine lv_iload_n hx hb dX1_costOf_0 rfl (lv_at hl 1 rfl) ?_
  refine lv_iload_n hx hb dX1_costOf_1 rfl (lv_at hl 1 rfl) ?_
  refine lv_imul hx hb dX1_costOf_2 ?_
  refine lv_istore_n (lv' := [(2, .int (d * d)), (0, .int (nI J)), (1, .int d)]) hx hb dX1_costOf_3 rfl hl (by decide) rfl (fun ls hl => ?_)
  refine lv_iload_n hx hb dX1_costOf_4 rfl (lv_at hl 1 rfl) ?_
  refine n_if_ne (tgt := 12) hx hb (by omega) dX1_costOf_5 (by decide) (fun c_5 => ?_) (fun c_5 => ?_)
  · refine lv_iload_n hx hb dX1_costOf_12 rfl (lv_at hl 1 rfl) ?_
    refine lv_iconst (v := nI 1) hx hb dX1_costOf_13 (by decide) ?_
    refine n_icmp_eq (tgt := 23) hx hb (by omega) (by omega) dX1_costOf_14 (by decide) (fun c_14 => ?_) (fun c_14 => ?_)
    · refine lv_iload_n hx hb dX1_costOf_23 rfl (lv_at hl 0 rfl) ?_
      refine lv_goto (tgt := 34) hx hb dX1_costOf_24 (by decide) ?_
      exact hQ dX1_costOf_34 (by unfold fco; rw [if_neg (by omega), if_pos (Or.inl (by omega))])
    · refine lv_iload_n hx hb dX1_costOf_17 rfl (lv_at hl 0 rfl) ?_
      refine lv_bipush (v := nI 100) hx hb dX1_costOf_18 (by decide) ?_
      refine lv_icmp_gt (tgt := 27) hx hb dX1_costOf_20 (by decide) (fun c_20 => ?_) (fun c_20 => ?_)
      · refine lv_bipush (v := nI 90) hx hb dX1_costOf_27 (by decide) ?_
        refine lv_iload_n hx hb dX1_costOf_29 rfl (lv_at hl 0 rfl) ?_
        refine lv_bipush (v := nI 10) hx hb dX1_costOf_30 (by decide) ?_
        refine lv_idiv hx hb dX1_costOf_32 (by decide) ?_
        refine lv_iadd hx hb dX1_costOf_33 ?_
        exact hQ dX1_costOf_34 (by unfold fco; rw [if_neg (by omega), if_neg (fun q => q.elim (fun z => by omega) (fun z => Int32.not_le.mpr c_20 z))]; rfl)
      · refine lv_iload_n hx hb dX1_costOf_23 rfl (lv_at hl 0 rfl) ?_
        refine lv_goto (tgt := 34) hx hb dX1_costOf_24 (by decide) ?_
        exact hQ dX1_costOf_34 (by unfold fco; rw [if_neg (by omega), if_pos (Or.inr (show d * d ≤ 100 from Int32.not_lt.mp c_20))])
  · refine lv_iload_n hx hb dX1_costOf_8 rfl (lv_at hl 2 rfl) ?_
    refine lv_goto (tgt := 34) hx hb dX1_costOf_9 (by decide) ?_
    exact hQ dX1_costOf_34 (by unfold fco; rw [if_pos (by omega)])
def rmX1_size : Room := { frames := 0, cells := 0, slots := 0, locals := 0 }
set_option maxHeartbeats 4000000 in
set_option maxRecDepth 100000 in
/-- size -/
theorem kX1_size (l : Launch)  (v : Int32) : RO l yX1_size wsX1_size rmX1_size [.int v] (vT) (fab v) := by
  refine ro_ofW (cc := cX1_size) (maxL := 1) (by decide) rfl (Nat.le_of_ble_eq_true rfl) ?_
  intro p e s m below meth c args Q hx hb hml hown hts hB hQ ls hl
  have hown : s.vm.findClass RX1 = some m.cls := hown
  have hl : lv_has ls 1 [(0, .int v)] := hl
  refine lv_iload_n hx hb dX1_size_0 rfl (lv_at hl 0 rfl) ?_
  refine lv_if_ge (tgt := 9) hx hb dX1_size_1 (by decide) (fun c_1 => ?_) (fun c_1 => ?_)
  · refine lv_iload_n hx hb dX1_size_9 rfl (lv_at hl 0 rfl) ?_
    exact hQ dX1_size_10 (by unfold fab; rw [if_pos c_1])
  · refine lv_iload_n hx hb dX1_size_4 rfl (lv_at hl 0 rfl) ?_
    refine lv_ineg hx hb dX1_size_5 ?_
    refine lv_goto (tgt := 10) hx hb dX1_size_6 (by decide) ?_
    exact hQ dX1_size_10 (by unfold fab; rw [if_neg c_1]; exact neg_eq v)
def rmX1_missNow : Room := { frames := 2, cells := 0, slots := 0, locals := 47 }
set_option maxHeartbeats 4000000 in
set_option maxRecDepth 100000 in
/-- missNow -/
theorem kX1_missNow (l : Launch) (D : va_G) (h : Nat → Nat) (cI cZ : ClassId) (A : St) (M : Nat → Int32) (hI : Inv A) : RO l yX1_missNow wsX1_missNow rmX1_missNow [.ref (h 0)] (vB D (mw h cI cZ A M) [(cI, .int), (cZ, .boolean)]) (fm A) := by
  refine ro_ofW (cc := cX1_missNow) (maxL := 4) (by decide) rfl (Nat.le_of_ble_eq_true rfl) ?_
  intro p e s m below meth c args Q hx hb hml hown hts hB hQ ls hl
  have hown : s.vm.findClass RX1 = some m.cls := hown
  obtain ⟨hP, hK⟩ := hB
  have hin0 : ∀ w ∈ u_ws RX1 TX1 13, w ∈ wsX1_missNow := fun _ h => List.mem_cons_of_mem _ (List.mem_append_right _ h)
  have hl : lv_has ls 4 [(0, .ref (h 0))] := hl
  have hF := hI.F
  have hT := hI.T
  have hK3 := hI.K
  have hJ := hI.J
  have hZ := hI.Z
  refine lv_iconst (v := nI 0) hx hb dX1_missNow_0 (by decide) ?_
  refine lv_istore_n (lv' := [(1, .int (nI 0)), (0, .ref (h 0))]) hx hb dX1_missNow_1 rfl hl (by decide) rfl (fun ls hl => ?_)
  refine lv_iconst (v := nI 0) hx hb dX1_missNow_2 (by decide) ?_
  refine lv_istore_n (lv' := [(2, .int (nI 0)), (1, .int (nI 0)), (0, .ref (h 0))]) hx hb dX1_missNow_3 rfl hl (by decide) rfl (fun ls hl => ?_)
  have lp4 : ∀ (n4 f : Nat), f + n4 = sF A → ∀ (ls : Array Slot), lv_has ls 4 [(0, .ref (h 0)), (1, .int (acc2 0 (fun f t => fc A f t) (sT A) f)), (2, .int (nI f))] → W p l e rmX1_missNow s m args below meth c s.heap [] 0 0 Q (F0 m 4 ls []) := by
    intro n4
    induction n4 with
    | zero =>
      intro f hi4 ls hl
      obtain rfl : sF A = f := by omega
      refine lv_iload_n hx hb dX1_missNow_4 rfl (lv_at hl 2 rfl) ?_
      refine lv_aload_n hx hb dX1_missNow_5 rfl (lv_at hl 0 rfl) ?_
      refine va_get (D := D) (ci := 1) (v := .int (nI (sF A))) (C := RX1) (T := TX1) (N := 13) hx hb hts hin0 hown hK hP 0 rfl rfl 0 (by decide) (hts (.fieldLink RX1 36 "VoicePartsModel" "tones" "I") (by decide +kernel)) (fun _ h9 => h9) rfl dX1_missNow_6 ?_
      refine n_icmp_ge (tgt := 65) hx hb (by omega) (by omega) dX1_missNow_9 (by decide) (fun c_9 => ?_) (fun c_9 => by exfalso; omega)
      refine lv_iload_n hx hb dX1_missNow_65 rfl (lv_at hl 1 rfl) ?_
      exact hQ dX1_missNow_66 (by rw [acc2_eq, Int32.zero_add]; rfl)
    | succ n4 ih4 =>
      intro f hi4 ls hl
      refine lv_iload_n hx hb dX1_missNow_4 rfl (lv_at hl 2 rfl) ?_
      refine lv_aload_n hx hb dX1_missNow_5 rfl (lv_at hl 0 rfl) ?_
      refine va_get (D := D) (ci := 1) (v := .int (nI (sF A))) (C := RX1) (T := TX1) (N := 13) hx hb hts hin0 hown hK hP 0 rfl rfl 0 (by decide) (hts (.fieldLink RX1 36 "VoicePartsModel" "tones" "I") (by decide +kernel)) (fun _ h9 => h9) rfl dX1_missNow_6 ?_
      refine n_icmp_ge (tgt := 65) hx hb (by omega) (by omega) dX1_missNow_9 (by decide) (fun c_9 => by exfalso; omega) (fun c_9 => ?_)
      refine lv_iconst (v := nI 0) hx hb dX1_missNow_12 (by decide) ?_
      refine lv_istore_n (lv' := [(3, .int (nI 0)), (0, .ref (h 0)), (1, .int (acc2 0 (fun f t => fc A f t) (sT A) f)), (2, .int (nI f))]) hx hb dX1_missNow_13 rfl hl (by decide) rfl (fun ls hl => ?_)
      have lp14 : ∀ (n14 t : Nat), t + n14 = sT A → ∀ (ls : Array Slot), lv_has ls 4 [(0, .ref (h 0)), (1, .int (acc (acc2 0 (fun f t => fc A f t) (sT A) f) (fun t => fc A f t) t)), (2, .int (nI f)), (3, .int (nI t))] → W p l e rmX1_missNow s m args below meth c s.heap [] 0 0 Q (F0 m 14 ls []) := by
        intro n14
        induction n14 with
        | zero =>
          intro t hi14 ls hl
          obtain rfl : sT A = t := by omega
          refine lv_iload_n hx hb dX1_missNow_14 rfl (lv_at hl 3 rfl) ?_
          refine lv_aload_n hx hb dX1_missNow_15 rfl (lv_at hl 0 rfl) ?_
          refine va_get (D := D) (ci := 1) (v := .int (nI (sT A))) (C := RX1) (T := TX1) (N := 13) hx hb hts hin0 hown hK hP 0 rfl rfl 1 (by decide) (hts (.fieldLink RX1 40 "VoicePartsModel" "times" "I") (by decide +kernel)) (fun _ h9 => h9) rfl dX1_missNow_16 ?_
          refine n_icmp_ge (tgt := 59) hx hb (by omega) (by omega) dX1_missNow_19 (by decide) (fun c_19 => ?_) (fun c_19 => by exfalso; omega)
          refine lv_iinc (v := nI (f + 1)) (lv' := [(2, .int (nI (f + 1))), (0, .ref (h 0)), (1, .int (acc (acc2 0 (fun f t => fc A f t) (sT A) f) (fun t => fc A f t) (sT A))), (3, .int (nI (sT A)))]) hx hb dX1_missNow_59 hl (k := 2) rfl (nI_inc _) (by decide) rfl (fun ls hl => ?_)
          refine lv_goto (tgt := 4) hx hb dX1_missNow_62 (by decide) ?_
          exact ih4 (f + 1) (by omega) ls (lv_sub hl [1, 2, 0] rfl)
        | succ n14 ih14 =>
          intro t hi14 ls hl
          refine lv_iload_n hx hb dX1_missNow_14 rfl (lv_at hl 3 rfl) ?_
          refine lv_aload_n hx hb dX1_missNow_15 rfl (lv_at hl 0 rfl) ?_
          refine va_get (D := D) (ci := 1) (v := .int (nI (sT A))) (C := RX1) (T := TX1) (N := 13) hx hb hts hin0 hown hK hP 0 rfl rfl 1 (by decide) (hts (.fieldLink RX1 40 "VoicePartsModel" "times" "I") (by decide +kernel)) (fun _ h9 => h9) rfl dX1_missNow_16 ?_
          refine n_icmp_ge (tgt := 59) hx hb (by omega) (by omega) dX1_missNow_19 (by decide) (fun c_19 => by exfalso; omega) (fun c_19 => ?_)
          refine lv_iload_n hx hb dX1_missNow_22 rfl (lv_at hl 1 rfl) ?_
          refine lv_aload_n hx hb dX1_missNow_23 rfl (lv_at hl 0 rfl) ?_
          refine va_get (D := D) (ci := 1) (v := .int (nI (sJ A))) (C := RX1) (T := TX1) (N := 13) hx hb hts hin0 hown hK hP 0 rfl rfl 7 (by decide) (hts (.fieldLink RX1 76 "VoicePartsModel" "judge" "I") (by decide +kernel)) (fun _ h9 => h9) rfl dX1_missNow_24 ?_
          refine lv_aload_n hx hb dX1_missNow_27 rfl (lv_at hl 0 rfl) ?_
          refine va_get (D := D) (ci := 1) (v := .ref (h 1)) (C := RX1) (T := TX1) (N := 13) hx hb hts hin0 hown hK hP 0 rfl rfl 3 (by decide) (hts (.fieldLink RX1 7 "VoicePartsModel" "board" "[I") (by decide +kernel)) (fun _ h9 => h9) rfl dX1_missNow_28 ?_
          refine lv_bipush (v := nI 8) hx hb dX1_missNow_31 (by decide) ?_
          refine lv_iload_n hx hb dX1_missNow_33 rfl (lv_at hl 2 rfl) ?_
          refine n_imulc hx hb dX1_missNow_34 ?_
          refine lv_iload_n hx hb dX1_missNow_35 rfl (lv_at hl 3 rfl) ?_
          refine n_iadd hx hb dX1_missNow_36 ?_
          refine n_iald hx hb hK hP 1 0 rfl rfl (by omega) (by decide) dX1_missNow_37 ?_
          refine lv_aload_n hx hb dX1_missNow_38 rfl (lv_at hl 0 rfl) ?_
          refine lv_iload_n hx hb dX1_missNow_39 rfl (lv_at hl 2 rfl) ?_
          refine lv_iload_n hx hb dX1_missNow_40 rfl (lv_at hl 3 rfl) ?_
          refine ro_callV (As := [.int (nI f), .int (nI t)]) (rest := [.int (sB A (f * 8 + t)), .int (nI (sJ A)), .int (acc (acc2 0 (fun f t => fc A f t) (sT A) f) (fun t => fc A f t) t)]) ⟨hx, hb, hml, hown, hts⟩ (kX1_sumAt l D h cI cZ A M  hI (f) (t) (by omega) (by omega)) (cwV 2 hts gX1_missNow_X1_sumAt rfl rfl rfl (by decide +kernel) ⟨Nat.le_of_ble_eq_true rfl, Nat.le_of_ble_eq_true rfl⟩) vB_bl (vB_at hP hK) (va_recv hK hP (ci := 1) (q0 := 0) rfl rfl) rfl hl.1 rfl (Nat.le_of_ble_eq_true rfl) dX1_missNow_41 ⟨Nat.zero_le _, Nat.zero_le _⟩ ?_
          refine lv_isub hx hb dX1_missNow_44 ?_
          refine ro_callS (As := [.int ((sB A (f * 8 + t)) - (fS A f t))]) (rest := [.int (nI (sJ A)), .int (acc (acc2 0 (fun f t => fc A f t) (sT A) f) (fun t => fc A f t) t)]) ⟨hx, hb, hml, hown, hts⟩ (kX1_size l ((sB A (f * 8 + t)) - (fS A f t))) (va_cwS 1 hts gX1_missNow_X1_size rfl rfl rfl (by decide +kernel) ⟨Nat.le_of_ble_eq_true rfl, Nat.le_of_ble_eq_true rfl⟩) vT_bl vT_at rfl hl.1 rfl (Nat.le_of_ble_eq_true rfl) dX1_missNow_45 ⟨Nat.zero_le _, Nat.zero_le _⟩ ?_
          refine ro_callS (As := [.int (nI (sJ A)), .int (fab ((sB A (f * 8 + t)) - (fS A f t)))]) (rest := [.int (acc (acc2 0 (fun f t => fc A f t) (sT A) f) (fun t => fc A f t) t)]) ⟨hx, hb, hml, hown, hts⟩ (kX1_costOf l (sJ A) (fab ((sB A (f * 8 + t)) - (fS A f t))) (by omega)) (va_cwS 2 hts gX1_missNow_X1_costOf rfl rfl rfl (by decide +kernel) ⟨Nat.le_of_ble_eq_true rfl, Nat.le_of_ble_eq_true rfl⟩) vT_bl vT_at rfl hl.1 rfl (Nat.le_of_ble_eq_true rfl) dX1_missNow_48 ⟨Nat.zero_le _, Nat.zero_le _⟩ ?_
          refine n_top (y := fc A f t) (rfl) ?_
          refine lv_iadd hx hb dX1_missNow_51 ?_
          refine lv_istore_n (lv' := [(1, .int ((acc (acc2 0 (fun f t => fc A f t) (sT A) f) (fun t => fc A f t) t) + (fc A f t))), (0, .ref (h 0)), (2, .int (nI f)), (3, .int (nI t))]) hx hb dX1_missNow_52 rfl hl (by decide) rfl (fun ls hl => ?_)
          refine lv_iinc (v := nI (t + 1)) (lv' := [(3, .int (nI (t + 1))), (1, .int ((acc (acc2 0 (fun f t => fc A f t) (sT A) f) (fun t => fc A f t) t) + (fc A f t))), (0, .ref (h 0)), (2, .int (nI f))]) hx hb dX1_missNow_53 hl (k := 3) rfl (nI_inc _) (by decide) rfl (fun ls hl => ?_)
          refine lv_goto (tgt := 14) hx hb dX1_missNow_56 (by decide) ?_
          exact ih14 (t + 1) (by omega) ls (lv_sub hl [2, 1, 3, 0] rfl)
      exact lp14 (sT A) (0) (by omega) ls (lv_sub hl [1, 2, 3, 0] rfl)
  exact lp4 (sF A) (0) (by omega) ls (lv_sub hl [2, 1, 0] rfl)
def rmX1_miss : Room := { frames := 3, cells := 0, slots := 0, locals := 70 }
set_option maxHeartbeats 4000000 in
set_option maxRecDepth 100000 in
/-- miss -/
theorem kX1_miss (l : Launch) (D : va_G) (h : Nat → Nat) (cI cZ : ClassId) (A : St) (M : Nat → Int32) (hI : Inv A) : RO l yX1_miss wsX1_miss rmX1_miss [.ref (h 0)] (vB D (mw h cI cZ A M) [(cI, .int), (cZ, .boolean)]) (fm A) := by
  refine ro_ofW (cc := cX1_miss) (maxL := 1) (by decide) rfl (Nat.le_of_ble_eq_true rfl) ?_
  intro p e s m below meth c args Q hx hb hml hown hts hB hQ ls hl
  have hown : s.vm.findClass RX1 = some m.cls := hown
  obtain ⟨hP, hK⟩ := hB
  have hin0 : ∀ w ∈ u_ws RX1 TX1 13, w ∈ wsX1_miss := fun _ h => List.mem_cons_of_mem _ (List.mem_append_right _ h)
  have hl : lv_has ls 1 [(0, .ref (h 0))] := hl
  have hF := hI.F
  have hT := hI.T
  have hK3 := hI.K
  have hJ := hI.J
  have hZ := hI.Z
  refine lv_aload_n hx hb dX1_miss_0 rfl (lv_at hl 0 rfl) ?_
  refine ro_callV (As := []) (rest := []) ⟨hx, hb, hml, hown, hts⟩ (kX1_missNow l D h cI cZ A M  hI ) (cwV 0 hts gX1_miss_X1_missNow rfl rfl rfl (by decide +kernel) ⟨Nat.le_of_ble_eq_true rfl, Nat.le_of_ble_eq_true rfl⟩) vB_bl (vB_at hP hK) (va_recv hK hP (ci := 1) (q0 := 0) rfl rfl) rfl hl.1 rfl (Nat.le_of_ble_eq_true rfl) dX1_miss_1 ⟨Nat.zero_le _, Nat.zero_le _⟩ ?_
  exact hQ dX1_miss_4 (rfl)
def rmX1_shareOf : Room := { frames := 2, cells := 0, slots := 0, locals := 47 }
set_option maxHeartbeats 4000000 in
set_option maxRecDepth 100000 in
/-- shareOf -/
theorem kX1_shareOf (l : Launch) (D : va_G) (h : Nat → Nat) (cI cZ : ClassId) (A : St) (M : Nat → Int32) (hI : Inv A) (k f t : Nat) (hk : k < 3) (hf : f < 6) (ht : t < 8) : RO l yX1_shareOf wsX1_shareOf rmX1_shareOf [.ref (h 0), .int (nI k), .int (nI f), .int (nI t)] (vB D (mw h cI cZ A M) [(cI, .int), (cZ, .boolean)]) (fsh A k f t) := by
  refine ro_ofW (cc := cX1_shareOf) (maxL := 11) (by decide) rfl (Nat.le_of_ble_eq_true rfl) ?_
  intro p e s m below meth c args Q hx hb hml hown hts hB hQ ls hl
  have hown : s.vm.findClass RX1 = some m.cls := hown
  obtain ⟨hP, hK⟩ := hB
  have hin0 : ∀ w ∈ u_ws RX1 TX1 13, w ∈ wsX1_shareOf := fun _ h => List.mem_cons_of_mem _ (List.mem_append_right _ h)
  have hl : lv_has ls 11 [(0, .ref (h 0)), (1, .int (nI k)), (2, .int (nI f)), (3, .int (nI t))] := hl
  have hF := hI.F
  have hT := hI.T
  have hK3 := hI.K
  have hJ := hI.J
  have hZ := hI.Z
  refine lv_aload_n hx hb dX1_shareOf_0 rfl (lv_at hl 0 rfl) ?_
  refine va_get (D := D) (ci := 1) (v := .ref (h 1)) (C := RX1) (T := TX1) (N := 13) hx hb hts hin0 hown hK hP 0 rfl rfl 3 (by decide) (hts (.fieldLink RX1 7 "VoicePartsModel" "board" "[I") (by decide +kernel)) (fun _ h9 => h9) rfl dX1_shareOf_1 ?_
  refine lv_bipush (v := nI 8) hx hb dX1_shareOf_4 (by decide) ?_
  refine lv_iload_n hx hb dX1_shareOf_6 rfl (lv_at hl 2 rfl) ?_
  refine n_imulc hx hb dX1_shareOf_7 ?_
  refine lv_iload_n hx hb dX1_shareOf_8 rfl (lv_at hl 3 rfl) ?_
  refine n_iadd hx hb dX1_shareOf_9 ?_
  refine n_iald hx hb hK hP 1 0 rfl rfl (by omega) (by decide) dX1_shareOf_10 ?_
  refine lv_istore (lv' := [(4, .int (sB A (f * 8 + t))), (0, .ref (h 0)), (1, .int (nI k)), (2, .int (nI f)), (3, .int (nI t))]) hx hb dX1_shareOf_11 hl (by decide) rfl (fun ls hl => ?_)
  refine lv_aload_n hx hb dX1_shareOf_13 rfl (lv_at hl 1 rfl) ?_
  refine lv_iload_n hx hb dX1_shareOf_14 rfl (lv_at hl 3 rfl) ?_
  refine lv_iload_n hx hb dX1_shareOf_15 rfl (lv_at hl 4 rfl) ?_
  refine ro_callV (As := [.int (nI f), .int (nI t)]) (rest := []) ⟨hx, hb, hml, hown, hts⟩ (kX1_sumAt l D h cI cZ A M  hI (f) (t) (by omega) (by omega)) (cwV 2 hts gX1_shareOf_X1_sumAt rfl rfl rfl (by decide +kernel) ⟨Nat.le_of_ble_eq_true rfl, Nat.le_of_ble_eq_true rfl⟩) vB_bl (vB_at hP hK) (va_recv hK hP (ci := 1) (q0 := 0) rfl rfl) rfl hl.1 rfl (Nat.le_of_ble_eq_true rfl) dX1_shareOf_16 ⟨Nat.zero_le _, Nat.zero_le _⟩ ?_
  refine lv_istore (lv' := [(5, .int (fS A f t)), (4, .int (sB A (f * 8 + t))), (0, .ref (h 0)), (1, .int (nI k)), (2, .int (nI f)), (3, .int (nI t))]) hx hb dX1_shareOf_19 hl (by decide) rfl (fun ls hl => ?_)
  refine lv_iload hx hb dX1_shareOf_21 (lv_at hl 0 rfl) ?_
  refine lv_if_ne (tgt := 37) hx hb dX1_shareOf_23 (by decide) (fun c_23 => ?_) (fun c_23 => ?_)
  · refine lv_iload hx hb dX1_shareOf_37 (lv_at hl 1 rfl) ?_
    refine lv_istore (lv' := [(6, .int (sB A (f * 8 + t))), (5, .int (fS A f t)), (4, .int (sB A (f * 8 + t))), (0, .ref (h 0)), (1, .int (nI k)), (2, .int (nI f)), (3, .int (nI t))]) hx hb dX1_shareOf_39 hl (by decide) rfl (fun ls hl => ?_)
    refine lv_iconst (v := nI 0) hx hb dX1_shareOf_41 (by decide) ?_
    refine lv_istore (lv' := [(7, .int (nI 0)), (6, .int (sB A (f * 8 + t))), (5, .int (fS A f t)), (4, .int (sB A (f * 8 + t))), (0, .ref (h 0)), (1, .int (nI k)), (2, .int (nI f)), (3, .int (nI t))]) hx hb dX1_shareOf_42 hl (by decide) rfl (fun ls hl => ?_)
    have lp44 : ∀ (n44 j : Nat), j + n44 = sK A → ∀ (ls : Array Slot), lv_has ls 11 [(0, .ref (h 0)), (1, .int (nI k)), (2, .int (nI f)), (3, .int (nI t)), (4, .int (sB A (f * 8 + t))), (5, .int (fS A f t)), (6, .int (flf (sB A (f * 8 + t)) (fS A f t) (fth A f t) j)), (7, .int (nI j))] → W p l e rmX1_shareOf s m args below meth c s.heap [] 0 0 Q (F0 m 44 ls []) := by
      intro n44
      induction n44 with
      | zero =>
        intro j hi44 ls hl
        obtain rfl : sK A = j := by omega
        refine lv_iload hx hb dX1_shareOf_44 (lv_at hl 7 rfl) ?_
        refine lv_aload_n hx hb dX1_shareOf_46 rfl (lv_at hl 0 rfl) ?_
        refine va_get (D := D) (ci := 1) (v := .int (nI (sK A))) (C := RX1) (T := TX1) (N := 13) hx hb hts hin0 hown hK hP 0 rfl rfl 2 (by decide) (hts (.fieldLink RX1 43 "VoicePartsModel" "voices" "I") (by decide +kernel)) (fun _ h9 => h9) rfl dX1_shareOf_47 ?_
        refine n_icmp_ge (tgt := 78) hx hb (by omega) (by omega) dX1_shareOf_50 (by decide) (fun c_50 => ?_) (fun c_50 => by exfalso; omega)
        refine lv_iload hx hb dX1_shareOf_78 (lv_at hl 4 rfl) ?_
        refine lv_aload_n hx hb dX1_shareOf_80 rfl (lv_at hl 0 rfl) ?_
        refine lv_iload_n hx hb dX1_shareOf_81 rfl (lv_at hl 1 rfl) ?_
        refine lv_iload_n hx hb dX1_shareOf_82 rfl (lv_at hl 2 rfl) ?_
        refine lv_iload_n hx hb dX1_shareOf_83 rfl (lv_at hl 3 rfl) ?_
        refine ro_callV (As := [.int (nI k), .int (nI f), .int (nI t)]) (rest := [.int (sB A (f * 8 + t))]) ⟨hx, hb, hml, hown, hts⟩ (kX1_part l D h cI cZ A M  (k) (f) (t) (by omega) (by omega) (by omega)) (cwV 3 hts gX1_shareOf_X1_part rfl rfl rfl (by decide +kernel) ⟨Nat.le_of_ble_eq_true rfl, Nat.le_of_ble_eq_true rfl⟩) vB_bl (vB_at hP hK) (va_recv hK hP (ci := 1) (q0 := 0) rfl rfl) rfl hl.1 rfl (Nat.le_of_ble_eq_true rfl) dX1_shareOf_84 ⟨Nat.zero_le _, Nat.zero_le _⟩ ?_
        refine lv_imul hx hb dX1_shareOf_87 ?_
        refine n_top (y := fth A f t k) (rfl) ?_
        refine lv_iload hx hb dX1_shareOf_88 (lv_at hl 5 rfl) ?_
        refine lv_irem hx hb dX1_shareOf_90 (c_23) ?_
        refine n_top (y := frm (fth A f t k) (fS A f t)) (rfl) ?_
        refine lv_istore (lv' := [(7, .int (frm (fth A f t k) (fS A f t))), (0, .ref (h 0)), (1, .int (nI k)), (2, .int (nI f)), (3, .int (nI t)), (4, .int (sB A (f * 8 + t))), (5, .int (fS A f t)), (6, .int (flf (sB A (f * 8 + t)) (fS A f t) (fth A f t) (sK A)))]) hx hb dX1_shareOf_91 hl (by decide) rfl (fun ls hl => ?_)
        refine lv_iconst (v := nI 0) hx hb dX1_shareOf_93 (by decide) ?_
        refine lv_istore (lv' := [(8, .int (nI 0)), (7, .int (frm (fth A f t k) (fS A f t))), (0, .ref (h 0)), (1, .int (nI k)), (2, .int (nI f)), (3, .int (nI t)), (4, .int (sB A (f * 8 + t))), (5, .int (fS A f t)), (6, .int (flf (sB A (f * 8 + t)) (fS A f t) (fth A f t) (sK A)))]) hx hb dX1_shareOf_94 hl (by decide) rfl (fun ls hl => ?_)
        refine lv_iconst (v := nI 0) hx hb dX1_shareOf_96 (by decide) ?_
        refine lv_istore (lv' := [(9, .int (nI 0)), (8, .int (nI 0)), (7, .int (frm (fth A f t k) (fS A f t))), (0, .ref (h 0)), (1, .int (nI k)), (2, .int (nI f)), (3, .int (nI t)), (4, .int (sB A (f * 8 + t))), (5, .int (fS A f t)), (6, .int (flf (sB A (f * 8 + t)) (fS A f t) (fth A f t) (sK A)))]) hx hb dX1_shareOf_97 hl (by decide) rfl (fun ls hl => ?_)
        have lp99 : ∀ (n99 j : Nat), j + n99 = sK A → ∀ (ls : Array Slot), lv_has ls 11 [(0, .ref (h 0)), (1, .int (nI k)), (2, .int (nI f)), (3, .int (nI t)), (4, .int (sB A (f * 8 + t))), (5, .int (fS A f t)), (6, .int (flf (sB A (f * 8 + t)) (fS A f t) (fth A f t) (sK A))), (7, .int (frm (fth A f t k) (fS A f t))), (8, .int (nI (cnt (fah A k f t) j))), (9, .int (nI j))] → W p l e rmX1_shareOf s m args below meth c s.heap [] 0 0 Q (F0 m 99 ls []) := by
          intro n99
          induction n99 with
          | zero =>
            intro j hi99 ls hl
            obtain rfl : sK A = j := by omega
            refine lv_iload hx hb dX1_shareOf_99 (lv_at hl 9 rfl) ?_
            refine lv_aload_n hx hb dX1_shareOf_101 rfl (lv_at hl 0 rfl) ?_
            refine va_get (D := D) (ci := 1) (v := .int (nI (sK A))) (C := RX1) (T := TX1) (N := 13) hx hb hts hin0 hown hK hP 0 rfl rfl 2 (by decide) (hts (.fieldLink RX1 43 "VoicePartsModel" "voices" "I") (by decide +kernel)) (fun _ h9 => h9) rfl dX1_shareOf_102 ?_
            refine n_icmp_ge (tgt := 160) hx hb (by omega) (by omega) dX1_shareOf_105 (by decide) (fun c_105 => ?_) (fun c_105 => by exfalso; omega)
            refine lv_iload hx hb dX1_shareOf_160 (lv_at hl 4 rfl) ?_
            refine lv_aload_n hx hb dX1_shareOf_162 rfl (lv_at hl 0 rfl) ?_
            refine lv_iload_n hx hb dX1_shareOf_163 rfl (lv_at hl 1 rfl) ?_
            refine lv_iload_n hx hb dX1_shareOf_164 rfl (lv_at hl 2 rfl) ?_
            refine lv_iload_n hx hb dX1_shareOf_165 rfl (lv_at hl 3 rfl) ?_
            refine ro_callV (As := [.int (nI k), .int (nI f), .int (nI t)]) (rest := [.int (sB A (f * 8 + t))]) ⟨hx, hb, hml, hown, hts⟩ (kX1_part l D h cI cZ A M  (k) (f) (t) (by omega) (by omega) (by omega)) (cwV 3 hts gX1_shareOf_X1_part rfl rfl rfl (by decide +kernel) ⟨Nat.le_of_ble_eq_true rfl, Nat.le_of_ble_eq_true rfl⟩) vB_bl (vB_at hP hK) (va_recv hK hP (ci := 1) (q0 := 0) rfl rfl) rfl hl.1 rfl (Nat.le_of_ble_eq_true rfl) dX1_shareOf_166 ⟨Nat.zero_le _, Nat.zero_le _⟩ ?_
            refine lv_imul hx hb dX1_shareOf_169 ?_
            refine n_top (y := fth A f t k) (rfl) ?_
            refine lv_iload hx hb dX1_shareOf_170 (lv_at hl 5 rfl) ?_
            refine lv_idiv hx hb dX1_shareOf_172 (c_23) ?_
            refine lv_iload hx hb dX1_shareOf_173 (lv_at hl 8 rfl) ?_
            refine lv_iload hx hb dX1_shareOf_175 (lv_at hl 6 rfl) ?_
            refine lv_icmp_ge (tgt := 184) hx hb dX1_shareOf_177 (by decide) (fun c_177 => ?_) (fun c_177 => ?_)
            · refine lv_iconst (v := nI 0) hx hb dX1_shareOf_184 (by decide) ?_
              refine lv_iadd hx hb dX1_shareOf_185 ?_
              exact hQ dX1_shareOf_186 (by unfold fsh; rw [if_neg c_23, if_neg (Int32.not_lt.mpr c_177)]; first | rfl | done)
            · refine lv_iconst (v := nI 1) hx hb dX1_shareOf_180 (by decide) ?_
              refine lv_goto (tgt := 185) hx hb dX1_shareOf_181 (by decide) ?_
              refine lv_iadd hx hb dX1_shareOf_185 ?_
              exact hQ dX1_shareOf_186 (by unfold fsh; rw [if_neg c_23, if_pos (Int32.not_le.mp c_177)]; first | rfl | done)
          | succ n99 ih99 =>
            intro j hi99 ls hl
            refine lv_iload hx hb dX1_shareOf_99 (lv_at hl 9 rfl) ?_
            refine lv_aload_n hx hb dX1_shareOf_101 rfl (lv_at hl 0 rfl) ?_
            refine va_get (D := D) (ci := 1) (v := .int (nI (sK A))) (C := RX1) (T := TX1) (N := 13) hx hb hts hin0 hown hK hP 0 rfl rfl 2 (by decide) (hts (.fieldLink RX1 43 "VoicePartsModel" "voices" "I") (by decide +kernel)) (fun _ h9 => h9) rfl dX1_shareOf_102 ?_
            refine n_icmp_ge (tgt := 160) hx hb (by omega) (by omega) dX1_shareOf_105 (by decide) (fun c_105 => by exfalso; omega) (fun c_105 => ?_)
            refine lv_iload hx hb dX1_shareOf_108 (lv_at hl 4 rfl) ?_
            refine lv_aload_n hx hb dX1_shareOf_110 rfl (lv_at hl 0 rfl) ?_
            refine lv_iload hx hb dX1_shareOf_111 (lv_at hl 9 rfl) ?_
            refine lv_iload_n hx hb dX1_shareOf_113 rfl (lv_at hl 2 rfl) ?_
            refine lv_iload_n hx hb dX1_shareOf_114 rfl (lv_at hl 3 rfl) ?_
            refine ro_callV (As := [.int (nI j), .int (nI f), .int (nI t)]) (rest := [.int (sB A (f * 8 + t))]) ⟨hx, hb, hml, hown, hts⟩ (kX1_part l D h cI cZ A M  (j) (f) (t) (by omega) (by omega) (by omega)) (cwV 3 hts gX1_shareOf_X1_part rfl rfl rfl (by decide +kernel) ⟨Nat.le_of_ble_eq_true rfl, Nat.le_of_ble_eq_true rfl⟩) vB_bl (vB_at hP hK) (va_recv hK hP (ci := 1) (q0 := 0) rfl rfl) rfl hl.1 rfl (Nat.le_of_ble_eq_true rfl) dX1_shareOf_115 ⟨Nat.zero_le _, Nat.zero_le _⟩ ?_
            refine lv_imul hx hb dX1_shareOf_118 ?_
            refine n_top (y := fth A f t j) (rfl) ?_
            refine lv_iload hx hb dX1_shareOf_119 (lv_at hl 5 rfl) ?_
            refine lv_irem hx hb dX1_shareOf_121 (c_23) ?_
            refine n_top (y := frm (fth A f t j) (fS A f t)) (rfl) ?_
            refine lv_istore (lv' := [(10, .int (frm (fth A f t j) (fS A f t))), (0, .ref (h 0)), (1, .int (nI k)), (2, .int (nI f)), (3, .int (nI t)), (4, .int (sB A (f * 8 + t))), (5, .int (fS A f t)), (6, .int (flf (sB A (f * 8 + t)) (fS A f t) (fth A f t) (sK A))), (7, .int (frm (fth A f t k) (fS A f t))), (8, .int (nI (cnt (fah A k f t) j))), (9, .int (nI j))]) hx hb dX1_shareOf_122 hl (by decide) rfl (fun ls hl => ?_)
            refine lv_iload hx hb dX1_shareOf_124 (lv_at hl 9 rfl) ?_
            refine lv_iload hx hb dX1_shareOf_126 (lv_at hl 0 rfl) ?_
            refine lv_iload hx hb dX1_shareOf_128 (lv_at hl 8 rfl) ?_
            refine lv_icmp_gt (tgt := 146) hx hb dX1_shareOf_130 (by decide) (fun c_130 => ?_) (fun c_130 => ?_)
            · refine lv_iconst (v := nI 1) hx hb dX1_shareOf_146 (by decide) ?_
              refine lv_goto (tgt := 151) hx hb dX1_shareOf_147 (by decide) ?_
              refine n_iadd hx hb dX1_shareOf_151 ?_
              refine n_top (y := nI (cnt (fah A k f t) (j + 1))) (by rw [cnt_yes (show _ = true from decide_eq_true (Or.inl c_130))]) ?_
              refine lv_istore (lv' := [(8, .int (nI (cnt (fah A k f t) (j + 1)))), (10, .int (frm (fth A f t j) (fS A f t))), (0, .ref (h 0)), (1, .int (nI k)), (2, .int (nI f)), (3, .int (nI t)), (4, .int (sB A (f * 8 + t))), (5, .int (fS A f t)), (6, .int (flf (sB A (f * 8 + t)) (fS A f t) (fth A f t) (sK A))), (7, .int (frm (fth A f t k) (fS A f t))), (9, .int (nI j))]) hx hb dX1_shareOf_152 hl (by decide) rfl (fun ls hl => ?_)
              refine lv_iinc (v := nI (j + 1)) (lv' := [(9, .int (nI (j + 1))), (8, .int (nI (cnt (fah A k f t) (j + 1)))), (10, .int (frm (fth A f t j) (fS A f t))), (0, .ref (h 0)), (1, .int (nI k)), (2, .int (nI f)), (3, .int (nI t)), (4, .int (sB A (f * 8 + t))), (5, .int (fS A f t)), (6, .int (flf (sB A (f * 8 + t)) (fS A f t) (fth A f t) (sK A))), (7, .int (frm (fth A f t k) (fS A f t)))]) hx hb dX1_shareOf_154 hl (k := 10) rfl (nI_inc _) (by decide) rfl (fun ls hl => ?_)
              refine lv_goto (tgt := 99) hx hb dX1_shareOf_157 (by decide) ?_
              exact ih99 (j + 1) (by omega) ls (lv_sub hl [3, 4, 5, 6, 7, 8, 9, 10, 1, 0] rfl)
            · refine lv_iload hx hb dX1_shareOf_133 (lv_at hl 0 rfl) ?_
              refine lv_iload hx hb dX1_shareOf_135 (lv_at hl 8 rfl) ?_
              refine lv_icmp_ne (tgt := 150) hx hb dX1_shareOf_137 (by decide) (fun c_137 => ?_) (fun c_137 => ?_)
              · refine lv_iconst (v := nI 0) hx hb dX1_shareOf_150 (by decide) ?_
                refine n_iadd hx hb dX1_shareOf_151 ?_
                refine n_top (y := nI (cnt (fah A k f t) (j + 1))) (by rw [cnt_no (show _ = false from decide_eq_false (fun q => q.elim c_130 (fun z => c_137 z.1)))]; rfl) ?_
                refine lv_istore (lv' := [(8, .int (nI (cnt (fah A k f t) (j + 1)))), (10, .int (frm (fth A f t j) (fS A f t))), (0, .ref (h 0)), (1, .int (nI k)), (2, .int (nI f)), (3, .int (nI t)), (4, .int (sB A (f * 8 + t))), (5, .int (fS A f t)), (6, .int (flf (sB A (f * 8 + t)) (fS A f t) (fth A f t) (sK A))), (7, .int (frm (fth A f t k) (fS A f t))), (9, .int (nI j))]) hx hb dX1_shareOf_152 hl (by decide) rfl (fun ls hl => ?_)
                refine lv_iinc (v := nI (j + 1)) (lv' := [(9, .int (nI (j + 1))), (8, .int (nI (cnt (fah A k f t) (j + 1)))), (10, .int (frm (fth A f t j) (fS A f t))), (0, .ref (h 0)), (1, .int (nI k)), (2, .int (nI f)), (3, .int (nI t)), (4, .int (sB A (f * 8 + t))), (5, .int (fS A f t)), (6, .int (flf (sB A (f * 8 + t)) (fS A f t) (fth A f t) (sK A))), (7, .int (frm (fth A f t k) (fS A f t)))]) hx hb dX1_shareOf_154 hl (k := 10) rfl (nI_inc _) (by decide) rfl (fun ls hl => ?_)
                refine lv_goto (tgt := 99) hx hb dX1_shareOf_157 (by decide) ?_
                exact ih99 (j + 1) (by omega) ls (lv_sub hl [3, 4, 5, 6, 7, 8, 9, 10, 1, 0] rfl)
              · refine lv_iload hx hb dX1_shareOf_140 (lv_at hl 10 rfl) ?_
                refine lv_iload_n hx hb dX1_shareOf_142 rfl (lv_at hl 2 rfl) ?_
                refine n_icmp_ge (tgt := 150) hx hb (by omega) (by omega) dX1_shareOf_143 (by decide) (fun c_143 => ?_) (fun c_143 => ?_)
                · refine lv_iconst (v := nI 0) hx hb dX1_shareOf_150 (by decide) ?_
                  refine n_iadd hx hb dX1_shareOf_151 ?_
                  refine n_top (y := nI (cnt (fah A k f t) (j + 1))) (by rw [cnt_no (show _ = false from decide_eq_false (fun q => q.elim c_130 (fun z => absurd z.2 (by omega))))]; rfl) ?_
                  refine lv_istore (lv' := [(8, .int (nI (cnt (fah A k f t) (j + 1)))), (10, .int (frm (fth A f t j) (fS A f t))), (0, .ref (h 0)), (1, .int (nI k)), (2, .int (nI f)), (3, .int (nI t)), (4, .int (sB A (f * 8 + t))), (5, .int (fS A f t)), (6, .int (flf (sB A (f * 8 + t)) (fS A f t) (fth A f t) (sK A))), (7, .int (frm (fth A f t k) (fS A f t))), (9, .int (nI j))]) hx hb dX1_shareOf_152 hl (by decide) rfl (fun ls hl => ?_)
                  refine lv_iinc (v := nI (j + 1)) (lv' := [(9, .int (nI (j + 1))), (8, .int (nI (cnt (fah A k f t) (j + 1)))), (10, .int (frm (fth A f t j) (fS A f t))), (0, .ref (h 0)), (1, .int (nI k)), (2, .int (nI f)), (3, .int (nI t)), (4, .int (sB A (f * 8 + t))), (5, .int (fS A f t)), (6, .int (flf (sB A (f * 8 + t)) (fS A f t) (fth A f t) (sK A))), (7, .int (frm (fth A f t k) (fS A f t)))]) hx hb dX1_shareOf_154 hl (k := 10) rfl (nI_inc _) (by decide) rfl (fun ls hl => ?_)
                  refine lv_goto (tgt := 99) hx hb dX1_shareOf_157 (by decide) ?_
                  exact ih99 (j + 1) (by omega) ls (lv_sub hl [3, 4, 5, 6, 7, 8, 9, 10, 1, 0] rfl)
                · refine lv_iconst (v := nI 1) hx hb dX1_shareOf_146 (by decide) ?_
                  refine lv_goto (tgt := 151) hx hb dX1_shareOf_147 (by decide) ?_
                  refine n_iadd hx hb dX1_shareOf_151 ?_
                  refine n_top (y := nI (cnt (fah A k f t) (j + 1))) (by rw [cnt_yes (show _ = true from decide_eq_true (Or.inr ⟨c_137, by omega⟩))]) ?_
                  refine lv_istore (lv' := [(8, .int (nI (cnt (fah A k f t) (j + 1)))), (10, .int (frm (fth A f t j) (fS A f t))), (0, .ref (h 0)), (1, .int (nI k)), (2, .int (nI f)), (3, .int (nI t)), (4, .int (sB A (f * 8 + t))), (5, .int (fS A f t)), (6, .int (flf (sB A (f * 8 + t)) (fS A f t) (fth A f t) (sK A))), (7, .int (frm (fth A f t k) (fS A f t))), (9, .int (nI j))]) hx hb dX1_shareOf_152 hl (by decide) rfl (fun ls hl => ?_)
                  refine lv_iinc (v := nI (j + 1)) (lv' := [(9, .int (nI (j + 1))), (8, .int (nI (cnt (fah A k f t) (j + 1)))), (10, .int (frm (fth A f t j) (fS A f t))), (0, .ref (h 0)), (1, .int (nI k)), (2, .int (nI f)), (3, .int (nI t)), (4, .int (sB A (f * 8 + t))), (5, .int (fS A f t)), (6, .int (flf (sB A (f * 8 + t)) (fS A f t) (fth A f t) (sK A))), (7, .int (frm (fth A f t k) (fS A f t)))]) hx hb dX1_shareOf_154 hl (k := 10) rfl (nI_inc _) (by decide) rfl (fun ls hl => ?_)
                  refine lv_goto (tgt := 99) hx hb dX1_shareOf_157 (by decide) ?_
                  exact ih99 (j + 1) (by omega) ls (lv_sub hl [3, 4, 5, 6, 7, 8, 9, 10, 1, 0] rfl)
        exact lp99 (sK A) (0) (by omega) ls (lv_sub hl [3, 4, 5, 6, 7, 8, 9, 2, 1, 0] rfl)
      | succ n44 ih44 =>
        intro j hi44 ls hl
        refine lv_iload hx hb dX1_shareOf_44 (lv_at hl 7 rfl) ?_
        refine lv_aload_n hx hb dX1_shareOf_46 rfl (lv_at hl 0 rfl) ?_
        refine va_get (D := D) (ci := 1) (v := .int (nI (sK A))) (C := RX1) (T := TX1) (N := 13) hx hb hts hin0 hown hK hP 0 rfl rfl 2 (by decide) (hts (.fieldLink RX1 43 "VoicePartsModel" "voices" "I") (by decide +kernel)) (fun _ h9 => h9) rfl dX1_shareOf_47 ?_
        refine n_icmp_ge (tgt := 78) hx hb (by omega) (by omega) dX1_shareOf_50 (by decide) (fun c_50 => by exfalso; omega) (fun c_50 => ?_)
        refine lv_iload hx hb dX1_shareOf_53 (lv_at hl 6 rfl) ?_
        refine lv_iload hx hb dX1_shareOf_55 (lv_at hl 4 rfl) ?_
        refine lv_aload_n hx hb dX1_shareOf_57 rfl (lv_at hl 0 rfl) ?_
        refine lv_iload hx hb dX1_shareOf_58 (lv_at hl 7 rfl) ?_
        refine lv_iload_n hx hb dX1_shareOf_60 rfl (lv_at hl 2 rfl) ?_
        refine lv_iload_n hx hb dX1_shareOf_61 rfl (lv_at hl 3 rfl) ?_
        refine ro_callV (As := [.int (nI j), .int (nI f), .int (nI t)]) (rest := [.int (sB A (f * 8 + t)), .int (flf (sB A (f * 8 + t)) (fS A f t) (fth A f t) j)]) ⟨hx, hb, hml, hown, hts⟩ (kX1_part l D h cI cZ A M  (j) (f) (t) (by omega) (by omega) (by omega)) (cwV 3 hts gX1_shareOf_X1_part rfl rfl rfl (by decide +kernel) ⟨Nat.le_of_ble_eq_true rfl, Nat.le_of_ble_eq_true rfl⟩) vB_bl (vB_at hP hK) (va_recv hK hP (ci := 1) (q0 := 0) rfl rfl) rfl hl.1 rfl (Nat.le_of_ble_eq_true rfl) dX1_shareOf_62 ⟨Nat.zero_le _, Nat.zero_le _⟩ ?_
        refine lv_imul hx hb dX1_shareOf_65 ?_
        refine n_top (y := fth A f t j) (rfl) ?_
        refine lv_iload hx hb dX1_shareOf_66 (lv_at hl 5 rfl) ?_
        refine lv_idiv hx hb dX1_shareOf_68 (c_23) ?_
        refine lv_isub hx hb dX1_shareOf_69 ?_
        refine lv_istore (lv' := [(6, .int ((flf (sB A (f * 8 + t)) (fS A f t) (fth A f t) j) - ((fth A f t j) / (fS A f t)))), (0, .ref (h 0)), (1, .int (nI k)), (2, .int (nI f)), (3, .int (nI t)), (4, .int (sB A (f * 8 + t))), (5, .int (fS A f t)), (7, .int (nI j))]) hx hb dX1_shareOf_70 hl (by decide) rfl (fun ls hl => ?_)
        refine lv_iinc (v := nI (j + 1)) (lv' := [(7, .int (nI (j + 1))), (6, .int ((flf (sB A (f * 8 + t)) (fS A f t) (fth A f t) j) - ((fth A f t j) / (fS A f t)))), (0, .ref (h 0)), (1, .int (nI k)), (2, .int (nI f)), (3, .int (nI t)), (4, .int (sB A (f * 8 + t))), (5, .int (fS A f t))]) hx hb dX1_shareOf_72 hl (k := 7) rfl (nI_inc _) (by decide) rfl (fun ls hl => ?_)
        refine lv_goto (tgt := 44) hx hb dX1_shareOf_75 (by decide) ?_
        exact ih44 (j + 1) (by omega) ls (lv_sub hl [2, 3, 4, 5, 6, 7, 1, 0] rfl)
    exact lp44 (sK A) (0) (by omega) ls (lv_sub hl [4, 5, 6, 7, 3, 2, 1, 0] rfl)
  · refine lv_iload_n hx hb dX1_shareOf_26 rfl (lv_at hl 3 rfl) ?_
    refine n_if_ne (tgt := 35) hx hb (by omega) dX1_shareOf_27 (by decide) (fun c_27 => ?_) (fun c_27 => ?_)
    · refine lv_iconst (v := nI 0) hx hb dX1_shareOf_35 (by decide) ?_
      exact hQ dX1_shareOf_36 (by unfold fsh; rw [if_pos c_23, if_neg c_27]; first | rfl | done)
    · refine lv_iload hx hb dX1_shareOf_30 (lv_at hl 1 rfl) ?_
      refine lv_goto (tgt := 36) hx hb dX1_shareOf_32 (by decide) ?_
      exact hQ dX1_shareOf_36 (by unfold fsh; rw [if_pos c_23, if_pos c_27])
def rmX1_share : Room := { frames := 3, cells := 0, slots := 0, locals := 77 }
set_option maxHeartbeats 4000000 in
set_option maxRecDepth 100000 in
/-- share -/
theorem kX1_share (l : Launch) (D : va_G) (h : Nat → Nat) (cI cZ : ClassId) (A : St) (M : Nat → Int32) (hI : Inv A) (x y z : Int32) : RO l yX1_share wsX1_share rmX1_share [.ref (h 0), .int x, .int y, .int z] (vB D (mw h cI cZ A M) [(cI, .int), (cZ, .boolean)]) (aSh A x y z) := by
  refine ro_ofW (cc := cX1_share) (maxL := 4) (by decide) rfl (Nat.le_of_ble_eq_true rfl) ?_
  intro p e s m below meth c args Q hx hb hml hown hts hB hQ ls hl
  have hown : s.vm.findClass RX1 = some m.cls := hown
  obtain ⟨hP, hK⟩ := hB
  have hin0 : ∀ w ∈ u_ws RX1 TX1 13, w ∈ wsX1_share := fun _ h => List.mem_cons_of_mem _ (List.mem_append_right _ h)
  have hl : lv_has ls 4 [(0, .ref (h 0)), (1, .int x), (2, .int y), (3, .int z)] := hl
  have hF := hI.F
  have hT := hI.T
  have hK3 := hI.K
  have hJ := hI.J
  have hZ := hI.Z
  refine lv_aload_n hx hb dX1_share_0 rfl (lv_at hl 0 rfl) ?_
  refine lv_iload_n hx hb dX1_share_1 rfl (lv_at hl 1 rfl) ?_
  refine ro_callV (As := [.int x]) (rest := []) ⟨hx, hb, hml, hown, hts⟩ (kX1_isVoice l D h cI cZ A M  hI (x)) (cwV 1 hts gX1_share_X1_isVoice rfl rfl rfl (by decide +kernel) ⟨Nat.le_of_ble_eq_true rfl, Nat.le_of_ble_eq_true rfl⟩) vB_bl (vB_at hP hK) (va_recv hK hP (ci := 1) (q0 := 0) rfl rfl) rfl hl.1 rfl (Nat.le_of_ble_eq_true rfl) dX1_share_2 ⟨Nat.zero_le _, Nat.zero_le _⟩ ?_
  refine b_if_eq (tgt := 27) hx hb dX1_share_5 (by decide) (fun c_5 => ?_) (fun c_5 => ?_)
  · refine lv_iconst (v := (-1)) hx hb dX1_share_27 (by decide) ?_
    exact hQ dX1_share_28 (by unfold aSh; rw [if_neg (fun q => c_5 q.1)])
  · refine lv_aload_n hx hb dX1_share_8 rfl (lv_at hl 0 rfl) ?_
    refine lv_iload_n hx hb dX1_share_9 rfl (lv_at hl 2 rfl) ?_
    refine lv_iload_n hx hb dX1_share_10 rfl (lv_at hl 3 rfl) ?_
    refine ro_callV (As := [.int y, .int z]) (rest := []) ⟨hx, hb, hml, hown, hts⟩ (kX1_isPlace l D h cI cZ A M  hI (y) (z)) (cwV 2 hts gX1_share_X1_isPlace rfl rfl rfl (by decide +kernel) ⟨Nat.le_of_ble_eq_true rfl, Nat.le_of_ble_eq_true rfl⟩) vB_bl (vB_at hP hK) (va_recv hK hP (ci := 1) (q0 := 0) rfl rfl) rfl hl.1 rfl (Nat.le_of_ble_eq_true rfl) dX1_share_11 ⟨Nat.zero_le _, Nat.zero_le _⟩ ?_
    refine b_if_eq (tgt := 27) hx hb dX1_share_14 (by decide) (fun c_14 => ?_) (fun c_14 => ?_)
    · refine lv_iconst (v := (-1)) hx hb dX1_share_27 (by decide) ?_
      exact hQ dX1_share_28 (by unfold aSh; rw [if_neg (fun q => c_14 q.2)])
    · obtain ⟨k, hk, rfl⟩ := iN_of (n := sK A) c_5 (by omega) (by omega)
      obtain ⟨f, hf, rfl⟩ := iN_of (n := sF A) c_14.1 (by omega) (by omega)
      obtain ⟨t, ht, rfl⟩ := iN_of (n := sT A) c_14.2 (by omega) (by omega)
      refine lv_aload_n hx hb dX1_share_17 rfl (lv_at hl 0 rfl) ?_
      refine lv_iload_n hx hb dX1_share_18 rfl (lv_at hl 1 rfl) ?_
      refine lv_iload_n hx hb dX1_share_19 rfl (lv_at hl 2 rfl) ?_
      refine lv_iload_n hx hb dX1_share_20 rfl (lv_at hl 3 rfl) ?_
      refine ro_callV (As := [.int (nI k), .int (nI f), .int (nI t)]) (rest := []) ⟨hx, hb, hml, hown, hts⟩ (kX1_shareOf l D h cI cZ A M  hI (k) (f) (t) (by omega) (by omega) (by omega)) (cwV 3 hts gX1_share_X1_shareOf rfl rfl rfl (by decide +kernel) ⟨Nat.le_of_ble_eq_true rfl, Nat.le_of_ble_eq_true rfl⟩) vB_bl (vB_at hP hK) (va_recv hK hP (ci := 1) (q0 := 0) rfl rfl) rfl hl.1 rfl (Nat.le_of_ble_eq_true rfl) dX1_share_21 ⟨Nat.zero_le _, Nat.zero_le _⟩ ?_
      refine lv_goto (tgt := 28) hx hb dX1_share_24 (by decide) ?_
      exact hQ dX1_share_28 (by unfold aSh; rw [if_pos ⟨c_5, c_14⟩, cl_nI (n := k) (by omega), cl_nI (n := f) (by omega), cl_nI (n := t) (by omega)])
def rmX1_productBy : Room := { frames := 1, cells := 0, slots := 0, locals := 22 }
set_option maxHeartbeats 4000000 in
set_option maxRecDepth 100000 in
/-- productBy -/
theorem kX1_productBy (l : Launch) (D : va_G) (h : Nat → Nat) (cI cZ : ClassId) (A : St) (M : Nat → Int32) (hI : Inv A) (d : Int32) (h1 : 1 ≤ sZ A 1) : RO l yX1_productBy wsX1_productBy rmX1_productBy [.ref (h 0), .int d] (vB D (mw h cI cZ A M) [(cI, .int), (cZ, .boolean)]) (fpd A d) := by
  refine ro_ofW (cc := cX1_productBy) (maxL := 4) (by decide) rfl (Nat.le_of_ble_eq_true rfl) ?_
  intro p e s m below meth c args Q hx hb hml hown hts hB hQ ls hl
  have hown : s.vm.findClass RX1 = some m.cls := hown
  obtain ⟨hP, hK⟩ := hB
  have hin0 : ∀ w ∈ u_ws RX1 TX1 13, w ∈ wsX1_productBy := fun _ h => List.mem_cons_of_mem _ (List.mem_append_right _ h)
  have hl : lv_has ls 4 [(0, .ref (h 0)), (1, .int d)] := hl
  have hF := hI.F
  have hT := hI.T
  have hK3 := hI.K
  have hJ := hI.J
  have hZ := hI.Z
  refine lv_iconst (v := nI 0) hx hb dX1_productBy_0 (by decide) ?_
  refine lv_istore_n (lv' := [(2, .int (nI 0)), (0, .ref (h 0)), (1, .int d)]) hx hb dX1_productBy_1 rfl hl (by decide) rfl (fun ls hl => ?_)
  refine lv_iconst (v := nI 0) hx hb dX1_productBy_2 (by decide) ?_
  refine lv_istore_n (lv' := [(3, .int (nI 0)), (2, .int (nI 0)), (0, .ref (h 0)), (1, .int d)]) hx hb dX1_productBy_3 rfl hl (by decide) rfl (fun ls hl => ?_)
  have lp4 : ∀ (n4 i : Nat), i + n4 = sZ A 0 → ∀ (ls : Array Slot), lv_has ls 4 [(0, .ref (h 0)), (1, .int d), (2, .int (l_sum (fpt A d) i)), (3, .int (nI i))] → W p l e rmX1_productBy s m args below meth c s.heap [] 0 0 Q (F0 m 4 ls []) := by
    intro n4
    induction n4 with
    | zero =>
      intro i hi4 ls hl
      obtain rfl : sZ A 0 = i := by omega
      refine lv_iload_n hx hb dX1_productBy_4 rfl (lv_at hl 3 rfl) ?_
      refine lv_aload_n hx hb dX1_productBy_5 rfl (lv_at hl 0 rfl) ?_
      refine va_get (D := D) (ci := 1) (v := .ref (h 5)) (C := RX1) (T := TX1) (N := 13) hx hb hts hin0 hown hK hP 0 rfl rfl 9 (by decide) (hts (.fieldLink RX1 23 "VoicePartsModel" "heard" "[I") (by decide +kernel)) (fun _ h9 => h9) rfl dX1_productBy_6 ?_
      refine lv_iconst (v := nI 0) hx hb dX1_productBy_9 (by decide) ?_
      refine n_iald hx hb hK hP 5 0 rfl rfl (by omega) (by decide) dX1_productBy_10 ?_
      refine n_icmp_ge (tgt := 63) hx hb (by omega) (by omega) dX1_productBy_11 (by decide) (fun c_11 => ?_) (fun c_11 => by exfalso; omega)
      refine lv_iload_n hx hb dX1_productBy_63 rfl (lv_at hl 2 rfl) ?_
      exact hQ dX1_productBy_64 (rfl)
    | succ n4 ih4 =>
      intro i hi4 ls hl
      refine lv_iload_n hx hb dX1_productBy_4 rfl (lv_at hl 3 rfl) ?_
      refine lv_aload_n hx hb dX1_productBy_5 rfl (lv_at hl 0 rfl) ?_
      refine va_get (D := D) (ci := 1) (v := .ref (h 5)) (C := RX1) (T := TX1) (N := 13) hx hb hts hin0 hown hK hP 0 rfl rfl 9 (by decide) (hts (.fieldLink RX1 23 "VoicePartsModel" "heard" "[I") (by decide +kernel)) (fun _ h9 => h9) rfl dX1_productBy_6 ?_
      refine lv_iconst (v := nI 0) hx hb dX1_productBy_9 (by decide) ?_
      refine n_iald hx hb hK hP 5 0 rfl rfl (by omega) (by decide) dX1_productBy_10 ?_
      refine n_icmp_ge (tgt := 63) hx hb (by omega) (by omega) dX1_productBy_11 (by decide) (fun c_11 => by exfalso; omega) (fun c_11 => ?_)
      refine lv_iload_n hx hb dX1_productBy_14 rfl (lv_at hl 2 rfl) ?_
      refine lv_iload_n hx hb dX1_productBy_15 rfl (lv_at hl 3 rfl) ?_
      refine lv_iload_n hx hb dX1_productBy_16 rfl (lv_at hl 1 rfl) ?_
      refine lv_iadd hx hb dX1_productBy_17 ?_
      refine lv_iconst (v := nI 0) hx hb dX1_productBy_18 (by decide) ?_
      refine lv_aload_n hx hb dX1_productBy_19 rfl (lv_at hl 0 rfl) ?_
      refine va_get (D := D) (ci := 1) (v := .ref (h 5)) (C := RX1) (T := TX1) (N := 13) hx hb hts hin0 hown hK hP 0 rfl rfl 9 (by decide) (hts (.fieldLink RX1 23 "VoicePartsModel" "heard" "[I") (by decide +kernel)) (fun _ h9 => h9) rfl dX1_productBy_20 ?_
      refine lv_iconst (v := nI 1) hx hb dX1_productBy_23 (by decide) ?_
      refine n_iald hx hb hK hP 5 0 rfl rfl (by omega) (by decide) dX1_productBy_24 ?_
      refine lv_iconst (v := nI 1) hx hb dX1_productBy_25 (by decide) ?_
      refine n_isub hx hb (by omega) dX1_productBy_26 ?_
      refine ro_callS (As := [.int ((nI i) + d), .int (nI 0), .int (nI ((sZ A (1)) - 1))]) (rest := [.int (l_sum (fpt A d) i)]) ⟨hx, hb, hml, hown, hts⟩ (kX1_in l ((nI i) + d) (nI 0) (nI ((sZ A (1)) - 1))) (va_cwS 3 hts gX1_productBy_X1_in rfl rfl rfl (by decide +kernel) ⟨Nat.le_of_ble_eq_true rfl, Nat.le_of_ble_eq_true rfl⟩) vT_bl vT_at rfl hl.1 rfl (Nat.le_of_ble_eq_true rfl) dX1_productBy_27 ⟨Nat.zero_le _, Nat.zero_le _⟩ ?_
      refine b_if_eq (tgt := 54) hx hb dX1_productBy_30 (by decide) (fun c_30 => ?_) (fun c_30 => ?_)
      · refine lv_iconst (v := nI 0) hx hb dX1_productBy_54 (by decide) ?_
        refine lv_iadd hx hb dX1_productBy_55 ?_
        refine n_top (y := l_sum (fpt A d) (i + 1)) (by rw [l_sum_s, show fpt A d i = 0 from if_neg c_30]; rfl) ?_
        refine lv_istore_n (lv' := [(2, .int (l_sum (fpt A d) (i + 1))), (0, .ref (h 0)), (1, .int d), (3, .int (nI i))]) hx hb dX1_productBy_56 rfl hl (by decide) rfl (fun ls hl => ?_)
        refine lv_iinc (v := nI (i + 1)) (lv' := [(3, .int (nI (i + 1))), (2, .int (l_sum (fpt A d) (i + 1))), (0, .ref (h 0)), (1, .int d)]) hx hb dX1_productBy_57 hl (k := 3) rfl (nI_inc _) (by decide) rfl (fun ls hl => ?_)
        refine lv_goto (tgt := 4) hx hb dX1_productBy_60 (by decide) ?_
        exact ih4 (i + 1) (by omega) ls (lv_sub hl [2, 3, 1, 0] rfl)
      · obtain ⟨jv, hjv, ejv⟩ := iN_of (n := sZ A 1) c_30 h1 (by omega)
        refine lv_aload_n hx hb dX1_productBy_33 rfl (lv_at hl 0 rfl) ?_
        refine va_get (D := D) (ci := 1) (v := .ref (h 6)) (C := RX1) (T := TX1) (N := 13) hx hb hts hin0 hown hK hP 0 rfl rfl 10 (by decide) (hts (.fieldLink RX1 26 "VoicePartsModel" "row" "[I") (by decide +kernel)) (fun _ h9 => h9) rfl dX1_productBy_34 ?_
        refine lv_iload_n hx hb dX1_productBy_37 rfl (lv_at hl 3 rfl) ?_
        refine n_iald hx hb hK hP 6 0 rfl rfl (by omega) (by decide) dX1_productBy_38 ?_
        refine lv_aload_n hx hb dX1_productBy_39 rfl (lv_at hl 0 rfl) ?_
        refine va_get (D := D) (ci := 1) (v := .ref (h 6)) (C := RX1) (T := TX1) (N := 13) hx hb hts hin0 hown hK hP 0 rfl rfl 10 (by decide) (hts (.fieldLink RX1 26 "VoicePartsModel" "row" "[I") (by decide +kernel)) (fun _ h9 => h9) rfl dX1_productBy_40 ?_
        refine lv_bipush (v := nI 8) hx hb dX1_productBy_43 (by decide) ?_
        refine lv_iload_n hx hb dX1_productBy_45 rfl (lv_at hl 3 rfl) ?_
        refine n_iadd hx hb dX1_productBy_46 ?_
        refine lv_iload_n hx hb dX1_productBy_47 rfl (lv_at hl 1 rfl) ?_
        refine lv_iadd hx hb dX1_productBy_48 ?_
        refine n_top (y := nI (8 + jv)) (by rw [← nI_add, Int32.add_assoc, ejv, nI_add]) ?_
        refine n_iald hx hb hK hP 6 0 rfl rfl (by omega) (by decide) dX1_productBy_49 ?_
        refine lv_imul hx hb dX1_productBy_50 ?_
        refine lv_goto (tgt := 55) hx hb dX1_productBy_51 (by decide) ?_
        refine lv_iadd hx hb dX1_productBy_55 ?_
        refine n_top (y := l_sum (fpt A d) (i + 1)) (by rw [l_sum_s, show fpt A d i = sR A i * sR A (8 + jv) from by unfold fpt; rw [if_pos c_30, ejv, nI_clamp (by omega)]]) ?_
        refine lv_istore_n (lv' := [(2, .int (l_sum (fpt A d) (i + 1))), (0, .ref (h 0)), (1, .int d), (3, .int (nI i))]) hx hb dX1_productBy_56 rfl hl (by decide) rfl (fun ls hl => ?_)
        refine lv_iinc (v := nI (i + 1)) (lv' := [(3, .int (nI (i + 1))), (2, .int (l_sum (fpt A d) (i + 1))), (0, .ref (h 0)), (1, .int d)]) hx hb dX1_productBy_57 hl (k := 3) rfl (nI_inc _) (by decide) rfl (fun ls hl => ?_)
        refine lv_goto (tgt := 4) hx hb dX1_productBy_60 (by decide) ?_
        exact ih4 (i + 1) (by omega) ls (lv_sub hl [2, 3, 1, 0] rfl)
  exact lp4 (sZ A 0) (0) (by omega) ls (lv_sub hl [2, 3, 1, 0] rfl)
def rmX1_numberAt : Room := { frames := 0, cells := 0, slots := 0, locals := 0 }
set_option maxHeartbeats 4000000 in
set_option maxRecDepth 100000 in
/-- numberAt -/
theorem kX1_numberAt (l : Launch) (D : va_G) (h : Nat → Nat) (cI cZ : ClassId) (A : St) (M : Nat → Int32) (hI : Inv A) (i : Nat) (hi : i < 8) : RO l yX1_numberAt wsX1_numberAt rmX1_numberAt [.ref (h 0), .int (nI i)] (vB D (mw h cI cZ A M) [(cI, .int), (cZ, .boolean)]) (ffr A i) := by
  refine ro_ofW (cc := cX1_numberAt) (maxL := 2) (by decide) rfl (Nat.le_of_ble_eq_true rfl) ?_
  intro p e s m below meth c args Q hx hb hml hown hts hB hQ ls hl
  have hown : s.vm.findClass RX1 = some m.cls := hown
  obtain ⟨hP, hK⟩ := hB
  have hin0 : ∀ w ∈ u_ws RX1 TX1 13, w ∈ wsX1_numberAt := fun _ h => List.mem_cons_of_mem _ (List.mem_append_right _ h)
  have hl : lv_has ls 2 [(0, .ref (h 0)), (1, .int (nI i))] := hl
  have hF := hI.F
  have hT := hI.T
  have hK3 := hI.K
  have hJ := hI.J
  have hZ := hI.Z
  refine lv_iload_n hx hb dX1_numberAt_0 rfl (lv_at hl 1 rfl) ?_
  refine lv_aload_n hx hb dX1_numberAt_1 rfl (lv_at hl 0 rfl) ?_
  refine va_get (D := D) (ci := 1) (v := .ref (h 5)) (C := RX1) (T := TX1) (N := 13) hx hb hts hin0 hown hK hP 0 rfl rfl 9 (by decide) (hts (.fieldLink RX1 23 "VoicePartsModel" "heard" "[I") (by decide +kernel)) (fun _ h9 => h9) rfl dX1_numberAt_2 ?_
  refine lv_iconst (v := nI 0) hx hb dX1_numberAt_5 (by decide) ?_
  refine n_iald hx hb hK hP 5 0 rfl rfl (by omega) (by decide) dX1_numberAt_6 ?_
  refine n_icmp_ge (tgt := 19) hx hb (by omega) (by omega) dX1_numberAt_7 (by decide) (fun c_7 => ?_) (fun c_7 => ?_)
  · refine lv_iconst (v := nI 0) hx hb dX1_numberAt_19 (by decide) ?_
    exact hQ dX1_numberAt_20 (by unfold ffr; rw [if_neg (by omega)]; first | rfl | done)
  · refine lv_aload_n hx hb dX1_numberAt_10 rfl (lv_at hl 0 rfl) ?_
    refine va_get (D := D) (ci := 1) (v := .ref (h 6)) (C := RX1) (T := TX1) (N := 13) hx hb hts hin0 hown hK hP 0 rfl rfl 10 (by decide) (hts (.fieldLink RX1 26 "VoicePartsModel" "row" "[I") (by decide +kernel)) (fun _ h9 => h9) rfl dX1_numberAt_11 ?_
    refine lv_iload_n hx hb dX1_numberAt_14 rfl (lv_at hl 1 rfl) ?_
    refine n_iald hx hb hK hP 6 0 rfl rfl (by omega) (by decide) dX1_numberAt_15 ?_
    refine lv_goto (tgt := 20) hx hb dX1_numberAt_16 (by decide) ?_
    exact hQ dX1_numberAt_20 (by unfold ffr; rw [if_pos (by omega)])
def rmX1_orders : Room := { frames := 0, cells := 0, slots := 0, locals := 0 }
set_option maxHeartbeats 4000000 in
set_option maxRecDepth 100000 in
/-- orders -/
theorem kX1_orders (l : Launch) (D : va_G) (h : Nat → Nat) (cI cZ : ClassId) (A : St) (M : Nat → Int32) (hI : Inv A) : RO l yX1_orders wsX1_orders rmX1_orders [.ref (h 0)] (vB D (mw h cI cZ A M) [(cI, .int), (cZ, .boolean)]) (nI (fno (sK A))) := by
  refine ro_ofW (cc := cX1_orders) (maxL := 1) (by decide) rfl (Nat.le_of_ble_eq_true rfl) ?_
  intro p e s m below meth c args Q hx hb hml hown hts hB hQ ls hl
  have hown : s.vm.findClass RX1 = some m.cls := hown
  obtain ⟨hP, hK⟩ := hB
  have hin0 : ∀ w ∈ u_ws RX1 TX1 13, w ∈ wsX1_orders := fun _ h => List.mem_cons_of_mem _ (List.mem_append_right _ h)
  have hl : lv_has ls 1 [(0, .ref (h 0))] := hl
  have hF := hI.F
  have hT := hI.T
  have hK3 := hI.K
  have hJ := hI.J
  have hZ := hI.Z
  refine lv_aload_n hx hb dX1_orders_0 rfl (lv_at hl 0 rfl) ?_
  refine va_get (D := D) (ci := 1) (v := .int (nI (sK A))) (C := RX1) (T := TX1) (N := 13) hx hb hts hin0 hown hK hP 0 rfl rfl 2 (by decide) (hts (.fieldLink RX1 43 "VoicePartsModel" "voices" "I") (by decide +kernel)) (fun _ h9 => h9) rfl dX1_orders_1 ?_
  refine lv_iconst (v := nI 3) hx hb dX1_orders_4 (by decide) ?_
  refine n_icmp_ne (tgt := 13) hx hb (by omega) (by omega) dX1_orders_5 (by decide) (fun c_5 => ?_) (fun c_5 => ?_)
  · refine lv_aload_n hx hb dX1_orders_13 rfl (lv_at hl 0 rfl) ?_
    refine va_get (D := D) (ci := 1) (v := .int (nI (sK A))) (C := RX1) (T := TX1) (N := 13) hx hb hts hin0 hown hK hP 0 rfl rfl 2 (by decide) (hts (.fieldLink RX1 43 "VoicePartsModel" "voices" "I") (by decide +kernel)) (fun _ h9 => h9) rfl dX1_orders_14 ?_
    exact hQ dX1_orders_17 (by unfold fno; rcases (show sK A = 1 ∨ sK A = 2 by omega) with q | q <;> rw [q] <;> rfl)
  · refine lv_bipush (v := nI 6) hx hb dX1_orders_8 (by decide) ?_
    refine lv_goto (tgt := 17) hx hb dX1_orders_10 (by decide) ?_
    exact hQ dX1_orders_17 (by rw [c_5]; rfl)
def rmX1_trace : Room := { frames := 0, cells := 0, slots := 0, locals := 0 }
set_option maxHeartbeats 4000000 in
set_option maxRecDepth 100000 in
/-- trace -/
theorem kX1_trace (l : Launch) (D : va_G) (h : Nat → Nat) (cI cZ : ClassId) (A : St) (M : Nat → Int32)  : ROL l yX1_trace wsX1_trace rmX1_trace [.ref (h 0)] (vB D (mw h cI cZ A M) [(cI, .int), (cZ, .boolean)]) (sC A) := by
  refine ro_ofWl (cc := cX1_trace) (maxL := 1) (by decide) rfl (Nat.le_of_ble_eq_true rfl) ?_
  intro p e s m below meth c args Q hx hb hml hown hts hB hQ ls hl
  have hown : s.vm.findClass RX1 = some m.cls := hown
  obtain ⟨hP, hK⟩ := hB
  have hin0 : ∀ w ∈ u_ws RX1 TX1 13, w ∈ wsX1_trace := fun _ h => List.mem_cons_of_mem _ (List.mem_append_right _ h)
  have hl : lv_has ls 1 [(0, .ref (h 0))] := hl
  refine lv_aload_n hx hb dX1_trace_0 rfl (lv_at hl 0 rfl) ?_
  refine va_get (D := D) (ci := 1) (v := .long (sC A)) (C := RX1) (T := TX1) (N := 13) hx hb hts hin0 hown hK hP 0 rfl rfl 11 (by decide) (hts (.fieldLink RX1 79 "VoicePartsModel" "trace" "J") (by decide +kernel)) (fun _ h9 => h9) rfl dX1_trace_1 ?_
  exact hQ dX1_trace_4 (rfl)
