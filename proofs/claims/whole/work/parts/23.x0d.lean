def rmX0_isBarred : Room := { frames := 0, cells := 0, slots := 0, locals := 0 }
set_option maxHeartbeats 4000000 in
set_option maxRecDepth 100000 in
/-- isBarred -/
theorem kX0_isBarred (l : Launch) (D : va_G) (h : Nat → Nat) (cI : ClassId) (A : St) (k i : Nat) (hk : k < 3) (hi : i < 14) : RO l yX0_isBarred wsX0_isBarred rmX0_isBarred [.ref (h 0), .int (nI (k * 14 + i))] (vB D (xw h cI A) [(cI, .int)]) (if sX A k i = true then 1 else 0) := by
  refine ro_ofWz (cc := cX0_isBarred) (maxL := 2) (by decide) rfl (Nat.le_of_ble_eq_true rfl) ?_
  intro p e s m below meth c args Q hx hb hml hown hts hB hQ ls hl
  have hown : s.vm.findClass RX0 = some m.cls := hown
  obtain ⟨hP, hK⟩ := hB
  have hin0 : ∀ w ∈ u_ws RX0 TX0 12, w ∈ wsX0_isBarred := fun _ h => List.mem_cons_of_mem _ (List.mem_append_right _ h)
  have hl : lv_has ls 2 [(0, .ref (h 0)), (1, .int (nI (k * 14 + i)))] := hl
  refine lv_aload_n hx hb dX0_isBarred_0 rfl (lv_at hl 0 rfl) ?_
  refine va_get (D := D) (ci := 0) (v := .long (bbOf (sX A))) (C := RX0) (T := TX0) (N := 12) hx hb hts hin0 hown hK hP 0 rfl rfl 5 (by decide) (hts (.fieldLink RX0 69 "VoiceParts" "barred" "J") (by decide +kernel)) (fun _ h9 => h9) rfl dX0_isBarred_1 ?_
  refine lv_iload_n hx hb dX0_isBarred_4 rfl (lv_at hl 1 rfl) ?_
  refine lv_lushr hx hb dX0_isBarred_5 rfl ?_
  refine lv_lconst (v := (1)) hx hb dX0_isBarred_6 (by decide) ?_
  refine lv_land hx hb dX0_isBarred_7 ?_
  refine n_topl (y := if sX A k i = true then 1 else 0) (bb_bit hk hi) ?_
  refine lv_lconst (v := (0)) hx hb dX0_isBarred_8 (by decide) ?_
  refine W.lcmp hx hb dX0_isBarred_9 ?_
  refine n_top (y := if sX A k i = true then 1 else 0) (lcz) ?_
  refine b_if_eq (tgt := 17) hx hb dX0_isBarred_10 (by decide) (fun c_10 => ?_) (fun c_10 => ?_)
  · refine lv_iconst (v := nI 0) hx hb dX0_isBarred_17 (by decide) ?_
    exact hQ dX0_isBarred_18 ((if_neg c_10).symm)
  · refine lv_iconst (v := nI 1) hx hb dX0_isBarred_13 (by decide) ?_
    refine lv_goto (tgt := 18) hx hb dX0_isBarred_14 (by decide) ?_
    exact hQ dX0_isBarred_18 ((if_pos c_10).symm)
def rmX0_traceOfKind : Room := { frames := 0, cells := 0, slots := 0, locals := 0 }
set_option maxHeartbeats 4000000 in
set_option maxRecDepth 100000 in
/-- traceOfKind -/
theorem kX0_traceOfKind (l : Launch)  (J : Nat) (hJ : J ≤ 2) : RO l yX0_traceOfKind wsX0_traceOfKind rmX0_traceOfKind [.int (nI J)] (vT) (nI (tkn J)) := by
  refine ro_ofW (cc := cX0_traceOfKind) (maxL := 1) (by decide) rfl (Nat.le_of_ble_eq_true rfl) ?_
  intro p e s m below meth c args Q hx hb hml hown hts hB hQ ls hl
  have hown : s.vm.findClass RX0 = some m.cls := hown
  have hl : lv_has ls 1 [(0, .int (nI J))] := hl
  refine lv_iload_n hx hb dX0_traceOfKind_0 rfl (lv_at hl 0 rfl) ?_
  rcases (show J = 0 ∨ J = 1 ∨ J = 2 by omega) with rfl | rfl | rfl
  · refine lv_lookup (off := 27) (tgt := 28) hx hb dX0_traceOfKind_1 (by decide) (by decide) (by decide) ?_
    refine lv_iconst (v := nI 1) hx hb dX0_traceOfKind_28 (by decide) ?_
    exact hQ dX0_traceOfKind_29 (rfl)
  · refine lv_lookup (off := 29) (tgt := 30) hx hb dX0_traceOfKind_1 (by decide) (by decide) (by decide) ?_
    refine lv_bipush (v := nI 11) hx hb dX0_traceOfKind_30 (by decide) ?_
    exact hQ dX0_traceOfKind_32 (rfl)
  · refine lv_lookup (off := 32) (tgt := 33) hx hb dX0_traceOfKind_1 (by decide) (by decide) (by decide) ?_
    refine lv_bipush (v := nI 111) hx hb dX0_traceOfKind_33 (by decide) ?_
    exact hQ dX0_traceOfKind_35 (rfl)
def rmX0_set : Room := { frames := 2, cells := 0, slots := 0, locals := 44 }
set_option maxHeartbeats 4000000 in
set_option maxRecDepth 100000 in
/-- set -/
theorem kX0_set (l : Launch) (D : va_G) (h : Nat → Nat) (cI : ClassId) (A : St) (hI : Inv A) (x y v : Int32) : MU l yX0_set wsX0_set rmX0_set [.ref (h 0), .int x, .int y, .int v] D [(cI, .int)] (xw h cI A) (xw h cI (nSet A x y v)) (some (.int (aSet A x y v))) := by
  refine mu_ofW (cc := cX0_set) (maxL := 5) (by decide) rfl (Nat.le_of_ble_eq_true rfl) ?_
  intro p e s m below meth c args Q G H locs hx hb hml hown hts hP hK hD hS hQ ls hl
  have hown : s.vm.findClass RX0 = some m.cls := hown
  have hin0 : ∀ w ∈ u_ws RX0 TX0 12, w ∈ wsX0_set := fun _ h => List.mem_cons_of_mem _ (List.mem_append_right _ h)
  have hl : lv_has ls 5 [(0, .ref (h 0)), (1, .int x), (2, .int y), (3, .int v)] := hl
  have hF := hI.F
  have hT := hI.T
  have hK3 := hI.K
  have hJ := hI.J
  have hZ := hI.Z
  refine lv_aload_n hx hb dX0_set_0 rfl (lv_at hl 0 rfl) ?_
  refine lv_iload_n hx hb dX0_set_1 rfl (lv_at hl 1 rfl) ?_
  refine lv_iload_n hx hb dX0_set_2 rfl (lv_at hl 2 rfl) ?_
  refine ro_callV (As := [.int x, .int y]) (rest := []) ⟨hx, hb, hml, hown, hts⟩ (kX0_isCell l D h cI A hI (x) (y)) (cwV 2 hts gX0_set_X0_isCell rfl rfl rfl (by decide +kernel) ⟨Nat.le_of_ble_eq_true rfl, Nat.le_of_ble_eq_true rfl⟩) vB_bl (vB_at hP hK) (va_recv hK hP (ci := 0) (q0 := 0) rfl rfl) rfl hl.1 rfl (Nat.le_of_ble_eq_true rfl) dX0_set_3 ⟨Nat.zero_le _, Nat.zero_le _⟩ ?_
  refine b_if_eq (tgt := 19) hx hb dX0_set_6 (by decide) (fun c_6 => ?_) (fun c_6 => ?_)
  · refine lv_iconst (v := (-1)) hx hb dX0_set_19 (by decide) ?_
    exact hQ dX0_set_20 (by unfold aSet; rw [if_neg (fun q => c_6 q.1)]) (by unfold nSet; rw [if_neg (fun q => c_6 q.1)]; exact hP) hS
  · refine lv_iload_n hx hb dX0_set_9 rfl (lv_at hl 3 rfl) ?_
    refine lv_iconst (v := nI 0) hx hb dX0_set_10 (by decide) ?_
    refine lv_bipush (v := nI 99) hx hb dX0_set_11 (by decide) ?_
    refine ro_callS (As := [.int v, .int (nI 0), .int (nI 99)]) (rest := []) ⟨hx, hb, hml, hown, hts⟩ (kX0_within l (v) (nI 0) (nI 99)) (va_cwS 3 hts gX0_set_X0_within rfl rfl rfl (by decide +kernel) ⟨Nat.le_of_ble_eq_true rfl, Nat.le_of_ble_eq_true rfl⟩) vT_bl vT_at rfl hl.1 rfl (Nat.le_of_ble_eq_true rfl) dX0_set_13 ⟨Nat.zero_le _, Nat.zero_le _⟩ ?_
    refine b_if_ne (tgt := 21) hx hb dX0_set_16 (by decide) (fun c_16 => ?_) (fun c_16 => ?_)
    · obtain ⟨f, hf, rfl⟩ := iN_of (n := sF A) c_6.1 (by omega) (by omega)
      obtain ⟨t, ht, rfl⟩ := iN_of (n := sT A) c_6.2 (by omega) (by omega)
      refine lv_aload_n hx hb dX0_set_21 rfl (lv_at hl 0 rfl) ?_
      refine lv_iload_n hx hb dX0_set_22 rfl (lv_at hl 1 rfl) ?_
      refine lv_iload_n hx hb dX0_set_23 rfl (lv_at hl 2 rfl) ?_
      refine ro_callV (As := [.int (nI f), .int (nI t)]) (rest := []) ⟨hx, hb, hml, hown, hts⟩ (kX0_boardAt l D h cI A (f) (t) (by omega) (by omega)) (cwV 2 hts gX0_set_X0_boardAt rfl rfl rfl (by decide +kernel) ⟨Nat.le_of_ble_eq_true rfl, Nat.le_of_ble_eq_true rfl⟩) vB_bl (vB_at hP hK) (va_recv hK hP (ci := 0) (q0 := 0) rfl rfl) rfl hl.1 rfl (Nat.le_of_ble_eq_true rfl) dX0_set_24 ⟨Nat.zero_le _, Nat.zero_le _⟩ ?_
      refine lv_istore (lv' := [(4, .int (sB A (f * 8 + t))), (0, .ref (h 0)), (1, .int (nI f)), (2, .int (nI t)), (3, .int v)]) hx hb dX0_set_27 hl (by decide) rfl (fun ls hl => ?_)
      refine lv_aload_n hx hb dX0_set_29 rfl (lv_at hl 1 rfl) ?_
      refine va_get (D := D) (ci := 0) (v := .ref (h 1)) (C := RX0) (T := TX0) (N := 12) hx hb hts hin0 hown hK hP 0 rfl rfl 3 (by decide) (hts (.fieldLink RX0 9 "VoiceParts" "boardNumbers" "[I") (by decide +kernel)) (fun _ h9 => h9) rfl dX0_set_30 ?_
      refine lv_iload_n hx hb dX0_set_33 rfl (lv_at hl 2 rfl) ?_
      refine lv_iload_n hx hb dX0_set_34 rfl (lv_at hl 3 rfl) ?_
      refine ro_callS (As := [.int (nI f), .int (nI t)]) (rest := [.ref (h 1)]) ⟨hx, hb, hml, hown, hts⟩ (kX0_cell l (f) (t)) (va_cwS 2 hts gX0_set_X0_cell rfl rfl rfl (by decide +kernel) ⟨Nat.le_of_ble_eq_true rfl, Nat.le_of_ble_eq_true rfl⟩) vT_bl vT_at rfl hl.1 rfl (Nat.le_of_ble_eq_true rfl) dX0_set_35 ⟨Nat.zero_le _, Nat.zero_le _⟩ ?_
      refine lv_iload_n hx hb dX0_set_38 rfl (lv_at hl 4 rfl) ?_
      refine n_iast hx hb hK hP hD hS 1 0 rfl rfl (by omega) (by decide) dX0_set_39 (fun H locs hP hD hS => ?_)
      obtain ⟨A1, eA1⟩ : ∃ z : St, z = uB A (upd (sB A) (f * 8 + t) (v)) := ⟨_, rfl⟩
      have hP : va_P D vwCl (xw h cI A1) H := by rw [eA1]; exact hP
      have hD : va_D G (xw h cI A1) := va_D.to hD rfl
      refine lv_iload hx hb dX0_set_40 (lv_at hl 0 rfl) ?_
      exact hQ dX0_set_42 (by unfold aSet; rw [if_pos ⟨c_6, c_16⟩, cl_nI (n := f) (by omega), cl_nI (n := t) (by omega)]) (by rw [eA1] at hP; unfold nSet; rw [if_pos ⟨c_6, c_16⟩, cl_nI (n := f) (by omega), cl_nI (n := t) (by omega)]; exact hP) hS
    · refine lv_iconst (v := (-1)) hx hb dX0_set_19 (by decide) ?_
      exact hQ dX0_set_20 (by unfold aSet; rw [if_neg (fun q => c_16 q.2)]) (by unfold nSet; rw [if_neg (fun q => c_16 q.2)]; exact hP) hS
def rmX0_judge : Room := { frames := 2, cells := 0, slots := 0, locals := 42 }
set_option maxHeartbeats 4000000 in
set_option maxRecDepth 100000 in
/-- judge -/
theorem kX0_judge (l : Launch) (D : va_G) (h : Nat → Nat) (cI : ClassId) (A : St) (hI : Inv A) (x : Int32) : MU l yX0_judge wsX0_judge rmX0_judge [.ref (h 0), .int x] D [(cI, .int)] (xw h cI A) (xw h cI (nJu A x)) (some (.int (aJu A x))) := by
  refine mu_ofW (cc := cX0_judge) (maxL := 3) (by decide) rfl (Nat.le_of_ble_eq_true rfl) ?_
  intro p e s m below meth c args Q G H locs hx hb hml hown hts hP hK hD hS hQ ls hl
  have hown : s.vm.findClass RX0 = some m.cls := hown
  have hin0 : ∀ w ∈ u_ws RX0 TX0 12, w ∈ wsX0_judge := fun _ h => List.mem_cons_of_mem _ (List.mem_append_right _ h)
  have hl : lv_has ls 3 [(0, .ref (h 0)), (1, .int x)] := hl
  have hF := hI.F
  have hT := hI.T
  have hK3 := hI.K
  have hJ := hI.J
  have hZ := hI.Z
  refine lv_iload_n hx hb dX0_judge_0 rfl (lv_at hl 1 rfl) ?_
  refine ro_callS (As := [.int x]) (rest := []) ⟨hx, hb, hml, hown, hts⟩ (kX0_isKind l (x)) (va_cwS 1 hts gX0_judge_X0_isKind rfl rfl rfl (by decide +kernel) ⟨Nat.le_of_ble_eq_true rfl, Nat.le_of_ble_eq_true rfl⟩) vT_bl vT_at rfl hl.1 rfl (Nat.le_of_ble_eq_true rfl) dX0_judge_1 ⟨Nat.zero_le _, Nat.zero_le _⟩ ?_
  refine b_if_ne (tgt := 9) hx hb dX0_judge_4 (by decide) (fun c_4 => ?_) (fun c_4 => ?_)
  · obtain ⟨j, hj, rfl⟩ := iN_of (n := 3) c_4 (by decide) (by decide)
    refine lv_aload_n hx hb dX0_judge_9 rfl (lv_at hl 0 rfl) ?_
    refine va_get (D := D) (ci := 0) (v := .int (nI (sJ A))) (C := RX0) (T := TX0) (N := 12) hx hb hts hin0 hown hK hP 0 rfl rfl 9 (by decide) (hts (.fieldLink RX0 29 "VoiceParts" "judgeKind" "I") (by decide +kernel)) (fun _ h9 => h9) rfl dX0_judge_10 ?_
    refine lv_istore_n (lv' := [(2, .int (nI (sJ A))), (0, .ref (h 0)), (1, .int (nI j))]) hx hb dX0_judge_13 rfl hl (by decide) rfl (fun ls hl => ?_)
    refine lv_aload_n hx hb dX0_judge_14 rfl (lv_at hl 1 rfl) ?_
    refine lv_iload_n hx hb dX0_judge_15 rfl (lv_at hl 2 rfl) ?_
    refine va_put (D := D) (ci := 0) (v := .int (nI j)) (ty := .int) (C := RX0) (T := TX0) (N := 12) hx hb hts hin0 tyX0 tyX0_ok nmX0 hown hK hP hD hS 0 rfl rfl 9 (by decide) (hts (.fieldLink RX0 29 "VoiceParts" "judgeKind" "I") (by decide +kernel)) (fun _ h9 => h9) rfl (by decide +kernel) rfl rfl (Nat.le_of_ble_eq_true rfl) dX0_judge_16 (fun H locs hP hD hS => ?_)
    obtain ⟨A1, eA1⟩ : ∃ z : St, z = uJ A (j) := ⟨_, rfl⟩
    have hP : va_P D vwCl (xw h cI A1) H := by rw [eA1]; exact hP
    have hD : va_D G (xw h cI A1) := va_D.to hD rfl
    refine lv_iload_n hx hb dX0_judge_19 rfl (lv_at hl 0 rfl) ?_
    exact hQ dX0_judge_20 (by unfold aJu; rw [if_pos c_4]) (by rw [eA1] at hP; unfold nJu; rw [if_pos c_4, cl_nI (n := j) (by omega)]; exact hP) hS
  · refine lv_iconst (v := (-1)) hx hb dX0_judge_7 (by decide) ?_
    exact hQ dX0_judge_8 (by unfold aJu; rw [if_neg c_4]) (by unfold nJu; rw [if_neg c_4]; exact hP) hS
def rmX0_cost : Room := { frames := 2, cells := 0, slots := 0, locals := 42 }
set_option maxHeartbeats 4000000 in
set_option maxRecDepth 100000 in
/-- cost -/
theorem kX0_cost (l : Launch) (D : va_G) (h : Nat → Nat) (cI : ClassId) (A : St) (hI : Inv A) (x d : Int32) : MU l yX0_cost wsX0_cost rmX0_cost [.ref (h 0), .int x, .int d] D [(cI, .int)] (xw h cI A) (xw h cI (nCs A x d)) (some (.int (aCs x d))) := by
  refine mu_ofW (cc := cX0_cost) (maxL := 3) (by decide) rfl (Nat.le_of_ble_eq_true rfl) ?_
  intro p e s m below meth c args Q G H locs hx hb hml hown hts hP hK hD hS hQ ls hl
  have hown : s.vm.findClass RX0 = some m.cls := hown
  have hin0 : ∀ w ∈ u_ws RX0 TX0 12, w ∈ wsX0_cost := fun _ h => List.mem_cons_of_mem _ (List.mem_append_right _ h)
  have hl : lv_has ls 3 [(0, .ref (h 0)), (1, .int x), (2, .int d)] := hl
  have hF := hI.F
  have hT := hI.T
  have hK3 := hI.K
  have hJ := hI.J
  have hZ := hI.Z
  refine lv_iload_n hx hb dX0_cost_0 rfl (lv_at hl 1 rfl) ?_
  refine ro_callS (As := [.int x]) (rest := []) ⟨hx, hb, hml, hown, hts⟩ (kX0_isKind l (x)) (va_cwS 1 hts gX0_cost_X0_isKind rfl rfl rfl (by decide +kernel) ⟨Nat.le_of_ble_eq_true rfl, Nat.le_of_ble_eq_true rfl⟩) vT_bl vT_at rfl hl.1 rfl (Nat.le_of_ble_eq_true rfl) dX0_cost_1 ⟨Nat.zero_le _, Nat.zero_le _⟩ ?_
  refine b_if_eq (tgt := 18) hx hb dX0_cost_4 (by decide) (fun c_4 => ?_) (fun c_4 => ?_)
  · refine lv_iconst (v := (-1)) hx hb dX0_cost_18 (by decide) ?_
    exact hQ dX0_cost_19 (by unfold aCs; rw [if_neg (fun q => c_4 q.1)]) (by unfold nCs; rw [if_neg (fun q => c_4 q.1)]; exact hP) hS
  · refine lv_iload_n hx hb dX0_cost_7 rfl (lv_at hl 2 rfl) ?_
    refine lv_iconst (v := nI 0) hx hb dX0_cost_8 (by decide) ?_
    refine lv_sipush (v := nI 2000) hx hb dX0_cost_9 (by decide) ?_
    refine ro_callS (As := [.int d, .int (nI 0), .int (nI 2000)]) (rest := []) ⟨hx, hb, hml, hown, hts⟩ (kX0_within l (d) (nI 0) (nI 2000)) (va_cwS 3 hts gX0_cost_X0_within rfl rfl rfl (by decide +kernel) ⟨Nat.le_of_ble_eq_true rfl, Nat.le_of_ble_eq_true rfl⟩) vT_bl vT_at rfl hl.1 rfl (Nat.le_of_ble_eq_true rfl) dX0_cost_12 ⟨Nat.zero_le _, Nat.zero_le _⟩ ?_
    refine b_if_ne (tgt := 20) hx hb dX0_cost_15 (by decide) (fun c_15 => ?_) (fun c_15 => ?_)
    · obtain ⟨j, hj, rfl⟩ := iN_of (n := 3) c_4 (by decide) (by decide)
      refine lv_aload_n hx hb dX0_cost_20 rfl (lv_at hl 0 rfl) ?_
      refine lv_dup hx hb dX0_cost_21 rfl ?_
      refine va_get (D := D) (ci := 0) (v := .long (sC A)) (C := RX0) (T := TX0) (N := 12) hx hb hts hin0 hown hK hP 0 rfl rfl 11 (by decide) (hts (.fieldLink RX0 76 "VoiceParts" "traceSum" "J") (by decide +kernel)) (fun _ h9 => h9) rfl dX0_cost_22 ?_
      refine lv_iload_n hx hb dX0_cost_25 rfl (lv_at hl 1 rfl) ?_
      refine ro_callS (As := [.int (nI j)]) (rest := [.long (sC A), .ref (h 0)]) ⟨hx, hb, hml, hown, hts⟩ (kX0_traceOfKind l  (j) (by omega)) (va_cwS 1 hts gX0_cost_X0_traceOfKind rfl rfl rfl (by decide +kernel) ⟨Nat.le_of_ble_eq_true rfl, Nat.le_of_ble_eq_true rfl⟩) vT_bl vT_at rfl hl.1 rfl (Nat.le_of_ble_eq_true rfl) dX0_cost_26 ⟨Nat.zero_le _, Nat.zero_le _⟩ ?_
      refine lv_i2l hx hb dX0_cost_29 rfl ?_
      refine n_topl (y := tk j) (tk_eq (by omega)) ?_
      refine lv_ladd hx hb dX0_cost_30 ?_
      refine va_put (D := D) (ci := 0) (v := .long ((sC A) + (tk j))) (ty := .long) (C := RX0) (T := TX0) (N := 12) hx hb hts hin0 tyX0 tyX0_ok nmX0 hown hK hP hD hS 0 rfl rfl 11 (by decide) (hts (.fieldLink RX0 76 "VoiceParts" "traceSum" "J") (by decide +kernel)) (fun _ h9 => h9) rfl (by decide +kernel) rfl rfl (Nat.le_of_ble_eq_true rfl) dX0_cost_31 (fun H locs hP hD hS => ?_)
      obtain ⟨A1, eA1⟩ : ∃ z : St, z = uC A ((sC A) + (tk j)) := ⟨_, rfl⟩
      have hP : va_P D vwCl (xw h cI A1) H := by rw [eA1]; exact hP
      have hD : va_D G (xw h cI A1) := va_D.to hD rfl
      refine lv_iload_n hx hb dX0_cost_34 rfl (lv_at hl 1 rfl) ?_
      refine lv_iload_n hx hb dX0_cost_35 rfl (lv_at hl 2 rfl) ?_
      refine ro_callS (As := [.int (nI j), .int d]) (rest := []) ⟨hx, hb, hml, hown, hts⟩ (kX0_costBy l (j) (d) (by omega)) (va_cwS 2 hts gX0_cost_X0_costBy rfl rfl rfl (by decide +kernel) ⟨Nat.le_of_ble_eq_true rfl, Nat.le_of_ble_eq_true rfl⟩) vT_bl vT_at rfl hl.1 rfl (Nat.le_of_ble_eq_true rfl) dX0_cost_36 ⟨Nat.zero_le _, Nat.zero_le _⟩ ?_
      exact hQ dX0_cost_39 (by unfold aCs; rw [if_pos ⟨c_4, c_15⟩, cl_nI (n := j) (by omega)]) (by rw [eA1] at hP; unfold nCs; rw [if_pos ⟨c_4, c_15⟩, cl_nI (n := j) (by omega)]; exact hP) hS
    · refine lv_iconst (v := (-1)) hx hb dX0_cost_18 (by decide) ?_
      exact hQ dX0_cost_19 (by unfold aCs; rw [if_neg (fun q => c_15 q.2)]) (by unfold nCs; rw [if_neg (fun q => c_15 q.2)]; exact hP) hS
def rmX0_hear : Room := { frames := 2, cells := 0, slots := 0, locals := 42 }
set_option maxHeartbeats 4000000 in
set_option maxRecDepth 100000 in
/-- hear -/
theorem kX0_hear (l : Launch) (D : va_G) (h : Nat → Nat) (cI : ClassId) (A : St) (hI : Inv A) (r v : Int32) : MU l yX0_hear wsX0_hear rmX0_hear [.ref (h 0), .int r, .int v] D [(cI, .int)] (xw h cI A) (xw h cI (nHe A r v)) (some (.int (aHe A r v))) := by
  refine mu_ofW (cc := cX0_hear) (maxL := 4) (by decide) rfl (Nat.le_of_ble_eq_true rfl) ?_
  intro p e s m below meth c args Q G H locs hx hb hml hown hts hP hK hD hS hQ ls hl
  have hown : s.vm.findClass RX0 = some m.cls := hown
  have hin0 : ∀ w ∈ u_ws RX0 TX0 12, w ∈ wsX0_hear := fun _ h => List.mem_cons_of_mem _ (List.mem_append_right _ h)
  have hl : lv_has ls 4 [(0, .ref (h 0)), (1, .int r), (2, .int v)] := hl
  have hF := hI.F
  have hT := hI.T
  have hK3 := hI.K
  have hJ := hI.J
  have hZ := hI.Z
  refine lv_iload_n hx hb dX0_hear_0 rfl (lv_at hl 1 rfl) ?_
  refine ro_callS (As := [.int r]) (rest := []) ⟨hx, hb, hml, hown, hts⟩ (kX0_isRow l (r)) (va_cwS 1 hts gX0_hear_X0_isRow rfl rfl rfl (by decide +kernel) ⟨Nat.le_of_ble_eq_true rfl, Nat.le_of_ble_eq_true rfl⟩) vT_bl vT_at rfl hl.1 rfl (Nat.le_of_ble_eq_true rfl) dX0_hear_1 ⟨Nat.zero_le _, Nat.zero_le _⟩ ?_
  refine b_if_eq (tgt := 20) hx hb dX0_hear_4 (by decide) (fun c_4 => ?_) (fun c_4 => ?_)
  · refine lv_iconst (v := (-1)) hx hb dX0_hear_20 (by decide) ?_
    exact hQ dX0_hear_21 (by unfold aHe; rw [if_neg (fun q => c_4 q.1)]) (by unfold nHe; rw [if_neg (fun q => c_4 q.1.1)]; exact hP) hS
  · refine lv_iload_n hx hb dX0_hear_7 rfl (lv_at hl 2 rfl) ?_
    refine lv_sipush (v := (-1000)) hx hb dX0_hear_8 (by decide) ?_
    refine lv_sipush (v := nI 1000) hx hb dX0_hear_11 (by decide) ?_
    refine ro_callS (As := [.int v, .int (-1000), .int (nI 1000)]) (rest := []) ⟨hx, hb, hml, hown, hts⟩ (kX0_within l (v) ((-1000)) (nI 1000)) (va_cwS 3 hts gX0_hear_X0_within rfl rfl rfl (by decide +kernel) ⟨Nat.le_of_ble_eq_true rfl, Nat.le_of_ble_eq_true rfl⟩) vT_bl vT_at rfl hl.1 rfl (Nat.le_of_ble_eq_true rfl) dX0_hear_14 ⟨Nat.zero_le _, Nat.zero_le _⟩ ?_
    refine b_if_ne (tgt := 22) hx hb dX0_hear_17 (by decide) (fun c_17 => ?_) (fun c_17 => ?_)
    · obtain ⟨rr, hrr, rfl⟩ := iN_of (n := 2) c_4 (by decide) (by decide)
      have hzb : sZ A rr ≤ 8 := by rcases (show rr = 0 ∨ rr = 1 by omega) with rfl | rfl; exact hZ.1; exact hZ.2
      refine lv_aload_n hx hb dX0_hear_22 rfl (lv_at hl 0 rfl) ?_
      refine va_get (D := D) (ci := 0) (v := .ref (h 5)) (C := RX0) (T := TX0) (N := 12) hx hb hts hin0 hown hK hP 0 rfl rfl 8 (by decide) (hts (.fieldLink RX0 22 "VoiceParts" "rowSizes" "[I") (by decide +kernel)) (fun _ h9 => h9) rfl dX0_hear_23 ?_
      refine lv_iload_n hx hb dX0_hear_26 rfl (lv_at hl 1 rfl) ?_
      refine n_iald hx hb hK hP 5 0 rfl rfl (by omega) (by decide) dX0_hear_27 ?_
      refine lv_istore_n (lv' := [(3, .int (nI (sZ A (rr)))), (0, .ref (h 0)), (1, .int (nI rr)), (2, .int v)]) hx hb dX0_hear_28 rfl hl (by decide) rfl (fun ls hl => ?_)
      refine lv_iload_n hx hb dX0_hear_29 rfl (lv_at hl 0 rfl) ?_
      refine lv_bipush (v := nI 8) hx hb dX0_hear_30 (by decide) ?_
      refine n_icmp_lt (tgt := 38) hx hb (by omega) (by omega) dX0_hear_32 (by decide) (fun c_32 => ?_) (fun c_32 => ?_)
      · refine lv_aload_n hx hb dX0_hear_38 rfl (lv_at hl 1 rfl) ?_
        refine va_get (D := D) (ci := 0) (v := .ref (h 4)) (C := RX0) (T := TX0) (N := 12) hx hb hts hin0 hown hK hP 0 rfl rfl 7 (by decide) (hts (.fieldLink RX0 19 "VoiceParts" "rowNumbers" "[I") (by decide +kernel)) (fun _ h9 => h9) rfl dX0_hear_39 ?_
        refine lv_iload_n hx hb dX0_hear_42 rfl (lv_at hl 2 rfl) ?_
        refine lv_bipush (v := nI 8) hx hb dX0_hear_43 (by decide) ?_
        refine n_imul hx hb dX0_hear_45 ?_
        refine lv_iload_n hx hb dX0_hear_46 rfl (lv_at hl 0 rfl) ?_
        refine n_iadd hx hb dX0_hear_47 ?_
        refine lv_iload_n hx hb dX0_hear_48 rfl (lv_at hl 3 rfl) ?_
        refine n_iast hx hb hK hP hD hS 4 0 rfl rfl (by omega) (by decide) dX0_hear_49 (fun H locs hP hD hS => ?_)
        obtain ⟨A1, eA1⟩ : ∃ z : St, z = uR A (upd (sR A) (rr * 8 + (sZ A (rr))) (v)) := ⟨_, rfl⟩
        have hP : va_P D vwCl (xw h cI A1) H := by rw [eA1]; exact hP
        have hD : va_D G (xw h cI A1) := va_D.to hD rfl
        refine lv_aload_n hx hb dX0_hear_50 rfl (lv_at hl 1 rfl) ?_
        refine va_get (D := D) (ci := 0) (v := .ref (h 5)) (C := RX0) (T := TX0) (N := 12) hx hb hts hin0 hown hK hP 0 rfl rfl 8 (by decide) (hts (.fieldLink RX0 22 "VoiceParts" "rowSizes" "[I") (by decide +kernel)) (fun _ h9 => h9) rfl dX0_hear_51 ?_
        refine lv_iload_n hx hb dX0_hear_54 rfl (lv_at hl 2 rfl) ?_
        refine lv_iload_n hx hb dX0_hear_55 rfl (lv_at hl 0 rfl) ?_
        refine lv_iconst (v := nI 1) hx hb dX0_hear_56 (by decide) ?_
        refine n_iadd hx hb dX0_hear_57 ?_
        refine n_iast hx hb hK hP hD hS 5 0 rfl rfl (by omega) (by decide) dX0_hear_58 (fun H locs hP hD hS => ?_)
        obtain ⟨A2, eA2⟩ : ∃ z : St, z = uZ A1 (upN (sZ A1) (rr) (sZ A (rr) + 1)) := ⟨_, rfl⟩
        have hP : va_P D vwCl (xw h cI A2) H := by rw [eA2]; have z := hP; rw [zup] at z; exact z
        have hD : va_D G (xw h cI A2) := va_D.to hD rfl
        refine lv_iload_n hx hb dX0_hear_59 rfl (lv_at hl 0 rfl) ?_
        refine lv_iconst (v := nI 1) hx hb dX0_hear_60 (by decide) ?_
        refine n_iadd hx hb dX0_hear_61 ?_
        exact hQ dX0_hear_62 (by unfold aHe; rw [if_pos ⟨c_4, c_17⟩, cl_nI (n := rr) (by omega), if_pos c_32]) (by rw [eA2, eA1] at hP; unfold nHe; rw [cl_nI (n := rr) (by omega), if_pos ⟨⟨c_4, c_17⟩, c_32⟩]; exact hP) hS
      · refine lv_bipush (v := (-3)) hx hb dX0_hear_35 (by decide) ?_
        exact hQ dX0_hear_37 (by unfold aHe; rw [if_pos ⟨c_4, c_17⟩, cl_nI (n := rr) (by omega), if_neg c_32]) (by unfold nHe; rw [cl_nI (n := rr) (by omega), if_neg (fun q => c_32 q.2)]; exact hP) hS
    · refine lv_iconst (v := (-1)) hx hb dX0_hear_20 (by decide) ?_
      exact hQ dX0_hear_21 (by unfold aHe; rw [if_neg (fun q => c_17 q.2)]) (by unfold nHe; rw [if_neg (fun q => c_17 q.1.2)]; exact hP) hS
def rmX0_clear : Room := { frames := 2, cells := 0, slots := 0, locals := 42 }
set_option maxHeartbeats 4000000 in
set_option maxRecDepth 100000 in
/-- clear -/
theorem kX0_clear (l : Launch) (D : va_G) (h : Nat → Nat) (cI : ClassId) (A : St) (hI : Inv A) (r : Int32) : MU l yX0_clear wsX0_clear rmX0_clear [.ref (h 0), .int r] D [(cI, .int)] (xw h cI A) (xw h cI (nCl A r)) (some (.int (aCl A r))) := by
  refine mu_ofW (cc := cX0_clear) (maxL := 3) (by decide) rfl (Nat.le_of_ble_eq_true rfl) ?_
  intro p e s m below meth c args Q G H locs hx hb hml hown hts hP hK hD hS hQ ls hl
  have hown : s.vm.findClass RX0 = some m.cls := hown
  have hin0 : ∀ w ∈ u_ws RX0 TX0 12, w ∈ wsX0_clear := fun _ h => List.mem_cons_of_mem _ (List.mem_append_right _ h)
  have hl : lv_has ls 3 [(0, .ref (h 0)), (1, .int r)] := hl
  have hF := hI.F
  have hT := hI.T
  have hK3 := hI.K
  have hJ := hI.J
  have hZ := hI.Z
  refine lv_iload_n hx hb dX0_clear_0 rfl (lv_at hl 1 rfl) ?_
  refine ro_callS (As := [.int r]) (rest := []) ⟨hx, hb, hml, hown, hts⟩ (kX0_isRow l (r)) (va_cwS 1 hts gX0_clear_X0_isRow rfl rfl rfl (by decide +kernel) ⟨Nat.le_of_ble_eq_true rfl, Nat.le_of_ble_eq_true rfl⟩) vT_bl vT_at rfl hl.1 rfl (Nat.le_of_ble_eq_true rfl) dX0_clear_1 ⟨Nat.zero_le _, Nat.zero_le _⟩ ?_
  refine b_if_ne (tgt := 9) hx hb dX0_clear_4 (by decide) (fun c_4 => ?_) (fun c_4 => ?_)
  · obtain ⟨rr, hrr, rfl⟩ := iN_of (n := 2) c_4 (by decide) (by decide)
    have hzb : sZ A rr ≤ 8 := by rcases (show rr = 0 ∨ rr = 1 by omega) with rfl | rfl; exact hZ.1; exact hZ.2
    refine lv_aload_n hx hb dX0_clear_9 rfl (lv_at hl 0 rfl) ?_
    refine va_get (D := D) (ci := 0) (v := .ref (h 5)) (C := RX0) (T := TX0) (N := 12) hx hb hts hin0 hown hK hP 0 rfl rfl 8 (by decide) (hts (.fieldLink RX0 22 "VoiceParts" "rowSizes" "[I") (by decide +kernel)) (fun _ h9 => h9) rfl dX0_clear_10 ?_
    refine lv_iload_n hx hb dX0_clear_13 rfl (lv_at hl 1 rfl) ?_
    refine n_iald hx hb hK hP 5 0 rfl rfl (by omega) (by decide) dX0_clear_14 ?_
    refine lv_istore_n (lv' := [(2, .int (nI (sZ A (rr)))), (0, .ref (h 0)), (1, .int (nI rr))]) hx hb dX0_clear_15 rfl hl (by decide) rfl (fun ls hl => ?_)
    refine lv_aload_n hx hb dX0_clear_16 rfl (lv_at hl 1 rfl) ?_
    refine va_get (D := D) (ci := 0) (v := .ref (h 5)) (C := RX0) (T := TX0) (N := 12) hx hb hts hin0 hown hK hP 0 rfl rfl 8 (by decide) (hts (.fieldLink RX0 22 "VoiceParts" "rowSizes" "[I") (by decide +kernel)) (fun _ h9 => h9) rfl dX0_clear_17 ?_
    refine lv_iload_n hx hb dX0_clear_20 rfl (lv_at hl 2 rfl) ?_
    refine lv_iconst (v := nI 0) hx hb dX0_clear_21 (by decide) ?_
    refine n_iast hx hb hK hP hD hS 5 0 rfl rfl (by omega) (by decide) dX0_clear_22 (fun H locs hP hD hS => ?_)
    obtain ⟨A1, eA1⟩ : ∃ z : St, z = uZ A (upN (sZ A) (rr) (0)) := ⟨_, rfl⟩
    have hP : va_P D vwCl (xw h cI A1) H := by rw [eA1]; have z := hP; rw [zup] at z; exact z
    have hD : va_D G (xw h cI A1) := va_D.to hD rfl
    refine lv_iload_n hx hb dX0_clear_23 rfl (lv_at hl 0 rfl) ?_
    exact hQ dX0_clear_24 (by unfold aCl; rw [if_pos c_4, cl_nI (n := rr) (by omega)]) (by rw [eA1] at hP; unfold nCl; rw [if_pos c_4, cl_nI (n := rr) (by omega)]; exact hP) hS
  · refine lv_iconst (v := (-1)) hx hb dX0_clear_7 (by decide) ?_
    exact hQ dX0_clear_8 (by unfold aCl; rw [if_neg c_4]) (by unfold nCl; rw [if_neg c_4]; exact hP) hS
def rmX0_truth : Room := { frames := 2, cells := 0, slots := 0, locals := 44 }
set_option maxHeartbeats 4000000 in
set_option maxRecDepth 100000 in
/-- truth -/
theorem kX0_truth (l : Launch) (D : va_G) (h : Nat → Nat) (cI : ClassId) (A : St) (hI : Inv A) (z x y v : Int32) : MU l yX0_truth wsX0_truth rmX0_truth [.ref (h 0), .int z, .int x, .int y, .int v] D [(cI, .int)] (xw h cI A) (xw h cI (nTr A z x y v)) (some (.int (aTr A z x y v))) := by
  refine mu_ofW (cc := cX0_truth) (maxL := 7) (by decide) rfl (Nat.le_of_ble_eq_true rfl) ?_
  intro p e s m below meth c args Q G H locs hx hb hml hown hts hP hK hD hS hQ ls hl
  have hown : s.vm.findClass RX0 = some m.cls := hown
  have hin0 : ∀ w ∈ u_ws RX0 TX0 12, w ∈ wsX0_truth := fun _ h => List.mem_cons_of_mem _ (List.mem_append_right _ h)
  have hl : lv_has ls 7 [(0, .ref (h 0)), (1, .int z), (2, .int x), (3, .int y), (4, .int v)] := hl
  have hF := hI.F
  have hT := hI.T
  have hK3 := hI.K
  have hJ := hI.J
  have hZ := hI.Z
  refine lv_aload_n hx hb dX0_truth_0 rfl (lv_at hl 0 rfl) ?_
  refine lv_iload_n hx hb dX0_truth_1 rfl (lv_at hl 1 rfl) ?_
  refine ro_callV (As := [.int z]) (rest := []) ⟨hx, hb, hml, hown, hts⟩ (kX0_isVoice l D h cI A hI (z)) (cwV 1 hts gX0_truth_X0_isVoice rfl rfl rfl (by decide +kernel) ⟨Nat.le_of_ble_eq_true rfl, Nat.le_of_ble_eq_true rfl⟩) vB_bl (vB_at hP hK) (va_recv hK hP (ci := 0) (q0 := 0) rfl rfl) rfl hl.1 rfl (Nat.le_of_ble_eq_true rfl) dX0_truth_2 ⟨Nat.zero_le _, Nat.zero_le _⟩ ?_
  refine b_if_eq (tgt := 28) hx hb dX0_truth_5 (by decide) (fun c_5 => ?_) (fun c_5 => ?_)
  · refine lv_iconst (v := (-1)) hx hb dX0_truth_28 (by decide) ?_
    exact hQ dX0_truth_29 (by unfold aTr; rw [if_neg (fun q => c_5 q.1)]) (by unfold nTr; rw [if_neg (fun q => c_5 q.1)]; exact hP) hS
  · refine lv_aload_n hx hb dX0_truth_8 rfl (lv_at hl 0 rfl) ?_
    refine lv_iload_n hx hb dX0_truth_9 rfl (lv_at hl 2 rfl) ?_
    refine lv_iload_n hx hb dX0_truth_10 rfl (lv_at hl 3 rfl) ?_
    refine ro_callV (As := [.int x, .int y]) (rest := []) ⟨hx, hb, hml, hown, hts⟩ (kX0_isCell l D h cI A hI (x) (y)) (cwV 2 hts gX0_truth_X0_isCell rfl rfl rfl (by decide +kernel) ⟨Nat.le_of_ble_eq_true rfl, Nat.le_of_ble_eq_true rfl⟩) vB_bl (vB_at hP hK) (va_recv hK hP (ci := 0) (q0 := 0) rfl rfl) rfl hl.1 rfl (Nat.le_of_ble_eq_true rfl) dX0_truth_11 ⟨Nat.zero_le _, Nat.zero_le _⟩ ?_
    refine b_if_eq (tgt := 28) hx hb dX0_truth_14 (by decide) (fun c_14 => ?_) (fun c_14 => ?_)
    · refine lv_iconst (v := (-1)) hx hb dX0_truth_28 (by decide) ?_
      exact hQ dX0_truth_29 (by unfold aTr; rw [if_neg (fun q => c_14 q.2.1)]) (by unfold nTr; rw [if_neg (fun q => c_14 q.2.1)]; exact hP) hS
    · refine lv_iload hx hb dX0_truth_17 (lv_at hl 4 rfl) ?_
      refine lv_iconst (v := nI 0) hx hb dX0_truth_19 (by decide) ?_
      refine lv_bipush (v := nI 99) hx hb dX0_truth_20 (by decide) ?_
      refine ro_callS (As := [.int v, .int (nI 0), .int (nI 99)]) (rest := []) ⟨hx, hb, hml, hown, hts⟩ (kX0_within l (v) (nI 0) (nI 99)) (va_cwS 3 hts gX0_truth_X0_within rfl rfl rfl (by decide +kernel) ⟨Nat.le_of_ble_eq_true rfl, Nat.le_of_ble_eq_true rfl⟩) vT_bl vT_at rfl hl.1 rfl (Nat.le_of_ble_eq_true rfl) dX0_truth_22 ⟨Nat.zero_le _, Nat.zero_le _⟩ ?_
      refine b_if_ne (tgt := 30) hx hb dX0_truth_25 (by decide) (fun c_25 => ?_) (fun c_25 => ?_)
      · obtain ⟨k, hk, rfl⟩ := iN_of (n := sK A) c_5 (by omega) (by omega)
        obtain ⟨f, hf, rfl⟩ := iN_of (n := sF A) c_14.1 (by omega) (by omega)
        obtain ⟨t, ht, rfl⟩ := iN_of (n := sT A) c_14.2 (by omega) (by omega)
        refine lv_iload_n hx hb dX0_truth_30 rfl (lv_at hl 1 rfl) ?_
        refine lv_iload_n hx hb dX0_truth_31 rfl (lv_at hl 2 rfl) ?_
        refine lv_iload_n hx hb dX0_truth_32 rfl (lv_at hl 3 rfl) ?_
        refine ro_callS (As := [.int (nI k), .int (nI f), .int (nI t)]) (rest := []) ⟨hx, hb, hml, hown, hts⟩ (kX0_truthPlace l (k) (f) (t)) (va_cwS 3 hts gX0_truth_X0_truthPlace rfl rfl rfl (by decide +kernel) ⟨Nat.le_of_ble_eq_true rfl, Nat.le_of_ble_eq_true rfl⟩) vT_bl vT_at rfl hl.1 rfl (Nat.le_of_ble_eq_true rfl) dX0_truth_33 ⟨Nat.zero_le _, Nat.zero_le _⟩ ?_
        refine lv_istore (lv' := [(5, .int (nI (k * 48 + (f * 8 + t)))), (0, .ref (h 0)), (1, .int (nI k)), (2, .int (nI f)), (3, .int (nI t)), (4, .int v)]) hx hb dX0_truth_36 hl (by decide) rfl (fun ls hl => ?_)
        refine lv_aload_n hx hb dX0_truth_38 rfl (lv_at hl 1 rfl) ?_
        refine va_get (D := D) (ci := 0) (v := .ref (h 3)) (C := RX0) (T := TX0) (N := 12) hx hb hts hin0 hown hK hP 0 rfl rfl 6 (by decide) (hts (.fieldLink RX0 16 "VoiceParts" "truthNumbers" "[I") (by decide +kernel)) (fun _ h9 => h9) rfl dX0_truth_39 ?_
        refine lv_iload hx hb dX0_truth_42 (lv_at hl 0 rfl) ?_
        refine n_iald hx hb hK hP 3 0 rfl rfl (by omega) (by decide) dX0_truth_44 ?_
        refine lv_istore (lv' := [(6, .int (sE A (k * 48 + (f * 8 + t)))), (5, .int (nI (k * 48 + (f * 8 + t)))), (0, .ref (h 0)), (1, .int (nI k)), (2, .int (nI f)), (3, .int (nI t)), (4, .int v)]) hx hb dX0_truth_45 hl (by decide) rfl (fun ls hl => ?_)
        refine lv_aload_n hx hb dX0_truth_47 rfl (lv_at hl 2 rfl) ?_
        refine va_get (D := D) (ci := 0) (v := .ref (h 3)) (C := RX0) (T := TX0) (N := 12) hx hb hts hin0 hown hK hP 0 rfl rfl 6 (by decide) (hts (.fieldLink RX0 16 "VoiceParts" "truthNumbers" "[I") (by decide +kernel)) (fun _ h9 => h9) rfl dX0_truth_48 ?_
        refine lv_iload hx hb dX0_truth_51 (lv_at hl 1 rfl) ?_
        refine lv_iload hx hb dX0_truth_53 (lv_at hl 6 rfl) ?_
        refine n_iast hx hb hK hP hD hS 3 0 rfl rfl (by omega) (by decide) dX0_truth_55 (fun H locs hP hD hS => ?_)
        obtain ⟨A1, eA1⟩ : ∃ z : St, z = uE A (upd (sE A) (k * 48 + (f * 8 + t)) (v)) := ⟨_, rfl⟩
        have hP : va_P D vwCl (xw h cI A1) H := by rw [eA1]; exact hP
        have hD : va_D G (xw h cI A1) := va_D.to hD rfl
        refine lv_iload hx hb dX0_truth_56 (lv_at hl 0 rfl) ?_
        exact hQ dX0_truth_58 (by unfold aTr; rw [if_pos ⟨c_5, c_14, c_25⟩, cl_nI (n := k) (by omega), cl_nI (n := f) (by omega), cl_nI (n := t) (by omega)]) (by rw [eA1] at hP; unfold nTr; rw [if_pos ⟨c_5, c_14, c_25⟩, cl_nI (n := k) (by omega), cl_nI (n := f) (by omega), cl_nI (n := t) (by omega)]; exact hP) hS
      · refine lv_iconst (v := (-1)) hx hb dX0_truth_28 (by decide) ?_
        exact hQ dX0_truth_29 (by unfold aTr; rw [if_neg (fun q => c_25 q.2.2)]) (by unfold nTr; rw [if_neg (fun q => c_25 q.2.2)]; exact hP) hS
def rmX0_begin : Room := { frames := 3, cells := 0, slots := 0, locals := 66 }
set_option maxHeartbeats 4000000 in
set_option maxRecDepth 100000 in
/-- begin -/
theorem kX0_begin (l : Launch) (D : va_G) (h : Nat → Nat) (cI : ClassId) (A : St) (hI : Inv A) (x o y v : Int32) : MU l yX0_begin wsX0_begin rmX0_begin [.ref (h 0), .int x, .int o, .int y, .int v] D [(cI, .int)] (xw h cI A) (xw h cI (nBeg A x o y v)) (some (.int (aBeg A x o y v))) := by
  refine mu_ofW (cc := cX0_begin) (maxL := 7) (by decide) rfl (Nat.le_of_ble_eq_true rfl) ?_
  intro p e s m below meth c args Q G H locs hx hb hml hown hts hP hK hD hS hQ ls hl
  have hown : s.vm.findClass RX0 = some m.cls := hown
  have hin0 : ∀ w ∈ u_ws RX0 TX0 12, w ∈ wsX0_begin := fun _ h => List.mem_cons_of_mem _ (List.mem_append_right _ h)
  have hl : lv_has ls 7 [(0, .ref (h 0)), (1, .int x), (2, .int o), (3, .int y), (4, .int v)] := hl
  have hF := hI.F
  have hT := hI.T
  have hK3 := hI.K
  have hJ := hI.J
  have hZ := hI.Z
  refine lv_aload_n hx hb dX0_begin_0 rfl (lv_at hl 0 rfl) ?_
  refine lv_iload_n hx hb dX0_begin_1 rfl (lv_at hl 1 rfl) ?_
  refine lv_iload_n hx hb dX0_begin_2 rfl (lv_at hl 2 rfl) ?_
  refine lv_iload_n hx hb dX0_begin_3 rfl (lv_at hl 3 rfl) ?_
  refine ro_callV (As := [.int x, .int o, .int y]) (rest := []) ⟨hx, hb, hml, hown, hts⟩ (kX0_isNumber l D h cI A hI (x) (o) (y)) (cwV 3 hts gX0_begin_X0_isNumber rfl rfl rfl (by decide +kernel) ⟨Nat.le_of_ble_eq_true rfl, Nat.le_of_ble_eq_true rfl⟩) vB_bl (vB_at hP hK) (va_recv hK hP (ci := 0) (q0 := 0) rfl rfl) rfl hl.1 rfl (Nat.le_of_ble_eq_true rfl) dX0_begin_4 ⟨Nat.zero_le _, Nat.zero_le _⟩ ?_
  refine b_if_eq (tgt := 21) hx hb dX0_begin_7 (by decide) (fun c_7 => ?_) (fun c_7 => ?_)
  · refine lv_iconst (v := (-1)) hx hb dX0_begin_21 (by decide) ?_
    exact hQ dX0_begin_22 (by unfold aBeg; rw [if_neg (fun q => c_7 q.1)]) (by unfold nBeg; rw [if_neg (fun q => c_7 q.1.1)]; exact hP) hS
  · refine lv_iload hx hb dX0_begin_10 (lv_at hl 4 rfl) ?_
    refine lv_iconst (v := nI 0) hx hb dX0_begin_12 (by decide) ?_
    refine lv_bipush (v := nI 20) hx hb dX0_begin_13 (by decide) ?_
    refine ro_callS (As := [.int v, .int (nI 0), .int (nI 20)]) (rest := []) ⟨hx, hb, hml, hown, hts⟩ (kX0_within l (v) (nI 0) (nI 20)) (va_cwS 3 hts gX0_begin_X0_within rfl rfl rfl (by decide +kernel) ⟨Nat.le_of_ble_eq_true rfl, Nat.le_of_ble_eq_true rfl⟩) vT_bl vT_at rfl hl.1 rfl (Nat.le_of_ble_eq_true rfl) dX0_begin_15 ⟨Nat.zero_le _, Nat.zero_le _⟩ ?_
    refine b_if_ne (tgt := 23) hx hb dX0_begin_18 (by decide) (fun c_18 => ?_) (fun c_18 => ?_)
    · obtain ⟨k, hk, rfl⟩ := iN_of (n := sK A) c_7.1 (by omega) (by omega)
      obtain ⟨p0, ho, rfl⟩ := iN_of (n := 2) c_7.2.1 (by decide) (by decide)
      obtain ⟨i, hi, rfl⟩ := iN_of c_7.2.2 (by split <;> omega) (by split <;> omega)
      have hi8 : i < 2 ^ 31 := by split at hi <;> omega
      have hq := qi_lt hI ho hi
      refine lv_iload_n hx hb dX0_begin_23 rfl (lv_at hl 1 rfl) ?_
      refine lv_iload_n hx hb dX0_begin_24 rfl (lv_at hl 2 rfl) ?_
      refine lv_iload_n hx hb dX0_begin_25 rfl (lv_at hl 3 rfl) ?_
      refine ro_callS (As := [.int (nI k), .int (nI p0), .int (nI i)]) (rest := []) ⟨hx, hb, hml, hown, hts⟩ (kX0_place l (k) (p0) (i) (by omega)) (va_cwS 3 hts gX0_begin_X0_place rfl rfl rfl (by decide +kernel) ⟨Nat.le_of_ble_eq_true rfl, Nat.le_of_ble_eq_true rfl⟩) vT_bl vT_at rfl hl.1 rfl (Nat.le_of_ble_eq_true rfl) dX0_begin_26 ⟨Nat.zero_le _, Nat.zero_le _⟩ ?_
      refine lv_istore (lv' := [(5, .int (nI (k * 14 + qi p0 i))), (0, .ref (h 0)), (1, .int (nI k)), (2, .int (nI p0)), (3, .int (nI i)), (4, .int v)]) hx hb dX0_begin_29 hl (by decide) rfl (fun ls hl => ?_)
      refine lv_aload_n hx hb dX0_begin_31 rfl (lv_at hl 1 rfl) ?_
      refine lv_iload hx hb dX0_begin_32 (lv_at hl 0 rfl) ?_
      refine ro_callV (As := [.int (nI (k * 14 + qi p0 i))]) (rest := []) ⟨hx, hb, hml, hown, hts⟩ (kX0_isBarred l D h cI A (k) (qi p0 i) (by omega) (hq)) (cwV 1 hts gX0_begin_X0_isBarred rfl rfl rfl (by decide +kernel) ⟨Nat.le_of_ble_eq_true rfl, Nat.le_of_ble_eq_true rfl⟩) vB_bl (vB_at hP hK) (va_recv hK hP (ci := 0) (q0 := 0) rfl rfl) rfl hl.1 rfl (Nat.le_of_ble_eq_true rfl) dX0_begin_34 ⟨Nat.zero_le _, Nat.zero_le _⟩ ?_
      refine b_if_eq (tgt := 43) hx hb dX0_begin_37 (by decide) (fun c_37 => ?_) (fun c_37 => ?_)
      · refine lv_aload_n hx hb dX0_begin_43 rfl (lv_at hl 1 rfl) ?_
        refine va_get (D := D) (ci := 0) (v := .ref (h 2)) (C := RX0) (T := TX0) (N := 12) hx hb hts hin0 hown hK hP 0 rfl rfl 4 (by decide) (hts (.fieldLink RX0 13 "VoiceParts" "voiceNumbers" "[I") (by decide +kernel)) (fun _ h9 => h9) rfl dX0_begin_44 ?_
        refine lv_iload hx hb dX0_begin_47 (lv_at hl 0 rfl) ?_
        refine n_iald hx hb hK hP 2 0 rfl rfl (by omega) (by decide) dX0_begin_49 ?_
        refine n_top (y := sV A k (qi p0 i)) (xVat (f := sV A) hq rfl) ?_
        refine lv_istore (lv' := [(6, .int (sV A k (qi p0 i))), (5, .int (nI (k * 14 + qi p0 i))), (0, .ref (h 0)), (1, .int (nI k)), (2, .int (nI p0)), (3, .int (nI i)), (4, .int v)]) hx hb dX0_begin_50 hl (by decide) rfl (fun ls hl => ?_)
        refine lv_aload_n hx hb dX0_begin_52 rfl (lv_at hl 2 rfl) ?_
        refine va_get (D := D) (ci := 0) (v := .ref (h 2)) (C := RX0) (T := TX0) (N := 12) hx hb hts hin0 hown hK hP 0 rfl rfl 4 (by decide) (hts (.fieldLink RX0 13 "VoiceParts" "voiceNumbers" "[I") (by decide +kernel)) (fun _ h9 => h9) rfl dX0_begin_53 ?_
        refine lv_iload hx hb dX0_begin_56 (lv_at hl 1 rfl) ?_
        refine lv_iload hx hb dX0_begin_58 (lv_at hl 6 rfl) ?_
        refine n_iast hx hb hK hP hD hS 2 0 rfl rfl (by omega) (by decide) dX0_begin_60 (fun H locs hP hD hS => ?_)
        obtain ⟨A1, eA1⟩ : ∃ z : St, z = uV A (upV (sV A) k (qi p0 i) (v)) := ⟨_, rfl⟩
        have hP : va_P D vwCl (xw h cI A1) H := by rw [eA1]; have z := hP; rw [xVup (k := k) (i := qi p0 i) (hq)] at z; exact z
        have hD : va_D G (xw h cI A1) := va_D.to hD rfl
        refine lv_iload hx hb dX0_begin_61 (lv_at hl 0 rfl) ?_
        exact hQ dX0_begin_63 (by unfold aBeg; rw [if_pos ⟨c_7, c_18⟩, cl_nI (n := k) (by omega), cl_nI (n := p0) (by omega), cl_nI (n := i) hi8, if_neg c_37]) (by rw [eA1] at hP; unfold nBeg; rw [cl_nI (n := k) (by omega), cl_nI (n := p0) (by omega), cl_nI (n := i) hi8, if_pos ⟨⟨c_7, c_18⟩, c_37⟩]; exact hP) hS
      · refine lv_bipush (v := (-2)) hx hb dX0_begin_40 (by decide) ?_
        exact hQ dX0_begin_42 (by unfold aBeg; rw [if_pos ⟨c_7, c_18⟩, cl_nI (n := k) (by omega), cl_nI (n := p0) (by omega), cl_nI (n := i) hi8, if_pos c_37]) (by unfold nBeg; rw [cl_nI (n := k) (by omega), cl_nI (n := p0) (by omega), cl_nI (n := i) hi8, if_neg (fun q => q.2 c_37)]; exact hP) hS
    · refine lv_iconst (v := (-1)) hx hb dX0_begin_21 (by decide) ?_
      exact hQ dX0_begin_22 (by unfold aBeg; rw [if_neg (fun q => c_18 q.2)]) (by unfold nBeg; rw [if_neg (fun q => c_18 q.1.2)]; exact hP) hS
def rmX0_bar : Room := { frames := 3, cells := 0, slots := 0, locals := 66 }
set_option maxHeartbeats 4000000 in
set_option maxRecDepth 100000 in
/-- bar -/
theorem kX0_bar (l : Launch) (D : va_G) (h : Nat → Nat) (cI : ClassId) (A : St) (hI : Inv A) (x o y : Int32) : MU l yX0_bar wsX0_bar rmX0_bar [.ref (h 0), .int x, .int o, .int y] D [(cI, .int)] (xw h cI A) (xw h cI (nBar A x o y)) (some (.int (aBar A x o y))) := by
  refine mu_ofW (cc := cX0_bar) (maxL := 6) (by decide) rfl (Nat.le_of_ble_eq_true rfl) ?_
  intro p e s m below meth c args Q G H locs hx hb hml hown hts hP hK hD hS hQ ls hl
  have hown : s.vm.findClass RX0 = some m.cls := hown
  have hin0 : ∀ w ∈ u_ws RX0 TX0 12, w ∈ wsX0_bar := fun _ h => List.mem_cons_of_mem _ (List.mem_append_right _ h)
  have hl : lv_has ls 6 [(0, .ref (h 0)), (1, .int x), (2, .int o), (3, .int y)] := hl
  have hF := hI.F
  have hT := hI.T
  have hK3 := hI.K
  have hJ := hI.J
  have hZ := hI.Z
  refine lv_aload_n hx hb dX0_bar_0 rfl (lv_at hl 0 rfl) ?_
  refine lv_iload_n hx hb dX0_bar_1 rfl (lv_at hl 1 rfl) ?_
  refine lv_iload_n hx hb dX0_bar_2 rfl (lv_at hl 2 rfl) ?_
  refine lv_iload_n hx hb dX0_bar_3 rfl (lv_at hl 3 rfl) ?_
  refine ro_callV (As := [.int x, .int o, .int y]) (rest := []) ⟨hx, hb, hml, hown, hts⟩ (kX0_isNumber l D h cI A hI (x) (o) (y)) (cwV 3 hts gX0_bar_X0_isNumber rfl rfl rfl (by decide +kernel) ⟨Nat.le_of_ble_eq_true rfl, Nat.le_of_ble_eq_true rfl⟩) vB_bl (vB_at hP hK) (va_recv hK hP (ci := 0) (q0 := 0) rfl rfl) rfl hl.1 rfl (Nat.le_of_ble_eq_true rfl) dX0_bar_4 ⟨Nat.zero_le _, Nat.zero_le _⟩ ?_
  refine b_if_ne (tgt := 12) hx hb dX0_bar_7 (by decide) (fun c_7 => ?_) (fun c_7 => ?_)
  · obtain ⟨k, hk, rfl⟩ := iN_of (n := sK A) c_7.1 (by omega) (by omega)
    obtain ⟨p0, ho, rfl⟩ := iN_of (n := 2) c_7.2.1 (by decide) (by decide)
    obtain ⟨i, hi, rfl⟩ := iN_of c_7.2.2 (by split <;> omega) (by split <;> omega)
    have hi8 : i < 2 ^ 31 := by split at hi <;> omega
    have hq := qi_lt hI ho hi
    refine lv_iload_n hx hb dX0_bar_12 rfl (lv_at hl 1 rfl) ?_
    refine lv_iload_n hx hb dX0_bar_13 rfl (lv_at hl 2 rfl) ?_
    refine lv_iload_n hx hb dX0_bar_14 rfl (lv_at hl 3 rfl) ?_
    refine ro_callS (As := [.int (nI k), .int (nI p0), .int (nI i)]) (rest := []) ⟨hx, hb, hml, hown, hts⟩ (kX0_place l (k) (p0) (i) (by omega)) (va_cwS 3 hts gX0_bar_X0_place rfl rfl rfl (by decide +kernel) ⟨Nat.le_of_ble_eq_true rfl, Nat.le_of_ble_eq_true rfl⟩) vT_bl vT_at rfl hl.1 rfl (Nat.le_of_ble_eq_true rfl) dX0_bar_15 ⟨Nat.zero_le _, Nat.zero_le _⟩ ?_
    refine lv_istore (lv' := [(4, .int (nI (k * 14 + qi p0 i))), (0, .ref (h 0)), (1, .int (nI k)), (2, .int (nI p0)), (3, .int (nI i))]) hx hb dX0_bar_18 hl (by decide) rfl (fun ls hl => ?_)
    refine lv_aload_n hx hb dX0_bar_20 rfl (lv_at hl 1 rfl) ?_
    refine lv_iload hx hb dX0_bar_21 (lv_at hl 0 rfl) ?_
    refine ro_callV (As := [.int (nI (k * 14 + qi p0 i))]) (rest := []) ⟨hx, hb, hml, hown, hts⟩ (kX0_isBarred l D h cI A (k) (qi p0 i) (by omega) (hq)) (cwV 1 hts gX0_bar_X0_isBarred rfl rfl rfl (by decide +kernel) ⟨Nat.le_of_ble_eq_true rfl, Nat.le_of_ble_eq_true rfl⟩) vB_bl (vB_at hP hK) (va_recv hK hP (ci := 0) (q0 := 0) rfl rfl) rfl hl.1 rfl (Nat.le_of_ble_eq_true rfl) dX0_bar_23 ⟨Nat.zero_le _, Nat.zero_le _⟩ ?_
    refine b_if_eq (tgt := 32) hx hb dX0_bar_26 (by decide) (fun c_26 => ?_) (fun c_26 => ?_)
    · refine lv_aload_n hx hb dX0_bar_32 rfl (lv_at hl 1 rfl) ?_
      refine va_get (D := D) (ci := 0) (v := .ref (h 2)) (C := RX0) (T := TX0) (N := 12) hx hb hts hin0 hown hK hP 0 rfl rfl 4 (by decide) (hts (.fieldLink RX0 13 "VoiceParts" "voiceNumbers" "[I") (by decide +kernel)) (fun _ h9 => h9) rfl dX0_bar_33 ?_
      refine lv_iload hx hb dX0_bar_36 (lv_at hl 0 rfl) ?_
      refine n_iald hx hb hK hP 2 0 rfl rfl (by omega) (by decide) dX0_bar_38 ?_
      refine n_top (y := sV A k (qi p0 i)) (xVat (f := sV A) hq rfl) ?_
      refine lv_istore (lv' := [(5, .int (sV A k (qi p0 i))), (4, .int (nI (k * 14 + qi p0 i))), (0, .ref (h 0)), (1, .int (nI k)), (2, .int (nI p0)), (3, .int (nI i))]) hx hb dX0_bar_39 hl (by decide) rfl (fun ls hl => ?_)
      refine lv_aload_n hx hb dX0_bar_41 rfl (lv_at hl 2 rfl) ?_
      refine va_get (D := D) (ci := 0) (v := .ref (h 2)) (C := RX0) (T := TX0) (N := 12) hx hb hts hin0 hown hK hP 0 rfl rfl 4 (by decide) (hts (.fieldLink RX0 13 "VoiceParts" "voiceNumbers" "[I") (by decide +kernel)) (fun _ h9 => h9) rfl dX0_bar_42 ?_
      refine lv_iload hx hb dX0_bar_45 (lv_at hl 1 rfl) ?_
      refine lv_iconst (v := nI 0) hx hb dX0_bar_47 (by decide) ?_
      refine n_iast hx hb hK hP hD hS 2 0 rfl rfl (by omega) (by decide) dX0_bar_48 (fun H locs hP hD hS => ?_)
      obtain ⟨A1, eA1⟩ : ∃ z : St, z = uV A (upV (sV A) k (qi p0 i) (nI 0)) := ⟨_, rfl⟩
      have hP : va_P D vwCl (xw h cI A1) H := by rw [eA1]; have z := hP; rw [xVup (k := k) (i := qi p0 i) (hq)] at z; exact z
      have hD : va_D G (xw h cI A1) := va_D.to hD rfl
      refine lv_aload_n hx hb dX0_bar_49 rfl (lv_at hl 2 rfl) ?_
      refine lv_dup hx hb dX0_bar_50 rfl ?_
      refine va_get (D := D) (ci := 0) (v := .long (bbOf (sX A1))) (C := RX0) (T := TX0) (N := 12) hx hb hts hin0 hown hK hP 0 rfl rfl 5 (by decide) (hts (.fieldLink RX0 69 "VoiceParts" "barred" "J") (by decide +kernel)) (fun _ h9 => h9) rfl dX0_bar_51 ?_
      refine lv_lconst (v := (1)) hx hb dX0_bar_54 (by decide) ?_
      refine lv_iload hx hb dX0_bar_55 (lv_at hl 1 rfl) ?_
      refine lv_lshl hx hb dX0_bar_57 rfl ?_
      refine lv_lor hx hb dX0_bar_58 ?_
      refine n_topl (y := bbOf (upX (sX A1) k (qi p0 i))) (bb_or (by omega) hq) ?_
      refine va_put (D := D) (ci := 0) (v := .long (bbOf (upX (sX A1) k (qi p0 i)))) (ty := .long) (C := RX0) (T := TX0) (N := 12) hx hb hts hin0 tyX0 tyX0_ok nmX0 hown hK hP hD hS 0 rfl rfl 5 (by decide) (hts (.fieldLink RX0 69 "VoiceParts" "barred" "J") (by decide +kernel)) (fun _ h9 => h9) rfl (by decide +kernel) rfl rfl (Nat.le_of_ble_eq_true rfl) dX0_bar_59 (fun H locs hP hD hS => ?_)
      obtain ⟨A2, eA2⟩ : ∃ z : St, z = uX A1 ((upX (sX A1) k (qi p0 i))) := ⟨_, rfl⟩
      have hP : va_P D vwCl (xw h cI A2) H := by rw [eA2]; exact hP
      have hD : va_D G (xw h cI A2) := va_D.to hD rfl
      refine lv_iload hx hb dX0_bar_62 (lv_at hl 0 rfl) ?_
      exact hQ dX0_bar_64 (by unfold aBar; rw [if_pos c_7, cl_nI (n := k) (by omega), cl_nI (n := p0) (by omega), cl_nI (n := i) hi8, if_neg c_26]) (by rw [eA2, eA1] at hP; unfold nBar; rw [cl_nI (n := k) (by omega), cl_nI (n := p0) (by omega), cl_nI (n := i) hi8, if_pos ⟨c_7, c_26⟩]; exact hP) hS
    · refine lv_bipush (v := (-2)) hx hb dX0_bar_29 (by decide) ?_
      exact hQ dX0_bar_31 (by unfold aBar; rw [if_pos c_7, cl_nI (n := k) (by omega), cl_nI (n := p0) (by omega), cl_nI (n := i) hi8, if_pos c_26]) (by unfold nBar; rw [cl_nI (n := k) (by omega), cl_nI (n := p0) (by omega), cl_nI (n := i) hi8, if_neg (fun q => q.2 c_26)]; exact hP) hS
  · refine lv_iconst (v := (-1)) hx hb dX0_bar_10 (by decide) ?_
    exact hQ dX0_bar_11 (by unfold aBar; rw [if_neg c_7]) (by unfold nBar; rw [if_neg (fun q => c_7 q.1)]; exact hP) hS
